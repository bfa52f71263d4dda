theorem dX0_init_0 : decode cX0_init 0 = .ok (.aload_n 0, 1) := by decide +kernel
theorem dX0_init_1 : decode cX0_init 1 = .ok (.invokespecial 3, 3) := by decide +kernel
theorem dX0_init_4 : decode cX0_init 4 = .ok (.return_, 1) := by decide +kernel
theorem dX0_survey_0 : decode cX0_survey 0 = .ok (.aload_n 0, 1) := by decide +kernel
theorem dX0_survey_1 : decode cX0_survey 1 = .ok (.iconst 0, 1) := by decide +kernel
theorem dX0_survey_2 : decode cX0_survey 2 = .ok (.putfield 9, 3) := by decide +kernel
theorem dX0_survey_5 : decode cX0_survey 5 = .ok (.aload_n 0, 1) := by decide +kernel
theorem dX0_survey_6 : decode cX0_survey 6 = .ok (.iconst 0, 1) := by decide +kernel
theorem dX0_survey_7 : decode cX0_survey 7 = .ok (.putfield 15, 3) := by decide +kernel
theorem dX0_survey_10 : decode cX0_survey 10 = .ok (.aload_n 0, 1) := by decide +kernel
theorem dX0_survey_11 : decode cX0_survey 11 = .ok (.ldc2_w 18, 3) := by decide +kernel
theorem dX0_survey_14 : decode cX0_survey 14 = .ok (.putfield 20, 3) := by decide +kernel
theorem dX0_survey_17 : decode cX0_survey 17 = .ok (.aload_n 0, 1) := by decide +kernel
theorem dX0_survey_18 : decode cX0_survey 18 = .ok (.ldc2_w 18, 3) := by decide +kernel
theorem dX0_survey_21 : decode cX0_survey 21 = .ok (.putfield 24, 3) := by decide +kernel
theorem dX0_survey_24 : decode cX0_survey 24 = .ok (.aload_n 0, 1) := by decide +kernel
theorem dX0_survey_25 : decode cX0_survey 25 = .ok (.ldc2_w 18, 3) := by decide +kernel
theorem dX0_survey_28 : decode cX0_survey 28 = .ok (.putfield 27, 3) := by decide +kernel
theorem dX0_survey_31 : decode cX0_survey 31 = .ok (.aload_n 0, 1) := by decide +kernel
theorem dX0_survey_32 : decode cX0_survey 32 = .ok (.iload_n 2, 1) := by decide +kernel
theorem dX0_survey_33 : decode cX0_survey 33 = .ok (.putfield 30, 3) := by decide +kernel
theorem dX0_survey_36 : decode cX0_survey 36 = .ok (.aload_n 1, 1) := by decide +kernel
theorem dX0_survey_37 : decode cX0_survey 37 = .ok (.getfield 34, 3) := by decide +kernel
theorem dX0_survey_40 : decode cX0_survey 40 = .ok (.astore_n 3, 1) := by decide +kernel
theorem dX0_survey_41 : decode cX0_survey 41 = .ok (.aload_n 3, 1) := by decide +kernel
theorem dX0_survey_42 : decode cX0_survey 42 = .ok (.getfield 40, 3) := by decide +kernel
theorem dX0_survey_45 : decode cX0_survey 45 = .ok (.aload_n 3, 1) := by decide +kernel
theorem dX0_survey_46 : decode cX0_survey 46 = .ok (.getfield 40, 3) := by decide +kernel
theorem dX0_survey_49 : decode cX0_survey 49 = .ok (.imul, 1) := by decide +kernel
theorem dX0_survey_50 : decode cX0_survey 50 = .ok (.istore 4, 2) := by decide +kernel
theorem dX0_survey_52 : decode cX0_survey 52 = .ok (.iconst 0, 1) := by decide +kernel
theorem dX0_survey_53 : decode cX0_survey 53 = .ok (.istore 5, 2) := by decide +kernel
theorem dX0_survey_55 : decode cX0_survey 55 = .ok (.iload 5, 2) := by decide +kernel
theorem dX0_survey_57 : decode cX0_survey 57 = .ok (.iload 4, 2) := by decide +kernel
theorem dX0_survey_59 : decode cX0_survey 59 = .ok (.if_icmp .ge 129, 3) := by decide +kernel
theorem dX0_survey_62 : decode cX0_survey 62 = .ok (.iload 5, 2) := by decide +kernel
theorem dX0_survey_64 : decode cX0_survey 64 = .ok (.aload_n 3, 1) := by decide +kernel
theorem dX0_survey_65 : decode cX0_survey 65 = .ok (.getfield 40, 3) := by decide +kernel
theorem dX0_survey_68 : decode cX0_survey 68 = .ok (.idiv, 1) := by decide +kernel
theorem dX0_survey_69 : decode cX0_survey 69 = .ok (.istore 6, 2) := by decide +kernel
theorem dX0_survey_71 : decode cX0_survey 71 = .ok (.iload 5, 2) := by decide +kernel
theorem dX0_survey_73 : decode cX0_survey 73 = .ok (.aload_n 3, 1) := by decide +kernel
theorem dX0_survey_74 : decode cX0_survey 74 = .ok (.getfield 40, 3) := by decide +kernel
theorem dX0_survey_77 : decode cX0_survey 77 = .ok (.irem, 1) := by decide +kernel
theorem dX0_survey_78 : decode cX0_survey 78 = .ok (.istore 7, 2) := by decide +kernel
theorem dX0_survey_80 : decode cX0_survey 80 = .ok (.iconst 1, 1) := by decide +kernel
theorem dX0_survey_81 : decode cX0_survey 81 = .ok (.istore 8, 2) := by decide +kernel
theorem dX0_survey_83 : decode cX0_survey 83 = .ok (.iload 8, 2) := by decide +kernel
theorem dX0_survey_85 : decode cX0_survey 85 = .ok (.aload_n 3, 1) := by decide +kernel
theorem dX0_survey_86 : decode cX0_survey 86 = .ok (.getfield 45, 3) := by decide +kernel
theorem dX0_survey_89 : decode cX0_survey 89 = .ok (.iload 6, 2) := by decide +kernel
theorem dX0_survey_91 : decode cX0_survey 91 = .ok (.iaload, 1) := by decide +kernel
theorem dX0_survey_92 : decode cX0_survey 92 = .ok (.if_icmp .ge 90, 3) := by decide +kernel
theorem dX0_survey_95 : decode cX0_survey 95 = .ok (.iload 8, 2) := by decide +kernel
theorem dX0_survey_97 : decode cX0_survey 97 = .ok (.aload_n 3, 1) := by decide +kernel
theorem dX0_survey_98 : decode cX0_survey 98 = .ok (.getfield 45, 3) := by decide +kernel
theorem dX0_survey_101 : decode cX0_survey 101 = .ok (.iload 7, 2) := by decide +kernel
theorem dX0_survey_103 : decode cX0_survey 103 = .ok (.iaload, 1) := by decide +kernel
theorem dX0_survey_104 : decode cX0_survey 104 = .ok (.if_icmp .ge 78, 3) := by decide +kernel
theorem dX0_survey_107 : decode cX0_survey 107 = .ok (.aload_n 3, 1) := by decide +kernel
theorem dX0_survey_108 : decode cX0_survey 108 = .ok (.iload 6, 2) := by decide +kernel
theorem dX0_survey_110 : decode cX0_survey 110 = .ok (.iload 7, 2) := by decide +kernel
theorem dX0_survey_112 : decode cX0_survey 112 = .ok (.iload 8, 2) := by decide +kernel
theorem dX0_survey_114 : decode cX0_survey 114 = .ok (.invokestatic 49, 3) := by decide +kernel
theorem dX0_survey_117 : decode cX0_survey 117 = .ok (.ifCond .eq 59, 3) := by decide +kernel
theorem dX0_survey_120 : decode cX0_survey 120 = .ok (.aload_n 3, 1) := by decide +kernel
theorem dX0_survey_121 : decode cX0_survey 121 = .ok (.getfield 53, 3) := by decide +kernel
theorem dX0_survey_124 : decode cX0_survey 124 = .ok (.iload 6, 2) := by decide +kernel
theorem dX0_survey_126 : decode cX0_survey 126 = .ok (.laload, 1) := by decide +kernel
theorem dX0_survey_127 : decode cX0_survey 127 = .ok (.aload_n 3, 1) := by decide +kernel
theorem dX0_survey_128 : decode cX0_survey 128 = .ok (.getfield 53, 3) := by decide +kernel
theorem dX0_survey_131 : decode cX0_survey 131 = .ok (.iload 7, 2) := by decide +kernel
theorem dX0_survey_133 : decode cX0_survey 133 = .ok (.laload, 1) := by decide +kernel
theorem dX0_survey_134 : decode cX0_survey 134 = .ok (.aload_n 3, 1) := by decide +kernel
theorem dX0_survey_135 : decode cX0_survey 135 = .ok (.getfield 45, 3) := by decide +kernel
theorem dX0_survey_138 : decode cX0_survey 138 = .ok (.iload 7, 2) := by decide +kernel
theorem dX0_survey_140 : decode cX0_survey 140 = .ok (.iaload, 1) := by decide +kernel
theorem dX0_survey_141 : decode cX0_survey 141 = .ok (.iload 8, 2) := by decide +kernel
theorem dX0_survey_143 : decode cX0_survey 143 = .ok (.aload_n 3, 1) := by decide +kernel
theorem dX0_survey_144 : decode cX0_survey 144 = .ok (.getfield 45, 3) := by decide +kernel
theorem dX0_survey_147 : decode cX0_survey 147 = .ok (.iload 7, 2) := by decide +kernel
theorem dX0_survey_149 : decode cX0_survey 149 = .ok (.iaload, 1) := by decide +kernel
theorem dX0_survey_150 : decode cX0_survey 150 = .ok (.invokestatic 57, 3) := by decide +kernel
theorem dX0_survey_153 : decode cX0_survey 153 = .ok (.lstore 9, 2) := by decide +kernel
theorem dX0_survey_155 : decode cX0_survey 155 = .ok (.aload_n 0, 1) := by decide +kernel
theorem dX0_survey_156 : decode cX0_survey 156 = .ok (.aload_n 1, 1) := by decide +kernel
theorem dX0_survey_157 : decode cX0_survey 157 = .ok (.lload 9, 2) := by decide +kernel
theorem dX0_survey_159 : decode cX0_survey 159 = .ok (.iload 6, 2) := by decide +kernel
theorem dX0_survey_161 : decode cX0_survey 161 = .ok (.iload 7, 2) := by decide +kernel
theorem dX0_survey_163 : decode cX0_survey 163 = .ok (.aload_n 3, 1) := by decide +kernel
theorem dX0_survey_164 : decode cX0_survey 164 = .ok (.getfield 45, 3) := by decide +kernel
theorem dX0_survey_167 : decode cX0_survey 167 = .ok (.iload 6, 2) := by decide +kernel
theorem dX0_survey_169 : decode cX0_survey 169 = .ok (.iaload, 1) := by decide +kernel
theorem dX0_survey_170 : decode cX0_survey 170 = .ok (.iload 8, 2) := by decide +kernel
theorem dX0_survey_172 : decode cX0_survey 172 = .ok (.isub, 1) := by decide +kernel
theorem dX0_survey_173 : decode cX0_survey 173 = .ok (.invokevirtual 61, 3) := by decide +kernel
theorem dX0_survey_176 : decode cX0_survey 176 = .ok (.iinc 8 1, 3) := by decide +kernel
theorem dX0_survey_179 : decode cX0_survey 179 = .ok (.goto (-96), 3) := by decide +kernel
theorem dX0_survey_182 : decode cX0_survey 182 = .ok (.iinc 5 1, 3) := by decide +kernel
theorem dX0_survey_185 : decode cX0_survey 185 = .ok (.goto (-130), 3) := by decide +kernel
theorem dX0_survey_188 : decode cX0_survey 188 = .ok (.iconst 0, 1) := by decide +kernel
theorem dX0_survey_189 : decode cX0_survey 189 = .ok (.istore 5, 2) := by decide +kernel
theorem dX0_survey_191 : decode cX0_survey 191 = .ok (.iload 5, 2) := by decide +kernel
theorem dX0_survey_193 : decode cX0_survey 193 = .ok (.iload 4, 2) := by decide +kernel
theorem dX0_survey_195 : decode cX0_survey 195 = .ok (.if_icmp .ge 109, 3) := by decide +kernel
theorem dX0_survey_198 : decode cX0_survey 198 = .ok (.iload 5, 2) := by decide +kernel
theorem dX0_survey_200 : decode cX0_survey 200 = .ok (.aload_n 3, 1) := by decide +kernel
theorem dX0_survey_201 : decode cX0_survey 201 = .ok (.getfield 40, 3) := by decide +kernel
theorem dX0_survey_204 : decode cX0_survey 204 = .ok (.idiv, 1) := by decide +kernel
theorem dX0_survey_205 : decode cX0_survey 205 = .ok (.istore 6, 2) := by decide +kernel
theorem dX0_survey_207 : decode cX0_survey 207 = .ok (.iload 5, 2) := by decide +kernel
theorem dX0_survey_209 : decode cX0_survey 209 = .ok (.aload_n 3, 1) := by decide +kernel
theorem dX0_survey_210 : decode cX0_survey 210 = .ok (.getfield 40, 3) := by decide +kernel
theorem dX0_survey_213 : decode cX0_survey 213 = .ok (.irem, 1) := by decide +kernel
theorem dX0_survey_214 : decode cX0_survey 214 = .ok (.istore 7, 2) := by decide +kernel
theorem dX0_survey_216 : decode cX0_survey 216 = .ok (.iconst 0, 1) := by decide +kernel
theorem dX0_survey_217 : decode cX0_survey 217 = .ok (.istore 8, 2) := by decide +kernel
theorem dX0_survey_219 : decode cX0_survey 219 = .ok (.iload 6, 2) := by decide +kernel
theorem dX0_survey_221 : decode cX0_survey 221 = .ok (.iload 7, 2) := by decide +kernel
theorem dX0_survey_223 : decode cX0_survey 223 = .ok (.if_icmp .eq 75, 3) := by decide +kernel
theorem dX0_survey_226 : decode cX0_survey 226 = .ok (.iload 8, 2) := by decide +kernel
theorem dX0_survey_228 : decode cX0_survey 228 = .ok (.aload_n 3, 1) := by decide +kernel
theorem dX0_survey_229 : decode cX0_survey 229 = .ok (.getfield 45, 3) := by decide +kernel
theorem dX0_survey_232 : decode cX0_survey 232 = .ok (.iload 6, 2) := by decide +kernel
theorem dX0_survey_234 : decode cX0_survey 234 = .ok (.iaload, 1) := by decide +kernel
theorem dX0_survey_235 : decode cX0_survey 235 = .ok (.if_icmp .ge 63, 3) := by decide +kernel
theorem dX0_survey_238 : decode cX0_survey 238 = .ok (.aload_n 3, 1) := by decide +kernel
theorem dX0_survey_239 : decode cX0_survey 239 = .ok (.getfield 53, 3) := by decide +kernel
theorem dX0_survey_242 : decode cX0_survey 242 = .ok (.iload 6, 2) := by decide +kernel
theorem dX0_survey_244 : decode cX0_survey 244 = .ok (.laload, 1) := by decide +kernel
theorem dX0_survey_245 : decode cX0_survey 245 = .ok (.aload_n 3, 1) := by decide +kernel
theorem dX0_survey_246 : decode cX0_survey 246 = .ok (.getfield 45, 3) := by decide +kernel
theorem dX0_survey_249 : decode cX0_survey 249 = .ok (.iload 6, 2) := by decide +kernel
theorem dX0_survey_251 : decode cX0_survey 251 = .ok (.iaload, 1) := by decide +kernel
theorem dX0_survey_252 : decode cX0_survey 252 = .ok (.iload 8, 2) := by decide +kernel
theorem dX0_survey_254 : decode cX0_survey 254 = .ok (.aload_n 3, 1) := by decide +kernel
theorem dX0_survey_255 : decode cX0_survey 255 = .ok (.getfield 53, 3) := by decide +kernel
theorem dX0_survey_258 : decode cX0_survey 258 = .ok (.iload 7, 2) := by decide +kernel
theorem dX0_survey_260 : decode cX0_survey 260 = .ok (.laload, 1) := by decide +kernel
theorem dX0_survey_261 : decode cX0_survey 261 = .ok (.aload_n 3, 1) := by decide +kernel
theorem dX0_survey_262 : decode cX0_survey 262 = .ok (.getfield 45, 3) := by decide +kernel
theorem dX0_survey_265 : decode cX0_survey 265 = .ok (.iload 7, 2) := by decide +kernel
theorem dX0_survey_267 : decode cX0_survey 267 = .ok (.iaload, 1) := by decide +kernel
theorem dX0_survey_268 : decode cX0_survey 268 = .ok (.invokestatic 65, 3) := by decide +kernel
theorem dX0_survey_271 : decode cX0_survey 271 = .ok (.ifCond .eq 21, 3) := by decide +kernel
theorem dX0_survey_274 : decode cX0_survey 274 = .ok (.aload_n 0, 1) := by decide +kernel
theorem dX0_survey_275 : decode cX0_survey 275 = .ok (.aload_n 1, 1) := by decide +kernel
theorem dX0_survey_276 : decode cX0_survey 276 = .ok (.aload_n 3, 1) := by decide +kernel
theorem dX0_survey_277 : decode cX0_survey 277 = .ok (.getfield 53, 3) := by decide +kernel
theorem dX0_survey_280 : decode cX0_survey 280 = .ok (.iload 6, 2) := by decide +kernel
theorem dX0_survey_282 : decode cX0_survey 282 = .ok (.laload, 1) := by decide +kernel
theorem dX0_survey_283 : decode cX0_survey 283 = .ok (.iload 6, 2) := by decide +kernel
theorem dX0_survey_285 : decode cX0_survey 285 = .ok (.iload 7, 2) := by decide +kernel
theorem dX0_survey_287 : decode cX0_survey 287 = .ok (.iload 8, 2) := by decide +kernel
theorem dX0_survey_289 : decode cX0_survey 289 = .ok (.invokevirtual 61, 3) := by decide +kernel
theorem dX0_survey_292 : decode cX0_survey 292 = .ok (.iinc 8 1, 3) := by decide +kernel
theorem dX0_survey_295 : decode cX0_survey 295 = .ok (.goto (-76), 3) := by decide +kernel
theorem dX0_survey_298 : decode cX0_survey 298 = .ok (.iinc 5 1, 3) := by decide +kernel
theorem dX0_survey_301 : decode cX0_survey 301 = .ok (.goto (-110), 3) := by decide +kernel
theorem dX0_survey_304 : decode cX0_survey 304 = .ok (.return_, 1) := by decide +kernel
theorem dX0_endBegins_0 : decode cX0_endBegins 0 = .ok (.aload_n 0, 1) := by decide +kernel
theorem dX0_endBegins_1 : decode cX0_endBegins 1 = .ok (.getfield 53, 3) := by decide +kernel
theorem dX0_endBegins_4 : decode cX0_endBegins 4 = .ok (.iload_n 2, 1) := by decide +kernel
theorem dX0_endBegins_5 : decode cX0_endBegins 5 = .ok (.laload, 1) := by decide +kernel
theorem dX0_endBegins_6 : decode cX0_endBegins 6 = .ok (.iconst 3, 1) := by decide +kernel
theorem dX0_endBegins_7 : decode cX0_endBegins 7 = .ok (.aload_n 0, 1) := by decide +kernel
theorem dX0_endBegins_8 : decode cX0_endBegins 8 = .ok (.getfield 45, 3) := by decide +kernel
theorem dX0_endBegins_11 : decode cX0_endBegins 11 = .ok (.iload_n 2, 1) := by decide +kernel
theorem dX0_endBegins_12 : decode cX0_endBegins 12 = .ok (.iaload, 1) := by decide +kernel
theorem dX0_endBegins_13 : decode cX0_endBegins 13 = .ok (.iload_n 3, 1) := by decide +kernel
theorem dX0_endBegins_14 : decode cX0_endBegins 14 = .ok (.isub, 1) := by decide +kernel
theorem dX0_endBegins_15 : decode cX0_endBegins 15 = .ok (.imul, 1) := by decide +kernel
theorem dX0_endBegins_16 : decode cX0_endBegins 16 = .ok (.lushr, 1) := by decide +kernel
theorem dX0_endBegins_17 : decode cX0_endBegins 17 = .ok (.lstore 4, 2) := by decide +kernel
theorem dX0_endBegins_19 : decode cX0_endBegins 19 = .ok (.aload_n 0, 1) := by decide +kernel
theorem dX0_endBegins_20 : decode cX0_endBegins 20 = .ok (.getfield 53, 3) := by decide +kernel
theorem dX0_endBegins_23 : decode cX0_endBegins 23 = .ok (.iload_n 1, 1) := by decide +kernel
theorem dX0_endBegins_24 : decode cX0_endBegins 24 = .ok (.laload, 1) := by decide +kernel
theorem dX0_endBegins_25 : decode cX0_endBegins 25 = .ok (.lload 4, 2) := by decide +kernel
theorem dX0_endBegins_27 : decode cX0_endBegins 27 = .ok (.lxor, 1) := by decide +kernel
theorem dX0_endBegins_28 : decode cX0_endBegins 28 = .ok (.iload_n 3, 1) := by decide +kernel
theorem dX0_endBegins_29 : decode cX0_endBegins 29 = .ok (.invokestatic 69, 3) := by decide +kernel
theorem dX0_endBegins_32 : decode cX0_endBegins 32 = .ok (.land, 1) := by decide +kernel
theorem dX0_endBegins_33 : decode cX0_endBegins 33 = .ok (.lconst 0, 1) := by decide +kernel
theorem dX0_endBegins_34 : decode cX0_endBegins 34 = .ok (.lcmp, 1) := by decide +kernel
theorem dX0_endBegins_35 : decode cX0_endBegins 35 = .ok (.ifCond .ne 7, 3) := by decide +kernel
theorem dX0_endBegins_38 : decode cX0_endBegins 38 = .ok (.iconst 1, 1) := by decide +kernel
theorem dX0_endBegins_39 : decode cX0_endBegins 39 = .ok (.goto 4, 3) := by decide +kernel
theorem dX0_endBegins_42 : decode cX0_endBegins 42 = .ok (.iconst 0, 1) := by decide +kernel
theorem dX0_endBegins_43 : decode cX0_endBegins 43 = .ok (.ireturn, 1) := by decide +kernel
theorem dX0_meet_0 : decode cX0_meet 0 = .ok (.aload_n 0, 1) := by decide +kernel
theorem dX0_meet_1 : decode cX0_meet 1 = .ok (.dup, 1) := by decide +kernel
theorem dX0_meet_2 : decode cX0_meet 2 = .ok (.getfield 9, 3) := by decide +kernel
theorem dX0_meet_5 : decode cX0_meet 5 = .ok (.iconst 1, 1) := by decide +kernel
theorem dX0_meet_6 : decode cX0_meet 6 = .ok (.iadd, 1) := by decide +kernel
theorem dX0_meet_7 : decode cX0_meet 7 = .ok (.putfield 9, 3) := by decide +kernel
theorem dX0_meet_10 : decode cX0_meet 10 = .ok (.aload_n 0, 1) := by decide +kernel
theorem dX0_meet_11 : decode cX0_meet 11 = .ok (.getfield 30, 3) := by decide +kernel
theorem dX0_meet_14 : decode cX0_meet 14 = .ok (.ifCond .ne 4, 3) := by decide +kernel
theorem dX0_meet_17 : decode cX0_meet 17 = .ok (.return_, 1) := by decide +kernel
theorem dX0_meet_18 : decode cX0_meet 18 = .ok (.aload_n 1, 1) := by decide +kernel
theorem dX0_meet_19 : decode cX0_meet 19 = .ok (.aload_n 1, 1) := by decide +kernel
theorem dX0_meet_20 : decode cX0_meet 20 = .ok (.lload_n 2, 1) := by decide +kernel
theorem dX0_meet_21 : decode cX0_meet 21 = .ok (.iload 4, 2) := by decide +kernel
theorem dX0_meet_23 : decode cX0_meet 23 = .ok (.invokevirtual 73, 3) := by decide +kernel
theorem dX0_meet_26 : decode cX0_meet 26 = .ok (.bipush 100, 2) := by decide +kernel
theorem dX0_meet_28 : decode cX0_meet 28 = .ok (.invokevirtual 77, 3) := by decide +kernel
theorem dX0_meet_31 : decode cX0_meet 31 = .ok (.lstore 7, 2) := by decide +kernel
theorem dX0_meet_33 : decode cX0_meet 33 = .ok (.aload_n 1, 1) := by decide +kernel
theorem dX0_meet_34 : decode cX0_meet 34 = .ok (.aload_n 1, 1) := by decide +kernel
theorem dX0_meet_35 : decode cX0_meet 35 = .ok (.lload_n 2, 1) := by decide +kernel
theorem dX0_meet_36 : decode cX0_meet 36 = .ok (.bipush 100, 2) := by decide +kernel
theorem dX0_meet_38 : decode cX0_meet 38 = .ok (.iload 6, 2) := by decide +kernel
theorem dX0_meet_40 : decode cX0_meet 40 = .ok (.imul, 1) := by decide +kernel
theorem dX0_meet_41 : decode cX0_meet 41 = .ok (.iload 5, 2) := by decide +kernel
theorem dX0_meet_43 : decode cX0_meet 43 = .ok (.iadd, 1) := by decide +kernel
theorem dX0_meet_44 : decode cX0_meet 44 = .ok (.invokevirtual 73, 3) := by decide +kernel
theorem dX0_meet_47 : decode cX0_meet 47 = .ok (.bipush 100, 2) := by decide +kernel
theorem dX0_meet_49 : decode cX0_meet 49 = .ok (.invokevirtual 77, 3) := by decide +kernel
theorem dX0_meet_52 : decode cX0_meet 52 = .ok (.lstore 9, 2) := by decide +kernel
theorem dX0_meet_54 : decode cX0_meet 54 = .ok (.lload 7, 2) := by decide +kernel
theorem dX0_meet_56 : decode cX0_meet 56 = .ok (.lload 9, 2) := by decide +kernel
theorem dX0_meet_58 : decode cX0_meet 58 = .ok (.lcmp, 1) := by decide +kernel
theorem dX0_meet_59 : decode cX0_meet 59 = .ok (.ifCond .ne 13, 3) := by decide +kernel
theorem dX0_meet_62 : decode cX0_meet 62 = .ok (.lload 7, 2) := by decide +kernel
theorem dX0_meet_64 : decode cX0_meet 64 = .ok (.ldc2_w 18, 3) := by decide +kernel
theorem dX0_meet_67 : decode cX0_meet 67 = .ok (.lcmp, 1) := by decide +kernel
theorem dX0_meet_68 : decode cX0_meet 68 = .ok (.ifCond .eq 4, 3) := by decide +kernel
theorem dX0_meet_71 : decode cX0_meet 71 = .ok (.return_, 1) := by decide +kernel
theorem dX0_meet_72 : decode cX0_meet 72 = .ok (.aload_n 0, 1) := by decide +kernel
theorem dX0_meet_73 : decode cX0_meet 73 = .ok (.dup, 1) := by decide +kernel
theorem dX0_meet_74 : decode cX0_meet 74 = .ok (.getfield 15, 3) := by decide +kernel
theorem dX0_meet_77 : decode cX0_meet 77 = .ok (.iconst 1, 1) := by decide +kernel
theorem dX0_meet_78 : decode cX0_meet 78 = .ok (.iadd, 1) := by decide +kernel
theorem dX0_meet_79 : decode cX0_meet 79 = .ok (.putfield 15, 3) := by decide +kernel
theorem dX0_meet_82 : decode cX0_meet 82 = .ok (.aload_n 0, 1) := by decide +kernel
theorem dX0_meet_83 : decode cX0_meet 83 = .ok (.getfield 20, 3) := by decide +kernel
theorem dX0_meet_86 : decode cX0_meet 86 = .ok (.ldc2_w 18, 3) := by decide +kernel
theorem dX0_meet_89 : decode cX0_meet 89 = .ok (.lcmp, 1) := by decide +kernel
theorem dX0_meet_90 : decode cX0_meet 90 = .ok (.ifCond .ne 8, 3) := by decide +kernel
theorem dX0_meet_93 : decode cX0_meet 93 = .ok (.aload_n 0, 1) := by decide +kernel
theorem dX0_meet_94 : decode cX0_meet 94 = .ok (.lload_n 2, 1) := by decide +kernel
theorem dX0_meet_95 : decode cX0_meet 95 = .ok (.putfield 20, 3) := by decide +kernel
theorem dX0_meet_98 : decode cX0_meet 98 = .ok (.aload_n 0, 1) := by decide +kernel
theorem dX0_meet_99 : decode cX0_meet 99 = .ok (.getfield 24, 3) := by decide +kernel
theorem dX0_meet_102 : decode cX0_meet 102 = .ok (.ldc2_w 18, 3) := by decide +kernel
theorem dX0_meet_105 : decode cX0_meet 105 = .ok (.lcmp, 1) := by decide +kernel
theorem dX0_meet_106 : decode cX0_meet 106 = .ok (.ifCond .ne 43, 3) := by decide +kernel
theorem dX0_meet_109 : decode cX0_meet 109 = .ok (.lload 7, 2) := by decide +kernel
theorem dX0_meet_111 : decode cX0_meet 111 = .ok (.ldc2_w 18, 3) := by decide +kernel
theorem dX0_meet_114 : decode cX0_meet 114 = .ok (.lcmp, 1) := by decide +kernel
theorem dX0_meet_115 : decode cX0_meet 115 = .ok (.ifCond .eq 34, 3) := by decide +kernel
theorem dX0_meet_118 : decode cX0_meet 118 = .ok (.lload 9, 2) := by decide +kernel
theorem dX0_meet_120 : decode cX0_meet 120 = .ok (.ldc2_w 18, 3) := by decide +kernel
theorem dX0_meet_123 : decode cX0_meet 123 = .ok (.lcmp, 1) := by decide +kernel
theorem dX0_meet_124 : decode cX0_meet 124 = .ok (.ifCond .eq 25, 3) := by decide +kernel
theorem dX0_meet_127 : decode cX0_meet 127 = .ok (.aload_n 0, 1) := by decide +kernel
theorem dX0_meet_128 : decode cX0_meet 128 = .ok (.lload 7, 2) := by decide +kernel
theorem dX0_meet_130 : decode cX0_meet 130 = .ok (.lload 9, 2) := by decide +kernel
theorem dX0_meet_132 : decode cX0_meet 132 = .ok (.invokestatic 80, 3) := by decide +kernel
theorem dX0_meet_135 : decode cX0_meet 135 = .ok (.putfield 24, 3) := by decide +kernel
theorem dX0_meet_138 : decode cX0_meet 138 = .ok (.aload_n 0, 1) := by decide +kernel
theorem dX0_meet_139 : decode cX0_meet 139 = .ok (.lload 7, 2) := by decide +kernel
theorem dX0_meet_141 : decode cX0_meet 141 = .ok (.lload 9, 2) := by decide +kernel
theorem dX0_meet_143 : decode cX0_meet 143 = .ok (.invokestatic 86, 3) := by decide +kernel
theorem dX0_meet_146 : decode cX0_meet 146 = .ok (.putfield 27, 3) := by decide +kernel
theorem dX0_meet_149 : decode cX0_meet 149 = .ok (.return_, 1) := by decide +kernel
theorem dX1_init_0 : decode cX1_init 0 = .ok (.aload_n 0, 1) := by decide +kernel
theorem dX1_init_1 : decode cX1_init 1 = .ok (.invokespecial 3, 3) := by decide +kernel
theorem dX1_init_4 : decode cX1_init 4 = .ok (.aload_n 0, 1) := by decide +kernel
theorem dX1_init_5 : decode cX1_init 5 = .ok (.lconst 1, 1) := by decide +kernel
theorem dX1_init_6 : decode cX1_init 6 = .ok (.putfield 9, 3) := by decide +kernel
theorem dX1_init_9 : decode cX1_init 9 = .ok (.aload_n 0, 1) := by decide +kernel
theorem dX1_init_10 : decode cX1_init 10 = .ok (.bipush 20, 2) := by decide +kernel
theorem dX1_init_12 : decode cX1_init 12 = .ok (.newarray .int, 2) := by decide +kernel
theorem dX1_init_14 : decode cX1_init 14 = .ok (.putfield 15, 3) := by decide +kernel
theorem dX1_init_17 : decode cX1_init 17 = .ok (.aload_n 0, 1) := by decide +kernel
theorem dX1_init_18 : decode cX1_init 18 = .ok (.bipush 20, 2) := by decide +kernel
theorem dX1_init_20 : decode cX1_init 20 = .ok (.newarray .int, 2) := by decide +kernel
theorem dX1_init_22 : decode cX1_init 22 = .ok (.putfield 19, 3) := by decide +kernel
theorem dX1_init_25 : decode cX1_init 25 = .ok (.return_, 1) := by decide +kernel
theorem dX1_copyFrom_0 : decode cX1_copyFrom 0 = .ok (.aload_n 0, 1) := by decide +kernel
theorem dX1_copyFrom_1 : decode cX1_copyFrom 1 = .ok (.aload_n 1, 1) := by decide +kernel
theorem dX1_copyFrom_2 : decode cX1_copyFrom 2 = .ok (.getfield 9, 3) := by decide +kernel
theorem dX1_copyFrom_5 : decode cX1_copyFrom 5 = .ok (.putfield 9, 3) := by decide +kernel
theorem dX1_copyFrom_8 : decode cX1_copyFrom 8 = .ok (.aload_n 0, 1) := by decide +kernel
theorem dX1_copyFrom_9 : decode cX1_copyFrom 9 = .ok (.aload_n 1, 1) := by decide +kernel
theorem dX1_copyFrom_10 : decode cX1_copyFrom 10 = .ok (.getfield 22, 3) := by decide +kernel
theorem dX1_copyFrom_13 : decode cX1_copyFrom 13 = .ok (.putfield 22, 3) := by decide +kernel
theorem dX1_copyFrom_16 : decode cX1_copyFrom 16 = .ok (.aload_n 0, 1) := by decide +kernel
theorem dX1_copyFrom_17 : decode cX1_copyFrom 17 = .ok (.aload_n 1, 1) := by decide +kernel
theorem dX1_copyFrom_18 : decode cX1_copyFrom 18 = .ok (.getfield 15, 3) := by decide +kernel
theorem dX1_copyFrom_21 : decode cX1_copyFrom 21 = .ok (.aload_n 1, 1) := by decide +kernel
theorem dX1_copyFrom_22 : decode cX1_copyFrom 22 = .ok (.getfield 19, 3) := by decide +kernel
theorem dX1_copyFrom_25 : decode cX1_copyFrom 25 = .ok (.invokevirtual 26, 3) := by decide +kernel
theorem dX1_copyFrom_28 : decode cX1_copyFrom 28 = .ok (.return_, 1) := by decide +kernel
theorem dX1_takeMakers_0 : decode cX1_takeMakers 0 = .ok (.aload_n 1, 1) := by decide +kernel
theorem dX1_takeMakers_1 : decode cX1_takeMakers 1 = .ok (.iconst 0, 1) := by decide +kernel
theorem dX1_takeMakers_2 : decode cX1_takeMakers 2 = .ok (.aload_n 0, 1) := by decide +kernel
theorem dX1_takeMakers_3 : decode cX1_takeMakers 3 = .ok (.getfield 15, 3) := by decide +kernel
theorem dX1_takeMakers_6 : decode cX1_takeMakers 6 = .ok (.iconst 0, 1) := by decide +kernel
theorem dX1_takeMakers_7 : decode cX1_takeMakers 7 = .ok (.bipush 20, 2) := by decide +kernel
theorem dX1_takeMakers_9 : decode cX1_takeMakers 9 = .ok (.invokestatic 30, 3) := by decide +kernel
theorem dX1_takeMakers_12 : decode cX1_takeMakers 12 = .ok (.aload_n 2, 1) := by decide +kernel
theorem dX1_takeMakers_13 : decode cX1_takeMakers 13 = .ok (.iconst 0, 1) := by decide +kernel
theorem dX1_takeMakers_14 : decode cX1_takeMakers 14 = .ok (.aload_n 0, 1) := by decide +kernel
theorem dX1_takeMakers_15 : decode cX1_takeMakers 15 = .ok (.getfield 19, 3) := by decide +kernel
theorem dX1_takeMakers_18 : decode cX1_takeMakers 18 = .ok (.iconst 0, 1) := by decide +kernel
theorem dX1_takeMakers_19 : decode cX1_takeMakers 19 = .ok (.bipush 20, 2) := by decide +kernel
theorem dX1_takeMakers_21 : decode cX1_takeMakers 21 = .ok (.invokestatic 30, 3) := by decide +kernel
theorem dX1_takeMakers_24 : decode cX1_takeMakers 24 = .ok (.return_, 1) := by decide +kernel
theorem dX1_tell_0 : decode cX1_tell 0 = .ok (.aload_n 0, 1) := by decide +kernel
theorem dX1_tell_1 : decode cX1_tell 1 = .ok (.lload_n 1, 1) := by decide +kernel
theorem dX1_tell_2 : decode cX1_tell 2 = .ok (.putfield 9, 3) := by decide +kernel
theorem dX1_tell_5 : decode cX1_tell 5 = .ok (.aload_n 0, 1) := by decide +kernel
theorem dX1_tell_6 : decode cX1_tell 6 = .ok (.iconst 0, 1) := by decide +kernel
theorem dX1_tell_7 : decode cX1_tell 7 = .ok (.putfield 22, 3) := by decide +kernel
theorem dX1_tell_10 : decode cX1_tell 10 = .ok (.aload_n 0, 1) := by decide +kernel
theorem dX1_tell_11 : decode cX1_tell 11 = .ok (.getfield 15, 3) := by decide +kernel
theorem dX1_tell_14 : decode cX1_tell 14 = .ok (.iconst (-1), 1) := by decide +kernel
theorem dX1_tell_15 : decode cX1_tell 15 = .ok (.invokestatic 36, 3) := by decide +kernel
theorem dX1_tell_18 : decode cX1_tell 18 = .ok (.aload_n 0, 1) := by decide +kernel
theorem dX1_tell_19 : decode cX1_tell 19 = .ok (.getfield 19, 3) := by decide +kernel
theorem dX1_tell_22 : decode cX1_tell 22 = .ok (.iconst (-1), 1) := by decide +kernel
theorem dX1_tell_23 : decode cX1_tell 23 = .ok (.invokestatic 36, 3) := by decide +kernel
theorem dX1_tell_26 : decode cX1_tell 26 = .ok (.return_, 1) := by decide +kernel
theorem dX2_init_0 : decode cX2_init 0 = .ok (.aload_n 0, 1) := by decide +kernel
theorem dX2_init_1 : decode cX2_init 1 = .ok (.invokespecial 3, 3) := by decide +kernel
theorem dX2_init_4 : decode cX2_init 4 = .ok (.aload_n 0, 1) := by decide +kernel
theorem dX2_init_5 : decode cX2_init 5 = .ok (.sipush 1500, 3) := by decide +kernel
theorem dX2_init_8 : decode cX2_init 8 = .ok (.newarray .int, 2) := by decide +kernel
theorem dX2_init_10 : decode cX2_init 10 = .ok (.putfield 9, 3) := by decide +kernel
theorem dX2_init_13 : decode cX2_init 13 = .ok (.aload_n 0, 1) := by decide +kernel
theorem dX2_init_14 : decode cX2_init 14 = .ok (.sipush 1500, 3) := by decide +kernel
theorem dX2_init_17 : decode cX2_init 17 = .ok (.newarray .int, 2) := by decide +kernel
theorem dX2_init_19 : decode cX2_init 19 = .ok (.putfield 15, 3) := by decide +kernel
theorem dX2_init_22 : decode cX2_init 22 = .ok (.return_, 1) := by decide +kernel
theorem dX2_play_0 : decode cX2_play 0 = .ok (.aload_n 0, 1) := by decide +kernel
theorem dX2_play_1 : decode cX2_play 1 = .ok (.getfield 9, 3) := by decide +kernel
theorem dX2_play_4 : decode cX2_play 4 = .ok (.iconst 0, 1) := by decide +kernel
theorem dX2_play_5 : decode cX2_play 5 = .ok (.invokestatic 18, 3) := by decide +kernel
theorem dX2_play_8 : decode cX2_play 8 = .ok (.iconst 1, 1) := by decide +kernel
theorem dX2_play_9 : decode cX2_play 9 = .ok (.istore 4, 2) := by decide +kernel
theorem dX2_play_11 : decode cX2_play 11 = .ok (.iload 4, 2) := by decide +kernel
theorem dX2_play_13 : decode cX2_play 13 = .ok (.iload_n 3, 1) := by decide +kernel
theorem dX2_play_14 : decode cX2_play 14 = .ok (.if_icmp .ge 82, 3) := by decide +kernel
theorem dX2_play_17 : decode cX2_play 17 = .ok (.iconst 0, 1) := by decide +kernel
theorem dX2_play_18 : decode cX2_play 18 = .ok (.istore 5, 2) := by decide +kernel
theorem dX2_play_20 : decode cX2_play 20 = .ok (.iload 5, 2) := by decide +kernel
theorem dX2_play_22 : decode cX2_play 22 = .ok (.aload_n 2, 1) := by decide +kernel
theorem dX2_play_23 : decode cX2_play 23 = .ok (.getfield 24, 3) := by decide +kernel
theorem dX2_play_26 : decode cX2_play 26 = .ok (.if_icmp .ge 47, 3) := by decide +kernel
theorem dX2_play_29 : decode cX2_play 29 = .ok (.aload_n 2, 1) := by decide +kernel
theorem dX2_play_30 : decode cX2_play 30 = .ok (.getfield 30, 3) := by decide +kernel
theorem dX2_play_33 : decode cX2_play 33 = .ok (.iload 5, 2) := by decide +kernel
theorem dX2_play_35 : decode cX2_play 35 = .ok (.iaload, 1) := by decide +kernel
theorem dX2_play_36 : decode cX2_play 36 = .ok (.iload_n 3, 1) := by decide +kernel
theorem dX2_play_37 : decode cX2_play 37 = .ok (.iload 4, 2) := by decide +kernel
theorem dX2_play_39 : decode cX2_play 39 = .ok (.isub, 1) := by decide +kernel
theorem dX2_play_40 : decode cX2_play 40 = .ok (.if_icmp .gt 33, 3) := by decide +kernel
theorem dX2_play_43 : decode cX2_play 43 = .ok (.aload_n 0, 1) := by decide +kernel
theorem dX2_play_44 : decode cX2_play 44 = .ok (.aload_n 1, 1) := by decide +kernel
theorem dX2_play_45 : decode cX2_play 45 = .ok (.aload_n 2, 1) := by decide +kernel
theorem dX2_play_46 : decode cX2_play 46 = .ok (.aload_n 2, 1) := by decide +kernel
theorem dX2_play_47 : decode cX2_play 47 = .ok (.getfield 33, 3) := by decide +kernel
theorem dX2_play_50 : decode cX2_play 50 = .ok (.iload 5, 2) := by decide +kernel
theorem dX2_play_52 : decode cX2_play 52 = .ok (.laload, 1) := by decide +kernel
theorem dX2_play_53 : decode cX2_play 53 = .ok (.invokevirtual 37, 3) := by decide +kernel
theorem dX2_play_56 : decode cX2_play 56 = .ok (.aload_n 0, 1) := by decide +kernel
theorem dX2_play_57 : decode cX2_play 57 = .ok (.getfield 15, 3) := by decide +kernel
theorem dX2_play_60 : decode cX2_play 60 = .ok (.iload 5, 2) := by decide +kernel
theorem dX2_play_62 : decode cX2_play 62 = .ok (.aload_n 0, 1) := by decide +kernel
theorem dX2_play_63 : decode cX2_play 63 = .ok (.getfield 41, 3) := by decide +kernel
theorem dX2_play_66 : decode cX2_play 66 = .ok (.iastore, 1) := by decide +kernel
theorem dX2_play_67 : decode cX2_play 67 = .ok (.iinc 5 1, 3) := by decide +kernel
theorem dX2_play_70 : decode cX2_play 70 = .ok (.goto (-50), 3) := by decide +kernel
theorem dX2_play_73 : decode cX2_play 73 = .ok (.aload_n 0, 1) := by decide +kernel
theorem dX2_play_74 : decode cX2_play 74 = .ok (.getfield 15, 3) := by decide +kernel
theorem dX2_play_77 : decode cX2_play 77 = .ok (.iconst 0, 1) := by decide +kernel
theorem dX2_play_78 : decode cX2_play 78 = .ok (.aload_n 0, 1) := by decide +kernel
theorem dX2_play_79 : decode cX2_play 79 = .ok (.getfield 9, 3) := by decide +kernel
theorem dX2_play_82 : decode cX2_play 82 = .ok (.iconst 0, 1) := by decide +kernel
theorem dX2_play_83 : decode cX2_play 83 = .ok (.aload_n 2, 1) := by decide +kernel
theorem dX2_play_84 : decode cX2_play 84 = .ok (.getfield 24, 3) := by decide +kernel
theorem dX2_play_87 : decode cX2_play 87 = .ok (.invokestatic 44, 3) := by decide +kernel
theorem dX2_play_90 : decode cX2_play 90 = .ok (.iinc 4 1, 3) := by decide +kernel
theorem dX2_play_93 : decode cX2_play 93 = .ok (.goto (-82), 3) := by decide +kernel
theorem dX2_play_96 : decode cX2_play 96 = .ok (.aload_n 0, 1) := by decide +kernel
theorem dX2_play_97 : decode cX2_play 97 = .ok (.aload_n 1, 1) := by decide +kernel
theorem dX2_play_98 : decode cX2_play 98 = .ok (.aload_n 2, 1) := by decide +kernel
theorem dX2_play_99 : decode cX2_play 99 = .ok (.aload_n 2, 1) := by decide +kernel
theorem dX2_play_100 : decode cX2_play 100 = .ok (.getfield 33, 3) := by decide +kernel
theorem dX2_play_103 : decode cX2_play 103 = .ok (.iconst 0, 1) := by decide +kernel
theorem dX2_play_104 : decode cX2_play 104 = .ok (.laload, 1) := by decide +kernel
theorem dX2_play_105 : decode cX2_play 105 = .ok (.invokevirtual 37, 3) := by decide +kernel
theorem dX2_play_108 : decode cX2_play 108 = .ok (.return_, 1) := by decide +kernel
theorem dX2_weigh_0 : decode cX2_weigh 0 = .ok (.aload_n 1, 1) := by decide +kernel
theorem dX2_weigh_1 : decode cX2_weigh 1 = .ok (.lload_n 3, 1) := by decide +kernel
theorem dX2_weigh_2 : decode cX2_weigh 2 = .ok (.invokevirtual 50, 3) := by decide +kernel
theorem dX2_weigh_5 : decode cX2_weigh 5 = .ok (.istore 5, 2) := by decide +kernel
theorem dX2_weigh_7 : decode cX2_weigh 7 = .ok (.aload_n 0, 1) := by decide +kernel
theorem dX2_weigh_8 : decode cX2_weigh 8 = .ok (.iconst (-1), 1) := by decide +kernel
theorem dX2_weigh_9 : decode cX2_weigh 9 = .ok (.putfield 41, 3) := by decide +kernel
theorem dX2_weigh_12 : decode cX2_weigh 12 = .ok (.aload_n 0, 1) := by decide +kernel
theorem dX2_weigh_13 : decode cX2_weigh 13 = .ok (.iload 5, 2) := by decide +kernel
theorem dX2_weigh_15 : decode cX2_weigh 15 = .ok (.ifCond .ne 7, 3) := by decide +kernel
theorem dX2_weigh_18 : decode cX2_weigh 18 = .ok (.iconst (-1), 1) := by decide +kernel
theorem dX2_weigh_19 : decode cX2_weigh 19 = .ok (.goto 9, 3) := by decide +kernel
theorem dX2_weigh_22 : decode cX2_weigh 22 = .ok (.aload_n 1, 1) := by decide +kernel
theorem dX2_weigh_23 : decode cX2_weigh 23 = .ok (.getfield 56, 3) := by decide +kernel
theorem dX2_weigh_26 : decode cX2_weigh 26 = .ok (.iconst 0, 1) := by decide +kernel
theorem dX2_weigh_27 : decode cX2_weigh 27 = .ok (.iaload, 1) := by decide +kernel
theorem dX2_weigh_28 : decode cX2_weigh 28 = .ok (.putfield 59, 3) := by decide +kernel
theorem dX2_weigh_31 : decode cX2_weigh 31 = .ok (.iconst 0, 1) := by decide +kernel
theorem dX2_weigh_32 : decode cX2_weigh 32 = .ok (.istore 6, 2) := by decide +kernel
theorem dX2_weigh_34 : decode cX2_weigh 34 = .ok (.iload 6, 2) := by decide +kernel
theorem dX2_weigh_36 : decode cX2_weigh 36 = .ok (.iload 5, 2) := by decide +kernel
theorem dX2_weigh_38 : decode cX2_weigh 38 = .ok (.if_icmp .ge 78, 3) := by decide +kernel
theorem dX2_weigh_41 : decode cX2_weigh 41 = .ok (.aload_n 0, 1) := by decide +kernel
theorem dX2_weigh_42 : decode cX2_weigh 42 = .ok (.getfield 41, 3) := by decide +kernel
theorem dX2_weigh_45 : decode cX2_weigh 45 = .ok (.iconst 1, 1) := by decide +kernel
theorem dX2_weigh_46 : decode cX2_weigh 46 = .ok (.if_icmp .ge 70, 3) := by decide +kernel
theorem dX2_weigh_49 : decode cX2_weigh 49 = .ok (.aload_n 2, 1) := by decide +kernel
theorem dX2_weigh_50 : decode cX2_weigh 50 = .ok (.aload_n 1, 1) := by decide +kernel
theorem dX2_weigh_51 : decode cX2_weigh 51 = .ok (.lload_n 3, 1) := by decide +kernel
theorem dX2_weigh_52 : decode cX2_weigh 52 = .ok (.aload_n 1, 1) := by decide +kernel
theorem dX2_weigh_53 : decode cX2_weigh 53 = .ok (.getfield 56, 3) := by decide +kernel
theorem dX2_weigh_56 : decode cX2_weigh 56 = .ok (.iload 6, 2) := by decide +kernel
theorem dX2_weigh_58 : decode cX2_weigh 58 = .ok (.iaload, 1) := by decide +kernel
theorem dX2_weigh_59 : decode cX2_weigh 59 = .ok (.invokevirtual 62, 3) := by decide +kernel
theorem dX2_weigh_62 : decode cX2_weigh 62 = .ok (.invokevirtual 66, 3) := by decide +kernel
theorem dX2_weigh_65 : decode cX2_weigh 65 = .ok (.istore 7, 2) := by decide +kernel
theorem dX2_weigh_67 : decode cX2_weigh 67 = .ok (.iload 7, 2) := by decide +kernel
theorem dX2_weigh_69 : decode cX2_weigh 69 = .ok (.ifCond .lt 41, 3) := by decide +kernel
theorem dX2_weigh_72 : decode cX2_weigh 72 = .ok (.aload_n 0, 1) := by decide +kernel
theorem dX2_weigh_73 : decode cX2_weigh 73 = .ok (.getfield 9, 3) := by decide +kernel
theorem dX2_weigh_76 : decode cX2_weigh 76 = .ok (.iload 7, 2) := by decide +kernel
theorem dX2_weigh_78 : decode cX2_weigh 78 = .ok (.iaload, 1) := by decide +kernel
theorem dX2_weigh_79 : decode cX2_weigh 79 = .ok (.ineg, 1) := by decide +kernel
theorem dX2_weigh_80 : decode cX2_weigh 80 = .ok (.aload_n 0, 1) := by decide +kernel
theorem dX2_weigh_81 : decode cX2_weigh 81 = .ok (.getfield 41, 3) := by decide +kernel
theorem dX2_weigh_84 : decode cX2_weigh 84 = .ok (.if_icmp .le 26, 3) := by decide +kernel
theorem dX2_weigh_87 : decode cX2_weigh 87 = .ok (.aload_n 0, 1) := by decide +kernel
theorem dX2_weigh_88 : decode cX2_weigh 88 = .ok (.aload_n 0, 1) := by decide +kernel
theorem dX2_weigh_89 : decode cX2_weigh 89 = .ok (.getfield 9, 3) := by decide +kernel
theorem dX2_weigh_92 : decode cX2_weigh 92 = .ok (.iload 7, 2) := by decide +kernel
theorem dX2_weigh_94 : decode cX2_weigh 94 = .ok (.iaload, 1) := by decide +kernel
theorem dX2_weigh_95 : decode cX2_weigh 95 = .ok (.ineg, 1) := by decide +kernel
theorem dX2_weigh_96 : decode cX2_weigh 96 = .ok (.putfield 41, 3) := by decide +kernel
theorem dX2_weigh_99 : decode cX2_weigh 99 = .ok (.aload_n 0, 1) := by decide +kernel
theorem dX2_weigh_100 : decode cX2_weigh 100 = .ok (.aload_n 1, 1) := by decide +kernel
theorem dX2_weigh_101 : decode cX2_weigh 101 = .ok (.getfield 56, 3) := by decide +kernel
theorem dX2_weigh_104 : decode cX2_weigh 104 = .ok (.iload 6, 2) := by decide +kernel
theorem dX2_weigh_106 : decode cX2_weigh 106 = .ok (.iaload, 1) := by decide +kernel
theorem dX2_weigh_107 : decode cX2_weigh 107 = .ok (.putfield 59, 3) := by decide +kernel
theorem dX2_weigh_110 : decode cX2_weigh 110 = .ok (.iinc 6 1, 3) := by decide +kernel
theorem dX2_weigh_113 : decode cX2_weigh 113 = .ok (.goto (-79), 3) := by decide +kernel
theorem dX2_weigh_116 : decode cX2_weigh 116 = .ok (.return_, 1) := by decide +kernel
theorem dX3_init_0 : decode cX3_init 0 = .ok (.aload_n 0, 1) := by decide +kernel
theorem dX3_init_1 : decode cX3_init 1 = .ok (.invokespecial 3, 3) := by decide +kernel
theorem dX3_init_4 : decode cX3_init 4 = .ok (.aload_n 0, 1) := by decide +kernel
theorem dX3_init_5 : decode cX3_init 5 = .ok (.bipush 10, 2) := by decide +kernel
theorem dX3_init_7 : decode cX3_init 7 = .ok (.newarray .int, 2) := by decide +kernel
theorem dX3_init_9 : decode cX3_init 9 = .ok (.putfield 9, 3) := by decide +kernel
theorem dX3_init_12 : decode cX3_init 12 = .ok (.return_, 1) := by decide +kernel
theorem dX3_fewestTelling_0 : decode cX3_fewestTelling 0 = .ok (.iconst 0, 1) := by decide +kernel
theorem dX3_fewestTelling_1 : decode cX3_fewestTelling 1 = .ok (.istore_n 2, 1) := by decide +kernel
theorem dX3_fewestTelling_2 : decode cX3_fewestTelling 2 = .ok (.iload_n 2, 1) := by decide +kernel
theorem dX3_fewestTelling_3 : decode cX3_fewestTelling 3 = .ok (.aload_n 1, 1) := by decide +kernel
theorem dX3_fewestTelling_4 : decode cX3_fewestTelling 4 = .ok (.getfield 15, 3) := by decide +kernel
theorem dX3_fewestTelling_7 : decode cX3_fewestTelling 7 = .ok (.if_icmp .ge 20, 3) := by decide +kernel
theorem dX3_fewestTelling_10 : decode cX3_fewestTelling 10 = .ok (.aload_n 0, 1) := by decide +kernel
theorem dX3_fewestTelling_11 : decode cX3_fewestTelling 11 = .ok (.getfield 9, 3) := by decide +kernel
theorem dX3_fewestTelling_14 : decode cX3_fewestTelling 14 = .ok (.iload_n 2, 1) := by decide +kernel
theorem dX3_fewestTelling_15 : decode cX3_fewestTelling 15 = .ok (.aload_n 1, 1) := by decide +kernel
theorem dX3_fewestTelling_16 : decode cX3_fewestTelling 16 = .ok (.iload_n 2, 1) := by decide +kernel
theorem dX3_fewestTelling_17 : decode cX3_fewestTelling 17 = .ok (.invokevirtual 21, 3) := by decide +kernel
theorem dX3_fewestTelling_20 : decode cX3_fewestTelling 20 = .ok (.iastore, 1) := by decide +kernel
theorem dX3_fewestTelling_21 : decode cX3_fewestTelling 21 = .ok (.iinc 2 1, 3) := by decide +kernel
theorem dX3_fewestTelling_24 : decode cX3_fewestTelling 24 = .ok (.goto (-22), 3) := by decide +kernel
theorem dX3_fewestTelling_27 : decode cX3_fewestTelling 27 = .ok (.iconst (-1), 1) := by decide +kernel
theorem dX3_fewestTelling_28 : decode cX3_fewestTelling 28 = .ok (.istore_n 2, 1) := by decide +kernel
theorem dX3_fewestTelling_29 : decode cX3_fewestTelling 29 = .ok (.iconst 0, 1) := by decide +kernel
theorem dX3_fewestTelling_30 : decode cX3_fewestTelling 30 = .ok (.istore_n 3, 1) := by decide +kernel
theorem dX3_fewestTelling_31 : decode cX3_fewestTelling 31 = .ok (.iload_n 3, 1) := by decide +kernel
theorem dX3_fewestTelling_32 : decode cX3_fewestTelling 32 = .ok (.iconst 1, 1) := by decide +kernel
theorem dX3_fewestTelling_33 : decode cX3_fewestTelling 33 = .ok (.aload_n 1, 1) := by decide +kernel
theorem dX3_fewestTelling_34 : decode cX3_fewestTelling 34 = .ok (.getfield 25, 3) := by decide +kernel
theorem dX3_fewestTelling_37 : decode cX3_fewestTelling 37 = .ok (.getfield 29, 3) := by decide +kernel
theorem dX3_fewestTelling_40 : decode cX3_fewestTelling 40 = .ok (.ishl, 1) := by decide +kernel
theorem dX3_fewestTelling_41 : decode cX3_fewestTelling 41 = .ok (.if_icmp .ge 51, 3) := by decide +kernel
theorem dX3_fewestTelling_44 : decode cX3_fewestTelling 44 = .ok (.iload_n 2, 1) := by decide +kernel
theorem dX3_fewestTelling_45 : decode cX3_fewestTelling 45 = .ok (.iconst (-1), 1) := by decide +kernel
theorem dX3_fewestTelling_46 : decode cX3_fewestTelling 46 = .ok (.if_icmp .eq 14, 3) := by decide +kernel
theorem dX3_fewestTelling_49 : decode cX3_fewestTelling 49 = .ok (.iload_n 3, 1) := by decide +kernel
theorem dX3_fewestTelling_50 : decode cX3_fewestTelling 50 = .ok (.invokestatic 34, 3) := by decide +kernel
theorem dX3_fewestTelling_53 : decode cX3_fewestTelling 53 = .ok (.iload_n 2, 1) := by decide +kernel
theorem dX3_fewestTelling_54 : decode cX3_fewestTelling 54 = .ok (.invokestatic 34, 3) := by decide +kernel
theorem dX3_fewestTelling_57 : decode cX3_fewestTelling 57 = .ok (.if_icmp .ge 7, 3) := by decide +kernel
theorem dX3_fewestTelling_60 : decode cX3_fewestTelling 60 = .ok (.iconst 1, 1) := by decide +kernel
theorem dX3_fewestTelling_61 : decode cX3_fewestTelling 61 = .ok (.goto 4, 3) := by decide +kernel
theorem dX3_fewestTelling_64 : decode cX3_fewestTelling 64 = .ok (.iconst 0, 1) := by decide +kernel
theorem dX3_fewestTelling_65 : decode cX3_fewestTelling 65 = .ok (.istore 4, 2) := by decide +kernel
theorem dX3_fewestTelling_67 : decode cX3_fewestTelling 67 = .ok (.iload 4, 2) := by decide +kernel
theorem dX3_fewestTelling_69 : decode cX3_fewestTelling 69 = .ok (.ifCond .eq 17, 3) := by decide +kernel
theorem dX3_fewestTelling_72 : decode cX3_fewestTelling 72 = .ok (.aload_n 0, 1) := by decide +kernel
theorem dX3_fewestTelling_73 : decode cX3_fewestTelling 73 = .ok (.iload_n 3, 1) := by decide +kernel
theorem dX3_fewestTelling_74 : decode cX3_fewestTelling 74 = .ok (.aload_n 1, 1) := by decide +kernel
theorem dX3_fewestTelling_75 : decode cX3_fewestTelling 75 = .ok (.getfield 15, 3) := by decide +kernel
theorem dX3_fewestTelling_78 : decode cX3_fewestTelling 78 = .ok (.invokevirtual 39, 3) := by decide +kernel
theorem dX3_fewestTelling_81 : decode cX3_fewestTelling 81 = .ok (.ifCond .eq 5, 3) := by decide +kernel
theorem dX3_fewestTelling_84 : decode cX3_fewestTelling 84 = .ok (.iload_n 3, 1) := by decide +kernel
theorem dX3_fewestTelling_85 : decode cX3_fewestTelling 85 = .ok (.istore_n 2, 1) := by decide +kernel
theorem dX3_fewestTelling_86 : decode cX3_fewestTelling 86 = .ok (.iinc 3 1, 3) := by decide +kernel
theorem dX3_fewestTelling_89 : decode cX3_fewestTelling 89 = .ok (.goto (-58), 3) := by decide +kernel
theorem dX3_fewestTelling_92 : decode cX3_fewestTelling 92 = .ok (.iload_n 2, 1) := by decide +kernel
theorem dX3_fewestTelling_93 : decode cX3_fewestTelling 93 = .ok (.ireturn, 1) := by decide +kernel
theorem dX3_explainsAll_0 : decode cX3_explainsAll 0 = .ok (.iconst 0, 1) := by decide +kernel
theorem dX3_explainsAll_1 : decode cX3_explainsAll 1 = .ok (.istore_n 3, 1) := by decide +kernel
theorem dX3_explainsAll_2 : decode cX3_explainsAll 2 = .ok (.iload_n 3, 1) := by decide +kernel
theorem dX3_explainsAll_3 : decode cX3_explainsAll 3 = .ok (.iload_n 2, 1) := by decide +kernel
theorem dX3_explainsAll_4 : decode cX3_explainsAll 4 = .ok (.if_icmp .ge 22, 3) := by decide +kernel
theorem dX3_explainsAll_7 : decode cX3_explainsAll 7 = .ok (.aload_n 0, 1) := by decide +kernel
theorem dX3_explainsAll_8 : decode cX3_explainsAll 8 = .ok (.getfield 9, 3) := by decide +kernel
theorem dX3_explainsAll_11 : decode cX3_explainsAll 11 = .ok (.iload_n 3, 1) := by decide +kernel
theorem dX3_explainsAll_12 : decode cX3_explainsAll 12 = .ok (.iaload, 1) := by decide +kernel
theorem dX3_explainsAll_13 : decode cX3_explainsAll 13 = .ok (.iload_n 1, 1) := by decide +kernel
theorem dX3_explainsAll_14 : decode cX3_explainsAll 14 = .ok (.iand, 1) := by decide +kernel
theorem dX3_explainsAll_15 : decode cX3_explainsAll 15 = .ok (.ifCond .ne 5, 3) := by decide +kernel
theorem dX3_explainsAll_18 : decode cX3_explainsAll 18 = .ok (.iconst 0, 1) := by decide +kernel
theorem dX3_explainsAll_19 : decode cX3_explainsAll 19 = .ok (.ireturn, 1) := by decide +kernel
theorem dX3_explainsAll_20 : decode cX3_explainsAll 20 = .ok (.iinc 3 1, 3) := by decide +kernel
theorem dX3_explainsAll_23 : decode cX3_explainsAll 23 = .ok (.goto (-21), 3) := by decide +kernel
theorem dX3_explainsAll_26 : decode cX3_explainsAll 26 = .ok (.iconst 1, 1) := by decide +kernel
theorem dX3_explainsAll_27 : decode cX3_explainsAll 27 = .ok (.ireturn, 1) := by decide +kernel
theorem dX3_survey_0 : decode cX3_survey 0 = .ok (.aload_n 0, 1) := by decide +kernel
theorem dX3_survey_1 : decode cX3_survey 1 = .ok (.iconst 0, 1) := by decide +kernel
theorem dX3_survey_2 : decode cX3_survey 2 = .ok (.putfield 43, 3) := by decide +kernel
theorem dX3_survey_5 : decode cX3_survey 5 = .ok (.aload_n 0, 1) := by decide +kernel
theorem dX3_survey_6 : decode cX3_survey 6 = .ok (.ldc2_w 46, 3) := by decide +kernel
theorem dX3_survey_9 : decode cX3_survey 9 = .ok (.putfield 48, 3) := by decide +kernel
theorem dX3_survey_12 : decode cX3_survey 12 = .ok (.aload_n 0, 1) := by decide +kernel
theorem dX3_survey_13 : decode cX3_survey 13 = .ok (.ldc2_w 46, 3) := by decide +kernel
theorem dX3_survey_16 : decode cX3_survey 16 = .ok (.putfield 52, 3) := by decide +kernel
theorem dX3_survey_19 : decode cX3_survey 19 = .ok (.aload_n 1, 1) := by decide +kernel
theorem dX3_survey_20 : decode cX3_survey 20 = .ok (.getfield 15, 3) := by decide +kernel
theorem dX3_survey_23 : decode cX3_survey 23 = .ok (.ifCond .ne 4, 3) := by decide +kernel
theorem dX3_survey_26 : decode cX3_survey 26 = .ok (.return_, 1) := by decide +kernel
theorem dX3_survey_27 : decode cX3_survey 27 = .ok (.aload_n 1, 1) := by decide +kernel
theorem dX3_survey_28 : decode cX3_survey 28 = .ok (.getfield 55, 3) := by decide +kernel
theorem dX3_survey_31 : decode cX3_survey 31 = .ok (.iconst 0, 1) := by decide +kernel
theorem dX3_survey_32 : decode cX3_survey 32 = .ok (.laload, 1) := by decide +kernel
theorem dX3_survey_33 : decode cX3_survey 33 = .ok (.invokestatic 59, 3) := by decide +kernel
theorem dX3_survey_36 : decode cX3_survey 36 = .ok (.aload_n 1, 1) := by decide +kernel
theorem dX3_survey_37 : decode cX3_survey 37 = .ok (.getfield 63, 3) := by decide +kernel
theorem dX3_survey_40 : decode cX3_survey 40 = .ok (.iconst 0, 1) := by decide +kernel
theorem dX3_survey_41 : decode cX3_survey 41 = .ok (.laload, 1) := by decide +kernel
theorem dX3_survey_42 : decode cX3_survey 42 = .ok (.invokestatic 59, 3) := by decide +kernel
theorem dX3_survey_45 : decode cX3_survey 45 = .ok (.isub, 1) := by decide +kernel
theorem dX3_survey_46 : decode cX3_survey 46 = .ok (.istore_n 2, 1) := by decide +kernel
theorem dX3_survey_47 : decode cX3_survey 47 = .ok (.iconst 1, 1) := by decide +kernel
theorem dX3_survey_48 : decode cX3_survey 48 = .ok (.istore_n 3, 1) := by decide +kernel
theorem dX3_survey_49 : decode cX3_survey 49 = .ok (.iload_n 3, 1) := by decide +kernel
theorem dX3_survey_50 : decode cX3_survey 50 = .ok (.iconst 3, 1) := by decide +kernel
theorem dX3_survey_51 : decode cX3_survey 51 = .ok (.if_icmp .gt 33, 3) := by decide +kernel
theorem dX3_survey_54 : decode cX3_survey 54 = .ok (.iload_n 3, 1) := by decide +kernel
theorem dX3_survey_55 : decode cX3_survey 55 = .ok (.iload_n 2, 1) := by decide +kernel
theorem dX3_survey_56 : decode cX3_survey 56 = .ok (.iadd, 1) := by decide +kernel
theorem dX3_survey_57 : decode cX3_survey 57 = .ok (.istore 4, 2) := by decide +kernel
theorem dX3_survey_59 : decode cX3_survey 59 = .ok (.iload 4, 2) := by decide +kernel
theorem dX3_survey_61 : decode cX3_survey 61 = .ok (.ifCond .lt 17, 3) := by decide +kernel
theorem dX3_survey_64 : decode cX3_survey 64 = .ok (.iload 4, 2) := by decide +kernel
theorem dX3_survey_66 : decode cX3_survey 66 = .ok (.iconst 3, 1) := by decide +kernel
theorem dX3_survey_67 : decode cX3_survey 67 = .ok (.if_icmp .gt 11, 3) := by decide +kernel
theorem dX3_survey_70 : decode cX3_survey 70 = .ok (.aload_n 0, 1) := by decide +kernel
theorem dX3_survey_71 : decode cX3_survey 71 = .ok (.aload_n 1, 1) := by decide +kernel
theorem dX3_survey_72 : decode cX3_survey 72 = .ok (.iload_n 3, 1) := by decide +kernel
theorem dX3_survey_73 : decode cX3_survey 73 = .ok (.iload 4, 2) := by decide +kernel
theorem dX3_survey_75 : decode cX3_survey 75 = .ok (.invokevirtual 66, 3) := by decide +kernel
theorem dX3_survey_78 : decode cX3_survey 78 = .ok (.iinc 3 1, 3) := by decide +kernel
theorem dX3_survey_81 : decode cX3_survey 81 = .ok (.goto (-32), 3) := by decide +kernel
theorem dX3_survey_84 : decode cX3_survey 84 = .ok (.return_, 1) := by decide +kernel
theorem dX3_surveySizes_0 : decode cX3_surveySizes 0 = .ok (.aload_n 1, 1) := by decide +kernel
theorem dX3_surveySizes_1 : decode cX3_surveySizes 1 = .ok (.getfield 63, 3) := by decide +kernel
theorem dX3_surveySizes_4 : decode cX3_surveySizes 4 = .ok (.iconst 0, 1) := by decide +kernel
theorem dX3_surveySizes_5 : decode cX3_surveySizes 5 = .ok (.laload, 1) := by decide +kernel
theorem dX3_surveySizes_6 : decode cX3_surveySizes 6 = .ok (.lstore 4, 2) := by decide +kernel
theorem dX3_surveySizes_8 : decode cX3_surveySizes 8 = .ok (.aload_n 1, 1) := by decide +kernel
theorem dX3_surveySizes_9 : decode cX3_surveySizes 9 = .ok (.getfield 55, 3) := by decide +kernel
theorem dX3_surveySizes_12 : decode cX3_surveySizes 12 = .ok (.iconst 0, 1) := by decide +kernel
theorem dX3_surveySizes_13 : decode cX3_surveySizes 13 = .ok (.laload, 1) := by decide +kernel
theorem dX3_surveySizes_14 : decode cX3_surveySizes 14 = .ok (.lstore 6, 2) := by decide +kernel
theorem dX3_surveySizes_16 : decode cX3_surveySizes 16 = .ok (.lload 4, 2) := by decide +kernel
theorem dX3_surveySizes_18 : decode cX3_surveySizes 18 = .ok (.invokestatic 59, 3) := by decide +kernel
theorem dX3_surveySizes_21 : decode cX3_surveySizes 21 = .ok (.istore 8, 2) := by decide +kernel
theorem dX3_surveySizes_23 : decode cX3_surveySizes 23 = .ok (.aload_n 0, 1) := by decide +kernel
theorem dX3_surveySizes_24 : decode cX3_surveySizes 24 = .ok (.getfield 48, 3) := by decide +kernel
theorem dX3_surveySizes_27 : decode cX3_surveySizes 27 = .ok (.ldc2_w 46, 3) := by decide +kernel
theorem dX3_surveySizes_30 : decode cX3_surveySizes 30 = .ok (.lcmp, 1) := by decide +kernel
theorem dX3_surveySizes_31 : decode cX3_surveySizes 31 = .ok (.ifCond .ne 7, 3) := by decide +kernel
theorem dX3_surveySizes_34 : decode cX3_surveySizes 34 = .ok (.iconst 1, 1) := by decide +kernel
theorem dX3_surveySizes_35 : decode cX3_surveySizes 35 = .ok (.goto 4, 3) := by decide +kernel
theorem dX3_surveySizes_38 : decode cX3_surveySizes 38 = .ok (.iconst 0, 1) := by decide +kernel
theorem dX3_surveySizes_39 : decode cX3_surveySizes 39 = .ok (.istore 9, 2) := by decide +kernel
theorem dX3_surveySizes_41 : decode cX3_surveySizes 41 = .ok (.iconst 0, 1) := by decide +kernel
theorem dX3_surveySizes_42 : decode cX3_surveySizes 42 = .ok (.istore 10, 2) := by decide +kernel
theorem dX3_surveySizes_44 : decode cX3_surveySizes 44 = .ok (.iload 10, 2) := by decide +kernel
theorem dX3_surveySizes_46 : decode cX3_surveySizes 46 = .ok (.iload_n 2, 1) := by decide +kernel
theorem dX3_surveySizes_47 : decode cX3_surveySizes 47 = .ok (.iadd, 1) := by decide +kernel
theorem dX3_surveySizes_48 : decode cX3_surveySizes 48 = .ok (.iload 8, 2) := by decide +kernel
theorem dX3_surveySizes_50 : decode cX3_surveySizes 50 = .ok (.if_icmp .gt 178, 3) := by decide +kernel
theorem dX3_surveySizes_53 : decode cX3_surveySizes 53 = .ok (.lconst 1, 1) := by decide +kernel
theorem dX3_surveySizes_54 : decode cX3_surveySizes 54 = .ok (.lload 4, 2) := by decide +kernel
theorem dX3_surveySizes_56 : decode cX3_surveySizes 56 = .ok (.iload 8, 2) := by decide +kernel
theorem dX3_surveySizes_58 : decode cX3_surveySizes 58 = .ok (.iload 10, 2) := by decide +kernel
theorem dX3_surveySizes_60 : decode cX3_surveySizes 60 = .ok (.iload 10, 2) := by decide +kernel
theorem dX3_surveySizes_62 : decode cX3_surveySizes 62 = .ok (.iload_n 2, 1) := by decide +kernel
theorem dX3_surveySizes_63 : decode cX3_surveySizes 63 = .ok (.iadd, 1) := by decide +kernel
theorem dX3_surveySizes_64 : decode cX3_surveySizes 64 = .ok (.invokestatic 70, 3) := by decide +kernel
theorem dX3_surveySizes_67 : decode cX3_surveySizes 67 = .ok (.lstore 11, 2) := by decide +kernel
theorem dX3_surveySizes_69 : decode cX3_surveySizes 69 = .ok (.lconst 1, 1) := by decide +kernel
theorem dX3_surveySizes_70 : decode cX3_surveySizes 70 = .ok (.lload 6, 2) := by decide +kernel
theorem dX3_surveySizes_72 : decode cX3_surveySizes 72 = .ok (.lload 6, 2) := by decide +kernel
theorem dX3_surveySizes_74 : decode cX3_surveySizes 74 = .ok (.invokestatic 59, 3) := by decide +kernel
theorem dX3_surveySizes_77 : decode cX3_surveySizes 77 = .ok (.iload 10, 2) := by decide +kernel
theorem dX3_surveySizes_79 : decode cX3_surveySizes 79 = .ok (.iload 10, 2) := by decide +kernel
theorem dX3_surveySizes_81 : decode cX3_surveySizes 81 = .ok (.iload_n 3, 1) := by decide +kernel
theorem dX3_surveySizes_82 : decode cX3_surveySizes 82 = .ok (.iadd, 1) := by decide +kernel
theorem dX3_surveySizes_83 : decode cX3_surveySizes 83 = .ok (.invokestatic 70, 3) := by decide +kernel
theorem dX3_surveySizes_86 : decode cX3_surveySizes 86 = .ok (.lstore 13, 2) := by decide +kernel
theorem dX3_surveySizes_88 : decode cX3_surveySizes 88 = .ok (.lload 11, 2) := by decide +kernel
theorem dX3_surveySizes_90 : decode cX3_surveySizes 90 = .ok (.lload 13, 2) := by decide +kernel
theorem dX3_surveySizes_92 : decode cX3_surveySizes 92 = .ok (.lcmp, 1) := by decide +kernel
theorem dX3_surveySizes_93 : decode cX3_surveySizes 93 = .ok (.ifCond .eq 129, 3) := by decide +kernel
theorem dX3_surveySizes_96 : decode cX3_surveySizes 96 = .ok (.lload 4, 2) := by decide +kernel
theorem dX3_surveySizes_98 : decode cX3_surveySizes 98 = .ok (.iload 8, 2) := by decide +kernel
theorem dX3_surveySizes_100 : decode cX3_surveySizes 100 = .ok (.iload 10, 2) := by decide +kernel
theorem dX3_surveySizes_102 : decode cX3_surveySizes 102 = .ok (.iload_n 2, 1) := by decide +kernel
theorem dX3_surveySizes_103 : decode cX3_surveySizes 103 = .ok (.lload 13, 2) := by decide +kernel
theorem dX3_surveySizes_105 : decode cX3_surveySizes 105 = .ok (.iload_n 3, 1) := by decide +kernel
theorem dX3_surveySizes_106 : decode cX3_surveySizes 106 = .ok (.invokestatic 74, 3) := by decide +kernel
theorem dX3_surveySizes_109 : decode cX3_surveySizes 109 = .ok (.lload 6, 2) := by decide +kernel
theorem dX3_surveySizes_111 : decode cX3_surveySizes 111 = .ok (.lcmp, 1) := by decide +kernel
theorem dX3_surveySizes_112 : decode cX3_surveySizes 112 = .ok (.ifCond .ne 110, 3) := by decide +kernel
theorem dX3_surveySizes_115 : decode cX3_surveySizes 115 = .ok (.lload 4, 2) := by decide +kernel
theorem dX3_surveySizes_117 : decode cX3_surveySizes 117 = .ok (.lload 6, 2) := by decide +kernel
theorem dX3_surveySizes_119 : decode cX3_surveySizes 119 = .ok (.lload 11, 2) := by decide +kernel
theorem dX3_surveySizes_121 : decode cX3_surveySizes 121 = .ok (.lload 13, 2) := by decide +kernel
theorem dX3_surveySizes_123 : decode cX3_surveySizes 123 = .ok (.iload 10, 2) := by decide +kernel
theorem dX3_surveySizes_125 : decode cX3_surveySizes 125 = .ok (.invokestatic 78, 3) := by decide +kernel
theorem dX3_surveySizes_128 : decode cX3_surveySizes 128 = .ok (.ifCond .ne 94, 3) := by decide +kernel
theorem dX3_surveySizes_131 : decode cX3_surveySizes 131 = .ok (.aload_n 1, 1) := by decide +kernel
theorem dX3_surveySizes_132 : decode cX3_surveySizes 132 = .ok (.lload 11, 2) := by decide +kernel
theorem dX3_surveySizes_134 : decode cX3_surveySizes 134 = .ok (.lload 13, 2) := by decide +kernel
theorem dX3_surveySizes_136 : decode cX3_surveySizes 136 = .ok (.invokestatic 82, 3) := by decide +kernel
theorem dX3_surveySizes_139 : decode cX3_surveySizes 139 = .ok (.ifCond .eq 83, 3) := by decide +kernel
theorem dX3_surveySizes_142 : decode cX3_surveySizes 142 = .ok (.aload_n 0, 1) := by decide +kernel
theorem dX3_surveySizes_143 : decode cX3_surveySizes 143 = .ok (.dup, 1) := by decide +kernel
theorem dX3_surveySizes_144 : decode cX3_surveySizes 144 = .ok (.getfield 43, 3) := by decide +kernel
theorem dX3_surveySizes_147 : decode cX3_surveySizes 147 = .ok (.iconst 1, 1) := by decide +kernel
theorem dX3_surveySizes_148 : decode cX3_surveySizes 148 = .ok (.iadd, 1) := by decide +kernel
theorem dX3_surveySizes_149 : decode cX3_surveySizes 149 = .ok (.putfield 43, 3) := by decide +kernel
theorem dX3_surveySizes_152 : decode cX3_surveySizes 152 = .ok (.lload 11, 2) := by decide +kernel
theorem dX3_surveySizes_154 : decode cX3_surveySizes 154 = .ok (.aload_n 0, 1) := by decide +kernel
theorem dX3_surveySizes_155 : decode cX3_surveySizes 155 = .ok (.getfield 48, 3) := by decide +kernel
theorem dX3_surveySizes_158 : decode cX3_surveySizes 158 = .ok (.lcmp, 1) := by decide +kernel
theorem dX3_surveySizes_159 : decode cX3_surveySizes 159 = .ok (.ifCond .lt 23, 3) := by decide +kernel
theorem dX3_surveySizes_162 : decode cX3_surveySizes 162 = .ok (.lload 11, 2) := by decide +kernel
theorem dX3_surveySizes_164 : decode cX3_surveySizes 164 = .ok (.aload_n 0, 1) := by decide +kernel
theorem dX3_surveySizes_165 : decode cX3_surveySizes 165 = .ok (.getfield 48, 3) := by decide +kernel
theorem dX3_surveySizes_168 : decode cX3_surveySizes 168 = .ok (.lcmp, 1) := by decide +kernel
theorem dX3_surveySizes_169 : decode cX3_surveySizes 169 = .ok (.ifCond .ne 17, 3) := by decide +kernel
theorem dX3_surveySizes_172 : decode cX3_surveySizes 172 = .ok (.lload 13, 2) := by decide +kernel
theorem dX3_surveySizes_174 : decode cX3_surveySizes 174 = .ok (.aload_n 0, 1) := by decide +kernel
theorem dX3_surveySizes_175 : decode cX3_surveySizes 175 = .ok (.getfield 52, 3) := by decide +kernel
theorem dX3_surveySizes_178 : decode cX3_surveySizes 178 = .ok (.lcmp, 1) := by decide +kernel
theorem dX3_surveySizes_179 : decode cX3_surveySizes 179 = .ok (.ifCond .ge 7, 3) := by decide +kernel
theorem dX3_surveySizes_182 : decode cX3_surveySizes 182 = .ok (.iconst 1, 1) := by decide +kernel
theorem dX3_surveySizes_183 : decode cX3_surveySizes 183 = .ok (.goto 4, 3) := by decide +kernel
theorem dX3_surveySizes_186 : decode cX3_surveySizes 186 = .ok (.iconst 0, 1) := by decide +kernel
theorem dX3_surveySizes_187 : decode cX3_surveySizes 187 = .ok (.istore 15, 2) := by decide +kernel
theorem dX3_surveySizes_189 : decode cX3_surveySizes 189 = .ok (.iload 9, 2) := by decide +kernel
theorem dX3_surveySizes_191 : decode cX3_surveySizes 191 = .ok (.ifCond .eq 31, 3) := by decide +kernel
theorem dX3_surveySizes_194 : decode cX3_surveySizes 194 = .ok (.aload_n 0, 1) := by decide +kernel
theorem dX3_surveySizes_195 : decode cX3_surveySizes 195 = .ok (.getfield 48, 3) := by decide +kernel
theorem dX3_surveySizes_198 : decode cX3_surveySizes 198 = .ok (.ldc2_w 46, 3) := by decide +kernel
theorem dX3_surveySizes_201 : decode cX3_surveySizes 201 = .ok (.lcmp, 1) := by decide +kernel
theorem dX3_surveySizes_202 : decode cX3_surveySizes 202 = .ok (.ifCond .eq 8, 3) := by decide +kernel
theorem dX3_surveySizes_205 : decode cX3_surveySizes 205 = .ok (.iload 15, 2) := by decide +kernel
theorem dX3_surveySizes_207 : decode cX3_surveySizes 207 = .ok (.ifCond .eq 15, 3) := by decide +kernel
theorem dX3_surveySizes_210 : decode cX3_surveySizes 210 = .ok (.aload_n 0, 1) := by decide +kernel
theorem dX3_surveySizes_211 : decode cX3_surveySizes 211 = .ok (.lload 11, 2) := by decide +kernel
theorem dX3_surveySizes_213 : decode cX3_surveySizes 213 = .ok (.putfield 48, 3) := by decide +kernel
theorem dX3_surveySizes_216 : decode cX3_surveySizes 216 = .ok (.aload_n 0, 1) := by decide +kernel
theorem dX3_surveySizes_217 : decode cX3_surveySizes 217 = .ok (.lload 13, 2) := by decide +kernel
theorem dX3_surveySizes_219 : decode cX3_surveySizes 219 = .ok (.putfield 52, 3) := by decide +kernel
theorem dX3_surveySizes_222 : decode cX3_surveySizes 222 = .ok (.iinc 10 1, 3) := by decide +kernel
theorem dX3_surveySizes_225 : decode cX3_surveySizes 225 = .ok (.goto (-181), 3) := by decide +kernel
theorem dX3_surveySizes_228 : decode cX3_surveySizes 228 = .ok (.return_, 1) := by decide +kernel
theorem dX3_cameEarlier_0 : decode cX3_cameEarlier 0 = .ok (.lload_n 0, 1) := by decide +kernel
theorem dX3_cameEarlier_1 : decode cX3_cameEarlier 1 = .ok (.invokestatic 59, 3) := by decide +kernel
theorem dX3_cameEarlier_4 : decode cX3_cameEarlier 4 = .ok (.istore 9, 2) := by decide +kernel
theorem dX3_cameEarlier_6 : decode cX3_cameEarlier 6 = .ok (.lload 4, 2) := by decide +kernel
theorem dX3_cameEarlier_8 : decode cX3_cameEarlier 8 = .ok (.invokestatic 59, 3) := by decide +kernel
theorem dX3_cameEarlier_11 : decode cX3_cameEarlier 11 = .ok (.istore 10, 2) := by decide +kernel
theorem dX3_cameEarlier_13 : decode cX3_cameEarlier 13 = .ok (.lload 6, 2) := by decide +kernel
theorem dX3_cameEarlier_15 : decode cX3_cameEarlier 15 = .ok (.invokestatic 59, 3) := by decide +kernel
theorem dX3_cameEarlier_18 : decode cX3_cameEarlier 18 = .ok (.istore 11, 2) := by decide +kernel
theorem dX3_cameEarlier_20 : decode cX3_cameEarlier 20 = .ok (.iconst 0, 1) := by decide +kernel
theorem dX3_cameEarlier_21 : decode cX3_cameEarlier 21 = .ok (.istore 12, 2) := by decide +kernel
theorem dX3_cameEarlier_23 : decode cX3_cameEarlier 23 = .ok (.iload 12, 2) := by decide +kernel
theorem dX3_cameEarlier_25 : decode cX3_cameEarlier 25 = .ok (.iload 8, 2) := by decide +kernel
theorem dX3_cameEarlier_27 : decode cX3_cameEarlier 27 = .ok (.if_icmp .ge 45, 3) := by decide +kernel
theorem dX3_cameEarlier_30 : decode cX3_cameEarlier 30 = .ok (.lload_n 0, 1) := by decide +kernel
theorem dX3_cameEarlier_31 : decode cX3_cameEarlier 31 = .ok (.iload 9, 2) := by decide +kernel
theorem dX3_cameEarlier_33 : decode cX3_cameEarlier 33 = .ok (.iload 12, 2) := by decide +kernel
theorem dX3_cameEarlier_35 : decode cX3_cameEarlier 35 = .ok (.lload 4, 2) := by decide +kernel
theorem dX3_cameEarlier_37 : decode cX3_cameEarlier 37 = .ok (.iload 10, 2) := by decide +kernel
theorem dX3_cameEarlier_39 : decode cX3_cameEarlier 39 = .ok (.invokestatic 86, 3) := by decide +kernel
theorem dX3_cameEarlier_42 : decode cX3_cameEarlier 42 = .ok (.ifCond .eq 24, 3) := by decide +kernel
theorem dX3_cameEarlier_45 : decode cX3_cameEarlier 45 = .ok (.lload_n 0, 1) := by decide +kernel
theorem dX3_cameEarlier_46 : decode cX3_cameEarlier 46 = .ok (.iload 9, 2) := by decide +kernel
theorem dX3_cameEarlier_48 : decode cX3_cameEarlier 48 = .ok (.iload 12, 2) := by decide +kernel
theorem dX3_cameEarlier_50 : decode cX3_cameEarlier 50 = .ok (.iload 10, 2) := by decide +kernel
theorem dX3_cameEarlier_52 : decode cX3_cameEarlier 52 = .ok (.lload 6, 2) := by decide +kernel
theorem dX3_cameEarlier_54 : decode cX3_cameEarlier 54 = .ok (.iload 11, 2) := by decide +kernel
theorem dX3_cameEarlier_56 : decode cX3_cameEarlier 56 = .ok (.invokestatic 74, 3) := by decide +kernel
theorem dX3_cameEarlier_59 : decode cX3_cameEarlier 59 = .ok (.lload_n 2, 1) := by decide +kernel
theorem dX3_cameEarlier_60 : decode cX3_cameEarlier 60 = .ok (.lcmp, 1) := by decide +kernel
theorem dX3_cameEarlier_61 : decode cX3_cameEarlier 61 = .ok (.ifCond .ne 5, 3) := by decide +kernel
theorem dX3_cameEarlier_64 : decode cX3_cameEarlier 64 = .ok (.iconst 1, 1) := by decide +kernel
theorem dX3_cameEarlier_65 : decode cX3_cameEarlier 65 = .ok (.ireturn, 1) := by decide +kernel
theorem dX3_cameEarlier_66 : decode cX3_cameEarlier 66 = .ok (.iinc 12 1, 3) := by decide +kernel
theorem dX3_cameEarlier_69 : decode cX3_cameEarlier 69 = .ok (.goto (-46), 3) := by decide +kernel
theorem dX3_cameEarlier_72 : decode cX3_cameEarlier 72 = .ok (.iconst 0, 1) := by decide +kernel
theorem dX3_cameEarlier_73 : decode cX3_cameEarlier 73 = .ok (.ireturn, 1) := by decide +kernel
theorem dX3_tellsAll_0 : decode cX3_tellsAll 0 = .ok (.iconst 0, 1) := by decide +kernel
theorem dX3_tellsAll_1 : decode cX3_tellsAll 1 = .ok (.istore 5, 2) := by decide +kernel
theorem dX3_tellsAll_3 : decode cX3_tellsAll 3 = .ok (.iload 5, 2) := by decide +kernel
theorem dX3_tellsAll_5 : decode cX3_tellsAll 5 = .ok (.aload_n 0, 1) := by decide +kernel
theorem dX3_tellsAll_6 : decode cX3_tellsAll 6 = .ok (.getfield 15, 3) := by decide +kernel
theorem dX3_tellsAll_9 : decode cX3_tellsAll 9 = .ok (.if_icmp .ge 33, 3) := by decide +kernel
theorem dX3_tellsAll_12 : decode cX3_tellsAll 12 = .ok (.aload_n 0, 1) := by decide +kernel
theorem dX3_tellsAll_13 : decode cX3_tellsAll 13 = .ok (.getfield 63, 3) := by decide +kernel
theorem dX3_tellsAll_16 : decode cX3_tellsAll 16 = .ok (.iload 5, 2) := by decide +kernel
theorem dX3_tellsAll_18 : decode cX3_tellsAll 18 = .ok (.laload, 1) := by decide +kernel
theorem dX3_tellsAll_19 : decode cX3_tellsAll 19 = .ok (.aload_n 0, 1) := by decide +kernel
theorem dX3_tellsAll_20 : decode cX3_tellsAll 20 = .ok (.getfield 55, 3) := by decide +kernel
theorem dX3_tellsAll_23 : decode cX3_tellsAll 23 = .ok (.iload 5, 2) := by decide +kernel
theorem dX3_tellsAll_25 : decode cX3_tellsAll 25 = .ok (.laload, 1) := by decide +kernel
theorem dX3_tellsAll_26 : decode cX3_tellsAll 26 = .ok (.lload_n 1, 1) := by decide +kernel
theorem dX3_tellsAll_27 : decode cX3_tellsAll 27 = .ok (.lload_n 3, 1) := by decide +kernel
theorem dX3_tellsAll_28 : decode cX3_tellsAll 28 = .ok (.invokestatic 90, 3) := by decide +kernel
theorem dX3_tellsAll_31 : decode cX3_tellsAll 31 = .ok (.ifCond .ne 5, 3) := by decide +kernel
theorem dX3_tellsAll_34 : decode cX3_tellsAll 34 = .ok (.iconst 0, 1) := by decide +kernel
theorem dX3_tellsAll_35 : decode cX3_tellsAll 35 = .ok (.ireturn, 1) := by decide +kernel
theorem dX3_tellsAll_36 : decode cX3_tellsAll 36 = .ok (.iinc 5 1, 3) := by decide +kernel
theorem dX3_tellsAll_39 : decode cX3_tellsAll 39 = .ok (.goto (-36), 3) := by decide +kernel
theorem dX3_tellsAll_42 : decode cX3_tellsAll 42 = .ok (.iconst 1, 1) := by decide +kernel
theorem dX3_tellsAll_43 : decode cX3_tellsAll 43 = .ok (.ireturn, 1) := by decide +kernel
theorem dX4_init_0 : decode cX4_init 0 = .ok (.aload_n 0, 1) := by decide +kernel
theorem dX4_init_1 : decode cX4_init 1 = .ok (.invokespecial 5, 3) := by decide +kernel
theorem dX4_init_4 : decode cX4_init 4 = .ok (.aload_n 0, 1) := by decide +kernel
theorem dX4_init_5 : decode cX4_init 5 = .ok (.sipush 1500, 3) := by decide +kernel
theorem dX4_init_8 : decode cX4_init 8 = .ok (.newarray .long, 2) := by decide +kernel
theorem dX4_init_10 : decode cX4_init 10 = .ok (.putfield 11, 3) := by decide +kernel
theorem dX4_init_13 : decode cX4_init 13 = .ok (.aload_n 0, 1) := by decide +kernel
theorem dX4_init_14 : decode cX4_init 14 = .ok (.sipush 1500, 3) := by decide +kernel
theorem dX4_init_17 : decode cX4_init 17 = .ok (.newarray .int, 2) := by decide +kernel
theorem dX4_init_19 : decode cX4_init 19 = .ok (.putfield 15, 3) := by decide +kernel
theorem dX4_init_22 : decode cX4_init 22 = .ok (.aload_n 0, 1) := by decide +kernel
theorem dX4_init_23 : decode cX4_init 23 = .ok (.sipush 4096, 3) := by decide +kernel
theorem dX4_init_26 : decode cX4_init 26 = .ok (.newarray .int, 2) := by decide +kernel
theorem dX4_init_28 : decode cX4_init 28 = .ok (.putfield 19, 3) := by decide +kernel
theorem dX4_init_31 : decode cX4_init 31 = .ok (.return_, 1) := by decide +kernel
theorem dX4_begin_0 : decode cX4_begin 0 = .ok (.aload_n 0, 1) := by decide +kernel
theorem dX4_begin_1 : decode cX4_begin 1 = .ok (.getfield 19, 3) := by decide +kernel
theorem dX4_begin_4 : decode cX4_begin 4 = .ok (.iconst 0, 1) := by decide +kernel
theorem dX4_begin_5 : decode cX4_begin 5 = .ok (.invokestatic 22, 3) := by decide +kernel
theorem dX4_begin_8 : decode cX4_begin 8 = .ok (.aload_n 0, 1) := by decide +kernel
theorem dX4_begin_9 : decode cX4_begin 9 = .ok (.iconst 0, 1) := by decide +kernel
theorem dX4_begin_10 : decode cX4_begin 10 = .ok (.putfield 28, 3) := by decide +kernel
theorem dX4_begin_13 : decode cX4_begin 13 = .ok (.aload_n 0, 1) := by decide +kernel
theorem dX4_begin_14 : decode cX4_begin 14 = .ok (.iconst 0, 1) := by decide +kernel
theorem dX4_begin_15 : decode cX4_begin 15 = .ok (.putfield 32, 3) := by decide +kernel
theorem dX4_begin_18 : decode cX4_begin 18 = .ok (.aload_n 0, 1) := by decide +kernel
theorem dX4_begin_19 : decode cX4_begin 19 = .ok (.iconst 0, 1) := by decide +kernel
theorem dX4_begin_20 : decode cX4_begin 20 = .ok (.putfield 35, 3) := by decide +kernel
theorem dX4_begin_23 : decode cX4_begin 23 = .ok (.aload_n 0, 1) := by decide +kernel
theorem dX4_begin_24 : decode cX4_begin 24 = .ok (.lload_n 1, 1) := by decide +kernel
theorem dX4_begin_25 : decode cX4_begin 25 = .ok (.iconst 0, 1) := by decide +kernel
theorem dX4_begin_26 : decode cX4_begin 26 = .ok (.invokevirtual 38, 3) := by decide +kernel
theorem dX4_begin_29 : decode cX4_begin 29 = .ok (.pop, 1) := by decide +kernel
theorem dX4_begin_30 : decode cX4_begin 30 = .ok (.return_, 1) := by decide +kernel
theorem dX4_indexOf_0 : decode cX4_indexOf 0 = .ok (.aload_n 0, 1) := by decide +kernel
theorem dX4_indexOf_1 : decode cX4_indexOf 1 = .ok (.getfield 19, 3) := by decide +kernel
theorem dX4_indexOf_4 : decode cX4_indexOf 4 = .ok (.aload_n 0, 1) := by decide +kernel
theorem dX4_indexOf_5 : decode cX4_indexOf 5 = .ok (.lload_n 1, 1) := by decide +kernel
theorem dX4_indexOf_6 : decode cX4_indexOf 6 = .ok (.invokevirtual 42, 3) := by decide +kernel
theorem dX4_indexOf_9 : decode cX4_indexOf 9 = .ok (.iaload, 1) := by decide +kernel
theorem dX4_indexOf_10 : decode cX4_indexOf 10 = .ok (.iconst 1, 1) := by decide +kernel
theorem dX4_indexOf_11 : decode cX4_indexOf 11 = .ok (.isub, 1) := by decide +kernel
theorem dX4_indexOf_12 : decode cX4_indexOf 12 = .ok (.ireturn, 1) := by decide +kernel
theorem dX4_slotOf_0 : decode cX4_slotOf 0 = .ok (.lload_n 1, 1) := by decide +kernel
theorem dX4_slotOf_1 : decode cX4_slotOf 1 = .ok (.ldc2_w 46, 3) := by decide +kernel
theorem dX4_slotOf_4 : decode cX4_slotOf 4 = .ok (.lmul, 1) := by decide +kernel
theorem dX4_slotOf_5 : decode cX4_slotOf 5 = .ok (.bipush 52, 2) := by decide +kernel
theorem dX4_slotOf_7 : decode cX4_slotOf 7 = .ok (.lushr, 1) := by decide +kernel
theorem dX4_slotOf_8 : decode cX4_slotOf 8 = .ok (.l2i, 1) := by decide +kernel
theorem dX4_slotOf_9 : decode cX4_slotOf 9 = .ok (.istore_n 3, 1) := by decide +kernel
theorem dX4_slotOf_10 : decode cX4_slotOf 10 = .ok (.iconst 0, 1) := by decide +kernel
theorem dX4_slotOf_11 : decode cX4_slotOf 11 = .ok (.istore 4, 2) := by decide +kernel
theorem dX4_slotOf_13 : decode cX4_slotOf 13 = .ok (.iload 4, 2) := by decide +kernel
theorem dX4_slotOf_15 : decode cX4_slotOf 15 = .ok (.sipush 4096, 3) := by decide +kernel
theorem dX4_slotOf_18 : decode cX4_slotOf 18 = .ok (.if_icmp .ge 46, 3) := by decide +kernel
theorem dX4_slotOf_21 : decode cX4_slotOf 21 = .ok (.aload_n 0, 1) := by decide +kernel
theorem dX4_slotOf_22 : decode cX4_slotOf 22 = .ok (.getfield 19, 3) := by decide +kernel
theorem dX4_slotOf_25 : decode cX4_slotOf 25 = .ok (.iload_n 3, 1) := by decide +kernel
theorem dX4_slotOf_26 : decode cX4_slotOf 26 = .ok (.iaload, 1) := by decide +kernel
theorem dX4_slotOf_27 : decode cX4_slotOf 27 = .ok (.iconst 1, 1) := by decide +kernel
theorem dX4_slotOf_28 : decode cX4_slotOf 28 = .ok (.isub, 1) := by decide +kernel
theorem dX4_slotOf_29 : decode cX4_slotOf 29 = .ok (.istore 5, 2) := by decide +kernel
theorem dX4_slotOf_31 : decode cX4_slotOf 31 = .ok (.iload 5, 2) := by decide +kernel
theorem dX4_slotOf_33 : decode cX4_slotOf 33 = .ok (.ifCond .lt 15, 3) := by decide +kernel
theorem dX4_slotOf_36 : decode cX4_slotOf 36 = .ok (.aload_n 0, 1) := by decide +kernel
theorem dX4_slotOf_37 : decode cX4_slotOf 37 = .ok (.getfield 11, 3) := by decide +kernel
theorem dX4_slotOf_40 : decode cX4_slotOf 40 = .ok (.iload 5, 2) := by decide +kernel
theorem dX4_slotOf_42 : decode cX4_slotOf 42 = .ok (.laload, 1) := by decide +kernel
theorem dX4_slotOf_43 : decode cX4_slotOf 43 = .ok (.lload_n 1, 1) := by decide +kernel
theorem dX4_slotOf_44 : decode cX4_slotOf 44 = .ok (.lcmp, 1) := by decide +kernel
theorem dX4_slotOf_45 : decode cX4_slotOf 45 = .ok (.ifCond .ne 5, 3) := by decide +kernel
theorem dX4_slotOf_48 : decode cX4_slotOf 48 = .ok (.iload_n 3, 1) := by decide +kernel
theorem dX4_slotOf_49 : decode cX4_slotOf 49 = .ok (.ireturn, 1) := by decide +kernel
theorem dX4_slotOf_50 : decode cX4_slotOf 50 = .ok (.iload_n 3, 1) := by decide +kernel
theorem dX4_slotOf_51 : decode cX4_slotOf 51 = .ok (.iconst 1, 1) := by decide +kernel
theorem dX4_slotOf_52 : decode cX4_slotOf 52 = .ok (.iadd, 1) := by decide +kernel
theorem dX4_slotOf_53 : decode cX4_slotOf 53 = .ok (.sipush 4096, 3) := by decide +kernel
theorem dX4_slotOf_56 : decode cX4_slotOf 56 = .ok (.irem, 1) := by decide +kernel
theorem dX4_slotOf_57 : decode cX4_slotOf 57 = .ok (.istore_n 3, 1) := by decide +kernel
theorem dX4_slotOf_58 : decode cX4_slotOf 58 = .ok (.iinc 4 1, 3) := by decide +kernel
theorem dX4_slotOf_61 : decode cX4_slotOf 61 = .ok (.goto (-48), 3) := by decide +kernel
theorem dX4_slotOf_64 : decode cX4_slotOf 64 = .ok (.iload_n 3, 1) := by decide +kernel
theorem dX4_slotOf_65 : decode cX4_slotOf 65 = .ok (.ireturn, 1) := by decide +kernel
theorem dX4_take_0 : decode cX4_take 0 = .ok (.aload_n 0, 1) := by decide +kernel
theorem dX4_take_1 : decode cX4_take 1 = .ok (.lload_n 1, 1) := by decide +kernel
theorem dX4_take_2 : decode cX4_take 2 = .ok (.invokevirtual 42, 3) := by decide +kernel
theorem dX4_take_5 : decode cX4_take 5 = .ok (.istore 4, 2) := by decide +kernel
theorem dX4_take_7 : decode cX4_take 7 = .ok (.aload_n 0, 1) := by decide +kernel
theorem dX4_take_8 : decode cX4_take 8 = .ok (.getfield 19, 3) := by decide +kernel
theorem dX4_take_11 : decode cX4_take 11 = .ok (.iload 4, 2) := by decide +kernel
theorem dX4_take_13 : decode cX4_take 13 = .ok (.iaload, 1) := by decide +kernel
theorem dX4_take_14 : decode cX4_take 14 = .ok (.ifCond .eq 5, 3) := by decide +kernel
theorem dX4_take_17 : decode cX4_take 17 = .ok (.iconst 1, 1) := by decide +kernel
theorem dX4_take_18 : decode cX4_take 18 = .ok (.ireturn, 1) := by decide +kernel
theorem dX4_take_19 : decode cX4_take 19 = .ok (.aload_n 0, 1) := by decide +kernel
theorem dX4_take_20 : decode cX4_take 20 = .ok (.getfield 28, 3) := by decide +kernel
theorem dX4_take_23 : decode cX4_take 23 = .ok (.sipush 1500, 3) := by decide +kernel
theorem dX4_take_26 : decode cX4_take 26 = .ok (.if_icmp .lt 5, 3) := by decide +kernel
theorem dX4_take_29 : decode cX4_take 29 = .ok (.iconst 0, 1) := by decide +kernel
theorem dX4_take_30 : decode cX4_take 30 = .ok (.ireturn, 1) := by decide +kernel
theorem dX4_take_31 : decode cX4_take 31 = .ok (.aload_n 0, 1) := by decide +kernel
theorem dX4_take_32 : decode cX4_take 32 = .ok (.getfield 11, 3) := by decide +kernel
theorem dX4_take_35 : decode cX4_take 35 = .ok (.aload_n 0, 1) := by decide +kernel
theorem dX4_take_36 : decode cX4_take 36 = .ok (.getfield 28, 3) := by decide +kernel
theorem dX4_take_39 : decode cX4_take 39 = .ok (.lload_n 1, 1) := by decide +kernel
theorem dX4_take_40 : decode cX4_take 40 = .ok (.lastore, 1) := by decide +kernel
theorem dX4_take_41 : decode cX4_take 41 = .ok (.aload_n 0, 1) := by decide +kernel
theorem dX4_take_42 : decode cX4_take 42 = .ok (.getfield 15, 3) := by decide +kernel
theorem dX4_take_45 : decode cX4_take 45 = .ok (.aload_n 0, 1) := by decide +kernel
theorem dX4_take_46 : decode cX4_take 46 = .ok (.getfield 28, 3) := by decide +kernel
theorem dX4_take_49 : decode cX4_take 49 = .ok (.iload_n 3, 1) := by decide +kernel
theorem dX4_take_50 : decode cX4_take 50 = .ok (.iastore, 1) := by decide +kernel
theorem dX4_take_51 : decode cX4_take 51 = .ok (.aload_n 0, 1) := by decide +kernel
theorem dX4_take_52 : decode cX4_take 52 = .ok (.dup, 1) := by decide +kernel
theorem dX4_take_53 : decode cX4_take 53 = .ok (.getfield 28, 3) := by decide +kernel
theorem dX4_take_56 : decode cX4_take 56 = .ok (.iconst 1, 1) := by decide +kernel
theorem dX4_take_57 : decode cX4_take 57 = .ok (.iadd, 1) := by decide +kernel
theorem dX4_take_58 : decode cX4_take 58 = .ok (.putfield 28, 3) := by decide +kernel
theorem dX4_take_61 : decode cX4_take 61 = .ok (.aload_n 0, 1) := by decide +kernel
theorem dX4_take_62 : decode cX4_take 62 = .ok (.getfield 19, 3) := by decide +kernel
theorem dX4_take_65 : decode cX4_take 65 = .ok (.iload 4, 2) := by decide +kernel
theorem dX4_take_67 : decode cX4_take 67 = .ok (.aload_n 0, 1) := by decide +kernel
theorem dX4_take_68 : decode cX4_take 68 = .ok (.getfield 28, 3) := by decide +kernel
theorem dX4_take_71 : decode cX4_take 71 = .ok (.iastore, 1) := by decide +kernel
theorem dX4_take_72 : decode cX4_take 72 = .ok (.iconst 1, 1) := by decide +kernel
theorem dX4_take_73 : decode cX4_take 73 = .ok (.ireturn, 1) := by decide +kernel
theorem dX4_spread_0 : decode cX4_spread 0 = .ok (.aload_n 0, 1) := by decide +kernel
theorem dX4_spread_1 : decode cX4_spread 1 = .ok (.lload_n 2, 1) := by decide +kernel
theorem dX4_spread_2 : decode cX4_spread 2 = .ok (.invokevirtual 48, 3) := by decide +kernel
theorem dX4_spread_5 : decode cX4_spread 5 = .ok (.iconst 0, 1) := by decide +kernel
theorem dX4_spread_6 : decode cX4_spread 6 = .ok (.istore 5, 2) := by decide +kernel
theorem dX4_spread_8 : decode cX4_spread 8 = .ok (.iload 5, 2) := by decide +kernel
theorem dX4_spread_10 : decode cX4_spread 10 = .ok (.iload 4, 2) := by decide +kernel
theorem dX4_spread_12 : decode cX4_spread 12 = .ok (.if_icmp .ge 26, 3) := by decide +kernel
theorem dX4_spread_15 : decode cX4_spread 15 = .ok (.aload_n 0, 1) := by decide +kernel
theorem dX4_spread_16 : decode cX4_spread 16 = .ok (.invokevirtual 52, 3) := by decide +kernel
theorem dX4_spread_19 : decode cX4_spread 19 = .ok (.ifCond .eq 19, 3) := by decide +kernel
theorem dX4_spread_22 : decode cX4_spread 22 = .ok (.aload_n 0, 1) := by decide +kernel
theorem dX4_spread_23 : decode cX4_spread 23 = .ok (.aload_n 1, 1) := by decide +kernel
theorem dX4_spread_24 : decode cX4_spread 24 = .ok (.invokevirtual 56, 3) := by decide +kernel
theorem dX4_spread_27 : decode cX4_spread 27 = .ok (.ifCond .ne 5, 3) := by decide +kernel
theorem dX4_spread_30 : decode cX4_spread 30 = .ok (.iconst 0, 1) := by decide +kernel
theorem dX4_spread_31 : decode cX4_spread 31 = .ok (.ireturn, 1) := by decide +kernel
theorem dX4_spread_32 : decode cX4_spread 32 = .ok (.iinc 5 1, 3) := by decide +kernel
theorem dX4_spread_35 : decode cX4_spread 35 = .ok (.goto (-27), 3) := by decide +kernel
theorem dX4_spread_38 : decode cX4_spread 38 = .ok (.iconst 1, 1) := by decide +kernel
theorem dX4_spread_39 : decode cX4_spread 39 = .ok (.ireturn, 1) := by decide +kernel
theorem dX4_goesOn_0 : decode cX4_goesOn 0 = .ok (.aload_n 0, 1) := by decide +kernel
theorem dX4_goesOn_1 : decode cX4_goesOn 1 = .ok (.getfield 35, 3) := by decide +kernel
theorem dX4_goesOn_4 : decode cX4_goesOn 4 = .ok (.aload_n 0, 1) := by decide +kernel
theorem dX4_goesOn_5 : decode cX4_goesOn 5 = .ok (.getfield 28, 3) := by decide +kernel
theorem dX4_goesOn_8 : decode cX4_goesOn 8 = .ok (.if_icmp .ge 7, 3) := by decide +kernel
theorem dX4_goesOn_11 : decode cX4_goesOn 11 = .ok (.iconst 1, 1) := by decide +kernel
theorem dX4_goesOn_12 : decode cX4_goesOn 12 = .ok (.goto 4, 3) := by decide +kernel
theorem dX4_goesOn_15 : decode cX4_goesOn 15 = .ok (.iconst 0, 1) := by decide +kernel
theorem dX4_goesOn_16 : decode cX4_goesOn 16 = .ok (.ireturn, 1) := by decide +kernel
theorem dX4_spreadOnce_0 : decode cX4_spreadOnce 0 = .ok (.aload_n 0, 1) := by decide +kernel
theorem dX4_spreadOnce_1 : decode cX4_spreadOnce 1 = .ok (.getfield 28, 3) := by decide +kernel
theorem dX4_spreadOnce_4 : decode cX4_spreadOnce 4 = .ok (.istore_n 2, 1) := by decide +kernel
theorem dX4_spreadOnce_5 : decode cX4_spreadOnce 5 = .ok (.aload_n 0, 1) := by decide +kernel
theorem dX4_spreadOnce_6 : decode cX4_spreadOnce 6 = .ok (.dup, 1) := by decide +kernel
theorem dX4_spreadOnce_7 : decode cX4_spreadOnce 7 = .ok (.getfield 32, 3) := by decide +kernel
theorem dX4_spreadOnce_10 : decode cX4_spreadOnce 10 = .ok (.iconst 1, 1) := by decide +kernel
theorem dX4_spreadOnce_11 : decode cX4_spreadOnce 11 = .ok (.iadd, 1) := by decide +kernel
theorem dX4_spreadOnce_12 : decode cX4_spreadOnce 12 = .ok (.putfield 32, 3) := by decide +kernel
theorem dX4_spreadOnce_15 : decode cX4_spreadOnce 15 = .ok (.aload_n 0, 1) := by decide +kernel
theorem dX4_spreadOnce_16 : decode cX4_spreadOnce 16 = .ok (.getfield 35, 3) := by decide +kernel
theorem dX4_spreadOnce_19 : decode cX4_spreadOnce 19 = .ok (.istore_n 3, 1) := by decide +kernel
theorem dX4_spreadOnce_20 : decode cX4_spreadOnce 20 = .ok (.iload_n 3, 1) := by decide +kernel
theorem dX4_spreadOnce_21 : decode cX4_spreadOnce 21 = .ok (.iload_n 2, 1) := by decide +kernel
theorem dX4_spreadOnce_22 : decode cX4_spreadOnce 22 = .ok (.if_icmp .ge 67, 3) := by decide +kernel
theorem dX4_spreadOnce_25 : decode cX4_spreadOnce 25 = .ok (.aload_n 1, 1) := by decide +kernel
theorem dX4_spreadOnce_26 : decode cX4_spreadOnce 26 = .ok (.aload_n 0, 1) := by decide +kernel
theorem dX4_spreadOnce_27 : decode cX4_spreadOnce 27 = .ok (.getfield 11, 3) := by decide +kernel
theorem dX4_spreadOnce_30 : decode cX4_spreadOnce 30 = .ok (.iload_n 3, 1) := by decide +kernel
theorem dX4_spreadOnce_31 : decode cX4_spreadOnce 31 = .ok (.laload, 1) := by decide +kernel
theorem dX4_spreadOnce_32 : decode cX4_spreadOnce 32 = .ok (.invokevirtual 60, 3) := by decide +kernel
theorem dX4_spreadOnce_35 : decode cX4_spreadOnce 35 = .ok (.istore 4, 2) := by decide +kernel
theorem dX4_spreadOnce_37 : decode cX4_spreadOnce 37 = .ok (.iconst 0, 1) := by decide +kernel
theorem dX4_spreadOnce_38 : decode cX4_spreadOnce 38 = .ok (.istore 5, 2) := by decide +kernel
theorem dX4_spreadOnce_40 : decode cX4_spreadOnce 40 = .ok (.iload 5, 2) := by decide +kernel
theorem dX4_spreadOnce_42 : decode cX4_spreadOnce 42 = .ok (.iload 4, 2) := by decide +kernel
theorem dX4_spreadOnce_44 : decode cX4_spreadOnce 44 = .ok (.if_icmp .ge 39, 3) := by decide +kernel
theorem dX4_spreadOnce_47 : decode cX4_spreadOnce 47 = .ok (.aload_n 0, 1) := by decide +kernel
theorem dX4_spreadOnce_48 : decode cX4_spreadOnce 48 = .ok (.aload_n 1, 1) := by decide +kernel
theorem dX4_spreadOnce_49 : decode cX4_spreadOnce 49 = .ok (.aload_n 0, 1) := by decide +kernel
theorem dX4_spreadOnce_50 : decode cX4_spreadOnce 50 = .ok (.getfield 11, 3) := by decide +kernel
theorem dX4_spreadOnce_53 : decode cX4_spreadOnce 53 = .ok (.iload_n 3, 1) := by decide +kernel
theorem dX4_spreadOnce_54 : decode cX4_spreadOnce 54 = .ok (.laload, 1) := by decide +kernel
theorem dX4_spreadOnce_55 : decode cX4_spreadOnce 55 = .ok (.aload_n 1, 1) := by decide +kernel
theorem dX4_spreadOnce_56 : decode cX4_spreadOnce 56 = .ok (.getfield 65, 3) := by decide +kernel
theorem dX4_spreadOnce_59 : decode cX4_spreadOnce 59 = .ok (.iload 5, 2) := by decide +kernel
theorem dX4_spreadOnce_61 : decode cX4_spreadOnce 61 = .ok (.iaload, 1) := by decide +kernel
theorem dX4_spreadOnce_62 : decode cX4_spreadOnce 62 = .ok (.invokevirtual 68, 3) := by decide +kernel
theorem dX4_spreadOnce_65 : decode cX4_spreadOnce 65 = .ok (.aload_n 0, 1) := by decide +kernel
theorem dX4_spreadOnce_66 : decode cX4_spreadOnce 66 = .ok (.getfield 32, 3) := by decide +kernel
theorem dX4_spreadOnce_69 : decode cX4_spreadOnce 69 = .ok (.invokevirtual 38, 3) := by decide +kernel
theorem dX4_spreadOnce_72 : decode cX4_spreadOnce 72 = .ok (.ifCond .ne 5, 3) := by decide +kernel
theorem dX4_spreadOnce_75 : decode cX4_spreadOnce 75 = .ok (.iconst 0, 1) := by decide +kernel
theorem dX4_spreadOnce_76 : decode cX4_spreadOnce 76 = .ok (.ireturn, 1) := by decide +kernel
theorem dX4_spreadOnce_77 : decode cX4_spreadOnce 77 = .ok (.iinc 5 1, 3) := by decide +kernel
theorem dX4_spreadOnce_80 : decode cX4_spreadOnce 80 = .ok (.goto (-40), 3) := by decide +kernel
theorem dX4_spreadOnce_83 : decode cX4_spreadOnce 83 = .ok (.iinc 3 1, 3) := by decide +kernel
theorem dX4_spreadOnce_86 : decode cX4_spreadOnce 86 = .ok (.goto (-66), 3) := by decide +kernel
theorem dX4_spreadOnce_89 : decode cX4_spreadOnce 89 = .ok (.aload_n 0, 1) := by decide +kernel
theorem dX4_spreadOnce_90 : decode cX4_spreadOnce 90 = .ok (.iload_n 2, 1) := by decide +kernel
theorem dX4_spreadOnce_91 : decode cX4_spreadOnce 91 = .ok (.putfield 35, 3) := by decide +kernel
theorem dX4_spreadOnce_94 : decode cX4_spreadOnce 94 = .ok (.iconst 1, 1) := by decide +kernel
theorem dX4_spreadOnce_95 : decode cX4_spreadOnce 95 = .ok (.ireturn, 1) := by decide +kernel
theorem dX4_mostBeasts_0 : decode cX4_mostBeasts 0 = .ok (.iconst 0, 1) := by decide +kernel
theorem dX4_mostBeasts_1 : decode cX4_mostBeasts 1 = .ok (.istore_n 1, 1) := by decide +kernel
theorem dX4_mostBeasts_2 : decode cX4_mostBeasts 2 = .ok (.iconst 0, 1) := by decide +kernel
theorem dX4_mostBeasts_3 : decode cX4_mostBeasts 3 = .ok (.istore_n 2, 1) := by decide +kernel
theorem dX4_mostBeasts_4 : decode cX4_mostBeasts 4 = .ok (.iload_n 2, 1) := by decide +kernel
theorem dX4_mostBeasts_5 : decode cX4_mostBeasts 5 = .ok (.aload_n 0, 1) := by decide +kernel
theorem dX4_mostBeasts_6 : decode cX4_mostBeasts 6 = .ok (.getfield 28, 3) := by decide +kernel
theorem dX4_mostBeasts_9 : decode cX4_mostBeasts 9 = .ok (.if_icmp .ge 23, 3) := by decide +kernel
theorem dX4_mostBeasts_12 : decode cX4_mostBeasts 12 = .ok (.iload_n 1, 1) := by decide +kernel
theorem dX4_mostBeasts_13 : decode cX4_mostBeasts 13 = .ok (.aload_n 0, 1) := by decide +kernel
theorem dX4_mostBeasts_14 : decode cX4_mostBeasts 14 = .ok (.getfield 11, 3) := by decide +kernel
theorem dX4_mostBeasts_17 : decode cX4_mostBeasts 17 = .ok (.iload_n 2, 1) := by decide +kernel
theorem dX4_mostBeasts_18 : decode cX4_mostBeasts 18 = .ok (.laload, 1) := by decide +kernel
theorem dX4_mostBeasts_19 : decode cX4_mostBeasts 19 = .ok (.invokestatic 72, 3) := by decide +kernel
theorem dX4_mostBeasts_22 : decode cX4_mostBeasts 22 = .ok (.invokestatic 75, 3) := by decide +kernel
theorem dX4_mostBeasts_25 : decode cX4_mostBeasts 25 = .ok (.istore_n 1, 1) := by decide +kernel
theorem dX4_mostBeasts_26 : decode cX4_mostBeasts 26 = .ok (.iinc 2 1, 3) := by decide +kernel
theorem dX4_mostBeasts_29 : decode cX4_mostBeasts 29 = .ok (.goto (-25), 3) := by decide +kernel
theorem dX4_mostBeasts_32 : decode cX4_mostBeasts 32 = .ok (.iload_n 1, 1) := by decide +kernel
theorem dX4_mostBeasts_33 : decode cX4_mostBeasts 33 = .ok (.ireturn, 1) := by decide +kernel
theorem dX4_countSettled_0 : decode cX4_countSettled 0 = .ok (.iconst 0, 1) := by decide +kernel
theorem dX4_countSettled_1 : decode cX4_countSettled 1 = .ok (.istore_n 2, 1) := by decide +kernel
theorem dX4_countSettled_2 : decode cX4_countSettled 2 = .ok (.iconst 0, 1) := by decide +kernel
theorem dX4_countSettled_3 : decode cX4_countSettled 3 = .ok (.istore_n 3, 1) := by decide +kernel
theorem dX4_countSettled_4 : decode cX4_countSettled 4 = .ok (.iload_n 3, 1) := by decide +kernel
theorem dX4_countSettled_5 : decode cX4_countSettled 5 = .ok (.aload_n 0, 1) := by decide +kernel
theorem dX4_countSettled_6 : decode cX4_countSettled 6 = .ok (.getfield 28, 3) := by decide +kernel
theorem dX4_countSettled_9 : decode cX4_countSettled 9 = .ok (.if_icmp .ge 25, 3) := by decide +kernel
theorem dX4_countSettled_12 : decode cX4_countSettled 12 = .ok (.aload_n 1, 1) := by decide +kernel
theorem dX4_countSettled_13 : decode cX4_countSettled 13 = .ok (.aload_n 0, 1) := by decide +kernel
theorem dX4_countSettled_14 : decode cX4_countSettled 14 = .ok (.getfield 11, 3) := by decide +kernel
theorem dX4_countSettled_17 : decode cX4_countSettled 17 = .ok (.iload_n 3, 1) := by decide +kernel
theorem dX4_countSettled_18 : decode cX4_countSettled 18 = .ok (.laload, 1) := by decide +kernel
theorem dX4_countSettled_19 : decode cX4_countSettled 19 = .ok (.invokevirtual 81, 3) := by decide +kernel
theorem dX4_countSettled_22 : decode cX4_countSettled 22 = .ok (.ifCond .eq 6, 3) := by decide +kernel
theorem dX4_countSettled_25 : decode cX4_countSettled 25 = .ok (.iinc 2 1, 3) := by decide +kernel
theorem dX4_countSettled_28 : decode cX4_countSettled 28 = .ok (.iinc 3 1, 3) := by decide +kernel
theorem dX4_countSettled_31 : decode cX4_countSettled 31 = .ok (.goto (-27), 3) := by decide +kernel
theorem dX4_countSettled_34 : decode cX4_countSettled 34 = .ok (.iload_n 2, 1) := by decide +kernel
theorem dX4_countSettled_35 : decode cX4_countSettled 35 = .ok (.ireturn, 1) := by decide +kernel
theorem dX4_leastSettled_0 : decode cX4_leastSettled 0 = .ok (.ldc2_w 85, 3) := by decide +kernel
theorem dX4_leastSettled_3 : decode cX4_leastSettled 3 = .ok (.lstore_n 2, 1) := by decide +kernel
theorem dX4_leastSettled_4 : decode cX4_leastSettled 4 = .ok (.iconst 0, 1) := by decide +kernel
theorem dX4_leastSettled_5 : decode cX4_leastSettled 5 = .ok (.istore 4, 2) := by decide +kernel
theorem dX4_leastSettled_7 : decode cX4_leastSettled 7 = .ok (.iload 4, 2) := by decide +kernel
theorem dX4_leastSettled_9 : decode cX4_leastSettled 9 = .ok (.aload_n 0, 1) := by decide +kernel
theorem dX4_leastSettled_10 : decode cX4_leastSettled 10 = .ok (.getfield 28, 3) := by decide +kernel
theorem dX4_leastSettled_13 : decode cX4_leastSettled 13 = .ok (.if_icmp .ge 51, 3) := by decide +kernel
theorem dX4_leastSettled_16 : decode cX4_leastSettled 16 = .ok (.lload_n 2, 1) := by decide +kernel
theorem dX4_leastSettled_17 : decode cX4_leastSettled 17 = .ok (.ldc2_w 85, 3) := by decide +kernel
theorem dX4_leastSettled_20 : decode cX4_leastSettled 20 = .ok (.lcmp, 1) := by decide +kernel
theorem dX4_leastSettled_21 : decode cX4_leastSettled 21 = .ok (.ifCond .eq 15, 3) := by decide +kernel
theorem dX4_leastSettled_24 : decode cX4_leastSettled 24 = .ok (.aload_n 0, 1) := by decide +kernel
theorem dX4_leastSettled_25 : decode cX4_leastSettled 25 = .ok (.getfield 11, 3) := by decide +kernel
theorem dX4_leastSettled_28 : decode cX4_leastSettled 28 = .ok (.iload 4, 2) := by decide +kernel
theorem dX4_leastSettled_30 : decode cX4_leastSettled 30 = .ok (.laload, 1) := by decide +kernel
theorem dX4_leastSettled_31 : decode cX4_leastSettled 31 = .ok (.lload_n 2, 1) := by decide +kernel
theorem dX4_leastSettled_32 : decode cX4_leastSettled 32 = .ok (.lcmp, 1) := by decide +kernel
theorem dX4_leastSettled_33 : decode cX4_leastSettled 33 = .ok (.ifCond .ge 25, 3) := by decide +kernel
theorem dX4_leastSettled_36 : decode cX4_leastSettled 36 = .ok (.aload_n 1, 1) := by decide +kernel
theorem dX4_leastSettled_37 : decode cX4_leastSettled 37 = .ok (.aload_n 0, 1) := by decide +kernel
theorem dX4_leastSettled_38 : decode cX4_leastSettled 38 = .ok (.getfield 11, 3) := by decide +kernel
theorem dX4_leastSettled_41 : decode cX4_leastSettled 41 = .ok (.iload 4, 2) := by decide +kernel
theorem dX4_leastSettled_43 : decode cX4_leastSettled 43 = .ok (.laload, 1) := by decide +kernel
theorem dX4_leastSettled_44 : decode cX4_leastSettled 44 = .ok (.invokevirtual 81, 3) := by decide +kernel
theorem dX4_leastSettled_47 : decode cX4_leastSettled 47 = .ok (.ifCond .eq 11, 3) := by decide +kernel
theorem dX4_leastSettled_50 : decode cX4_leastSettled 50 = .ok (.aload_n 0, 1) := by decide +kernel
theorem dX4_leastSettled_51 : decode cX4_leastSettled 51 = .ok (.getfield 11, 3) := by decide +kernel
theorem dX4_leastSettled_54 : decode cX4_leastSettled 54 = .ok (.iload 4, 2) := by decide +kernel
theorem dX4_leastSettled_56 : decode cX4_leastSettled 56 = .ok (.laload, 1) := by decide +kernel
theorem dX4_leastSettled_57 : decode cX4_leastSettled 57 = .ok (.lstore_n 2, 1) := by decide +kernel
theorem dX4_leastSettled_58 : decode cX4_leastSettled 58 = .ok (.iinc 4 1, 3) := by decide +kernel
theorem dX4_leastSettled_61 : decode cX4_leastSettled 61 = .ok (.goto (-54), 3) := by decide +kernel
theorem dX4_leastSettled_64 : decode cX4_leastSettled 64 = .ok (.lload_n 2, 1) := by decide +kernel
theorem dX4_leastSettled_65 : decode cX4_leastSettled 65 = .ok (.lreturn, 1) := by decide +kernel
theorem dX5_init_0 : decode cX5_init 0 = .ok (.aload_n 0, 1) := by decide +kernel
theorem dX5_init_1 : decode cX5_init 1 = .ok (.invokespecial 5, 3) := by decide +kernel
theorem dX5_init_4 : decode cX5_init 4 = .ok (.aload_n 0, 1) := by decide +kernel
theorem dX5_init_5 : decode cX5_init 5 = .ok (.iconst (-1), 1) := by decide +kernel
theorem dX5_init_6 : decode cX5_init 6 = .ok (.putfield 11, 3) := by decide +kernel
theorem dX5_init_9 : decode cX5_init 9 = .ok (.aload_n 0, 1) := by decide +kernel
theorem dX5_init_10 : decode cX5_init 10 = .ok (.sipush 400, 3) := by decide +kernel
theorem dX5_init_13 : decode cX5_init 13 = .ok (.newarray .int, 2) := by decide +kernel
theorem dX5_init_15 : decode cX5_init 15 = .ok (.putfield 15, 3) := by decide +kernel
theorem dX5_init_18 : decode cX5_init 18 = .ok (.aload_n 0, 1) := by decide +kernel
theorem dX5_init_19 : decode cX5_init 19 = .ok (.bipush 17, 2) := by decide +kernel
theorem dX5_init_21 : decode cX5_init 21 = .ok (.newarray .int, 2) := by decide +kernel
theorem dX5_init_23 : decode cX5_init 23 = .ok (.putfield 19, 3) := by decide +kernel
theorem dX5_init_26 : decode cX5_init 26 = .ok (.return_, 1) := by decide +kernel
theorem dX5_copyFrom_0 : decode cX5_copyFrom 0 = .ok (.aload_n 0, 1) := by decide +kernel
theorem dX5_copyFrom_1 : decode cX5_copyFrom 1 = .ok (.aload_n 1, 1) := by decide +kernel
theorem dX5_copyFrom_2 : decode cX5_copyFrom 2 = .ok (.getfield 11, 3) := by decide +kernel
theorem dX5_copyFrom_5 : decode cX5_copyFrom 5 = .ok (.putfield 11, 3) := by decide +kernel
theorem dX5_copyFrom_8 : decode cX5_copyFrom 8 = .ok (.aload_n 0, 1) := by decide +kernel
theorem dX5_copyFrom_9 : decode cX5_copyFrom 9 = .ok (.aload_n 1, 1) := by decide +kernel
theorem dX5_copyFrom_10 : decode cX5_copyFrom 10 = .ok (.getfield 22, 3) := by decide +kernel
theorem dX5_copyFrom_13 : decode cX5_copyFrom 13 = .ok (.putfield 22, 3) := by decide +kernel
theorem dX5_copyFrom_16 : decode cX5_copyFrom 16 = .ok (.aload_n 1, 1) := by decide +kernel
theorem dX5_copyFrom_17 : decode cX5_copyFrom 17 = .ok (.getfield 15, 3) := by decide +kernel
theorem dX5_copyFrom_20 : decode cX5_copyFrom 20 = .ok (.iconst 0, 1) := by decide +kernel
theorem dX5_copyFrom_21 : decode cX5_copyFrom 21 = .ok (.aload_n 0, 1) := by decide +kernel
theorem dX5_copyFrom_22 : decode cX5_copyFrom 22 = .ok (.getfield 15, 3) := by decide +kernel
theorem dX5_copyFrom_25 : decode cX5_copyFrom 25 = .ok (.iconst 0, 1) := by decide +kernel
theorem dX5_copyFrom_26 : decode cX5_copyFrom 26 = .ok (.aload_n 0, 1) := by decide +kernel
theorem dX5_copyFrom_27 : decode cX5_copyFrom 27 = .ok (.getfield 22, 3) := by decide +kernel
theorem dX5_copyFrom_30 : decode cX5_copyFrom 30 = .ok (.invokestatic 25, 3) := by decide +kernel
theorem dX5_copyFrom_33 : decode cX5_copyFrom 33 = .ok (.return_, 1) := by decide +kernel
theorem dX5_read_0 : decode cX5_read 0 = .ok (.aload_n 0, 1) := by decide +kernel
theorem dX5_read_1 : decode cX5_read 1 = .ok (.iconst 0, 1) := by decide +kernel
theorem dX5_read_2 : decode cX5_read 2 = .ok (.putfield 11, 3) := by decide +kernel
theorem dX5_read_5 : decode cX5_read 5 = .ok (.aload_n 0, 1) := by decide +kernel
theorem dX5_read_6 : decode cX5_read 6 = .ok (.iconst 0, 1) := by decide +kernel
theorem dX5_read_7 : decode cX5_read 7 = .ok (.putfield 22, 3) := by decide +kernel
theorem dX5_read_10 : decode cX5_read 10 = .ok (.aload_n 1, 1) := by decide +kernel
theorem dX5_read_11 : decode cX5_read 11 = .ok (.invokevirtual 31, 3) := by decide +kernel
theorem dX5_read_14 : decode cX5_read 14 = .ok (.aload_n 1, 1) := by decide +kernel
theorem dX5_read_15 : decode cX5_read 15 = .ok (.getfield 36, 3) := by decide +kernel
theorem dX5_read_18 : decode cX5_read 18 = .ok (.iconst (-1), 1) := by decide +kernel
theorem dX5_read_19 : decode cX5_read 19 = .ok (.if_icmp .ne 5, 3) := by decide +kernel
theorem dX5_read_22 : decode cX5_read 22 = .ok (.iconst 1, 1) := by decide +kernel
theorem dX5_read_23 : decode cX5_read 23 = .ok (.ireturn, 1) := by decide +kernel
theorem dX5_read_24 : decode cX5_read 24 = .ok (.aload_n 0, 1) := by decide +kernel
theorem dX5_read_25 : decode cX5_read 25 = .ok (.getfield 11, 3) := by decide +kernel
theorem dX5_read_28 : decode cX5_read 28 = .ok (.bipush 12, 2) := by decide +kernel
theorem dX5_read_30 : decode cX5_read 30 = .ok (.if_icmp .ge 83, 3) := by decide +kernel
theorem dX5_read_33 : decode cX5_read 33 = .ok (.aload_n 1, 1) := by decide +kernel
theorem dX5_read_34 : decode cX5_read 34 = .ok (.ldc 39, 2) := by decide +kernel
theorem dX5_read_36 : decode cX5_read 36 = .ok (.invokevirtual 41, 3) := by decide +kernel
theorem dX5_read_39 : decode cX5_read 39 = .ok (.ifCond .ne 5, 3) := by decide +kernel
theorem dX5_read_42 : decode cX5_read 42 = .ok (.iconst 0, 1) := by decide +kernel
theorem dX5_read_43 : decode cX5_read 43 = .ok (.ireturn, 1) := by decide +kernel
theorem dX5_read_44 : decode cX5_read 44 = .ok (.aload_n 1, 1) := by decide +kernel
theorem dX5_read_45 : decode cX5_read 45 = .ok (.ldc 45, 2) := by decide +kernel
theorem dX5_read_47 : decode cX5_read 47 = .ok (.invokevirtual 47, 3) := by decide +kernel
theorem dX5_read_50 : decode cX5_read 50 = .ok (.ifCond .ne 11, 3) := by decide +kernel
theorem dX5_read_53 : decode cX5_read 53 = .ok (.aload_n 0, 1) := by decide +kernel
theorem dX5_read_54 : decode cX5_read 54 = .ok (.iconst 1, 1) := by decide +kernel
theorem dX5_read_55 : decode cX5_read 55 = .ok (.invokevirtual 50, 3) := by decide +kernel
theorem dX5_read_58 : decode cX5_read 58 = .ok (.goto 18, 3) := by decide +kernel
theorem dX5_read_61 : decode cX5_read 61 = .ok (.aload_n 1, 1) := by decide +kernel
theorem dX5_read_62 : decode cX5_read 62 = .ok (.invokevirtual 54, 3) := by decide +kernel
theorem dX5_read_65 : decode cX5_read 65 = .ok (.aload_n 0, 1) := by decide +kernel
theorem dX5_read_66 : decode cX5_read 66 = .ok (.aload_n 1, 1) := by decide +kernel
theorem dX5_read_67 : decode cX5_read 67 = .ok (.iconst 0, 1) := by decide +kernel
theorem dX5_read_68 : decode cX5_read 68 = .ok (.invokevirtual 57, 3) := by decide +kernel
theorem dX5_read_71 : decode cX5_read 71 = .ok (.ifCond .ne 5, 3) := by decide +kernel
theorem dX5_read_74 : decode cX5_read 74 = .ok (.iconst 0, 1) := by decide +kernel
theorem dX5_read_75 : decode cX5_read 75 = .ok (.ireturn, 1) := by decide +kernel
theorem dX5_read_76 : decode cX5_read 76 = .ok (.aload_n 0, 1) := by decide +kernel
theorem dX5_read_77 : decode cX5_read 77 = .ok (.bipush (-9), 2) := by decide +kernel
theorem dX5_read_79 : decode cX5_read 79 = .ok (.invokevirtual 50, 3) := by decide +kernel
theorem dX5_read_82 : decode cX5_read 82 = .ok (.aload_n 0, 1) := by decide +kernel
theorem dX5_read_83 : decode cX5_read 83 = .ok (.dup, 1) := by decide +kernel
theorem dX5_read_84 : decode cX5_read 84 = .ok (.getfield 11, 3) := by decide +kernel
theorem dX5_read_87 : decode cX5_read 87 = .ok (.iconst 1, 1) := by decide +kernel
theorem dX5_read_88 : decode cX5_read 88 = .ok (.iadd, 1) := by decide +kernel
theorem dX5_read_89 : decode cX5_read 89 = .ok (.putfield 11, 3) := by decide +kernel
theorem dX5_read_92 : decode cX5_read 92 = .ok (.aload_n 1, 1) := by decide +kernel
theorem dX5_read_93 : decode cX5_read 93 = .ok (.getfield 36, 3) := by decide +kernel
theorem dX5_read_96 : decode cX5_read 96 = .ok (.iconst (-1), 1) := by decide +kernel
theorem dX5_read_97 : decode cX5_read 97 = .ok (.if_icmp .ne 5, 3) := by decide +kernel
theorem dX5_read_100 : decode cX5_read 100 = .ok (.iconst 1, 1) := by decide +kernel
theorem dX5_read_101 : decode cX5_read 101 = .ok (.ireturn, 1) := by decide +kernel
theorem dX5_read_102 : decode cX5_read 102 = .ok (.aload_n 1, 1) := by decide +kernel
theorem dX5_read_103 : decode cX5_read 103 = .ok (.bipush 59, 2) := by decide +kernel
theorem dX5_read_105 : decode cX5_read 105 = .ok (.invokevirtual 61, 3) := by decide +kernel
theorem dX5_read_108 : decode cX5_read 108 = .ok (.ifCond .ne (-84), 3) := by decide +kernel
theorem dX5_read_111 : decode cX5_read 111 = .ok (.iconst 0, 1) := by decide +kernel
theorem dX5_read_112 : decode cX5_read 112 = .ok (.ireturn, 1) := by decide +kernel
theorem dX5_read_113 : decode cX5_read 113 = .ok (.aload_n 1, 1) := by decide +kernel
theorem dX5_read_114 : decode cX5_read 114 = .ok (.invokevirtual 65, 3) := by decide +kernel
theorem dX5_read_117 : decode cX5_read 117 = .ok (.ireturn, 1) := by decide +kernel
theorem dX5_readAny_0 : decode cX5_readAny 0 = .ok (.aload_n 0, 1) := by decide +kernel
theorem dX5_readAny_1 : decode cX5_readAny 1 = .ok (.aload_n 1, 1) := by decide +kernel
theorem dX5_readAny_2 : decode cX5_readAny 2 = .ok (.iload_n 2, 1) := by decide +kernel
theorem dX5_readAny_3 : decode cX5_readAny 3 = .ok (.invokevirtual 69, 3) := by decide +kernel
theorem dX5_readAny_6 : decode cX5_readAny 6 = .ok (.ifCond .ne 5, 3) := by decide +kernel
theorem dX5_readAny_9 : decode cX5_readAny 9 = .ok (.iconst 0, 1) := by decide +kernel
theorem dX5_readAny_10 : decode cX5_readAny 10 = .ok (.ireturn, 1) := by decide +kernel
theorem dX5_readAny_11 : decode cX5_readAny 11 = .ok (.iconst 0, 1) := by decide +kernel
theorem dX5_readAny_12 : decode cX5_readAny 12 = .ok (.istore_n 3, 1) := by decide +kernel
theorem dX5_readAny_13 : decode cX5_readAny 13 = .ok (.iload_n 3, 1) := by decide +kernel
theorem dX5_readAny_14 : decode cX5_readAny 14 = .ok (.sipush 400, 3) := by decide +kernel
theorem dX5_readAny_17 : decode cX5_readAny 17 = .ok (.if_icmp .ge 39, 3) := by decide +kernel
theorem dX5_readAny_20 : decode cX5_readAny 20 = .ok (.aload_n 1, 1) := by decide +kernel
theorem dX5_readAny_21 : decode cX5_readAny 21 = .ok (.ldc 72, 2) := by decide +kernel
theorem dX5_readAny_23 : decode cX5_readAny 23 = .ok (.invokevirtual 47, 3) := by decide +kernel
theorem dX5_readAny_26 : decode cX5_readAny 26 = .ok (.ifCond .eq 30, 3) := by decide +kernel
theorem dX5_readAny_29 : decode cX5_readAny 29 = .ok (.aload_n 1, 1) := by decide +kernel
theorem dX5_readAny_30 : decode cX5_readAny 30 = .ok (.invokevirtual 54, 3) := by decide +kernel
theorem dX5_readAny_33 : decode cX5_readAny 33 = .ok (.aload_n 0, 1) := by decide +kernel
theorem dX5_readAny_34 : decode cX5_readAny 34 = .ok (.aload_n 1, 1) := by decide +kernel
theorem dX5_readAny_35 : decode cX5_readAny 35 = .ok (.iload_n 2, 1) := by decide +kernel
theorem dX5_readAny_36 : decode cX5_readAny 36 = .ok (.invokevirtual 69, 3) := by decide +kernel
theorem dX5_readAny_39 : decode cX5_readAny 39 = .ok (.ifCond .ne 5, 3) := by decide +kernel
theorem dX5_readAny_42 : decode cX5_readAny 42 = .ok (.iconst 0, 1) := by decide +kernel
theorem dX5_readAny_43 : decode cX5_readAny 43 = .ok (.ireturn, 1) := by decide +kernel
theorem dX5_readAny_44 : decode cX5_readAny 44 = .ok (.aload_n 0, 1) := by decide +kernel
theorem dX5_readAny_45 : decode cX5_readAny 45 = .ok (.bipush (-14), 2) := by decide +kernel
theorem dX5_readAny_47 : decode cX5_readAny 47 = .ok (.invokevirtual 50, 3) := by decide +kernel
theorem dX5_readAny_50 : decode cX5_readAny 50 = .ok (.iinc 3 1, 3) := by decide +kernel
theorem dX5_readAny_53 : decode cX5_readAny 53 = .ok (.goto (-40), 3) := by decide +kernel
theorem dX5_readAny_56 : decode cX5_readAny 56 = .ok (.iconst 1, 1) := by decide +kernel
theorem dX5_readAny_57 : decode cX5_readAny 57 = .ok (.ireturn, 1) := by decide +kernel
theorem dX5_readEach_0 : decode cX5_readEach 0 = .ok (.aload_n 0, 1) := by decide +kernel
theorem dX5_readEach_1 : decode cX5_readEach 1 = .ok (.aload_n 1, 1) := by decide +kernel
theorem dX5_readEach_2 : decode cX5_readEach 2 = .ok (.iload_n 2, 1) := by decide +kernel
theorem dX5_readEach_3 : decode cX5_readEach 3 = .ok (.invokevirtual 74, 3) := by decide +kernel
theorem dX5_readEach_6 : decode cX5_readEach 6 = .ok (.ifCond .ne 5, 3) := by decide +kernel
theorem dX5_readEach_9 : decode cX5_readEach 9 = .ok (.iconst 0, 1) := by decide +kernel
theorem dX5_readEach_10 : decode cX5_readEach 10 = .ok (.ireturn, 1) := by decide +kernel
theorem dX5_readEach_11 : decode cX5_readEach 11 = .ok (.iconst 0, 1) := by decide +kernel
theorem dX5_readEach_12 : decode cX5_readEach 12 = .ok (.istore_n 3, 1) := by decide +kernel
theorem dX5_readEach_13 : decode cX5_readEach 13 = .ok (.iload_n 3, 1) := by decide +kernel
theorem dX5_readEach_14 : decode cX5_readEach 14 = .ok (.sipush 400, 3) := by decide +kernel
theorem dX5_readEach_17 : decode cX5_readEach 17 = .ok (.if_icmp .ge 39, 3) := by decide +kernel
theorem dX5_readEach_20 : decode cX5_readEach 20 = .ok (.aload_n 1, 1) := by decide +kernel
theorem dX5_readEach_21 : decode cX5_readEach 21 = .ok (.ldc 77, 2) := by decide +kernel
theorem dX5_readEach_23 : decode cX5_readEach 23 = .ok (.invokevirtual 47, 3) := by decide +kernel
theorem dX5_readEach_26 : decode cX5_readEach 26 = .ok (.ifCond .eq 30, 3) := by decide +kernel
theorem dX5_readEach_29 : decode cX5_readEach 29 = .ok (.aload_n 1, 1) := by decide +kernel
theorem dX5_readEach_30 : decode cX5_readEach 30 = .ok (.invokevirtual 54, 3) := by decide +kernel
theorem dX5_readEach_33 : decode cX5_readEach 33 = .ok (.aload_n 0, 1) := by decide +kernel
theorem dX5_readEach_34 : decode cX5_readEach 34 = .ok (.aload_n 1, 1) := by decide +kernel
theorem dX5_readEach_35 : decode cX5_readEach 35 = .ok (.iload_n 2, 1) := by decide +kernel
theorem dX5_readEach_36 : decode cX5_readEach 36 = .ok (.invokevirtual 74, 3) := by decide +kernel
theorem dX5_readEach_39 : decode cX5_readEach 39 = .ok (.ifCond .ne 5, 3) := by decide +kernel
theorem dX5_readEach_42 : decode cX5_readEach 42 = .ok (.iconst 0, 1) := by decide +kernel
theorem dX5_readEach_43 : decode cX5_readEach 43 = .ok (.ireturn, 1) := by decide +kernel
theorem dX5_readEach_44 : decode cX5_readEach 44 = .ok (.aload_n 0, 1) := by decide +kernel
theorem dX5_readEach_45 : decode cX5_readEach 45 = .ok (.bipush (-13), 2) := by decide +kernel
theorem dX5_readEach_47 : decode cX5_readEach 47 = .ok (.invokevirtual 50, 3) := by decide +kernel
theorem dX5_readEach_50 : decode cX5_readEach 50 = .ok (.iinc 3 1, 3) := by decide +kernel
theorem dX5_readEach_53 : decode cX5_readEach 53 = .ok (.goto (-40), 3) := by decide +kernel
theorem dX5_readEach_56 : decode cX5_readEach 56 = .ok (.iconst 1, 1) := by decide +kernel
theorem dX5_readEach_57 : decode cX5_readEach 57 = .ok (.ireturn, 1) := by decide +kernel
theorem dX5_readAtom_0 : decode cX5_readAtom 0 = .ok (.aload_n 1, 1) := by decide +kernel
theorem dX5_readAtom_1 : decode cX5_readAtom 1 = .ok (.ldc 79, 2) := by decide +kernel
theorem dX5_readAtom_3 : decode cX5_readAtom 3 = .ok (.invokevirtual 47, 3) := by decide +kernel
theorem dX5_readAtom_6 : decode cX5_readAtom 6 = .ok (.istore_n 3, 1) := by decide +kernel
theorem dX5_readAtom_7 : decode cX5_readAtom 7 = .ok (.iload_n 3, 1) := by decide +kernel
theorem dX5_readAtom_8 : decode cX5_readAtom 8 = .ok (.ifCond .ne 12, 3) := by decide +kernel
theorem dX5_readAtom_11 : decode cX5_readAtom 11 = .ok (.aload_n 1, 1) := by decide +kernel
theorem dX5_readAtom_12 : decode cX5_readAtom 12 = .ok (.getfield 36, 3) := by decide +kernel
theorem dX5_readAtom_15 : decode cX5_readAtom 15 = .ok (.bipush 40, 2) := by decide +kernel
theorem dX5_readAtom_17 : decode cX5_readAtom 17 = .ok (.if_icmp .ne 69, 3) := by decide +kernel
theorem dX5_readAtom_20 : decode cX5_readAtom 20 = .ok (.iload_n 2, 1) := by decide +kernel
theorem dX5_readAtom_21 : decode cX5_readAtom 21 = .ok (.bipush 6, 2) := by decide +kernel
theorem dX5_readAtom_23 : decode cX5_readAtom 23 = .ok (.if_icmp .lt 8, 3) := by decide +kernel
theorem dX5_readAtom_26 : decode cX5_readAtom 26 = .ok (.aload_n 1, 1) := by decide +kernel
theorem dX5_readAtom_27 : decode cX5_readAtom 27 = .ok (.invokevirtual 65, 3) := by decide +kernel
theorem dX5_readAtom_30 : decode cX5_readAtom 30 = .ok (.ireturn, 1) := by decide +kernel
theorem dX5_readAtom_31 : decode cX5_readAtom 31 = .ok (.aload_n 1, 1) := by decide +kernel
theorem dX5_readAtom_32 : decode cX5_readAtom 32 = .ok (.invokevirtual 54, 3) := by decide +kernel
theorem dX5_readAtom_35 : decode cX5_readAtom 35 = .ok (.iload_n 3, 1) := by decide +kernel
theorem dX5_readAtom_36 : decode cX5_readAtom 36 = .ok (.ifCond .ne 29, 3) := by decide +kernel
theorem dX5_readAtom_39 : decode cX5_readAtom 39 = .ok (.aload_n 0, 1) := by decide +kernel
theorem dX5_readAtom_40 : decode cX5_readAtom 40 = .ok (.aload_n 1, 1) := by decide +kernel
theorem dX5_readAtom_41 : decode cX5_readAtom 41 = .ok (.iload_n 2, 1) := by decide +kernel
theorem dX5_readAtom_42 : decode cX5_readAtom 42 = .ok (.iconst 1, 1) := by decide +kernel
theorem dX5_readAtom_43 : decode cX5_readAtom 43 = .ok (.iadd, 1) := by decide +kernel
theorem dX5_readAtom_44 : decode cX5_readAtom 44 = .ok (.invokevirtual 57, 3) := by decide +kernel
theorem dX5_readAtom_47 : decode cX5_readAtom 47 = .ok (.ifCond .eq 16, 3) := by decide +kernel
theorem dX5_readAtom_50 : decode cX5_readAtom 50 = .ok (.aload_n 1, 1) := by decide +kernel
theorem dX5_readAtom_51 : decode cX5_readAtom 51 = .ok (.bipush 41, 2) := by decide +kernel
theorem dX5_readAtom_53 : decode cX5_readAtom 53 = .ok (.invokevirtual 61, 3) := by decide +kernel
theorem dX5_readAtom_56 : decode cX5_readAtom 56 = .ok (.ifCond .eq 7, 3) := by decide +kernel
theorem dX5_readAtom_59 : decode cX5_readAtom 59 = .ok (.iconst 1, 1) := by decide +kernel
theorem dX5_readAtom_60 : decode cX5_readAtom 60 = .ok (.goto 4, 3) := by decide +kernel
theorem dX5_readAtom_63 : decode cX5_readAtom 63 = .ok (.iconst 0, 1) := by decide +kernel
theorem dX5_readAtom_64 : decode cX5_readAtom 64 = .ok (.ireturn, 1) := by decide +kernel
theorem dX5_readAtom_65 : decode cX5_readAtom 65 = .ok (.aload_n 0, 1) := by decide +kernel
theorem dX5_readAtom_66 : decode cX5_readAtom 66 = .ok (.aload_n 1, 1) := by decide +kernel
theorem dX5_readAtom_67 : decode cX5_readAtom 67 = .ok (.iload_n 2, 1) := by decide +kernel
theorem dX5_readAtom_68 : decode cX5_readAtom 68 = .ok (.iconst 1, 1) := by decide +kernel
theorem dX5_readAtom_69 : decode cX5_readAtom 69 = .ok (.iadd, 1) := by decide +kernel
theorem dX5_readAtom_70 : decode cX5_readAtom 70 = .ok (.invokevirtual 74, 3) := by decide +kernel
theorem dX5_readAtom_73 : decode cX5_readAtom 73 = .ok (.ifCond .ne 5, 3) := by decide +kernel
theorem dX5_readAtom_76 : decode cX5_readAtom 76 = .ok (.iconst 0, 1) := by decide +kernel
theorem dX5_readAtom_77 : decode cX5_readAtom 77 = .ok (.ireturn, 1) := by decide +kernel
theorem dX5_readAtom_78 : decode cX5_readAtom 78 = .ok (.aload_n 0, 1) := by decide +kernel
theorem dX5_readAtom_79 : decode cX5_readAtom 79 = .ok (.bipush (-8), 2) := by decide +kernel
theorem dX5_readAtom_81 : decode cX5_readAtom 81 = .ok (.invokevirtual 50, 3) := by decide +kernel
theorem dX5_readAtom_84 : decode cX5_readAtom 84 = .ok (.iconst 1, 1) := by decide +kernel
theorem dX5_readAtom_85 : decode cX5_readAtom 85 = .ok (.ireturn, 1) := by decide +kernel
theorem dX5_readAtom_86 : decode cX5_readAtom 86 = .ok (.aload_n 1, 1) := by decide +kernel
theorem dX5_readAtom_87 : decode cX5_readAtom 87 = .ok (.ldc 81, 2) := by decide +kernel
theorem dX5_readAtom_89 : decode cX5_readAtom 89 = .ok (.invokevirtual 47, 3) := by decide +kernel
theorem dX5_readAtom_92 : decode cX5_readAtom 92 = .ok (.ifCond .eq 15, 3) := by decide +kernel
theorem dX5_readAtom_95 : decode cX5_readAtom 95 = .ok (.aload_n 1, 1) := by decide +kernel
theorem dX5_readAtom_96 : decode cX5_readAtom 96 = .ok (.invokevirtual 54, 3) := by decide +kernel
theorem dX5_readAtom_99 : decode cX5_readAtom 99 = .ok (.aload_n 0, 1) := by decide +kernel
theorem dX5_readAtom_100 : decode cX5_readAtom 100 = .ok (.bipush (-7), 2) := by decide +kernel
theorem dX5_readAtom_102 : decode cX5_readAtom 102 = .ok (.invokevirtual 50, 3) := by decide +kernel
theorem dX5_readAtom_105 : decode cX5_readAtom 105 = .ok (.iconst 1, 1) := by decide +kernel
theorem dX5_readAtom_106 : decode cX5_readAtom 106 = .ok (.ireturn, 1) := by decide +kernel
theorem dX5_readAtom_107 : decode cX5_readAtom 107 = .ok (.aload_n 0, 1) := by decide +kernel
theorem dX5_readAtom_108 : decode cX5_readAtom 108 = .ok (.aload_n 1, 1) := by decide +kernel
theorem dX5_readAtom_109 : decode cX5_readAtom 109 = .ok (.invokevirtual 83, 3) := by decide +kernel
theorem dX5_readAtom_112 : decode cX5_readAtom 112 = .ok (.ifCond .ne 5, 3) := by decide +kernel
theorem dX5_readAtom_115 : decode cX5_readAtom 115 = .ok (.iconst 0, 1) := by decide +kernel
theorem dX5_readAtom_116 : decode cX5_readAtom 116 = .ok (.ireturn, 1) := by decide +kernel
theorem dX5_readAtom_117 : decode cX5_readAtom 117 = .ok (.aload_n 1, 1) := by decide +kernel
theorem dX5_readAtom_118 : decode cX5_readAtom 118 = .ok (.getfield 36, 3) := by decide +kernel
theorem dX5_readAtom_121 : decode cX5_readAtom 121 = .ok (.bipush 60, 2) := by decide +kernel
theorem dX5_readAtom_123 : decode cX5_readAtom 123 = .ok (.if_icmp .ne 8, 3) := by decide +kernel
theorem dX5_readAtom_126 : decode cX5_readAtom 126 = .ok (.bipush (-11), 2) := by decide +kernel
theorem dX5_readAtom_128 : decode cX5_readAtom 128 = .ok (.goto 5, 3) := by decide +kernel
theorem dX5_readAtom_131 : decode cX5_readAtom 131 = .ok (.bipush (-12), 2) := by decide +kernel
theorem dX5_readAtom_133 : decode cX5_readAtom 133 = .ok (.istore 4, 2) := by decide +kernel
theorem dX5_readAtom_135 : decode cX5_readAtom 135 = .ok (.aload_n 1, 1) := by decide +kernel
theorem dX5_readAtom_136 : decode cX5_readAtom 136 = .ok (.iload 4, 2) := by decide +kernel
theorem dX5_readAtom_138 : decode cX5_readAtom 138 = .ok (.bipush (-11), 2) := by decide +kernel
theorem dX5_readAtom_140 : decode cX5_readAtom 140 = .ok (.if_icmp .ne 8, 3) := by decide +kernel
theorem dX5_readAtom_143 : decode cX5_readAtom 143 = .ok (.bipush 60, 2) := by decide +kernel
theorem dX5_readAtom_145 : decode cX5_readAtom 145 = .ok (.goto 5, 3) := by decide +kernel
theorem dX5_readAtom_148 : decode cX5_readAtom 148 = .ok (.bipush 62, 2) := by decide +kernel
theorem dX5_readAtom_150 : decode cX5_readAtom 150 = .ok (.invokevirtual 61, 3) := by decide +kernel
theorem dX5_readAtom_153 : decode cX5_readAtom 153 = .ok (.ifCond .eq 11, 3) := by decide +kernel
theorem dX5_readAtom_156 : decode cX5_readAtom 156 = .ok (.aload_n 0, 1) := by decide +kernel
theorem dX5_readAtom_157 : decode cX5_readAtom 157 = .ok (.aload_n 1, 1) := by decide +kernel
theorem dX5_readAtom_158 : decode cX5_readAtom 158 = .ok (.invokevirtual 83, 3) := by decide +kernel
theorem dX5_readAtom_161 : decode cX5_readAtom 161 = .ok (.ifCond .ne 5, 3) := by decide +kernel
theorem dX5_readAtom_164 : decode cX5_readAtom 164 = .ok (.iconst 0, 1) := by decide +kernel
theorem dX5_readAtom_165 : decode cX5_readAtom 165 = .ok (.ireturn, 1) := by decide +kernel
theorem dX5_readAtom_166 : decode cX5_readAtom 166 = .ok (.aload_n 0, 1) := by decide +kernel
theorem dX5_readAtom_167 : decode cX5_readAtom 167 = .ok (.iload 4, 2) := by decide +kernel
theorem dX5_readAtom_169 : decode cX5_readAtom 169 = .ok (.invokevirtual 50, 3) := by decide +kernel
theorem dX5_readAtom_172 : decode cX5_readAtom 172 = .ok (.iconst 1, 1) := by decide +kernel
theorem dX5_readAtom_173 : decode cX5_readAtom 173 = .ok (.ireturn, 1) := by decide +kernel
theorem dX5_readSum_0 : decode cX5_readSum 0 = .ok (.aload_n 0, 1) := by decide +kernel
theorem dX5_readSum_1 : decode cX5_readSum 1 = .ok (.aload_n 1, 1) := by decide +kernel
theorem dX5_readSum_2 : decode cX5_readSum 2 = .ok (.invokevirtual 87, 3) := by decide +kernel
theorem dX5_readSum_5 : decode cX5_readSum 5 = .ok (.ifCond .ne 5, 3) := by decide +kernel
theorem dX5_readSum_8 : decode cX5_readSum 8 = .ok (.iconst 0, 1) := by decide +kernel
theorem dX5_readSum_9 : decode cX5_readSum 9 = .ok (.ireturn, 1) := by decide +kernel
theorem dX5_readSum_10 : decode cX5_readSum 10 = .ok (.iconst 0, 1) := by decide +kernel
theorem dX5_readSum_11 : decode cX5_readSum 11 = .ok (.istore_n 2, 1) := by decide +kernel
theorem dX5_readSum_12 : decode cX5_readSum 12 = .ok (.iload_n 2, 1) := by decide +kernel
theorem dX5_readSum_13 : decode cX5_readSum 13 = .ok (.sipush 400, 3) := by decide +kernel
theorem dX5_readSum_16 : decode cX5_readSum 16 = .ok (.if_icmp .ge 38, 3) := by decide +kernel
theorem dX5_readSum_19 : decode cX5_readSum 19 = .ok (.aload_n 1, 1) := by decide +kernel
theorem dX5_readSum_20 : decode cX5_readSum 20 = .ok (.getfield 36, 3) := by decide +kernel
theorem dX5_readSum_23 : decode cX5_readSum 23 = .ok (.bipush 43, 2) := by decide +kernel
theorem dX5_readSum_25 : decode cX5_readSum 25 = .ok (.if_icmp .ne 29, 3) := by decide +kernel
theorem dX5_readSum_28 : decode cX5_readSum 28 = .ok (.aload_n 1, 1) := by decide +kernel
theorem dX5_readSum_29 : decode cX5_readSum 29 = .ok (.invokevirtual 54, 3) := by decide +kernel
theorem dX5_readSum_32 : decode cX5_readSum 32 = .ok (.aload_n 0, 1) := by decide +kernel
theorem dX5_readSum_33 : decode cX5_readSum 33 = .ok (.aload_n 1, 1) := by decide +kernel
theorem dX5_readSum_34 : decode cX5_readSum 34 = .ok (.invokevirtual 87, 3) := by decide +kernel
theorem dX5_readSum_37 : decode cX5_readSum 37 = .ok (.ifCond .ne 5, 3) := by decide +kernel
theorem dX5_readSum_40 : decode cX5_readSum 40 = .ok (.iconst 0, 1) := by decide +kernel
theorem dX5_readSum_41 : decode cX5_readSum 41 = .ok (.ireturn, 1) := by decide +kernel
theorem dX5_readSum_42 : decode cX5_readSum 42 = .ok (.aload_n 0, 1) := by decide +kernel
theorem dX5_readSum_43 : decode cX5_readSum 43 = .ok (.bipush (-10), 2) := by decide +kernel
theorem dX5_readSum_45 : decode cX5_readSum 45 = .ok (.invokevirtual 50, 3) := by decide +kernel
theorem dX5_readSum_48 : decode cX5_readSum 48 = .ok (.iinc 2 1, 3) := by decide +kernel
theorem dX5_readSum_51 : decode cX5_readSum 51 = .ok (.goto (-39), 3) := by decide +kernel
theorem dX5_readSum_54 : decode cX5_readSum 54 = .ok (.iconst 1, 1) := by decide +kernel
theorem dX5_readSum_55 : decode cX5_readSum 55 = .ok (.ireturn, 1) := by decide +kernel
theorem dX5_readPart_0 : decode cX5_readPart 0 = .ok (.aload_n 1, 1) := by decide +kernel
theorem dX5_readPart_1 : decode cX5_readPart 1 = .ok (.getfield 36, 3) := by decide +kernel
theorem dX5_readPart_4 : decode cX5_readPart 4 = .ok (.bipush (-3), 2) := by decide +kernel
theorem dX5_readPart_6 : decode cX5_readPart 6 = .ok (.if_icmp .ne 10, 3) := by decide +kernel
theorem dX5_readPart_9 : decode cX5_readPart 9 = .ok (.aload_n 1, 1) := by decide +kernel
theorem dX5_readPart_10 : decode cX5_readPart 10 = .ok (.getfield 90, 3) := by decide +kernel
theorem dX5_readPart_13 : decode cX5_readPart 13 = .ok (.goto 74, 3) := by decide +kernel
theorem dX5_readPart_16 : decode cX5_readPart 16 = .ok (.aload_n 1, 1) := by decide +kernel
theorem dX5_readPart_17 : decode cX5_readPart 17 = .ok (.ldc 93, 2) := by decide +kernel
theorem dX5_readPart_19 : decode cX5_readPart 19 = .ok (.invokevirtual 47, 3) := by decide +kernel
theorem dX5_readPart_22 : decode cX5_readPart 22 = .ok (.ifCond .eq 8, 3) := by decide +kernel
theorem dX5_readPart_25 : decode cX5_readPart 25 = .ok (.bipush (-2), 2) := by decide +kernel
theorem dX5_readPart_27 : decode cX5_readPart 27 = .ok (.goto 60, 3) := by decide +kernel
theorem dX5_readPart_30 : decode cX5_readPart 30 = .ok (.aload_n 1, 1) := by decide +kernel
theorem dX5_readPart_31 : decode cX5_readPart 31 = .ok (.ldc 95, 2) := by decide +kernel
theorem dX5_readPart_33 : decode cX5_readPart 33 = .ok (.invokevirtual 47, 3) := by decide +kernel
theorem dX5_readPart_36 : decode cX5_readPart 36 = .ok (.ifCond .eq 8, 3) := by decide +kernel
theorem dX5_readPart_39 : decode cX5_readPart 39 = .ok (.bipush (-3), 2) := by decide +kernel
theorem dX5_readPart_41 : decode cX5_readPart 41 = .ok (.goto 46, 3) := by decide +kernel
theorem dX5_readPart_44 : decode cX5_readPart 44 = .ok (.aload_n 1, 1) := by decide +kernel
theorem dX5_readPart_45 : decode cX5_readPart 45 = .ok (.ldc 97, 2) := by decide +kernel
theorem dX5_readPart_47 : decode cX5_readPart 47 = .ok (.invokevirtual 47, 3) := by decide +kernel
theorem dX5_readPart_50 : decode cX5_readPart 50 = .ok (.ifCond .eq 8, 3) := by decide +kernel
theorem dX5_readPart_53 : decode cX5_readPart 53 = .ok (.bipush (-4), 2) := by decide +kernel
theorem dX5_readPart_55 : decode cX5_readPart 55 = .ok (.goto 32, 3) := by decide +kernel
theorem dX5_readPart_58 : decode cX5_readPart 58 = .ok (.aload_n 1, 1) := by decide +kernel
theorem dX5_readPart_59 : decode cX5_readPart 59 = .ok (.ldc 99, 2) := by decide +kernel
theorem dX5_readPart_61 : decode cX5_readPart 61 = .ok (.invokevirtual 47, 3) := by decide +kernel
theorem dX5_readPart_64 : decode cX5_readPart 64 = .ok (.ifCond .eq 8, 3) := by decide +kernel
theorem dX5_readPart_67 : decode cX5_readPart 67 = .ok (.bipush (-5), 2) := by decide +kernel
theorem dX5_readPart_69 : decode cX5_readPart 69 = .ok (.goto 18, 3) := by decide +kernel
theorem dX5_readPart_72 : decode cX5_readPart 72 = .ok (.aload_n 1, 1) := by decide +kernel
theorem dX5_readPart_73 : decode cX5_readPart 73 = .ok (.ldc 101, 2) := by decide +kernel
theorem dX5_readPart_75 : decode cX5_readPart 75 = .ok (.invokevirtual 47, 3) := by decide +kernel
theorem dX5_readPart_78 : decode cX5_readPart 78 = .ok (.ifCond .eq 8, 3) := by decide +kernel
theorem dX5_readPart_81 : decode cX5_readPart 81 = .ok (.bipush (-6), 2) := by decide +kernel
theorem dX5_readPart_83 : decode cX5_readPart 83 = .ok (.goto 4, 3) := by decide +kernel
theorem dX5_readPart_86 : decode cX5_readPart 86 = .ok (.iconst (-1), 1) := by decide +kernel
theorem dX5_readPart_87 : decode cX5_readPart 87 = .ok (.istore_n 2, 1) := by decide +kernel
theorem dX5_readPart_88 : decode cX5_readPart 88 = .ok (.iload_n 2, 1) := by decide +kernel
theorem dX5_readPart_89 : decode cX5_readPart 89 = .ok (.iconst (-1), 1) := by decide +kernel
theorem dX5_readPart_90 : decode cX5_readPart 90 = .ok (.if_icmp .ne 8, 3) := by decide +kernel
theorem dX5_readPart_93 : decode cX5_readPart 93 = .ok (.aload_n 1, 1) := by decide +kernel
theorem dX5_readPart_94 : decode cX5_readPart 94 = .ok (.invokevirtual 65, 3) := by decide +kernel
theorem dX5_readPart_97 : decode cX5_readPart 97 = .ok (.ireturn, 1) := by decide +kernel
theorem dX5_readPart_98 : decode cX5_readPart 98 = .ok (.aload_n 1, 1) := by decide +kernel
theorem dX5_readPart_99 : decode cX5_readPart 99 = .ok (.invokevirtual 54, 3) := by decide +kernel
theorem dX5_readPart_102 : decode cX5_readPart 102 = .ok (.aload_n 0, 1) := by decide +kernel
theorem dX5_readPart_103 : decode cX5_readPart 103 = .ok (.iload_n 2, 1) := by decide +kernel
theorem dX5_readPart_104 : decode cX5_readPart 104 = .ok (.invokevirtual 50, 3) := by decide +kernel
theorem dX5_readPart_107 : decode cX5_readPart 107 = .ok (.iconst 1, 1) := by decide +kernel
theorem dX5_readPart_108 : decode cX5_readPart 108 = .ok (.ireturn, 1) := by decide +kernel
theorem dX5_write_0 : decode cX5_write 0 = .ok (.aload_n 0, 1) := by decide +kernel
theorem dX5_write_1 : decode cX5_write 1 = .ok (.getfield 22, 3) := by decide +kernel
theorem dX5_write_4 : decode cX5_write 4 = .ok (.aload_n 0, 1) := by decide +kernel
theorem dX5_write_5 : decode cX5_write 5 = .ok (.getfield 15, 3) := by decide +kernel
theorem dX5_write_8 : decode cX5_write 8 = .ok (.arraylength, 1) := by decide +kernel
theorem dX5_write_9 : decode cX5_write 9 = .ok (.if_icmp .ge 23, 3) := by decide +kernel
theorem dX5_write_12 : decode cX5_write 12 = .ok (.aload_n 0, 1) := by decide +kernel
theorem dX5_write_13 : decode cX5_write 13 = .ok (.getfield 15, 3) := by decide +kernel
theorem dX5_write_16 : decode cX5_write 16 = .ok (.aload_n 0, 1) := by decide +kernel
theorem dX5_write_17 : decode cX5_write 17 = .ok (.getfield 22, 3) := by decide +kernel
theorem dX5_write_20 : decode cX5_write 20 = .ok (.iload_n 1, 1) := by decide +kernel
theorem dX5_write_21 : decode cX5_write 21 = .ok (.iastore, 1) := by decide +kernel
theorem dX5_write_22 : decode cX5_write 22 = .ok (.aload_n 0, 1) := by decide +kernel
theorem dX5_write_23 : decode cX5_write 23 = .ok (.dup, 1) := by decide +kernel
theorem dX5_write_24 : decode cX5_write 24 = .ok (.getfield 22, 3) := by decide +kernel
theorem dX5_write_27 : decode cX5_write 27 = .ok (.iconst 1, 1) := by decide +kernel
theorem dX5_write_28 : decode cX5_write 28 = .ok (.iadd, 1) := by decide +kernel
theorem dX5_write_29 : decode cX5_write 29 = .ok (.putfield 22, 3) := by decide +kernel
theorem dX5_write_32 : decode cX5_write 32 = .ok (.return_, 1) := by decide +kernel
theorem dX5_isEmpty_0 : decode cX5_isEmpty 0 = .ok (.aload_n 0, 1) := by decide +kernel
theorem dX5_isEmpty_1 : decode cX5_isEmpty 1 = .ok (.getfield 22, 3) := by decide +kernel
theorem dX5_isEmpty_4 : decode cX5_isEmpty 4 = .ok (.ifCond .ne 7, 3) := by decide +kernel
theorem dX5_isEmpty_7 : decode cX5_isEmpty 7 = .ok (.iconst 1, 1) := by decide +kernel
theorem dX5_isEmpty_8 : decode cX5_isEmpty 8 = .ok (.goto 4, 3) := by decide +kernel
theorem dX5_isEmpty_11 : decode cX5_isEmpty 11 = .ok (.iconst 0, 1) := by decide +kernel
theorem dX5_isEmpty_12 : decode cX5_isEmpty 12 = .ok (.ireturn, 1) := by decide +kernel
theorem dX5_bars_0 : decode cX5_bars 0 = .ok (.iconst 0, 1) := by decide +kernel
theorem dX5_bars_1 : decode cX5_bars 1 = .ok (.istore 6, 2) := by decide +kernel
theorem dX5_bars_3 : decode cX5_bars 3 = .ok (.iconst 0, 1) := by decide +kernel
theorem dX5_bars_4 : decode cX5_bars 4 = .ok (.istore 7, 2) := by decide +kernel
theorem dX5_bars_6 : decode cX5_bars 6 = .ok (.iload 7, 2) := by decide +kernel
theorem dX5_bars_8 : decode cX5_bars 8 = .ok (.aload_n 0, 1) := by decide +kernel
theorem dX5_bars_9 : decode cX5_bars 9 = .ok (.getfield 22, 3) := by decide +kernel
theorem dX5_bars_12 : decode cX5_bars 12 = .ok (.if_icmp .ge 161, 3) := by decide +kernel
theorem dX5_bars_15 : decode cX5_bars 15 = .ok (.aload_n 0, 1) := by decide +kernel
theorem dX5_bars_16 : decode cX5_bars 16 = .ok (.getfield 15, 3) := by decide +kernel
theorem dX5_bars_19 : decode cX5_bars 19 = .ok (.iload 7, 2) := by decide +kernel
theorem dX5_bars_21 : decode cX5_bars 21 = .ok (.iaload, 1) := by decide +kernel
theorem dX5_bars_22 : decode cX5_bars 22 = .ok (.istore 8, 2) := by decide +kernel
theorem dX5_bars_24 : decode cX5_bars 24 = .ok (.iload 8, 2) := by decide +kernel
theorem dX5_bars_26 : decode cX5_bars 26 = .ok (.bipush (-8), 2) := by decide +kernel
theorem dX5_bars_28 : decode cX5_bars 28 = .ok (.if_icmp .le 38, 3) := by decide +kernel
theorem dX5_bars_31 : decode cX5_bars 31 = .ok (.iload 6, 2) := by decide +kernel
theorem dX5_bars_33 : decode cX5_bars 33 = .ok (.aload_n 0, 1) := by decide +kernel
theorem dX5_bars_34 : decode cX5_bars 34 = .ok (.getfield 19, 3) := by decide +kernel
theorem dX5_bars_37 : decode cX5_bars 37 = .ok (.arraylength, 1) := by decide +kernel
theorem dX5_bars_38 : decode cX5_bars 38 = .ok (.if_icmp .ge 129, 3) := by decide +kernel
theorem dX5_bars_41 : decode cX5_bars 41 = .ok (.aload_n 0, 1) := by decide +kernel
theorem dX5_bars_42 : decode cX5_bars 42 = .ok (.getfield 19, 3) := by decide +kernel
theorem dX5_bars_45 : decode cX5_bars 45 = .ok (.iload 6, 2) := by decide +kernel
theorem dX5_bars_47 : decode cX5_bars 47 = .ok (.iload 8, 2) := by decide +kernel
theorem dX5_bars_49 : decode cX5_bars 49 = .ok (.iload_n 1, 1) := by decide +kernel
theorem dX5_bars_50 : decode cX5_bars 50 = .ok (.iload_n 2, 1) := by decide +kernel
theorem dX5_bars_51 : decode cX5_bars 51 = .ok (.iload_n 3, 1) := by decide +kernel
theorem dX5_bars_52 : decode cX5_bars 52 = .ok (.iload 4, 2) := by decide +kernel
theorem dX5_bars_54 : decode cX5_bars 54 = .ok (.iload 5, 2) := by decide +kernel
theorem dX5_bars_56 : decode cX5_bars 56 = .ok (.invokestatic 103, 3) := by decide +kernel
theorem dX5_bars_59 : decode cX5_bars 59 = .ok (.iastore, 1) := by decide +kernel
theorem dX5_bars_60 : decode cX5_bars 60 = .ok (.iinc 6 1, 3) := by decide +kernel
theorem dX5_bars_63 : decode cX5_bars 63 = .ok (.goto 104, 3) := by decide +kernel
theorem dX5_bars_66 : decode cX5_bars 66 = .ok (.iload 8, 2) := by decide +kernel
theorem dX5_bars_68 : decode cX5_bars 68 = .ok (.bipush (-8), 2) := by decide +kernel
theorem dX5_bars_70 : decode cX5_bars 70 = .ok (.if_icmp .ne 31, 3) := by decide +kernel
theorem dX5_bars_73 : decode cX5_bars 73 = .ok (.iload 6, 2) := by decide +kernel
theorem dX5_bars_75 : decode cX5_bars 75 = .ok (.ifCond .le 26, 3) := by decide +kernel
theorem dX5_bars_78 : decode cX5_bars 78 = .ok (.aload_n 0, 1) := by decide +kernel
theorem dX5_bars_79 : decode cX5_bars 79 = .ok (.getfield 19, 3) := by decide +kernel
theorem dX5_bars_82 : decode cX5_bars 82 = .ok (.iload 6, 2) := by decide +kernel
theorem dX5_bars_84 : decode cX5_bars 84 = .ok (.iconst 1, 1) := by decide +kernel
theorem dX5_bars_85 : decode cX5_bars 85 = .ok (.isub, 1) := by decide +kernel
theorem dX5_bars_86 : decode cX5_bars 86 = .ok (.iconst 1, 1) := by decide +kernel
theorem dX5_bars_87 : decode cX5_bars 87 = .ok (.aload_n 0, 1) := by decide +kernel
theorem dX5_bars_88 : decode cX5_bars 88 = .ok (.getfield 19, 3) := by decide +kernel
theorem dX5_bars_91 : decode cX5_bars 91 = .ok (.iload 6, 2) := by decide +kernel
theorem dX5_bars_93 : decode cX5_bars 93 = .ok (.iconst 1, 1) := by decide +kernel
theorem dX5_bars_94 : decode cX5_bars 94 = .ok (.isub, 1) := by decide +kernel
theorem dX5_bars_95 : decode cX5_bars 95 = .ok (.iaload, 1) := by decide +kernel
theorem dX5_bars_96 : decode cX5_bars 96 = .ok (.isub, 1) := by decide +kernel
theorem dX5_bars_97 : decode cX5_bars 97 = .ok (.iastore, 1) := by decide +kernel
theorem dX5_bars_98 : decode cX5_bars 98 = .ok (.goto 69, 3) := by decide +kernel
theorem dX5_bars_101 : decode cX5_bars 101 = .ok (.iload 8, 2) := by decide +kernel
theorem dX5_bars_103 : decode cX5_bars 103 = .ok (.bipush (-9), 2) := by decide +kernel
theorem dX5_bars_105 : decode cX5_bars 105 = .ok (.if_icmp .ne 23, 3) := by decide +kernel
theorem dX5_bars_108 : decode cX5_bars 108 = .ok (.iload 6, 2) := by decide +kernel
theorem dX5_bars_110 : decode cX5_bars 110 = .ok (.ifCond .le 18, 3) := by decide +kernel
theorem dX5_bars_113 : decode cX5_bars 113 = .ok (.iinc 6 (-1), 3) := by decide +kernel
theorem dX5_bars_116 : decode cX5_bars 116 = .ok (.aload_n 0, 1) := by decide +kernel
theorem dX5_bars_117 : decode cX5_bars 117 = .ok (.getfield 19, 3) := by decide +kernel
theorem dX5_bars_120 : decode cX5_bars 120 = .ok (.iload 6, 2) := by decide +kernel
theorem dX5_bars_122 : decode cX5_bars 122 = .ok (.iaload, 1) := by decide +kernel
theorem dX5_bars_123 : decode cX5_bars 123 = .ok (.ifCond .eq 44, 3) := by decide +kernel
theorem dX5_bars_126 : decode cX5_bars 126 = .ok (.iconst 1, 1) := by decide +kernel
theorem dX5_bars_127 : decode cX5_bars 127 = .ok (.ireturn, 1) := by decide +kernel
theorem dX5_bars_128 : decode cX5_bars 128 = .ok (.iload 6, 2) := by decide +kernel
theorem dX5_bars_130 : decode cX5_bars 130 = .ok (.iconst 1, 1) := by decide +kernel
theorem dX5_bars_131 : decode cX5_bars 131 = .ok (.if_icmp .le 36, 3) := by decide +kernel
theorem dX5_bars_134 : decode cX5_bars 134 = .ok (.iinc 6 (-1), 3) := by decide +kernel
theorem dX5_bars_137 : decode cX5_bars 137 = .ok (.aload_n 0, 1) := by decide +kernel
theorem dX5_bars_138 : decode cX5_bars 138 = .ok (.getfield 19, 3) := by decide +kernel
theorem dX5_bars_141 : decode cX5_bars 141 = .ok (.iload 6, 2) := by decide +kernel
theorem dX5_bars_143 : decode cX5_bars 143 = .ok (.iconst 1, 1) := by decide +kernel
theorem dX5_bars_144 : decode cX5_bars 144 = .ok (.isub, 1) := by decide +kernel
theorem dX5_bars_145 : decode cX5_bars 145 = .ok (.iload 8, 2) := by decide +kernel
theorem dX5_bars_147 : decode cX5_bars 147 = .ok (.aload_n 0, 1) := by decide +kernel
theorem dX5_bars_148 : decode cX5_bars 148 = .ok (.getfield 19, 3) := by decide +kernel
theorem dX5_bars_151 : decode cX5_bars 151 = .ok (.iload 6, 2) := by decide +kernel
theorem dX5_bars_153 : decode cX5_bars 153 = .ok (.iconst 1, 1) := by decide +kernel
theorem dX5_bars_154 : decode cX5_bars 154 = .ok (.isub, 1) := by decide +kernel
theorem dX5_bars_155 : decode cX5_bars 155 = .ok (.iaload, 1) := by decide +kernel
theorem dX5_bars_156 : decode cX5_bars 156 = .ok (.aload_n 0, 1) := by decide +kernel
theorem dX5_bars_157 : decode cX5_bars 157 = .ok (.getfield 19, 3) := by decide +kernel
theorem dX5_bars_160 : decode cX5_bars 160 = .ok (.iload 6, 2) := by decide +kernel
theorem dX5_bars_162 : decode cX5_bars 162 = .ok (.iaload, 1) := by decide +kernel
theorem dX5_bars_163 : decode cX5_bars 163 = .ok (.invokestatic 107, 3) := by decide +kernel
theorem dX5_bars_166 : decode cX5_bars 166 = .ok (.iastore, 1) := by decide +kernel
theorem dX5_bars_167 : decode cX5_bars 167 = .ok (.iinc 7 1, 3) := by decide +kernel
theorem dX5_bars_170 : decode cX5_bars 170 = .ok (.goto (-164), 3) := by decide +kernel
theorem dX5_bars_173 : decode cX5_bars 173 = .ok (.iconst 0, 1) := by decide +kernel
theorem dX5_bars_174 : decode cX5_bars 174 = .ok (.ireturn, 1) := by decide +kernel
theorem dX5_valueOf_0 : decode cX5_valueOf 0 = .ok (.iload_n 0, 1) := by decide +kernel
theorem dX5_valueOf_1 : decode cX5_valueOf 1 = .ok (.tableswitch 66 (-7) (-2) #[51, 48, 45, 43, 41, 39], 39) := by decide +kernel
theorem dX5_valueOf_40 : decode cX5_valueOf 40 = .ok (.iload_n 1, 1) := by decide +kernel
theorem dX5_valueOf_41 : decode cX5_valueOf 41 = .ok (.ireturn, 1) := by decide +kernel
theorem dX5_valueOf_42 : decode cX5_valueOf 42 = .ok (.iload_n 2, 1) := by decide +kernel
theorem dX5_valueOf_43 : decode cX5_valueOf 43 = .ok (.ireturn, 1) := by decide +kernel
theorem dX5_valueOf_44 : decode cX5_valueOf 44 = .ok (.iload_n 3, 1) := by decide +kernel
theorem dX5_valueOf_45 : decode cX5_valueOf 45 = .ok (.ireturn, 1) := by decide +kernel
theorem dX5_valueOf_46 : decode cX5_valueOf 46 = .ok (.iload 4, 2) := by decide +kernel
theorem dX5_valueOf_48 : decode cX5_valueOf 48 = .ok (.ireturn, 1) := by decide +kernel
theorem dX5_valueOf_49 : decode cX5_valueOf 49 = .ok (.iload 5, 2) := by decide +kernel
theorem dX5_valueOf_51 : decode cX5_valueOf 51 = .ok (.ireturn, 1) := by decide +kernel
theorem dX5_valueOf_52 : decode cX5_valueOf 52 = .ok (.iload_n 2, 1) := by decide +kernel
theorem dX5_valueOf_53 : decode cX5_valueOf 53 = .ok (.ifCond .eq 8, 3) := by decide +kernel
theorem dX5_valueOf_56 : decode cX5_valueOf 56 = .ok (.iload 4, 2) := by decide +kernel
theorem dX5_valueOf_58 : decode cX5_valueOf 58 = .ok (.ifCond .ne 7, 3) := by decide +kernel
theorem dX5_valueOf_61 : decode cX5_valueOf 61 = .ok (.iconst 1, 1) := by decide +kernel
theorem dX5_valueOf_62 : decode cX5_valueOf 62 = .ok (.goto 4, 3) := by decide +kernel
theorem dX5_valueOf_65 : decode cX5_valueOf 65 = .ok (.iconst 0, 1) := by decide +kernel
theorem dX5_valueOf_66 : decode cX5_valueOf 66 = .ok (.ireturn, 1) := by decide +kernel
theorem dX5_valueOf_67 : decode cX5_valueOf 67 = .ok (.iload_n 0, 1) := by decide +kernel
theorem dX5_valueOf_68 : decode cX5_valueOf 68 = .ok (.ireturn, 1) := by decide +kernel
theorem dX5_joined_0 : decode cX5_joined 0 = .ok (.iload_n 0, 1) := by decide +kernel
theorem dX5_joined_1 : decode cX5_joined 1 = .ok (.tableswitch 61 (-13) (-10) #[57, 46, 35, 31], 31) := by decide +kernel
theorem dX5_joined_32 : decode cX5_joined 32 = .ok (.iload_n 1, 1) := by decide +kernel
theorem dX5_joined_33 : decode cX5_joined 33 = .ok (.iload_n 2, 1) := by decide +kernel
theorem dX5_joined_34 : decode cX5_joined 34 = .ok (.iadd, 1) := by decide +kernel
theorem dX5_joined_35 : decode cX5_joined 35 = .ok (.ireturn, 1) := by decide +kernel
theorem dX5_joined_36 : decode cX5_joined 36 = .ok (.iload_n 1, 1) := by decide +kernel
theorem dX5_joined_37 : decode cX5_joined 37 = .ok (.iload_n 2, 1) := by decide +kernel
theorem dX5_joined_38 : decode cX5_joined 38 = .ok (.if_icmp .ge 7, 3) := by decide +kernel
theorem dX5_joined_41 : decode cX5_joined 41 = .ok (.iconst 1, 1) := by decide +kernel
theorem dX5_joined_42 : decode cX5_joined 42 = .ok (.goto 4, 3) := by decide +kernel
theorem dX5_joined_45 : decode cX5_joined 45 = .ok (.iconst 0, 1) := by decide +kernel
theorem dX5_joined_46 : decode cX5_joined 46 = .ok (.ireturn, 1) := by decide +kernel
theorem dX5_joined_47 : decode cX5_joined 47 = .ok (.iload_n 1, 1) := by decide +kernel
theorem dX5_joined_48 : decode cX5_joined 48 = .ok (.iload_n 2, 1) := by decide +kernel
theorem dX5_joined_49 : decode cX5_joined 49 = .ok (.if_icmp .le 7, 3) := by decide +kernel
theorem dX5_joined_52 : decode cX5_joined 52 = .ok (.iconst 1, 1) := by decide +kernel
theorem dX5_joined_53 : decode cX5_joined 53 = .ok (.goto 4, 3) := by decide +kernel
theorem dX5_joined_56 : decode cX5_joined 56 = .ok (.iconst 0, 1) := by decide +kernel
theorem dX5_joined_57 : decode cX5_joined 57 = .ok (.ireturn, 1) := by decide +kernel
theorem dX5_joined_58 : decode cX5_joined 58 = .ok (.iload_n 1, 1) := by decide +kernel
theorem dX5_joined_59 : decode cX5_joined 59 = .ok (.iload_n 2, 1) := by decide +kernel
theorem dX5_joined_60 : decode cX5_joined 60 = .ok (.iand, 1) := by decide +kernel
theorem dX5_joined_61 : decode cX5_joined 61 = .ok (.ireturn, 1) := by decide +kernel
theorem dX5_joined_62 : decode cX5_joined 62 = .ok (.iload_n 1, 1) := by decide +kernel
theorem dX5_joined_63 : decode cX5_joined 63 = .ok (.iload_n 2, 1) := by decide +kernel
theorem dX5_joined_64 : decode cX5_joined 64 = .ok (.ior, 1) := by decide +kernel
theorem dX5_joined_65 : decode cX5_joined 65 = .ok (.ireturn, 1) := by decide +kernel
theorem dX6_init_0 : decode cX6_init 0 = .ok (.aload_n 0, 1) := by decide +kernel
theorem dX6_init_1 : decode cX6_init 1 = .ok (.invokespecial 3, 3) := by decide +kernel
theorem dX6_init_4 : decode cX6_init 4 = .ok (.aload_n 0, 1) := by decide +kernel
theorem dX6_init_5 : decode cX6_init 5 = .ok (.bipush 12, 2) := by decide +kernel
theorem dX6_init_7 : decode cX6_init 7 = .ok (.newarray .long, 2) := by decide +kernel
theorem dX6_init_9 : decode cX6_init 9 = .ok (.putfield 9, 3) := by decide +kernel
theorem dX6_init_12 : decode cX6_init 12 = .ok (.aload_n 0, 1) := by decide +kernel
theorem dX6_init_13 : decode cX6_init 13 = .ok (.bipush 12, 2) := by decide +kernel
theorem dX6_init_15 : decode cX6_init 15 = .ok (.newarray .long, 2) := by decide +kernel
theorem dX6_init_17 : decode cX6_init 17 = .ok (.putfield 15, 3) := by decide +kernel
theorem dX6_init_20 : decode cX6_init 20 = .ok (.aload_n 0, 1) := by decide +kernel
theorem dX6_init_21 : decode cX6_init 21 = .ok (.bipush 12, 2) := by decide +kernel
theorem dX6_init_23 : decode cX6_init 23 = .ok (.newarray .int, 2) := by decide +kernel
theorem dX6_init_25 : decode cX6_init 25 = .ok (.putfield 18, 3) := by decide +kernel
theorem dX6_init_28 : decode cX6_init 28 = .ok (.aload_n 0, 1) := by decide +kernel
theorem dX6_init_29 : decode cX6_init 29 = .ok (.bipush 12, 2) := by decide +kernel
theorem dX6_init_31 : decode cX6_init 31 = .ok (.newarray .int, 2) := by decide +kernel
theorem dX6_init_33 : decode cX6_init 33 = .ok (.putfield 22, 3) := by decide +kernel
theorem dX6_init_36 : decode cX6_init 36 = .ok (.return_, 1) := by decide +kernel
theorem dX6_copyFrom_0 : decode cX6_copyFrom 0 = .ok (.aload_n 0, 1) := by decide +kernel
theorem dX6_copyFrom_1 : decode cX6_copyFrom 1 = .ok (.aload_n 1, 1) := by decide +kernel
theorem dX6_copyFrom_2 : decode cX6_copyFrom 2 = .ok (.getfield 25, 3) := by decide +kernel
theorem dX6_copyFrom_5 : decode cX6_copyFrom 5 = .ok (.putfield 25, 3) := by decide +kernel
theorem dX6_copyFrom_8 : decode cX6_copyFrom 8 = .ok (.aload_n 1, 1) := by decide +kernel
theorem dX6_copyFrom_9 : decode cX6_copyFrom 9 = .ok (.getfield 9, 3) := by decide +kernel
theorem dX6_copyFrom_12 : decode cX6_copyFrom 12 = .ok (.iconst 0, 1) := by decide +kernel
theorem dX6_copyFrom_13 : decode cX6_copyFrom 13 = .ok (.aload_n 0, 1) := by decide +kernel
theorem dX6_copyFrom_14 : decode cX6_copyFrom 14 = .ok (.getfield 9, 3) := by decide +kernel
theorem dX6_copyFrom_17 : decode cX6_copyFrom 17 = .ok (.iconst 0, 1) := by decide +kernel
theorem dX6_copyFrom_18 : decode cX6_copyFrom 18 = .ok (.bipush 12, 2) := by decide +kernel
theorem dX6_copyFrom_20 : decode cX6_copyFrom 20 = .ok (.invokestatic 29, 3) := by decide +kernel
theorem dX6_copyFrom_23 : decode cX6_copyFrom 23 = .ok (.aload_n 1, 1) := by decide +kernel
theorem dX6_copyFrom_24 : decode cX6_copyFrom 24 = .ok (.getfield 15, 3) := by decide +kernel
theorem dX6_copyFrom_27 : decode cX6_copyFrom 27 = .ok (.iconst 0, 1) := by decide +kernel
theorem dX6_copyFrom_28 : decode cX6_copyFrom 28 = .ok (.aload_n 0, 1) := by decide +kernel
theorem dX6_copyFrom_29 : decode cX6_copyFrom 29 = .ok (.getfield 15, 3) := by decide +kernel
theorem dX6_copyFrom_32 : decode cX6_copyFrom 32 = .ok (.iconst 0, 1) := by decide +kernel
theorem dX6_copyFrom_33 : decode cX6_copyFrom 33 = .ok (.bipush 12, 2) := by decide +kernel
theorem dX6_copyFrom_35 : decode cX6_copyFrom 35 = .ok (.invokestatic 29, 3) := by decide +kernel
theorem dX6_copyFrom_38 : decode cX6_copyFrom 38 = .ok (.aload_n 1, 1) := by decide +kernel
theorem dX6_copyFrom_39 : decode cX6_copyFrom 39 = .ok (.getfield 18, 3) := by decide +kernel
theorem dX6_copyFrom_42 : decode cX6_copyFrom 42 = .ok (.iconst 0, 1) := by decide +kernel
theorem dX6_copyFrom_43 : decode cX6_copyFrom 43 = .ok (.aload_n 0, 1) := by decide +kernel
theorem dX6_copyFrom_44 : decode cX6_copyFrom 44 = .ok (.getfield 18, 3) := by decide +kernel
theorem dX6_copyFrom_47 : decode cX6_copyFrom 47 = .ok (.iconst 0, 1) := by decide +kernel
theorem dX6_copyFrom_48 : decode cX6_copyFrom 48 = .ok (.bipush 12, 2) := by decide +kernel
theorem dX6_copyFrom_50 : decode cX6_copyFrom 50 = .ok (.invokestatic 29, 3) := by decide +kernel
theorem dX6_copyFrom_53 : decode cX6_copyFrom 53 = .ok (.aload_n 1, 1) := by decide +kernel
theorem dX6_copyFrom_54 : decode cX6_copyFrom 54 = .ok (.getfield 22, 3) := by decide +kernel
theorem dX6_copyFrom_57 : decode cX6_copyFrom 57 = .ok (.iconst 0, 1) := by decide +kernel
theorem dX6_copyFrom_58 : decode cX6_copyFrom 58 = .ok (.aload_n 0, 1) := by decide +kernel
theorem dX6_copyFrom_59 : decode cX6_copyFrom 59 = .ok (.getfield 22, 3) := by decide +kernel
theorem dX6_copyFrom_62 : decode cX6_copyFrom 62 = .ok (.iconst 0, 1) := by decide +kernel
theorem dX6_copyFrom_63 : decode cX6_copyFrom 63 = .ok (.bipush 12, 2) := by decide +kernel
theorem dX6_copyFrom_65 : decode cX6_copyFrom 65 = .ok (.invokestatic 29, 3) := by decide +kernel
theorem dX6_copyFrom_68 : decode cX6_copyFrom 68 = .ok (.return_, 1) := by decide +kernel
theorem dX6_append_0 : decode cX6_append 0 = .ok (.aload_n 0, 1) := by decide +kernel
theorem dX6_append_1 : decode cX6_append 1 = .ok (.getfield 25, 3) := by decide +kernel
theorem dX6_append_4 : decode cX6_append 4 = .ok (.bipush 12, 2) := by decide +kernel
theorem dX6_append_6 : decode cX6_append 6 = .ok (.if_icmp .ge 59, 3) := by decide +kernel
theorem dX6_append_9 : decode cX6_append 9 = .ok (.aload_n 0, 1) := by decide +kernel
theorem dX6_append_10 : decode cX6_append 10 = .ok (.getfield 9, 3) := by decide +kernel
theorem dX6_append_13 : decode cX6_append 13 = .ok (.aload_n 0, 1) := by decide +kernel
theorem dX6_append_14 : decode cX6_append 14 = .ok (.getfield 25, 3) := by decide +kernel
theorem dX6_append_17 : decode cX6_append 17 = .ok (.lload_n 1, 1) := by decide +kernel
theorem dX6_append_18 : decode cX6_append 18 = .ok (.lastore, 1) := by decide +kernel
theorem dX6_append_19 : decode cX6_append 19 = .ok (.aload_n 0, 1) := by decide +kernel
theorem dX6_append_20 : decode cX6_append 20 = .ok (.getfield 15, 3) := by decide +kernel
theorem dX6_append_23 : decode cX6_append 23 = .ok (.aload_n 0, 1) := by decide +kernel
theorem dX6_append_24 : decode cX6_append 24 = .ok (.getfield 25, 3) := by decide +kernel
theorem dX6_append_27 : decode cX6_append 27 = .ok (.lload_n 3, 1) := by decide +kernel
theorem dX6_append_28 : decode cX6_append 28 = .ok (.lastore, 1) := by decide +kernel
theorem dX6_append_29 : decode cX6_append 29 = .ok (.aload_n 0, 1) := by decide +kernel
theorem dX6_append_30 : decode cX6_append 30 = .ok (.getfield 18, 3) := by decide +kernel
theorem dX6_append_33 : decode cX6_append 33 = .ok (.aload_n 0, 1) := by decide +kernel
theorem dX6_append_34 : decode cX6_append 34 = .ok (.getfield 25, 3) := by decide +kernel
theorem dX6_append_37 : decode cX6_append 37 = .ok (.lload_n 1, 1) := by decide +kernel
theorem dX6_append_38 : decode cX6_append 38 = .ok (.invokestatic 35, 3) := by decide +kernel
theorem dX6_append_41 : decode cX6_append 41 = .ok (.iastore, 1) := by decide +kernel
theorem dX6_append_42 : decode cX6_append 42 = .ok (.aload_n 0, 1) := by decide +kernel
theorem dX6_append_43 : decode cX6_append 43 = .ok (.getfield 22, 3) := by decide +kernel
theorem dX6_append_46 : decode cX6_append 46 = .ok (.aload_n 0, 1) := by decide +kernel
theorem dX6_append_47 : decode cX6_append 47 = .ok (.getfield 25, 3) := by decide +kernel
theorem dX6_append_50 : decode cX6_append 50 = .ok (.lload_n 3, 1) := by decide +kernel
theorem dX6_append_51 : decode cX6_append 51 = .ok (.invokestatic 35, 3) := by decide +kernel
theorem dX6_append_54 : decode cX6_append 54 = .ok (.iastore, 1) := by decide +kernel
theorem dX6_append_55 : decode cX6_append 55 = .ok (.aload_n 0, 1) := by decide +kernel
theorem dX6_append_56 : decode cX6_append 56 = .ok (.dup, 1) := by decide +kernel
theorem dX6_append_57 : decode cX6_append 57 = .ok (.getfield 25, 3) := by decide +kernel
theorem dX6_append_60 : decode cX6_append 60 = .ok (.iconst 1, 1) := by decide +kernel
theorem dX6_append_61 : decode cX6_append 61 = .ok (.iadd, 1) := by decide +kernel
theorem dX6_append_62 : decode cX6_append 62 = .ok (.putfield 25, 3) := by decide +kernel
theorem dX6_append_65 : decode cX6_append 65 = .ok (.return_, 1) := by decide +kernel
theorem dX6_remove_0 : decode cX6_remove 0 = .ok (.iload_n 1, 1) := by decide +kernel
theorem dX6_remove_1 : decode cX6_remove 1 = .ok (.istore_n 2, 1) := by decide +kernel
theorem dX6_remove_2 : decode cX6_remove 2 = .ok (.iload_n 2, 1) := by decide +kernel
theorem dX6_remove_3 : decode cX6_remove 3 = .ok (.iconst 1, 1) := by decide +kernel
theorem dX6_remove_4 : decode cX6_remove 4 = .ok (.iadd, 1) := by decide +kernel
theorem dX6_remove_5 : decode cX6_remove 5 = .ok (.aload_n 0, 1) := by decide +kernel
theorem dX6_remove_6 : decode cX6_remove 6 = .ok (.getfield 25, 3) := by decide +kernel
theorem dX6_remove_9 : decode cX6_remove 9 = .ok (.if_icmp .ge 65, 3) := by decide +kernel
theorem dX6_remove_12 : decode cX6_remove 12 = .ok (.aload_n 0, 1) := by decide +kernel
theorem dX6_remove_13 : decode cX6_remove 13 = .ok (.getfield 9, 3) := by decide +kernel
theorem dX6_remove_16 : decode cX6_remove 16 = .ok (.iload_n 2, 1) := by decide +kernel
theorem dX6_remove_17 : decode cX6_remove 17 = .ok (.aload_n 0, 1) := by decide +kernel
theorem dX6_remove_18 : decode cX6_remove 18 = .ok (.getfield 9, 3) := by decide +kernel
theorem dX6_remove_21 : decode cX6_remove 21 = .ok (.iload_n 2, 1) := by decide +kernel
theorem dX6_remove_22 : decode cX6_remove 22 = .ok (.iconst 1, 1) := by decide +kernel
theorem dX6_remove_23 : decode cX6_remove 23 = .ok (.iadd, 1) := by decide +kernel
theorem dX6_remove_24 : decode cX6_remove 24 = .ok (.laload, 1) := by decide +kernel
theorem dX6_remove_25 : decode cX6_remove 25 = .ok (.lastore, 1) := by decide +kernel
theorem dX6_remove_26 : decode cX6_remove 26 = .ok (.aload_n 0, 1) := by decide +kernel
theorem dX6_remove_27 : decode cX6_remove 27 = .ok (.getfield 15, 3) := by decide +kernel
theorem dX6_remove_30 : decode cX6_remove 30 = .ok (.iload_n 2, 1) := by decide +kernel
theorem dX6_remove_31 : decode cX6_remove 31 = .ok (.aload_n 0, 1) := by decide +kernel
theorem dX6_remove_32 : decode cX6_remove 32 = .ok (.getfield 15, 3) := by decide +kernel
theorem dX6_remove_35 : decode cX6_remove 35 = .ok (.iload_n 2, 1) := by decide +kernel
theorem dX6_remove_36 : decode cX6_remove 36 = .ok (.iconst 1, 1) := by decide +kernel
theorem dX6_remove_37 : decode cX6_remove 37 = .ok (.iadd, 1) := by decide +kernel
theorem dX6_remove_38 : decode cX6_remove 38 = .ok (.laload, 1) := by decide +kernel
theorem dX6_remove_39 : decode cX6_remove 39 = .ok (.lastore, 1) := by decide +kernel
theorem dX6_remove_40 : decode cX6_remove 40 = .ok (.aload_n 0, 1) := by decide +kernel
theorem dX6_remove_41 : decode cX6_remove 41 = .ok (.getfield 18, 3) := by decide +kernel
theorem dX6_remove_44 : decode cX6_remove 44 = .ok (.iload_n 2, 1) := by decide +kernel
theorem dX6_remove_45 : decode cX6_remove 45 = .ok (.aload_n 0, 1) := by decide +kernel
theorem dX6_remove_46 : decode cX6_remove 46 = .ok (.getfield 18, 3) := by decide +kernel
theorem dX6_remove_49 : decode cX6_remove 49 = .ok (.iload_n 2, 1) := by decide +kernel
theorem dX6_remove_50 : decode cX6_remove 50 = .ok (.iconst 1, 1) := by decide +kernel
theorem dX6_remove_51 : decode cX6_remove 51 = .ok (.iadd, 1) := by decide +kernel
theorem dX6_remove_52 : decode cX6_remove 52 = .ok (.iaload, 1) := by decide +kernel
theorem dX6_remove_53 : decode cX6_remove 53 = .ok (.iastore, 1) := by decide +kernel
theorem dX6_remove_54 : decode cX6_remove 54 = .ok (.aload_n 0, 1) := by decide +kernel
theorem dX6_remove_55 : decode cX6_remove 55 = .ok (.getfield 22, 3) := by decide +kernel
theorem dX6_remove_58 : decode cX6_remove 58 = .ok (.iload_n 2, 1) := by decide +kernel
theorem dX6_remove_59 : decode cX6_remove 59 = .ok (.aload_n 0, 1) := by decide +kernel
theorem dX6_remove_60 : decode cX6_remove 60 = .ok (.getfield 22, 3) := by decide +kernel
theorem dX6_remove_63 : decode cX6_remove 63 = .ok (.iload_n 2, 1) := by decide +kernel
theorem dX6_remove_64 : decode cX6_remove 64 = .ok (.iconst 1, 1) := by decide +kernel
theorem dX6_remove_65 : decode cX6_remove 65 = .ok (.iadd, 1) := by decide +kernel
theorem dX6_remove_66 : decode cX6_remove 66 = .ok (.iaload, 1) := by decide +kernel
theorem dX6_remove_67 : decode cX6_remove 67 = .ok (.iastore, 1) := by decide +kernel
theorem dX6_remove_68 : decode cX6_remove 68 = .ok (.iinc 2 1, 3) := by decide +kernel
theorem dX6_remove_71 : decode cX6_remove 71 = .ok (.goto (-69), 3) := by decide +kernel
theorem dX6_remove_74 : decode cX6_remove 74 = .ok (.aload_n 0, 1) := by decide +kernel
theorem dX6_remove_75 : decode cX6_remove 75 = .ok (.dup, 1) := by decide +kernel
theorem dX6_remove_76 : decode cX6_remove 76 = .ok (.getfield 25, 3) := by decide +kernel
theorem dX6_remove_79 : decode cX6_remove 79 = .ok (.iconst 1, 1) := by decide +kernel
theorem dX6_remove_80 : decode cX6_remove 80 = .ok (.isub, 1) := by decide +kernel
theorem dX6_remove_81 : decode cX6_remove 81 = .ok (.putfield 25, 3) := by decide +kernel
theorem dX6_remove_84 : decode cX6_remove 84 = .ok (.return_, 1) := by decide +kernel
theorem dX6_kindsOfLefts_0 : decode cX6_kindsOfLefts 0 = .ok (.iconst 0, 1) := by decide +kernel
theorem dX6_kindsOfLefts_1 : decode cX6_kindsOfLefts 1 = .ok (.istore_n 1, 1) := by decide +kernel
theorem dX6_kindsOfLefts_2 : decode cX6_kindsOfLefts 2 = .ok (.iconst 0, 1) := by decide +kernel
theorem dX6_kindsOfLefts_3 : decode cX6_kindsOfLefts 3 = .ok (.istore_n 2, 1) := by decide +kernel
theorem dX6_kindsOfLefts_4 : decode cX6_kindsOfLefts 4 = .ok (.iload_n 2, 1) := by decide +kernel
theorem dX6_kindsOfLefts_5 : decode cX6_kindsOfLefts 5 = .ok (.aload_n 0, 1) := by decide +kernel
theorem dX6_kindsOfLefts_6 : decode cX6_kindsOfLefts 6 = .ok (.getfield 25, 3) := by decide +kernel
theorem dX6_kindsOfLefts_9 : decode cX6_kindsOfLefts 9 = .ok (.if_icmp .ge 21, 3) := by decide +kernel
theorem dX6_kindsOfLefts_12 : decode cX6_kindsOfLefts 12 = .ok (.iload_n 1, 1) := by decide +kernel
theorem dX6_kindsOfLefts_13 : decode cX6_kindsOfLefts 13 = .ok (.aload_n 0, 1) := by decide +kernel
theorem dX6_kindsOfLefts_14 : decode cX6_kindsOfLefts 14 = .ok (.getfield 9, 3) := by decide +kernel
theorem dX6_kindsOfLefts_17 : decode cX6_kindsOfLefts 17 = .ok (.iload_n 2, 1) := by decide +kernel
theorem dX6_kindsOfLefts_18 : decode cX6_kindsOfLefts 18 = .ok (.laload, 1) := by decide +kernel
theorem dX6_kindsOfLefts_19 : decode cX6_kindsOfLefts 19 = .ok (.invokestatic 39, 3) := by decide +kernel
theorem dX6_kindsOfLefts_22 : decode cX6_kindsOfLefts 22 = .ok (.ior, 1) := by decide +kernel
theorem dX6_kindsOfLefts_23 : decode cX6_kindsOfLefts 23 = .ok (.istore_n 1, 1) := by decide +kernel
theorem dX6_kindsOfLefts_24 : decode cX6_kindsOfLefts 24 = .ok (.iinc 2 1, 3) := by decide +kernel
theorem dX6_kindsOfLefts_27 : decode cX6_kindsOfLefts 27 = .ok (.goto (-23), 3) := by decide +kernel
theorem dX6_kindsOfLefts_30 : decode cX6_kindsOfLefts 30 = .ok (.iload_n 1, 1) := by decide +kernel
theorem dX6_kindsOfLefts_31 : decode cX6_kindsOfLefts 31 = .ok (.ireturn, 1) := by decide +kernel
theorem dX6_kindsOfRights_0 : decode cX6_kindsOfRights 0 = .ok (.iconst 0, 1) := by decide +kernel
theorem dX6_kindsOfRights_1 : decode cX6_kindsOfRights 1 = .ok (.istore_n 1, 1) := by decide +kernel
theorem dX6_kindsOfRights_2 : decode cX6_kindsOfRights 2 = .ok (.iconst 0, 1) := by decide +kernel
theorem dX6_kindsOfRights_3 : decode cX6_kindsOfRights 3 = .ok (.istore_n 2, 1) := by decide +kernel
theorem dX6_kindsOfRights_4 : decode cX6_kindsOfRights 4 = .ok (.iload_n 2, 1) := by decide +kernel
theorem dX6_kindsOfRights_5 : decode cX6_kindsOfRights 5 = .ok (.aload_n 0, 1) := by decide +kernel
theorem dX6_kindsOfRights_6 : decode cX6_kindsOfRights 6 = .ok (.getfield 25, 3) := by decide +kernel
theorem dX6_kindsOfRights_9 : decode cX6_kindsOfRights 9 = .ok (.if_icmp .ge 21, 3) := by decide +kernel
theorem dX6_kindsOfRights_12 : decode cX6_kindsOfRights 12 = .ok (.iload_n 1, 1) := by decide +kernel
theorem dX6_kindsOfRights_13 : decode cX6_kindsOfRights 13 = .ok (.aload_n 0, 1) := by decide +kernel
theorem dX6_kindsOfRights_14 : decode cX6_kindsOfRights 14 = .ok (.getfield 15, 3) := by decide +kernel
theorem dX6_kindsOfRights_17 : decode cX6_kindsOfRights 17 = .ok (.iload_n 2, 1) := by decide +kernel
theorem dX6_kindsOfRights_18 : decode cX6_kindsOfRights 18 = .ok (.laload, 1) := by decide +kernel
theorem dX6_kindsOfRights_19 : decode cX6_kindsOfRights 19 = .ok (.invokestatic 39, 3) := by decide +kernel
theorem dX6_kindsOfRights_22 : decode cX6_kindsOfRights 22 = .ok (.ior, 1) := by decide +kernel
theorem dX6_kindsOfRights_23 : decode cX6_kindsOfRights 23 = .ok (.istore_n 1, 1) := by decide +kernel
theorem dX6_kindsOfRights_24 : decode cX6_kindsOfRights 24 = .ok (.iinc 2 1, 3) := by decide +kernel
theorem dX6_kindsOfRights_27 : decode cX6_kindsOfRights 27 = .ok (.goto (-23), 3) := by decide +kernel
theorem dX6_kindsOfRights_30 : decode cX6_kindsOfRights 30 = .ok (.iload_n 1, 1) := by decide +kernel
theorem dX6_kindsOfRights_31 : decode cX6_kindsOfRights 31 = .ok (.ireturn, 1) := by decide +kernel
theorem dX6_kinds_0 : decode cX6_kinds 0 = .ok (.aload_n 0, 1) := by decide +kernel
theorem dX6_kinds_1 : decode cX6_kinds 1 = .ok (.invokevirtual 42, 3) := by decide +kernel
theorem dX6_kinds_4 : decode cX6_kinds 4 = .ok (.aload_n 0, 1) := by decide +kernel
theorem dX6_kinds_5 : decode cX6_kinds 5 = .ok (.invokevirtual 46, 3) := by decide +kernel
theorem dX6_kinds_8 : decode cX6_kinds 8 = .ok (.ior, 1) := by decide +kernel
theorem dX6_kinds_9 : decode cX6_kinds 9 = .ok (.ireturn, 1) := by decide +kernel
theorem dX6_shrinking_0 : decode cX6_shrinking 0 = .ok (.iconst 0, 1) := by decide +kernel
theorem dX6_shrinking_1 : decode cX6_shrinking 1 = .ok (.istore_n 1, 1) := by decide +kernel
theorem dX6_shrinking_2 : decode cX6_shrinking 2 = .ok (.iconst 0, 1) := by decide +kernel
theorem dX6_shrinking_3 : decode cX6_shrinking 3 = .ok (.istore_n 2, 1) := by decide +kernel
theorem dX6_shrinking_4 : decode cX6_shrinking 4 = .ok (.iload_n 2, 1) := by decide +kernel
theorem dX6_shrinking_5 : decode cX6_shrinking 5 = .ok (.aload_n 0, 1) := by decide +kernel
theorem dX6_shrinking_6 : decode cX6_shrinking 6 = .ok (.getfield 25, 3) := by decide +kernel
theorem dX6_shrinking_9 : decode cX6_shrinking 9 = .ok (.if_icmp .ge 34, 3) := by decide +kernel
theorem dX6_shrinking_12 : decode cX6_shrinking 12 = .ok (.iload_n 1, 1) := by decide +kernel
theorem dX6_shrinking_13 : decode cX6_shrinking 13 = .ok (.aload_n 0, 1) := by decide +kernel
theorem dX6_shrinking_14 : decode cX6_shrinking 14 = .ok (.getfield 22, 3) := by decide +kernel
theorem dX6_shrinking_17 : decode cX6_shrinking 17 = .ok (.iload_n 2, 1) := by decide +kernel
theorem dX6_shrinking_18 : decode cX6_shrinking 18 = .ok (.iaload, 1) := by decide +kernel
theorem dX6_shrinking_19 : decode cX6_shrinking 19 = .ok (.aload_n 0, 1) := by decide +kernel
theorem dX6_shrinking_20 : decode cX6_shrinking 20 = .ok (.getfield 18, 3) := by decide +kernel
theorem dX6_shrinking_23 : decode cX6_shrinking 23 = .ok (.iload_n 2, 1) := by decide +kernel
theorem dX6_shrinking_24 : decode cX6_shrinking 24 = .ok (.iaload, 1) := by decide +kernel
theorem dX6_shrinking_25 : decode cX6_shrinking 25 = .ok (.if_icmp .ge 9, 3) := by decide +kernel
theorem dX6_shrinking_28 : decode cX6_shrinking 28 = .ok (.iconst 1, 1) := by decide +kernel
theorem dX6_shrinking_29 : decode cX6_shrinking 29 = .ok (.iload_n 2, 1) := by decide +kernel
theorem dX6_shrinking_30 : decode cX6_shrinking 30 = .ok (.ishl, 1) := by decide +kernel
theorem dX6_shrinking_31 : decode cX6_shrinking 31 = .ok (.goto 4, 3) := by decide +kernel
theorem dX6_shrinking_34 : decode cX6_shrinking 34 = .ok (.iconst 0, 1) := by decide +kernel
theorem dX6_shrinking_35 : decode cX6_shrinking 35 = .ok (.ior, 1) := by decide +kernel
theorem dX6_shrinking_36 : decode cX6_shrinking 36 = .ok (.istore_n 1, 1) := by decide +kernel
theorem dX6_shrinking_37 : decode cX6_shrinking 37 = .ok (.iinc 2 1, 3) := by decide +kernel
theorem dX6_shrinking_40 : decode cX6_shrinking 40 = .ok (.goto (-36), 3) := by decide +kernel
theorem dX6_shrinking_43 : decode cX6_shrinking 43 = .ok (.iload_n 1, 1) := by decide +kernel
theorem dX6_shrinking_44 : decode cX6_shrinking 44 = .ok (.ireturn, 1) := by decide +kernel
theorem dX6_growing_0 : decode cX6_growing 0 = .ok (.iconst 0, 1) := by decide +kernel
theorem dX6_growing_1 : decode cX6_growing 1 = .ok (.istore_n 1, 1) := by decide +kernel
theorem dX6_growing_2 : decode cX6_growing 2 = .ok (.iconst 0, 1) := by decide +kernel
theorem dX6_growing_3 : decode cX6_growing 3 = .ok (.istore_n 2, 1) := by decide +kernel
theorem dX6_growing_4 : decode cX6_growing 4 = .ok (.iload_n 2, 1) := by decide +kernel
theorem dX6_growing_5 : decode cX6_growing 5 = .ok (.aload_n 0, 1) := by decide +kernel
theorem dX6_growing_6 : decode cX6_growing 6 = .ok (.getfield 25, 3) := by decide +kernel
theorem dX6_growing_9 : decode cX6_growing 9 = .ok (.if_icmp .ge 34, 3) := by decide +kernel
theorem dX6_growing_12 : decode cX6_growing 12 = .ok (.iload_n 1, 1) := by decide +kernel
theorem dX6_growing_13 : decode cX6_growing 13 = .ok (.aload_n 0, 1) := by decide +kernel
theorem dX6_growing_14 : decode cX6_growing 14 = .ok (.getfield 22, 3) := by decide +kernel
theorem dX6_growing_17 : decode cX6_growing 17 = .ok (.iload_n 2, 1) := by decide +kernel
theorem dX6_growing_18 : decode cX6_growing 18 = .ok (.iaload, 1) := by decide +kernel
theorem dX6_growing_19 : decode cX6_growing 19 = .ok (.aload_n 0, 1) := by decide +kernel
theorem dX6_growing_20 : decode cX6_growing 20 = .ok (.getfield 18, 3) := by decide +kernel
theorem dX6_growing_23 : decode cX6_growing 23 = .ok (.iload_n 2, 1) := by decide +kernel
theorem dX6_growing_24 : decode cX6_growing 24 = .ok (.iaload, 1) := by decide +kernel
theorem dX6_growing_25 : decode cX6_growing 25 = .ok (.if_icmp .le 9, 3) := by decide +kernel
theorem dX6_growing_28 : decode cX6_growing 28 = .ok (.iconst 1, 1) := by decide +kernel
theorem dX6_growing_29 : decode cX6_growing 29 = .ok (.iload_n 2, 1) := by decide +kernel
theorem dX6_growing_30 : decode cX6_growing 30 = .ok (.ishl, 1) := by decide +kernel
theorem dX6_growing_31 : decode cX6_growing 31 = .ok (.goto 4, 3) := by decide +kernel
theorem dX6_growing_34 : decode cX6_growing 34 = .ok (.iconst 0, 1) := by decide +kernel
theorem dX6_growing_35 : decode cX6_growing 35 = .ok (.ior, 1) := by decide +kernel
theorem dX6_growing_36 : decode cX6_growing 36 = .ok (.istore_n 1, 1) := by decide +kernel
theorem dX6_growing_37 : decode cX6_growing 37 = .ok (.iinc 2 1, 3) := by decide +kernel
theorem dX6_growing_40 : decode cX6_growing 40 = .ok (.goto (-36), 3) := by decide +kernel
theorem dX6_growing_43 : decode cX6_growing 43 = .ok (.iload_n 1, 1) := by decide +kernel
theorem dX6_growing_44 : decode cX6_growing 44 = .ok (.ireturn, 1) := by decide +kernel
theorem dX7_init_0 : decode cX7_init 0 = .ok (.aload_n 0, 1) := by decide +kernel
theorem dX7_init_1 : decode cX7_init 1 = .ok (.invokespecial 3, 3) := by decide +kernel
theorem dX7_init_4 : decode cX7_init 4 = .ok (.aload_n 0, 1) := by decide +kernel
theorem dX7_init_5 : decode cX7_init 5 = .ok (.bipush 8, 2) := by decide +kernel
theorem dX7_init_7 : decode cX7_init 7 = .ok (.newarray .int, 2) := by decide +kernel
theorem dX7_init_9 : decode cX7_init 9 = .ok (.putfield 9, 3) := by decide +kernel
theorem dX7_init_12 : decode cX7_init 12 = .ok (.aload_n 0, 1) := by decide +kernel
theorem dX7_init_13 : decode cX7_init 13 = .ok (.bipush 6, 2) := by decide +kernel
theorem dX7_init_15 : decode cX7_init 15 = .ok (.newarray .int, 2) := by decide +kernel
theorem dX7_init_17 : decode cX7_init 17 = .ok (.putfield 15, 3) := by decide +kernel
theorem dX7_init_20 : decode cX7_init 20 = .ok (.aload_n 0, 1) := by decide +kernel
theorem dX7_init_21 : decode cX7_init 21 = .ok (.bipush 104, 2) := by decide +kernel
theorem dX7_init_23 : decode cX7_init 23 = .ok (.newarray .int, 2) := by decide +kernel
theorem dX7_init_25 : decode cX7_init 25 = .ok (.putfield 18, 3) := by decide +kernel
theorem dX7_init_28 : decode cX7_init 28 = .ok (.aload_n 0, 1) := by decide +kernel
theorem dX7_init_29 : decode cX7_init 29 = .ok (.bipush 13, 2) := by decide +kernel
theorem dX7_init_31 : decode cX7_init 31 = .ok (.newarray .int, 2) := by decide +kernel
theorem dX7_init_33 : decode cX7_init 33 = .ok (.putfield 21, 3) := by decide +kernel
theorem dX7_init_36 : decode cX7_init 36 = .ok (.return_, 1) := by decide +kernel
theorem dX7_list_0 : decode cX7_list 0 = .ok (.aload_n 0, 1) := by decide +kernel
theorem dX7_list_1 : decode cX7_list 1 = .ok (.iconst 0, 1) := by decide +kernel
theorem dX7_list_2 : decode cX7_list 2 = .ok (.putfield 24, 3) := by decide +kernel
theorem dX7_list_5 : decode cX7_list 5 = .ok (.iload_n 1, 1) := by decide +kernel
theorem dX7_list_6 : decode cX7_list 6 = .ok (.invokestatic 28, 3) := by decide +kernel
theorem dX7_list_9 : decode cX7_list 9 = .ok (.bipush 6, 2) := by decide +kernel
theorem dX7_list_11 : decode cX7_list 11 = .ok (.if_icmp .le 5, 3) := by decide +kernel
theorem dX7_list_14 : decode cX7_list 14 = .ok (.iconst 0, 1) := by decide +kernel
theorem dX7_list_15 : decode cX7_list 15 = .ok (.ireturn, 1) := by decide +kernel
theorem dX7_list_16 : decode cX7_list 16 = .ok (.iconst 0, 1) := by decide +kernel
theorem dX7_list_17 : decode cX7_list 17 = .ok (.istore_n 2, 1) := by decide +kernel
theorem dX7_list_18 : decode cX7_list 18 = .ok (.iload_n 2, 1) := by decide +kernel
theorem dX7_list_19 : decode cX7_list 19 = .ok (.bipush 8, 2) := by decide +kernel
theorem dX7_list_21 : decode cX7_list 21 = .ok (.if_icmp .ge 46, 3) := by decide +kernel
theorem dX7_list_24 : decode cX7_list 24 = .ok (.iload_n 1, 1) := by decide +kernel
theorem dX7_list_25 : decode cX7_list 25 = .ok (.iload_n 2, 1) := by decide +kernel
theorem dX7_list_26 : decode cX7_list 26 = .ok (.ishr, 1) := by decide +kernel
theorem dX7_list_27 : decode cX7_list 27 = .ok (.iconst 1, 1) := by decide +kernel
theorem dX7_list_28 : decode cX7_list 28 = .ok (.iand, 1) := by decide +kernel
theorem dX7_list_29 : decode cX7_list 29 = .ok (.ifCond .eq 32, 3) := by decide +kernel
theorem dX7_list_32 : decode cX7_list 32 = .ok (.aload_n 0, 1) := by decide +kernel
theorem dX7_list_33 : decode cX7_list 33 = .ok (.getfield 24, 3) := by decide +kernel
theorem dX7_list_36 : decode cX7_list 36 = .ok (.bipush 6, 2) := by decide +kernel
theorem dX7_list_38 : decode cX7_list 38 = .ok (.if_icmp .ge 23, 3) := by decide +kernel
theorem dX7_list_41 : decode cX7_list 41 = .ok (.aload_n 0, 1) := by decide +kernel
theorem dX7_list_42 : decode cX7_list 42 = .ok (.getfield 15, 3) := by decide +kernel
theorem dX7_list_45 : decode cX7_list 45 = .ok (.aload_n 0, 1) := by decide +kernel
theorem dX7_list_46 : decode cX7_list 46 = .ok (.getfield 24, 3) := by decide +kernel
theorem dX7_list_49 : decode cX7_list 49 = .ok (.iload_n 2, 1) := by decide +kernel
theorem dX7_list_50 : decode cX7_list 50 = .ok (.iastore, 1) := by decide +kernel
theorem dX7_list_51 : decode cX7_list 51 = .ok (.aload_n 0, 1) := by decide +kernel
theorem dX7_list_52 : decode cX7_list 52 = .ok (.dup, 1) := by decide +kernel
theorem dX7_list_53 : decode cX7_list 53 = .ok (.getfield 24, 3) := by decide +kernel
theorem dX7_list_56 : decode cX7_list 56 = .ok (.iconst 1, 1) := by decide +kernel
theorem dX7_list_57 : decode cX7_list 57 = .ok (.iadd, 1) := by decide +kernel
theorem dX7_list_58 : decode cX7_list 58 = .ok (.putfield 24, 3) := by decide +kernel
theorem dX7_list_61 : decode cX7_list 61 = .ok (.iinc 2 1, 3) := by decide +kernel
theorem dX7_list_64 : decode cX7_list 64 = .ok (.goto (-46), 3) := by decide +kernel
theorem dX7_list_67 : decode cX7_list 67 = .ok (.iconst 1, 1) := by decide +kernel
theorem dX7_list_68 : decode cX7_list 68 = .ok (.ireturn, 1) := by decide +kernel
theorem dX7_loadRules_0 : decode cX7_loadRules 0 = .ok (.aload_n 0, 1) := by decide +kernel
theorem dX7_loadRules_1 : decode cX7_loadRules 1 = .ok (.iconst 0, 1) := by decide +kernel
theorem dX7_loadRules_2 : decode cX7_loadRules 2 = .ok (.putfield 34, 3) := by decide +kernel
theorem dX7_loadRules_5 : decode cX7_loadRules 5 = .ok (.aload_n 0, 1) := by decide +kernel
theorem dX7_loadRules_6 : decode cX7_loadRules 6 = .ok (.getfield 18, 3) := by decide +kernel
theorem dX7_loadRules_9 : decode cX7_loadRules 9 = .ok (.iconst 0, 1) := by decide +kernel
theorem dX7_loadRules_10 : decode cX7_loadRules 10 = .ok (.invokestatic 37, 3) := by decide +kernel
theorem dX7_loadRules_13 : decode cX7_loadRules 13 = .ok (.iconst 0, 1) := by decide +kernel
theorem dX7_loadRules_14 : decode cX7_loadRules 14 = .ok (.istore_n 2, 1) := by decide +kernel
theorem dX7_loadRules_15 : decode cX7_loadRules 15 = .ok (.iload_n 2, 1) := by decide +kernel
theorem dX7_loadRules_16 : decode cX7_loadRules 16 = .ok (.aload_n 1, 1) := by decide +kernel
theorem dX7_loadRules_17 : decode cX7_loadRules 17 = .ok (.getfield 43, 3) := by decide +kernel
theorem dX7_loadRules_20 : decode cX7_loadRules 20 = .ok (.if_icmp .ge 25, 3) := by decide +kernel
theorem dX7_loadRules_23 : decode cX7_loadRules 23 = .ok (.aload_n 0, 1) := by decide +kernel
theorem dX7_loadRules_24 : decode cX7_loadRules 24 = .ok (.aload_n 1, 1) := by decide +kernel
theorem dX7_loadRules_25 : decode cX7_loadRules 25 = .ok (.getfield 48, 3) := by decide +kernel
theorem dX7_loadRules_28 : decode cX7_loadRules 28 = .ok (.iload_n 2, 1) := by decide +kernel
theorem dX7_loadRules_29 : decode cX7_loadRules 29 = .ok (.laload, 1) := by decide +kernel
theorem dX7_loadRules_30 : decode cX7_loadRules 30 = .ok (.aload_n 1, 1) := by decide +kernel
theorem dX7_loadRules_31 : decode cX7_loadRules 31 = .ok (.getfield 52, 3) := by decide +kernel
theorem dX7_loadRules_34 : decode cX7_loadRules 34 = .ok (.iload_n 2, 1) := by decide +kernel
theorem dX7_loadRules_35 : decode cX7_loadRules 35 = .ok (.laload, 1) := by decide +kernel
theorem dX7_loadRules_36 : decode cX7_loadRules 36 = .ok (.invokevirtual 55, 3) := by decide +kernel
theorem dX7_loadRules_39 : decode cX7_loadRules 39 = .ok (.iinc 2 1, 3) := by decide +kernel
theorem dX7_loadRules_42 : decode cX7_loadRules 42 = .ok (.goto (-27), 3) := by decide +kernel
theorem dX7_loadRules_45 : decode cX7_loadRules 45 = .ok (.aload_n 0, 1) := by decide +kernel
theorem dX7_loadRules_46 : decode cX7_loadRules 46 = .ok (.aload_n 0, 1) := by decide +kernel
theorem dX7_loadRules_47 : decode cX7_loadRules 47 = .ok (.getfield 34, 3) := by decide +kernel
theorem dX7_loadRules_50 : decode cX7_loadRules 50 = .ok (.putfield 59, 3) := by decide +kernel
theorem dX7_loadRules_53 : decode cX7_loadRules 53 = .ok (.return_, 1) := by decide +kernel
theorem dX7_loadPair_0 : decode cX7_loadPair 0 = .ok (.aload_n 0, 1) := by decide +kernel
theorem dX7_loadPair_1 : decode cX7_loadPair 1 = .ok (.getfield 34, 3) := by decide +kernel
theorem dX7_loadPair_4 : decode cX7_loadPair 4 = .ok (.bipush 12, 2) := by decide +kernel
theorem dX7_loadPair_6 : decode cX7_loadPair 6 = .ok (.if_icmp .le 4, 3) := by decide +kernel
theorem dX7_loadPair_9 : decode cX7_loadPair 9 = .ok (.return_, 1) := by decide +kernel
theorem dX7_loadPair_10 : decode cX7_loadPair 10 = .ok (.aload_n 0, 1) := by decide +kernel
theorem dX7_loadPair_11 : decode cX7_loadPair 11 = .ok (.lload_n 1, 1) := by decide +kernel
theorem dX7_loadPair_12 : decode cX7_loadPair 12 = .ok (.iconst 1, 1) := by decide +kernel
theorem dX7_loadPair_13 : decode cX7_loadPair 13 = .ok (.invokevirtual 62, 3) := by decide +kernel
theorem dX7_loadPair_16 : decode cX7_loadPair 16 = .ok (.aload_n 0, 1) := by decide +kernel
theorem dX7_loadPair_17 : decode cX7_loadPair 17 = .ok (.lload_n 3, 1) := by decide +kernel
theorem dX7_loadPair_18 : decode cX7_loadPair 18 = .ok (.iconst (-1), 1) := by decide +kernel
theorem dX7_loadPair_19 : decode cX7_loadPair 19 = .ok (.invokevirtual 62, 3) := by decide +kernel
theorem dX7_loadPair_22 : decode cX7_loadPair 22 = .ok (.aload_n 0, 1) := by decide +kernel
theorem dX7_loadPair_23 : decode cX7_loadPair 23 = .ok (.getfield 21, 3) := by decide +kernel
theorem dX7_loadPair_26 : decode cX7_loadPair 26 = .ok (.aload_n 0, 1) := by decide +kernel
theorem dX7_loadPair_27 : decode cX7_loadPair 27 = .ok (.getfield 34, 3) := by decide +kernel
theorem dX7_loadPair_30 : decode cX7_loadPair 30 = .ok (.iconst 0, 1) := by decide +kernel
theorem dX7_loadPair_31 : decode cX7_loadPair 31 = .ok (.iastore, 1) := by decide +kernel
theorem dX7_loadPair_32 : decode cX7_loadPair 32 = .ok (.iconst 0, 1) := by decide +kernel
theorem dX7_loadPair_33 : decode cX7_loadPair 33 = .ok (.istore 5, 2) := by decide +kernel
theorem dX7_loadPair_35 : decode cX7_loadPair 35 = .ok (.iload 5, 2) := by decide +kernel
theorem dX7_loadPair_37 : decode cX7_loadPair 37 = .ok (.aload_n 0, 1) := by decide +kernel
theorem dX7_loadPair_38 : decode cX7_loadPair 38 = .ok (.getfield 24, 3) := by decide +kernel
theorem dX7_loadPair_41 : decode cX7_loadPair 41 = .ok (.if_icmp .ge 43, 3) := by decide +kernel
theorem dX7_loadPair_44 : decode cX7_loadPair 44 = .ok (.aload_n 0, 1) := by decide +kernel
theorem dX7_loadPair_45 : decode cX7_loadPair 45 = .ok (.getfield 18, 3) := by decide +kernel
theorem dX7_loadPair_48 : decode cX7_loadPair 48 = .ok (.aload_n 0, 1) := by decide +kernel
theorem dX7_loadPair_49 : decode cX7_loadPair 49 = .ok (.getfield 34, 3) := by decide +kernel
theorem dX7_loadPair_52 : decode cX7_loadPair 52 = .ok (.bipush 8, 2) := by decide +kernel
theorem dX7_loadPair_54 : decode cX7_loadPair 54 = .ok (.imul, 1) := by decide +kernel
theorem dX7_loadPair_55 : decode cX7_loadPair 55 = .ok (.aload_n 0, 1) := by decide +kernel
theorem dX7_loadPair_56 : decode cX7_loadPair 56 = .ok (.getfield 15, 3) := by decide +kernel
theorem dX7_loadPair_59 : decode cX7_loadPair 59 = .ok (.iload 5, 2) := by decide +kernel
theorem dX7_loadPair_61 : decode cX7_loadPair 61 = .ok (.iaload, 1) := by decide +kernel
theorem dX7_loadPair_62 : decode cX7_loadPair 62 = .ok (.iadd, 1) := by decide +kernel
theorem dX7_loadPair_63 : decode cX7_loadPair 63 = .ok (.iaload, 1) := by decide +kernel
theorem dX7_loadPair_64 : decode cX7_loadPair 64 = .ok (.ifCond .eq 14, 3) := by decide +kernel
theorem dX7_loadPair_67 : decode cX7_loadPair 67 = .ok (.aload_n 0, 1) := by decide +kernel
theorem dX7_loadPair_68 : decode cX7_loadPair 68 = .ok (.getfield 21, 3) := by decide +kernel
theorem dX7_loadPair_71 : decode cX7_loadPair 71 = .ok (.aload_n 0, 1) := by decide +kernel
theorem dX7_loadPair_72 : decode cX7_loadPair 72 = .ok (.getfield 34, 3) := by decide +kernel
theorem dX7_loadPair_75 : decode cX7_loadPair 75 = .ok (.iload 5, 2) := by decide +kernel
theorem dX7_loadPair_77 : decode cX7_loadPair 77 = .ok (.iastore, 1) := by decide +kernel
theorem dX7_loadPair_78 : decode cX7_loadPair 78 = .ok (.iinc 5 1, 3) := by decide +kernel
theorem dX7_loadPair_81 : decode cX7_loadPair 81 = .ok (.goto (-46), 3) := by decide +kernel
theorem dX7_loadPair_84 : decode cX7_loadPair 84 = .ok (.aload_n 0, 1) := by decide +kernel
theorem dX7_loadPair_85 : decode cX7_loadPair 85 = .ok (.dup, 1) := by decide +kernel
theorem dX7_loadPair_86 : decode cX7_loadPair 86 = .ok (.getfield 34, 3) := by decide +kernel
theorem dX7_loadPair_89 : decode cX7_loadPair 89 = .ok (.iconst 1, 1) := by decide +kernel
theorem dX7_loadPair_90 : decode cX7_loadPair 90 = .ok (.iadd, 1) := by decide +kernel
theorem dX7_loadPair_91 : decode cX7_loadPair 91 = .ok (.putfield 34, 3) := by decide +kernel
theorem dX7_loadPair_94 : decode cX7_loadPair 94 = .ok (.return_, 1) := by decide +kernel
theorem dX7_countBeasts_0 : decode cX7_countBeasts 0 = .ok (.lload_n 1, 1) := by decide +kernel
theorem dX7_countBeasts_1 : decode cX7_countBeasts 1 = .ok (.invokestatic 66, 3) := by decide +kernel
theorem dX7_countBeasts_4 : decode cX7_countBeasts 4 = .ok (.istore 4, 2) := by decide +kernel
theorem dX7_countBeasts_6 : decode cX7_countBeasts 6 = .ok (.iconst 0, 1) := by decide +kernel
theorem dX7_countBeasts_7 : decode cX7_countBeasts 7 = .ok (.istore 5, 2) := by decide +kernel
theorem dX7_countBeasts_9 : decode cX7_countBeasts 9 = .ok (.iload 5, 2) := by decide +kernel
theorem dX7_countBeasts_11 : decode cX7_countBeasts 11 = .ok (.iload 4, 2) := by decide +kernel
theorem dX7_countBeasts_13 : decode cX7_countBeasts 13 = .ok (.if_icmp .ge 34, 3) := by decide +kernel
theorem dX7_countBeasts_16 : decode cX7_countBeasts 16 = .ok (.aload_n 0, 1) := by decide +kernel
theorem dX7_countBeasts_17 : decode cX7_countBeasts 17 = .ok (.getfield 18, 3) := by decide +kernel
theorem dX7_countBeasts_20 : decode cX7_countBeasts 20 = .ok (.aload_n 0, 1) := by decide +kernel
theorem dX7_countBeasts_21 : decode cX7_countBeasts 21 = .ok (.getfield 34, 3) := by decide +kernel
theorem dX7_countBeasts_24 : decode cX7_countBeasts 24 = .ok (.bipush 8, 2) := by decide +kernel
theorem dX7_countBeasts_26 : decode cX7_countBeasts 26 = .ok (.imul, 1) := by decide +kernel
theorem dX7_countBeasts_27 : decode cX7_countBeasts 27 = .ok (.lload_n 1, 1) := by decide +kernel
theorem dX7_countBeasts_28 : decode cX7_countBeasts 28 = .ok (.iload 4, 2) := by decide +kernel
theorem dX7_countBeasts_30 : decode cX7_countBeasts 30 = .ok (.iload 5, 2) := by decide +kernel
theorem dX7_countBeasts_32 : decode cX7_countBeasts 32 = .ok (.invokestatic 70, 3) := by decide +kernel
theorem dX7_countBeasts_35 : decode cX7_countBeasts 35 = .ok (.iadd, 1) := by decide +kernel
theorem dX7_countBeasts_36 : decode cX7_countBeasts 36 = .ok (.dup2, 1) := by decide +kernel
theorem dX7_countBeasts_37 : decode cX7_countBeasts 37 = .ok (.iaload, 1) := by decide +kernel
theorem dX7_countBeasts_38 : decode cX7_countBeasts 38 = .ok (.iload_n 3, 1) := by decide +kernel
theorem dX7_countBeasts_39 : decode cX7_countBeasts 39 = .ok (.iadd, 1) := by decide +kernel
theorem dX7_countBeasts_40 : decode cX7_countBeasts 40 = .ok (.iastore, 1) := by decide +kernel
theorem dX7_countBeasts_41 : decode cX7_countBeasts 41 = .ok (.iinc 5 1, 3) := by decide +kernel
theorem dX7_countBeasts_44 : decode cX7_countBeasts 44 = .ok (.goto (-35), 3) := by decide +kernel
theorem dX7_countBeasts_47 : decode cX7_countBeasts 47 = .ok (.return_, 1) := by decide +kernel
theorem dX7_findModulo_0 : decode cX7_findModulo 0 = .ok (.aload_n 0, 1) := by decide +kernel
theorem dX7_findModulo_1 : decode cX7_findModulo 1 = .ok (.iload_n 1, 1) := by decide +kernel
theorem dX7_findModulo_2 : decode cX7_findModulo 2 = .ok (.putfield 74, 3) := by decide +kernel
theorem dX7_findModulo_5 : decode cX7_findModulo 5 = .ok (.aload_n 0, 1) := by decide +kernel
theorem dX7_findModulo_6 : decode cX7_findModulo 6 = .ok (.iconst 0, 1) := by decide +kernel
theorem dX7_findModulo_7 : decode cX7_findModulo 7 = .ok (.putfield 77, 3) := by decide +kernel
theorem dX7_findModulo_10 : decode cX7_findModulo 10 = .ok (.aload_n 0, 1) := by decide +kernel
theorem dX7_findModulo_11 : decode cX7_findModulo 11 = .ok (.iload_n 1, 1) := by decide +kernel
theorem dX7_findModulo_12 : decode cX7_findModulo 12 = .ok (.iconst 1, 1) := by decide +kernel
theorem dX7_findModulo_13 : decode cX7_findModulo 13 = .ok (.isub, 1) := by decide +kernel
theorem dX7_findModulo_14 : decode cX7_findModulo 14 = .ok (.putfield 80, 3) := by decide +kernel
theorem dX7_findModulo_17 : decode cX7_findModulo 17 = .ok (.aload_n 0, 1) := by decide +kernel
theorem dX7_findModulo_18 : decode cX7_findModulo 18 = .ok (.getfield 9, 3) := by decide +kernel
theorem dX7_findModulo_21 : decode cX7_findModulo 21 = .ok (.iconst 0, 1) := by decide +kernel
theorem dX7_findModulo_22 : decode cX7_findModulo 22 = .ok (.invokestatic 37, 3) := by decide +kernel
theorem dX7_findModulo_25 : decode cX7_findModulo 25 = .ok (.aload_n 0, 1) := by decide +kernel
theorem dX7_findModulo_26 : decode cX7_findModulo 26 = .ok (.getfield 24, 3) := by decide +kernel
theorem dX7_findModulo_29 : decode cX7_findModulo 29 = .ok (.ifCond .le 15, 3) := by decide +kernel
theorem dX7_findModulo_32 : decode cX7_findModulo 32 = .ok (.aload_n 0, 1) := by decide +kernel
theorem dX7_findModulo_33 : decode cX7_findModulo 33 = .ok (.iconst 0, 1) := by decide +kernel
theorem dX7_findModulo_34 : decode cX7_findModulo 34 = .ok (.invokevirtual 83, 3) := by decide +kernel
theorem dX7_findModulo_37 : decode cX7_findModulo 37 = .ok (.ifCond .eq 7, 3) := by decide +kernel
theorem dX7_findModulo_40 : decode cX7_findModulo 40 = .ok (.iconst 1, 1) := by decide +kernel
theorem dX7_findModulo_41 : decode cX7_findModulo 41 = .ok (.goto 4, 3) := by decide +kernel
theorem dX7_findModulo_44 : decode cX7_findModulo 44 = .ok (.iconst 0, 1) := by decide +kernel
theorem dX7_findModulo_45 : decode cX7_findModulo 45 = .ok (.ireturn, 1) := by decide +kernel
theorem dX7_findFalling_0 : decode cX7_findFalling 0 = .ok (.aload_n 0, 1) := by decide +kernel
theorem dX7_findFalling_1 : decode cX7_findFalling 1 = .ok (.iconst 0, 1) := by decide +kernel
theorem dX7_findFalling_2 : decode cX7_findFalling 2 = .ok (.putfield 74, 3) := by decide +kernel
theorem dX7_findFalling_5 : decode cX7_findFalling 5 = .ok (.aload_n 0, 1) := by decide +kernel
theorem dX7_findFalling_6 : decode cX7_findFalling 6 = .ok (.iconst 1, 1) := by decide +kernel
theorem dX7_findFalling_7 : decode cX7_findFalling 7 = .ok (.putfield 77, 3) := by decide +kernel
theorem dX7_findFalling_10 : decode cX7_findFalling 10 = .ok (.aload_n 0, 1) := by decide +kernel
theorem dX7_findFalling_11 : decode cX7_findFalling 11 = .ok (.iload_n 1, 1) := by decide +kernel
theorem dX7_findFalling_12 : decode cX7_findFalling 12 = .ok (.putfield 80, 3) := by decide +kernel
theorem dX7_findFalling_15 : decode cX7_findFalling 15 = .ok (.aload_n 0, 1) := by decide +kernel
theorem dX7_findFalling_16 : decode cX7_findFalling 16 = .ok (.getfield 9, 3) := by decide +kernel
theorem dX7_findFalling_19 : decode cX7_findFalling 19 = .ok (.iconst 0, 1) := by decide +kernel
theorem dX7_findFalling_20 : decode cX7_findFalling 20 = .ok (.invokestatic 37, 3) := by decide +kernel
theorem dX7_findFalling_23 : decode cX7_findFalling 23 = .ok (.aload_n 0, 1) := by decide +kernel
theorem dX7_findFalling_24 : decode cX7_findFalling 24 = .ok (.iconst 0, 1) := by decide +kernel
theorem dX7_findFalling_25 : decode cX7_findFalling 25 = .ok (.invokevirtual 83, 3) := by decide +kernel
theorem dX7_findFalling_28 : decode cX7_findFalling 28 = .ok (.ireturn, 1) := by decide +kernel
theorem dX7_find_0 : decode cX7_find 0 = .ok (.iload_n 1, 1) := by decide +kernel
theorem dX7_find_1 : decode cX7_find 1 = .ok (.aload_n 0, 1) := by decide +kernel
theorem dX7_find_2 : decode cX7_find 2 = .ok (.getfield 24, 3) := by decide +kernel
theorem dX7_find_5 : decode cX7_find 5 = .ok (.if_icmp .lt 5, 3) := by decide +kernel
theorem dX7_find_8 : decode cX7_find 8 = .ok (.iconst 1, 1) := by decide +kernel
theorem dX7_find_9 : decode cX7_find 9 = .ok (.ireturn, 1) := by decide +kernel
theorem dX7_find_10 : decode cX7_find 10 = .ok (.aload_n 0, 1) := by decide +kernel
theorem dX7_find_11 : decode cX7_find 11 = .ok (.getfield 15, 3) := by decide +kernel
theorem dX7_find_14 : decode cX7_find 14 = .ok (.iload_n 1, 1) := by decide +kernel
theorem dX7_find_15 : decode cX7_find 15 = .ok (.iaload, 1) := by decide +kernel
theorem dX7_find_16 : decode cX7_find 16 = .ok (.istore_n 2, 1) := by decide +kernel
theorem dX7_find_17 : decode cX7_find 17 = .ok (.aload_n 0, 1) := by decide +kernel
theorem dX7_find_18 : decode cX7_find 18 = .ok (.getfield 77, 3) := by decide +kernel
theorem dX7_find_21 : decode cX7_find 21 = .ok (.istore_n 3, 1) := by decide +kernel
theorem dX7_find_22 : decode cX7_find 22 = .ok (.iload_n 3, 1) := by decide +kernel
theorem dX7_find_23 : decode cX7_find 23 = .ok (.aload_n 0, 1) := by decide +kernel
theorem dX7_find_24 : decode cX7_find 24 = .ok (.getfield 80, 3) := by decide +kernel
theorem dX7_find_27 : decode cX7_find 27 = .ok (.if_icmp .gt 36, 3) := by decide +kernel
theorem dX7_find_30 : decode cX7_find 30 = .ok (.aload_n 0, 1) := by decide +kernel
theorem dX7_find_31 : decode cX7_find 31 = .ok (.getfield 9, 3) := by decide +kernel
theorem dX7_find_34 : decode cX7_find 34 = .ok (.iload_n 2, 1) := by decide +kernel
theorem dX7_find_35 : decode cX7_find 35 = .ok (.iload_n 3, 1) := by decide +kernel
theorem dX7_find_36 : decode cX7_find 36 = .ok (.iastore, 1) := by decide +kernel
theorem dX7_find_37 : decode cX7_find 37 = .ok (.aload_n 0, 1) := by decide +kernel
theorem dX7_find_38 : decode cX7_find 38 = .ok (.iload_n 1, 1) := by decide +kernel
theorem dX7_find_39 : decode cX7_find 39 = .ok (.invokevirtual 87, 3) := by decide +kernel
theorem dX7_find_42 : decode cX7_find 42 = .ok (.ifCond .eq 15, 3) := by decide +kernel
theorem dX7_find_45 : decode cX7_find 45 = .ok (.aload_n 0, 1) := by decide +kernel
theorem dX7_find_46 : decode cX7_find 46 = .ok (.iload_n 1, 1) := by decide +kernel
theorem dX7_find_47 : decode cX7_find 47 = .ok (.iconst 1, 1) := by decide +kernel
theorem dX7_find_48 : decode cX7_find 48 = .ok (.iadd, 1) := by decide +kernel
theorem dX7_find_49 : decode cX7_find 49 = .ok (.invokevirtual 83, 3) := by decide +kernel
theorem dX7_find_52 : decode cX7_find 52 = .ok (.ifCond .eq 5, 3) := by decide +kernel
theorem dX7_find_55 : decode cX7_find 55 = .ok (.iconst 1, 1) := by decide +kernel
theorem dX7_find_56 : decode cX7_find 56 = .ok (.ireturn, 1) := by decide +kernel
theorem dX7_find_57 : decode cX7_find 57 = .ok (.iinc 3 1, 3) := by decide +kernel
theorem dX7_find_60 : decode cX7_find 60 = .ok (.goto (-38), 3) := by decide +kernel
theorem dX7_find_63 : decode cX7_find 63 = .ok (.iconst 0, 1) := by decide +kernel
theorem dX7_find_64 : decode cX7_find 64 = .ok (.ireturn, 1) := by decide +kernel
theorem dX7_holdsBehind_0 : decode cX7_holdsBehind 0 = .ok (.iconst 0, 1) := by decide +kernel
theorem dX7_holdsBehind_1 : decode cX7_holdsBehind 1 = .ok (.istore_n 2, 1) := by decide +kernel
theorem dX7_holdsBehind_2 : decode cX7_holdsBehind 2 = .ok (.iload_n 2, 1) := by decide +kernel
theorem dX7_holdsBehind_3 : decode cX7_holdsBehind 3 = .ok (.aload_n 0, 1) := by decide +kernel
theorem dX7_holdsBehind_4 : decode cX7_holdsBehind 4 = .ok (.getfield 34, 3) := by decide +kernel
theorem dX7_holdsBehind_7 : decode cX7_holdsBehind 7 = .ok (.if_icmp .ge 29, 3) := by decide +kernel
theorem dX7_holdsBehind_10 : decode cX7_holdsBehind 10 = .ok (.aload_n 0, 1) := by decide +kernel
theorem dX7_holdsBehind_11 : decode cX7_holdsBehind 11 = .ok (.getfield 21, 3) := by decide +kernel
theorem dX7_holdsBehind_14 : decode cX7_holdsBehind 14 = .ok (.iload_n 2, 1) := by decide +kernel
theorem dX7_holdsBehind_15 : decode cX7_holdsBehind 15 = .ok (.iaload, 1) := by decide +kernel
theorem dX7_holdsBehind_16 : decode cX7_holdsBehind 16 = .ok (.iload_n 1, 1) := by decide +kernel
theorem dX7_holdsBehind_17 : decode cX7_holdsBehind 17 = .ok (.if_icmp .ne 13, 3) := by decide +kernel
theorem dX7_holdsBehind_20 : decode cX7_holdsBehind 20 = .ok (.aload_n 0, 1) := by decide +kernel
theorem dX7_holdsBehind_21 : decode cX7_holdsBehind 21 = .ok (.iload_n 2, 1) := by decide +kernel
theorem dX7_holdsBehind_22 : decode cX7_holdsBehind 22 = .ok (.invokevirtual 90, 3) := by decide +kernel
theorem dX7_holdsBehind_25 : decode cX7_holdsBehind 25 = .ok (.ifCond .ne 5, 3) := by decide +kernel
theorem dX7_holdsBehind_28 : decode cX7_holdsBehind 28 = .ok (.iconst 0, 1) := by decide +kernel
theorem dX7_holdsBehind_29 : decode cX7_holdsBehind 29 = .ok (.ireturn, 1) := by decide +kernel
theorem dX7_holdsBehind_30 : decode cX7_holdsBehind 30 = .ok (.iinc 2 1, 3) := by decide +kernel
theorem dX7_holdsBehind_33 : decode cX7_holdsBehind 33 = .ok (.goto (-31), 3) := by decide +kernel
theorem dX7_holdsBehind_36 : decode cX7_holdsBehind 36 = .ok (.iconst 1, 1) := by decide +kernel
theorem dX7_holdsBehind_37 : decode cX7_holdsBehind 37 = .ok (.ireturn, 1) := by decide +kernel
theorem dX7_holds_0 : decode cX7_holds 0 = .ok (.iconst 0, 1) := by decide +kernel
theorem dX7_holds_1 : decode cX7_holds 1 = .ok (.istore_n 2, 1) := by decide +kernel
theorem dX7_holds_2 : decode cX7_holds 2 = .ok (.iconst 0, 1) := by decide +kernel
theorem dX7_holds_3 : decode cX7_holds 3 = .ok (.istore_n 3, 1) := by decide +kernel
theorem dX7_holds_4 : decode cX7_holds 4 = .ok (.iload_n 3, 1) := by decide +kernel
theorem dX7_holds_5 : decode cX7_holds 5 = .ok (.bipush 8, 2) := by decide +kernel
theorem dX7_holds_7 : decode cX7_holds 7 = .ok (.if_icmp .ge 30, 3) := by decide +kernel
theorem dX7_holds_10 : decode cX7_holds 10 = .ok (.iload_n 2, 1) := by decide +kernel
theorem dX7_holds_11 : decode cX7_holds 11 = .ok (.aload_n 0, 1) := by decide +kernel
theorem dX7_holds_12 : decode cX7_holds 12 = .ok (.getfield 18, 3) := by decide +kernel
theorem dX7_holds_15 : decode cX7_holds 15 = .ok (.iload_n 1, 1) := by decide +kernel
theorem dX7_holds_16 : decode cX7_holds 16 = .ok (.bipush 8, 2) := by decide +kernel
theorem dX7_holds_18 : decode cX7_holds 18 = .ok (.imul, 1) := by decide +kernel
theorem dX7_holds_19 : decode cX7_holds 19 = .ok (.iload_n 3, 1) := by decide +kernel
theorem dX7_holds_20 : decode cX7_holds 20 = .ok (.iadd, 1) := by decide +kernel
theorem dX7_holds_21 : decode cX7_holds 21 = .ok (.iaload, 1) := by decide +kernel
theorem dX7_holds_22 : decode cX7_holds 22 = .ok (.aload_n 0, 1) := by decide +kernel
theorem dX7_holds_23 : decode cX7_holds 23 = .ok (.getfield 9, 3) := by decide +kernel
theorem dX7_holds_26 : decode cX7_holds 26 = .ok (.iload_n 3, 1) := by decide +kernel
theorem dX7_holds_27 : decode cX7_holds 27 = .ok (.iaload, 1) := by decide +kernel
theorem dX7_holds_28 : decode cX7_holds 28 = .ok (.imul, 1) := by decide +kernel
theorem dX7_holds_29 : decode cX7_holds 29 = .ok (.iadd, 1) := by decide +kernel
theorem dX7_holds_30 : decode cX7_holds 30 = .ok (.istore_n 2, 1) := by decide +kernel
theorem dX7_holds_31 : decode cX7_holds 31 = .ok (.iinc 3 1, 3) := by decide +kernel
theorem dX7_holds_34 : decode cX7_holds 34 = .ok (.goto (-30), 3) := by decide +kernel
theorem dX7_holds_37 : decode cX7_holds 37 = .ok (.aload_n 0, 1) := by decide +kernel
theorem dX7_holds_38 : decode cX7_holds 38 = .ok (.getfield 74, 3) := by decide +kernel
theorem dX7_holds_41 : decode cX7_holds 41 = .ok (.ifCond .ne 13, 3) := by decide +kernel
theorem dX7_holds_44 : decode cX7_holds 44 = .ok (.iload_n 2, 1) := by decide +kernel
theorem dX7_holds_45 : decode cX7_holds 45 = .ok (.ifCond .le 7, 3) := by decide +kernel
theorem dX7_holds_48 : decode cX7_holds 48 = .ok (.iconst 1, 1) := by decide +kernel
theorem dX7_holds_49 : decode cX7_holds 49 = .ok (.goto 4, 3) := by decide +kernel
theorem dX7_holds_52 : decode cX7_holds 52 = .ok (.iconst 0, 1) := by decide +kernel
theorem dX7_holds_53 : decode cX7_holds 53 = .ok (.ireturn, 1) := by decide +kernel
theorem dX7_holds_54 : decode cX7_holds 54 = .ok (.iload_n 2, 1) := by decide +kernel
theorem dX7_holds_55 : decode cX7_holds 55 = .ok (.aload_n 0, 1) := by decide +kernel
theorem dX7_holds_56 : decode cX7_holds 56 = .ok (.getfield 74, 3) := by decide +kernel
theorem dX7_holds_59 : decode cX7_holds 59 = .ok (.irem, 1) := by decide +kernel
theorem dX7_holds_60 : decode cX7_holds 60 = .ok (.ifCond .ne 7, 3) := by decide +kernel
theorem dX7_holds_63 : decode cX7_holds 63 = .ok (.iconst 1, 1) := by decide +kernel
theorem dX7_holds_64 : decode cX7_holds 64 = .ok (.goto 4, 3) := by decide +kernel
theorem dX7_holds_67 : decode cX7_holds 67 = .ok (.iconst 0, 1) := by decide +kernel
theorem dX7_holds_68 : decode cX7_holds 68 = .ok (.istore_n 3, 1) := by decide +kernel
theorem dX7_holds_69 : decode cX7_holds 69 = .ok (.iload_n 1, 1) := by decide +kernel
theorem dX7_holds_70 : decode cX7_holds 70 = .ok (.aload_n 0, 1) := by decide +kernel
theorem dX7_holds_71 : decode cX7_holds 71 = .ok (.getfield 59, 3) := by decide +kernel
theorem dX7_holds_74 : decode cX7_holds 74 = .ok (.if_icmp .ge 7, 3) := by decide +kernel
theorem dX7_holds_77 : decode cX7_holds 77 = .ok (.iload_n 3, 1) := by decide +kernel
theorem dX7_holds_78 : decode cX7_holds 78 = .ok (.goto 12, 3) := by decide +kernel
theorem dX7_holds_81 : decode cX7_holds 81 = .ok (.iload_n 3, 1) := by decide +kernel
theorem dX7_holds_82 : decode cX7_holds 82 = .ok (.ifCond .ne 7, 3) := by decide +kernel
theorem dX7_holds_85 : decode cX7_holds 85 = .ok (.iconst 1, 1) := by decide +kernel
theorem dX7_holds_86 : decode cX7_holds 86 = .ok (.goto 4, 3) := by decide +kernel
theorem dX7_holds_89 : decode cX7_holds 89 = .ok (.iconst 0, 1) := by decide +kernel
theorem dX7_holds_90 : decode cX7_holds 90 = .ok (.ireturn, 1) := by decide +kernel
theorem dX8_init_0 : decode cX8_init 0 = .ok (.aload_n 0, 1) := by decide +kernel
theorem dX8_init_1 : decode cX8_init 1 = .ok (.invokespecial 3, 3) := by decide +kernel
theorem dX8_init_4 : decode cX8_init 4 = .ok (.aload_n 0, 1) := by decide +kernel
theorem dX8_init_5 : decode cX8_init 5 = .ok (.sipush 400, 3) := by decide +kernel
theorem dX8_init_8 : decode cX8_init 8 = .ok (.newarray .int, 2) := by decide +kernel
theorem dX8_init_10 : decode cX8_init 10 = .ok (.putfield 9, 3) := by decide +kernel
theorem dX8_init_13 : decode cX8_init 13 = .ok (.aload_n 0, 1) := by decide +kernel
theorem dX8_init_14 : decode cX8_init 14 = .ok (.iconst (-1), 1) := by decide +kernel
theorem dX8_init_15 : decode cX8_init 15 = .ok (.putfield 15, 3) := by decide +kernel
theorem dX8_init_18 : decode cX8_init 18 = .ok (.aload_n 0, 1) := by decide +kernel
theorem dX8_init_19 : decode cX8_init 19 = .ok (.iconst (-1), 1) := by decide +kernel
theorem dX8_init_20 : decode cX8_init 20 = .ok (.putfield 19, 3) := by decide +kernel
theorem dX8_init_23 : decode cX8_init 23 = .ok (.return_, 1) := by decide +kernel
theorem dX8_append_0 : decode cX8_append 0 = .ok (.bipush 24, 2) := by decide +kernel
theorem dX8_append_2 : decode cX8_append 2 = .ok (.istore_n 2, 1) := by decide +kernel
theorem dX8_append_3 : decode cX8_append 3 = .ok (.iload_n 2, 1) := by decide +kernel
theorem dX8_append_4 : decode cX8_append 4 = .ok (.ifCond .lt 45, 3) := by decide +kernel
theorem dX8_append_7 : decode cX8_append 7 = .ok (.aload_n 0, 1) := by decide +kernel
theorem dX8_append_8 : decode cX8_append 8 = .ok (.getfield 22, 3) := by decide +kernel
theorem dX8_append_11 : decode cX8_append 11 = .ok (.sipush 400, 3) := by decide +kernel
theorem dX8_append_14 : decode cX8_append 14 = .ok (.if_icmp .ge 29, 3) := by decide +kernel
theorem dX8_append_17 : decode cX8_append 17 = .ok (.aload_n 0, 1) := by decide +kernel
theorem dX8_append_18 : decode cX8_append 18 = .ok (.getfield 9, 3) := by decide +kernel
theorem dX8_append_21 : decode cX8_append 21 = .ok (.aload_n 0, 1) := by decide +kernel
theorem dX8_append_22 : decode cX8_append 22 = .ok (.getfield 22, 3) := by decide +kernel
theorem dX8_append_25 : decode cX8_append 25 = .ok (.iload_n 1, 1) := by decide +kernel
theorem dX8_append_26 : decode cX8_append 26 = .ok (.iload_n 2, 1) := by decide +kernel
theorem dX8_append_27 : decode cX8_append 27 = .ok (.iushr, 1) := by decide +kernel
theorem dX8_append_28 : decode cX8_append 28 = .ok (.sipush 255, 3) := by decide +kernel
theorem dX8_append_31 : decode cX8_append 31 = .ok (.iand, 1) := by decide +kernel
theorem dX8_append_32 : decode cX8_append 32 = .ok (.iastore, 1) := by decide +kernel
theorem dX8_append_33 : decode cX8_append 33 = .ok (.aload_n 0, 1) := by decide +kernel
theorem dX8_append_34 : decode cX8_append 34 = .ok (.dup, 1) := by decide +kernel
theorem dX8_append_35 : decode cX8_append 35 = .ok (.getfield 22, 3) := by decide +kernel
theorem dX8_append_38 : decode cX8_append 38 = .ok (.iconst 1, 1) := by decide +kernel
theorem dX8_append_39 : decode cX8_append 39 = .ok (.iadd, 1) := by decide +kernel
theorem dX8_append_40 : decode cX8_append 40 = .ok (.putfield 22, 3) := by decide +kernel
theorem dX8_append_43 : decode cX8_append 43 = .ok (.iinc 2 (-8), 3) := by decide +kernel
theorem dX8_append_46 : decode cX8_append 46 = .ok (.goto (-43), 3) := by decide +kernel
theorem dX8_append_49 : decode cX8_append 49 = .ok (.return_, 1) := by decide +kernel
theorem dX8_begin_0 : decode cX8_begin 0 = .ok (.aload_n 0, 1) := by decide +kernel
theorem dX8_begin_1 : decode cX8_begin 1 = .ok (.iconst 0, 1) := by decide +kernel
theorem dX8_begin_2 : decode cX8_begin 2 = .ok (.putfield 25, 3) := by decide +kernel
theorem dX8_begin_5 : decode cX8_begin 5 = .ok (.aload_n 0, 1) := by decide +kernel
theorem dX8_begin_6 : decode cX8_begin 6 = .ok (.iconst (-1), 1) := by decide +kernel
theorem dX8_begin_7 : decode cX8_begin 7 = .ok (.putfield 19, 3) := by decide +kernel
theorem dX8_begin_10 : decode cX8_begin 10 = .ok (.aload_n 0, 1) := by decide +kernel
theorem dX8_begin_11 : decode cX8_begin 11 = .ok (.invokevirtual 28, 3) := by decide +kernel
theorem dX8_begin_14 : decode cX8_begin 14 = .ok (.return_, 1) := by decide +kernel
theorem dX8_advance_0 : decode cX8_advance 0 = .ok (.aload_n 0, 1) := by decide +kernel
theorem dX8_advance_1 : decode cX8_advance 1 = .ok (.aload_n 0, 1) := by decide +kernel
theorem dX8_advance_2 : decode cX8_advance 2 = .ok (.getfield 25, 3) := by decide +kernel
theorem dX8_advance_5 : decode cX8_advance 5 = .ok (.putfield 31, 3) := by decide +kernel
theorem dX8_advance_8 : decode cX8_advance 8 = .ok (.aload_n 0, 1) := by decide +kernel
theorem dX8_advance_9 : decode cX8_advance 9 = .ok (.getfield 31, 3) := by decide +kernel
theorem dX8_advance_12 : decode cX8_advance 12 = .ok (.aload_n 0, 1) := by decide +kernel
theorem dX8_advance_13 : decode cX8_advance 13 = .ok (.getfield 22, 3) := by decide +kernel
theorem dX8_advance_16 : decode cX8_advance 16 = .ok (.if_icmp .ge 30, 3) := by decide +kernel
theorem dX8_advance_19 : decode cX8_advance 19 = .ok (.aload_n 0, 1) := by decide +kernel
theorem dX8_advance_20 : decode cX8_advance 20 = .ok (.getfield 9, 3) := by decide +kernel
theorem dX8_advance_23 : decode cX8_advance 23 = .ok (.aload_n 0, 1) := by decide +kernel
theorem dX8_advance_24 : decode cX8_advance 24 = .ok (.getfield 31, 3) := by decide +kernel
theorem dX8_advance_27 : decode cX8_advance 27 = .ok (.iaload, 1) := by decide +kernel
theorem dX8_advance_28 : decode cX8_advance 28 = .ok (.bipush 32, 2) := by decide +kernel
theorem dX8_advance_30 : decode cX8_advance 30 = .ok (.if_icmp .ne 16, 3) := by decide +kernel
theorem dX8_advance_33 : decode cX8_advance 33 = .ok (.aload_n 0, 1) := by decide +kernel
theorem dX8_advance_34 : decode cX8_advance 34 = .ok (.dup, 1) := by decide +kernel
theorem dX8_advance_35 : decode cX8_advance 35 = .ok (.getfield 31, 3) := by decide +kernel
theorem dX8_advance_38 : decode cX8_advance 38 = .ok (.iconst 1, 1) := by decide +kernel
theorem dX8_advance_39 : decode cX8_advance 39 = .ok (.iadd, 1) := by decide +kernel
theorem dX8_advance_40 : decode cX8_advance 40 = .ok (.putfield 31, 3) := by decide +kernel
theorem dX8_advance_43 : decode cX8_advance 43 = .ok (.goto (-35), 3) := by decide +kernel
theorem dX8_advance_46 : decode cX8_advance 46 = .ok (.aload_n 0, 1) := by decide +kernel
theorem dX8_advance_47 : decode cX8_advance 47 = .ok (.aload_n 0, 1) := by decide +kernel
theorem dX8_advance_48 : decode cX8_advance 48 = .ok (.getfield 31, 3) := by decide +kernel
theorem dX8_advance_51 : decode cX8_advance 51 = .ok (.putfield 25, 3) := by decide +kernel
theorem dX8_advance_54 : decode cX8_advance 54 = .ok (.aload_n 0, 1) := by decide +kernel
theorem dX8_advance_55 : decode cX8_advance 55 = .ok (.aload_n 0, 1) := by decide +kernel
theorem dX8_advance_56 : decode cX8_advance 56 = .ok (.getfield 31, 3) := by decide +kernel
theorem dX8_advance_59 : decode cX8_advance 59 = .ok (.aload_n 0, 1) := by decide +kernel
theorem dX8_advance_60 : decode cX8_advance 60 = .ok (.getfield 22, 3) := by decide +kernel
theorem dX8_advance_63 : decode cX8_advance 63 = .ok (.if_icmp .ge 15, 3) := by decide +kernel
theorem dX8_advance_66 : decode cX8_advance 66 = .ok (.aload_n 0, 1) := by decide +kernel
theorem dX8_advance_67 : decode cX8_advance 67 = .ok (.getfield 9, 3) := by decide +kernel
theorem dX8_advance_70 : decode cX8_advance 70 = .ok (.aload_n 0, 1) := by decide +kernel
theorem dX8_advance_71 : decode cX8_advance 71 = .ok (.getfield 31, 3) := by decide +kernel
theorem dX8_advance_74 : decode cX8_advance 74 = .ok (.iaload, 1) := by decide +kernel
theorem dX8_advance_75 : decode cX8_advance 75 = .ok (.goto 4, 3) := by decide +kernel
theorem dX8_advance_78 : decode cX8_advance 78 = .ok (.iconst (-1), 1) := by decide +kernel
theorem dX8_advance_79 : decode cX8_advance 79 = .ok (.putfield 15, 3) := by decide +kernel
theorem dX8_advance_82 : decode cX8_advance 82 = .ok (.aload_n 0, 1) := by decide +kernel
theorem dX8_advance_83 : decode cX8_advance 83 = .ok (.getfield 15, 3) := by decide +kernel
theorem dX8_advance_86 : decode cX8_advance 86 = .ok (.bipush 97, 2) := by decide +kernel
theorem dX8_advance_88 : decode cX8_advance 88 = .ok (.if_icmp .lt 70, 3) := by decide +kernel
theorem dX8_advance_91 : decode cX8_advance 91 = .ok (.aload_n 0, 1) := by decide +kernel
theorem dX8_advance_92 : decode cX8_advance 92 = .ok (.getfield 15, 3) := by decide +kernel
theorem dX8_advance_95 : decode cX8_advance 95 = .ok (.bipush 122, 2) := by decide +kernel
theorem dX8_advance_97 : decode cX8_advance 97 = .ok (.if_icmp .gt 61, 3) := by decide +kernel
theorem dX8_advance_100 : decode cX8_advance 100 = .ok (.aload_n 0, 1) := by decide +kernel
theorem dX8_advance_101 : decode cX8_advance 101 = .ok (.bipush (-2), 2) := by decide +kernel
theorem dX8_advance_103 : decode cX8_advance 103 = .ok (.putfield 15, 3) := by decide +kernel
theorem dX8_advance_106 : decode cX8_advance 106 = .ok (.aload_n 0, 1) := by decide +kernel
theorem dX8_advance_107 : decode cX8_advance 107 = .ok (.getfield 25, 3) := by decide +kernel
theorem dX8_advance_110 : decode cX8_advance 110 = .ok (.aload_n 0, 1) := by decide +kernel
theorem dX8_advance_111 : decode cX8_advance 111 = .ok (.getfield 22, 3) := by decide +kernel
theorem dX8_advance_114 : decode cX8_advance 114 = .ok (.if_icmp .ge 195, 3) := by decide +kernel
theorem dX8_advance_117 : decode cX8_advance 117 = .ok (.aload_n 0, 1) := by decide +kernel
theorem dX8_advance_118 : decode cX8_advance 118 = .ok (.getfield 9, 3) := by decide +kernel
theorem dX8_advance_121 : decode cX8_advance 121 = .ok (.aload_n 0, 1) := by decide +kernel
theorem dX8_advance_122 : decode cX8_advance 122 = .ok (.getfield 25, 3) := by decide +kernel
theorem dX8_advance_125 : decode cX8_advance 125 = .ok (.iaload, 1) := by decide +kernel
theorem dX8_advance_126 : decode cX8_advance 126 = .ok (.bipush 97, 2) := by decide +kernel
theorem dX8_advance_128 : decode cX8_advance 128 = .ok (.if_icmp .lt 181, 3) := by decide +kernel
theorem dX8_advance_131 : decode cX8_advance 131 = .ok (.aload_n 0, 1) := by decide +kernel
theorem dX8_advance_132 : decode cX8_advance 132 = .ok (.getfield 9, 3) := by decide +kernel
theorem dX8_advance_135 : decode cX8_advance 135 = .ok (.aload_n 0, 1) := by decide +kernel
theorem dX8_advance_136 : decode cX8_advance 136 = .ok (.getfield 25, 3) := by decide +kernel
theorem dX8_advance_139 : decode cX8_advance 139 = .ok (.iaload, 1) := by decide +kernel
theorem dX8_advance_140 : decode cX8_advance 140 = .ok (.bipush 122, 2) := by decide +kernel
theorem dX8_advance_142 : decode cX8_advance 142 = .ok (.if_icmp .gt 167, 3) := by decide +kernel
theorem dX8_advance_145 : decode cX8_advance 145 = .ok (.aload_n 0, 1) := by decide +kernel
theorem dX8_advance_146 : decode cX8_advance 146 = .ok (.dup, 1) := by decide +kernel
theorem dX8_advance_147 : decode cX8_advance 147 = .ok (.getfield 25, 3) := by decide +kernel
theorem dX8_advance_150 : decode cX8_advance 150 = .ok (.iconst 1, 1) := by decide +kernel
theorem dX8_advance_151 : decode cX8_advance 151 = .ok (.iadd, 1) := by decide +kernel
theorem dX8_advance_152 : decode cX8_advance 152 = .ok (.putfield 25, 3) := by decide +kernel
theorem dX8_advance_155 : decode cX8_advance 155 = .ok (.goto (-49), 3) := by decide +kernel
theorem dX8_advance_158 : decode cX8_advance 158 = .ok (.aload_n 0, 1) := by decide +kernel
theorem dX8_advance_159 : decode cX8_advance 159 = .ok (.getfield 15, 3) := by decide +kernel
theorem dX8_advance_162 : decode cX8_advance 162 = .ok (.bipush 48, 2) := by decide +kernel
theorem dX8_advance_164 : decode cX8_advance 164 = .ok (.if_icmp .lt 127, 3) := by decide +kernel
theorem dX8_advance_167 : decode cX8_advance 167 = .ok (.aload_n 0, 1) := by decide +kernel
theorem dX8_advance_168 : decode cX8_advance 168 = .ok (.getfield 15, 3) := by decide +kernel
theorem dX8_advance_171 : decode cX8_advance 171 = .ok (.bipush 57, 2) := by decide +kernel
theorem dX8_advance_173 : decode cX8_advance 173 = .ok (.if_icmp .gt 118, 3) := by decide +kernel
theorem dX8_advance_176 : decode cX8_advance 176 = .ok (.aload_n 0, 1) := by decide +kernel
theorem dX8_advance_177 : decode cX8_advance 177 = .ok (.bipush (-3), 2) := by decide +kernel
theorem dX8_advance_179 : decode cX8_advance 179 = .ok (.putfield 15, 3) := by decide +kernel
theorem dX8_advance_182 : decode cX8_advance 182 = .ok (.aload_n 0, 1) := by decide +kernel
theorem dX8_advance_183 : decode cX8_advance 183 = .ok (.iconst 0, 1) := by decide +kernel
theorem dX8_advance_184 : decode cX8_advance 184 = .ok (.putfield 34, 3) := by decide +kernel
theorem dX8_advance_187 : decode cX8_advance 187 = .ok (.aload_n 0, 1) := by decide +kernel
theorem dX8_advance_188 : decode cX8_advance 188 = .ok (.getfield 25, 3) := by decide +kernel
theorem dX8_advance_191 : decode cX8_advance 191 = .ok (.aload_n 0, 1) := by decide +kernel
theorem dX8_advance_192 : decode cX8_advance 192 = .ok (.getfield 22, 3) := by decide +kernel
theorem dX8_advance_195 : decode cX8_advance 195 = .ok (.if_icmp .ge 68, 3) := by decide +kernel
theorem dX8_advance_198 : decode cX8_advance 198 = .ok (.aload_n 0, 1) := by decide +kernel
theorem dX8_advance_199 : decode cX8_advance 199 = .ok (.getfield 9, 3) := by decide +kernel
theorem dX8_advance_202 : decode cX8_advance 202 = .ok (.aload_n 0, 1) := by decide +kernel
theorem dX8_advance_203 : decode cX8_advance 203 = .ok (.getfield 25, 3) := by decide +kernel
theorem dX8_advance_206 : decode cX8_advance 206 = .ok (.iaload, 1) := by decide +kernel
theorem dX8_advance_207 : decode cX8_advance 207 = .ok (.bipush 48, 2) := by decide +kernel
theorem dX8_advance_209 : decode cX8_advance 209 = .ok (.if_icmp .lt 54, 3) := by decide +kernel
theorem dX8_advance_212 : decode cX8_advance 212 = .ok (.aload_n 0, 1) := by decide +kernel
theorem dX8_advance_213 : decode cX8_advance 213 = .ok (.getfield 9, 3) := by decide +kernel
theorem dX8_advance_216 : decode cX8_advance 216 = .ok (.aload_n 0, 1) := by decide +kernel
theorem dX8_advance_217 : decode cX8_advance 217 = .ok (.getfield 25, 3) := by decide +kernel
theorem dX8_advance_220 : decode cX8_advance 220 = .ok (.iaload, 1) := by decide +kernel
theorem dX8_advance_221 : decode cX8_advance 221 = .ok (.bipush 57, 2) := by decide +kernel
theorem dX8_advance_223 : decode cX8_advance 223 = .ok (.if_icmp .gt 40, 3) := by decide +kernel
theorem dX8_advance_226 : decode cX8_advance 226 = .ok (.aload_n 0, 1) := by decide +kernel
theorem dX8_advance_227 : decode cX8_advance 227 = .ok (.bipush 10, 2) := by decide +kernel
theorem dX8_advance_229 : decode cX8_advance 229 = .ok (.aload_n 0, 1) := by decide +kernel
theorem dX8_advance_230 : decode cX8_advance 230 = .ok (.getfield 34, 3) := by decide +kernel
theorem dX8_advance_233 : decode cX8_advance 233 = .ok (.imul, 1) := by decide +kernel
theorem dX8_advance_234 : decode cX8_advance 234 = .ok (.aload_n 0, 1) := by decide +kernel
theorem dX8_advance_235 : decode cX8_advance 235 = .ok (.getfield 9, 3) := by decide +kernel
theorem dX8_advance_238 : decode cX8_advance 238 = .ok (.aload_n 0, 1) := by decide +kernel
theorem dX8_advance_239 : decode cX8_advance 239 = .ok (.getfield 25, 3) := by decide +kernel
theorem dX8_advance_242 : decode cX8_advance 242 = .ok (.iaload, 1) := by decide +kernel
theorem dX8_advance_243 : decode cX8_advance 243 = .ok (.iadd, 1) := by decide +kernel
theorem dX8_advance_244 : decode cX8_advance 244 = .ok (.bipush 48, 2) := by decide +kernel
theorem dX8_advance_246 : decode cX8_advance 246 = .ok (.isub, 1) := by decide +kernel
theorem dX8_advance_247 : decode cX8_advance 247 = .ok (.putfield 34, 3) := by decide +kernel
theorem dX8_advance_250 : decode cX8_advance 250 = .ok (.aload_n 0, 1) := by decide +kernel
theorem dX8_advance_251 : decode cX8_advance 251 = .ok (.dup, 1) := by decide +kernel
theorem dX8_advance_252 : decode cX8_advance 252 = .ok (.getfield 25, 3) := by decide +kernel
theorem dX8_advance_255 : decode cX8_advance 255 = .ok (.iconst 1, 1) := by decide +kernel
theorem dX8_advance_256 : decode cX8_advance 256 = .ok (.iadd, 1) := by decide +kernel
theorem dX8_advance_257 : decode cX8_advance 257 = .ok (.putfield 25, 3) := by decide +kernel
theorem dX8_advance_260 : decode cX8_advance 260 = .ok (.goto (-73), 3) := by decide +kernel
theorem dX8_advance_263 : decode cX8_advance 263 = .ok (.aload_n 0, 1) := by decide +kernel
theorem dX8_advance_264 : decode cX8_advance 264 = .ok (.aload_n 0, 1) := by decide +kernel
theorem dX8_advance_265 : decode cX8_advance 265 = .ok (.getfield 25, 3) := by decide +kernel
theorem dX8_advance_268 : decode cX8_advance 268 = .ok (.aload_n 0, 1) := by decide +kernel
theorem dX8_advance_269 : decode cX8_advance 269 = .ok (.getfield 31, 3) := by decide +kernel
theorem dX8_advance_272 : decode cX8_advance 272 = .ok (.isub, 1) := by decide +kernel
theorem dX8_advance_273 : decode cX8_advance 273 = .ok (.iconst 3, 1) := by decide +kernel
theorem dX8_advance_274 : decode cX8_advance 274 = .ok (.if_icmp .le 7, 3) := by decide +kernel
theorem dX8_advance_277 : decode cX8_advance 277 = .ok (.iconst (-1), 1) := by decide +kernel
theorem dX8_advance_278 : decode cX8_advance 278 = .ok (.goto 7, 3) := by decide +kernel
theorem dX8_advance_281 : decode cX8_advance 281 = .ok (.aload_n 0, 1) := by decide +kernel
theorem dX8_advance_282 : decode cX8_advance 282 = .ok (.getfield 34, 3) := by decide +kernel
theorem dX8_advance_285 : decode cX8_advance 285 = .ok (.putfield 34, 3) := by decide +kernel
theorem dX8_advance_288 : decode cX8_advance 288 = .ok (.goto 21, 3) := by decide +kernel
theorem dX8_advance_291 : decode cX8_advance 291 = .ok (.aload_n 0, 1) := by decide +kernel
theorem dX8_advance_292 : decode cX8_advance 292 = .ok (.getfield 15, 3) := by decide +kernel
theorem dX8_advance_295 : decode cX8_advance 295 = .ok (.iconst (-1), 1) := by decide +kernel
theorem dX8_advance_296 : decode cX8_advance 296 = .ok (.if_icmp .eq 13, 3) := by decide +kernel
theorem dX8_advance_299 : decode cX8_advance 299 = .ok (.aload_n 0, 1) := by decide +kernel
theorem dX8_advance_300 : decode cX8_advance 300 = .ok (.dup, 1) := by decide +kernel
theorem dX8_advance_301 : decode cX8_advance 301 = .ok (.getfield 25, 3) := by decide +kernel
theorem dX8_advance_304 : decode cX8_advance 304 = .ok (.iconst 1, 1) := by decide +kernel
theorem dX8_advance_305 : decode cX8_advance 305 = .ok (.iadd, 1) := by decide +kernel
theorem dX8_advance_306 : decode cX8_advance 306 = .ok (.putfield 25, 3) := by decide +kernel
theorem dX8_advance_309 : decode cX8_advance 309 = .ok (.return_, 1) := by decide +kernel
theorem dX8_isWrong_0 : decode cX8_isWrong 0 = .ok (.aload_n 0, 1) := by decide +kernel
theorem dX8_isWrong_1 : decode cX8_isWrong 1 = .ok (.aload_n 0, 1) := by decide +kernel
theorem dX8_isWrong_2 : decode cX8_isWrong 2 = .ok (.getfield 31, 3) := by decide +kernel
theorem dX8_isWrong_5 : decode cX8_isWrong 5 = .ok (.putfield 19, 3) := by decide +kernel
theorem dX8_isWrong_8 : decode cX8_isWrong 8 = .ok (.iconst 0, 1) := by decide +kernel
theorem dX8_isWrong_9 : decode cX8_isWrong 9 = .ok (.ireturn, 1) := by decide +kernel
theorem dX8_isWord_0 : decode cX8_isWord 0 = .ok (.aload_n 0, 1) := by decide +kernel
theorem dX8_isWord_1 : decode cX8_isWord 1 = .ok (.getfield 15, 3) := by decide +kernel
theorem dX8_isWord_4 : decode cX8_isWord 4 = .ok (.bipush (-2), 2) := by decide +kernel
theorem dX8_isWord_6 : decode cX8_isWord 6 = .ok (.if_icmp .ne 19, 3) := by decide +kernel
theorem dX8_isWord_9 : decode cX8_isWord 9 = .ok (.aload_n 0, 1) := by decide +kernel
theorem dX8_isWord_10 : decode cX8_isWord 10 = .ok (.getfield 25, 3) := by decide +kernel
theorem dX8_isWord_13 : decode cX8_isWord 13 = .ok (.aload_n 0, 1) := by decide +kernel
theorem dX8_isWord_14 : decode cX8_isWord 14 = .ok (.getfield 31, 3) := by decide +kernel
theorem dX8_isWord_17 : decode cX8_isWord 17 = .ok (.isub, 1) := by decide +kernel
theorem dX8_isWord_18 : decode cX8_isWord 18 = .ok (.aload_n 1, 1) := by decide +kernel
theorem dX8_isWord_19 : decode cX8_isWord 19 = .ok (.invokevirtual 37, 3) := by decide +kernel
theorem dX8_isWord_22 : decode cX8_isWord 22 = .ok (.if_icmp .eq 5, 3) := by decide +kernel
theorem dX8_isWord_25 : decode cX8_isWord 25 = .ok (.iconst 0, 1) := by decide +kernel
theorem dX8_isWord_26 : decode cX8_isWord 26 = .ok (.ireturn, 1) := by decide +kernel
theorem dX8_isWord_27 : decode cX8_isWord 27 = .ok (.iconst 0, 1) := by decide +kernel
theorem dX8_isWord_28 : decode cX8_isWord 28 = .ok (.istore_n 2, 1) := by decide +kernel
theorem dX8_isWord_29 : decode cX8_isWord 29 = .ok (.iload_n 2, 1) := by decide +kernel
theorem dX8_isWord_30 : decode cX8_isWord 30 = .ok (.aload_n 1, 1) := by decide +kernel
theorem dX8_isWord_31 : decode cX8_isWord 31 = .ok (.invokevirtual 37, 3) := by decide +kernel
theorem dX8_isWord_34 : decode cX8_isWord 34 = .ok (.if_icmp .ge 30, 3) := by decide +kernel
theorem dX8_isWord_37 : decode cX8_isWord 37 = .ok (.aload_n 0, 1) := by decide +kernel
theorem dX8_isWord_38 : decode cX8_isWord 38 = .ok (.getfield 9, 3) := by decide +kernel
theorem dX8_isWord_41 : decode cX8_isWord 41 = .ok (.aload_n 0, 1) := by decide +kernel
theorem dX8_isWord_42 : decode cX8_isWord 42 = .ok (.getfield 31, 3) := by decide +kernel
theorem dX8_isWord_45 : decode cX8_isWord 45 = .ok (.iload_n 2, 1) := by decide +kernel
theorem dX8_isWord_46 : decode cX8_isWord 46 = .ok (.iadd, 1) := by decide +kernel
theorem dX8_isWord_47 : decode cX8_isWord 47 = .ok (.iaload, 1) := by decide +kernel
theorem dX8_isWord_48 : decode cX8_isWord 48 = .ok (.aload_n 1, 1) := by decide +kernel
theorem dX8_isWord_49 : decode cX8_isWord 49 = .ok (.iload_n 2, 1) := by decide +kernel
theorem dX8_isWord_50 : decode cX8_isWord 50 = .ok (.invokevirtual 43, 3) := by decide +kernel
theorem dX8_isWord_53 : decode cX8_isWord 53 = .ok (.if_icmp .eq 5, 3) := by decide +kernel
theorem dX8_isWord_56 : decode cX8_isWord 56 = .ok (.iconst 0, 1) := by decide +kernel
theorem dX8_isWord_57 : decode cX8_isWord 57 = .ok (.ireturn, 1) := by decide +kernel
theorem dX8_isWord_58 : decode cX8_isWord 58 = .ok (.iinc 2 1, 3) := by decide +kernel
theorem dX8_isWord_61 : decode cX8_isWord 61 = .ok (.goto (-32), 3) := by decide +kernel
theorem dX8_isWord_64 : decode cX8_isWord 64 = .ok (.iconst 1, 1) := by decide +kernel
theorem dX8_isWord_65 : decode cX8_isWord 65 = .ok (.ireturn, 1) := by decide +kernel
theorem dX8_skipWord_0 : decode cX8_skipWord 0 = .ok (.aload_n 0, 1) := by decide +kernel
theorem dX8_skipWord_1 : decode cX8_skipWord 1 = .ok (.aload_n 1, 1) := by decide +kernel
theorem dX8_skipWord_2 : decode cX8_skipWord 2 = .ok (.invokevirtual 47, 3) := by decide +kernel
theorem dX8_skipWord_5 : decode cX8_skipWord 5 = .ok (.ifCond .ne 8, 3) := by decide +kernel
theorem dX8_skipWord_8 : decode cX8_skipWord 8 = .ok (.aload_n 0, 1) := by decide +kernel
theorem dX8_skipWord_9 : decode cX8_skipWord 9 = .ok (.invokevirtual 51, 3) := by decide +kernel
theorem dX8_skipWord_12 : decode cX8_skipWord 12 = .ok (.ireturn, 1) := by decide +kernel
theorem dX8_skipWord_13 : decode cX8_skipWord 13 = .ok (.aload_n 0, 1) := by decide +kernel
theorem dX8_skipWord_14 : decode cX8_skipWord 14 = .ok (.invokevirtual 28, 3) := by decide +kernel
theorem dX8_skipWord_17 : decode cX8_skipWord 17 = .ok (.iconst 1, 1) := by decide +kernel
theorem dX8_skipWord_18 : decode cX8_skipWord 18 = .ok (.ireturn, 1) := by decide +kernel
theorem dX8_skip_0 : decode cX8_skip 0 = .ok (.aload_n 0, 1) := by decide +kernel
theorem dX8_skip_1 : decode cX8_skip 1 = .ok (.getfield 15, 3) := by decide +kernel
theorem dX8_skip_4 : decode cX8_skip 4 = .ok (.iload_n 1, 1) := by decide +kernel
theorem dX8_skip_5 : decode cX8_skip 5 = .ok (.if_icmp .eq 8, 3) := by decide +kernel
theorem dX8_skip_8 : decode cX8_skip 8 = .ok (.aload_n 0, 1) := by decide +kernel
theorem dX8_skip_9 : decode cX8_skip 9 = .ok (.invokevirtual 51, 3) := by decide +kernel
theorem dX8_skip_12 : decode cX8_skip 12 = .ok (.ireturn, 1) := by decide +kernel
theorem dX8_skip_13 : decode cX8_skip 13 = .ok (.aload_n 0, 1) := by decide +kernel
theorem dX8_skip_14 : decode cX8_skip 14 = .ok (.invokevirtual 28, 3) := by decide +kernel
theorem dX8_skip_17 : decode cX8_skip 17 = .ok (.iconst 1, 1) := by decide +kernel
theorem dX8_skip_18 : decode cX8_skip 18 = .ok (.ireturn, 1) := by decide +kernel
theorem dX8_readNumber_0 : decode cX8_readNumber 0 = .ok (.aload_n 0, 1) := by decide +kernel
theorem dX8_readNumber_1 : decode cX8_readNumber 1 = .ok (.getfield 15, 3) := by decide +kernel
theorem dX8_readNumber_4 : decode cX8_readNumber 4 = .ok (.bipush (-3), 2) := by decide +kernel
theorem dX8_readNumber_6 : decode cX8_readNumber 6 = .ok (.if_icmp .ne 11, 3) := by decide +kernel
theorem dX8_readNumber_9 : decode cX8_readNumber 9 = .ok (.aload_n 0, 1) := by decide +kernel
theorem dX8_readNumber_10 : decode cX8_readNumber 10 = .ok (.getfield 34, 3) := by decide +kernel
theorem dX8_readNumber_13 : decode cX8_readNumber 13 = .ok (.iload_n 1, 1) := by decide +kernel
theorem dX8_readNumber_14 : decode cX8_readNumber 14 = .ok (.if_icmp .le 10, 3) := by decide +kernel
theorem dX8_readNumber_17 : decode cX8_readNumber 17 = .ok (.aload_n 0, 1) := by decide +kernel
theorem dX8_readNumber_18 : decode cX8_readNumber 18 = .ok (.invokevirtual 51, 3) := by decide +kernel
theorem dX8_readNumber_21 : decode cX8_readNumber 21 = .ok (.pop, 1) := by decide +kernel
theorem dX8_readNumber_22 : decode cX8_readNumber 22 = .ok (.iconst (-1), 1) := by decide +kernel
theorem dX8_readNumber_23 : decode cX8_readNumber 23 = .ok (.ireturn, 1) := by decide +kernel
theorem dX8_readNumber_24 : decode cX8_readNumber 24 = .ok (.aload_n 0, 1) := by decide +kernel
theorem dX8_readNumber_25 : decode cX8_readNumber 25 = .ok (.getfield 34, 3) := by decide +kernel
theorem dX8_readNumber_28 : decode cX8_readNumber 28 = .ok (.istore_n 2, 1) := by decide +kernel
theorem dX8_readNumber_29 : decode cX8_readNumber 29 = .ok (.iload_n 2, 1) := by decide +kernel
theorem dX8_readNumber_30 : decode cX8_readNumber 30 = .ok (.iconst (-1), 1) := by decide +kernel
theorem dX8_readNumber_31 : decode cX8_readNumber 31 = .ok (.if_icmp .ne 11, 3) := by decide +kernel
theorem dX8_readNumber_34 : decode cX8_readNumber 34 = .ok (.aload_n 0, 1) := by decide +kernel
theorem dX8_readNumber_35 : decode cX8_readNumber 35 = .ok (.invokevirtual 51, 3) := by decide +kernel
theorem dX8_readNumber_38 : decode cX8_readNumber 38 = .ok (.pop, 1) := by decide +kernel
theorem dX8_readNumber_39 : decode cX8_readNumber 39 = .ok (.goto 7, 3) := by decide +kernel
theorem dX8_readNumber_42 : decode cX8_readNumber 42 = .ok (.aload_n 0, 1) := by decide +kernel
theorem dX8_readNumber_43 : decode cX8_readNumber 43 = .ok (.invokevirtual 28, 3) := by decide +kernel
theorem dX8_readNumber_46 : decode cX8_readNumber 46 = .ok (.iload_n 2, 1) := by decide +kernel
theorem dX8_readNumber_47 : decode cX8_readNumber 47 = .ok (.ireturn, 1) := by decide +kernel
theorem dX8_readBeasts_0 : decode cX8_readBeasts 0 = .ok (.iload_n 1, 1) := by decide +kernel
theorem dX8_readBeasts_1 : decode cX8_readBeasts 1 = .ok (.ifCond .ne 16, 3) := by decide +kernel
theorem dX8_readBeasts_4 : decode cX8_readBeasts 4 = .ok (.aload_n 0, 1) := by decide +kernel
theorem dX8_readBeasts_5 : decode cX8_readBeasts 5 = .ok (.getfield 15, 3) := by decide +kernel
theorem dX8_readBeasts_8 : decode cX8_readBeasts 8 = .ok (.bipush 46, 2) := by decide +kernel
theorem dX8_readBeasts_10 : decode cX8_readBeasts 10 = .ok (.if_icmp .ne 7, 3) := by decide +kernel
theorem dX8_readBeasts_13 : decode cX8_readBeasts 13 = .ok (.lconst 1, 1) := by decide +kernel
theorem dX8_readBeasts_14 : decode cX8_readBeasts 14 = .ok (.goto 35, 3) := by decide +kernel
theorem dX8_readBeasts_17 : decode cX8_readBeasts 17 = .ok (.aload_n 0, 1) := by decide +kernel
theorem dX8_readBeasts_18 : decode cX8_readBeasts 18 = .ok (.getfield 15, 3) := by decide +kernel
theorem dX8_readBeasts_21 : decode cX8_readBeasts 21 = .ok (.bipush (-2), 2) := by decide +kernel
theorem dX8_readBeasts_23 : decode cX8_readBeasts 23 = .ok (.if_icmp .ne 23, 3) := by decide +kernel
theorem dX8_readBeasts_26 : decode cX8_readBeasts 26 = .ok (.aload_n 0, 1) := by decide +kernel
theorem dX8_readBeasts_27 : decode cX8_readBeasts 27 = .ok (.getfield 25, 3) := by decide +kernel
theorem dX8_readBeasts_30 : decode cX8_readBeasts 30 = .ok (.aload_n 0, 1) := by decide +kernel
theorem dX8_readBeasts_31 : decode cX8_readBeasts 31 = .ok (.getfield 31, 3) := by decide +kernel
theorem dX8_readBeasts_34 : decode cX8_readBeasts 34 = .ok (.isub, 1) := by decide +kernel
theorem dX8_readBeasts_35 : decode cX8_readBeasts 35 = .ok (.iload_n 2, 1) := by decide +kernel
theorem dX8_readBeasts_36 : decode cX8_readBeasts 36 = .ok (.if_icmp .gt 10, 3) := by decide +kernel
theorem dX8_readBeasts_39 : decode cX8_readBeasts 39 = .ok (.aload_n 0, 1) := by decide +kernel
theorem dX8_readBeasts_40 : decode cX8_readBeasts 40 = .ok (.invokevirtual 55, 3) := by decide +kernel
theorem dX8_readBeasts_43 : decode cX8_readBeasts 43 = .ok (.goto 6, 3) := by decide +kernel
theorem dX8_readBeasts_46 : decode cX8_readBeasts 46 = .ok (.ldc2_w 59, 3) := by decide +kernel
theorem dX8_readBeasts_49 : decode cX8_readBeasts 49 = .ok (.lstore_n 3, 1) := by decide +kernel
theorem dX8_readBeasts_50 : decode cX8_readBeasts 50 = .ok (.lload_n 3, 1) := by decide +kernel
theorem dX8_readBeasts_51 : decode cX8_readBeasts 51 = .ok (.ldc2_w 59, 3) := by decide +kernel
theorem dX8_readBeasts_54 : decode cX8_readBeasts 54 = .ok (.lcmp, 1) := by decide +kernel
theorem dX8_readBeasts_55 : decode cX8_readBeasts 55 = .ok (.ifCond .ne 11, 3) := by decide +kernel
theorem dX8_readBeasts_58 : decode cX8_readBeasts 58 = .ok (.aload_n 0, 1) := by decide +kernel
theorem dX8_readBeasts_59 : decode cX8_readBeasts 59 = .ok (.invokevirtual 51, 3) := by decide +kernel
theorem dX8_readBeasts_62 : decode cX8_readBeasts 62 = .ok (.pop, 1) := by decide +kernel
theorem dX8_readBeasts_63 : decode cX8_readBeasts 63 = .ok (.goto 7, 3) := by decide +kernel
theorem dX8_readBeasts_66 : decode cX8_readBeasts 66 = .ok (.aload_n 0, 1) := by decide +kernel
theorem dX8_readBeasts_67 : decode cX8_readBeasts 67 = .ok (.invokevirtual 28, 3) := by decide +kernel
theorem dX8_readBeasts_70 : decode cX8_readBeasts 70 = .ok (.lload_n 3, 1) := by decide +kernel
theorem dX8_readBeasts_71 : decode cX8_readBeasts 71 = .ok (.lreturn, 1) := by decide +kernel
theorem dX8_beastsAhead_0 : decode cX8_beastsAhead 0 = .ok (.lconst 1, 1) := by decide +kernel
theorem dX8_beastsAhead_1 : decode cX8_beastsAhead 1 = .ok (.lstore_n 1, 1) := by decide +kernel
theorem dX8_beastsAhead_2 : decode cX8_beastsAhead 2 = .ok (.aload_n 0, 1) := by decide +kernel
theorem dX8_beastsAhead_3 : decode cX8_beastsAhead 3 = .ok (.getfield 31, 3) := by decide +kernel
theorem dX8_beastsAhead_6 : decode cX8_beastsAhead 6 = .ok (.istore_n 3, 1) := by decide +kernel
theorem dX8_beastsAhead_7 : decode cX8_beastsAhead 7 = .ok (.iload_n 3, 1) := by decide +kernel
theorem dX8_beastsAhead_8 : decode cX8_beastsAhead 8 = .ok (.aload_n 0, 1) := by decide +kernel
theorem dX8_beastsAhead_9 : decode cX8_beastsAhead 9 = .ok (.getfield 25, 3) := by decide +kernel
theorem dX8_beastsAhead_12 : decode cX8_beastsAhead 12 = .ok (.if_icmp .ge 39, 3) := by decide +kernel
theorem dX8_beastsAhead_15 : decode cX8_beastsAhead 15 = .ok (.aload_n 0, 1) := by decide +kernel
theorem dX8_beastsAhead_16 : decode cX8_beastsAhead 16 = .ok (.getfield 9, 3) := by decide +kernel
theorem dX8_beastsAhead_19 : decode cX8_beastsAhead 19 = .ok (.iload_n 3, 1) := by decide +kernel
theorem dX8_beastsAhead_20 : decode cX8_beastsAhead 20 = .ok (.iaload, 1) := by decide +kernel
theorem dX8_beastsAhead_21 : decode cX8_beastsAhead 21 = .ok (.bipush 97, 2) := by decide +kernel
theorem dX8_beastsAhead_23 : decode cX8_beastsAhead 23 = .ok (.isub, 1) := by decide +kernel
theorem dX8_beastsAhead_24 : decode cX8_beastsAhead 24 = .ok (.istore 4, 2) := by decide +kernel
theorem dX8_beastsAhead_26 : decode cX8_beastsAhead 26 = .ok (.iload 4, 2) := by decide +kernel
theorem dX8_beastsAhead_28 : decode cX8_beastsAhead 28 = .ok (.bipush 8, 2) := by decide +kernel
theorem dX8_beastsAhead_30 : decode cX8_beastsAhead 30 = .ok (.if_icmp .lt 7, 3) := by decide +kernel
theorem dX8_beastsAhead_33 : decode cX8_beastsAhead 33 = .ok (.ldc2_w 59, 3) := by decide +kernel
theorem dX8_beastsAhead_36 : decode cX8_beastsAhead 36 = .ok (.lreturn, 1) := by decide +kernel
theorem dX8_beastsAhead_37 : decode cX8_beastsAhead 37 = .ok (.lload_n 1, 1) := by decide +kernel
theorem dX8_beastsAhead_38 : decode cX8_beastsAhead 38 = .ok (.iload 4, 2) := by decide +kernel
theorem dX8_beastsAhead_40 : decode cX8_beastsAhead 40 = .ok (.iconst 1, 1) := by decide +kernel
theorem dX8_beastsAhead_41 : decode cX8_beastsAhead 41 = .ok (.invokestatic 61, 3) := by decide +kernel
theorem dX8_beastsAhead_44 : decode cX8_beastsAhead 44 = .ok (.lstore_n 1, 1) := by decide +kernel
theorem dX8_beastsAhead_45 : decode cX8_beastsAhead 45 = .ok (.iinc 3 1, 3) := by decide +kernel
theorem dX8_beastsAhead_48 : decode cX8_beastsAhead 48 = .ok (.goto (-41), 3) := by decide +kernel
theorem dX8_beastsAhead_51 : decode cX8_beastsAhead 51 = .ok (.lload_n 1, 1) := by decide +kernel
theorem dX8_beastsAhead_52 : decode cX8_beastsAhead 52 = .ok (.lreturn, 1) := by decide +kernel
theorem dX9_init_0 : decode cX9_init 0 = .ok (.aload_n 0, 1) := by decide +kernel
theorem dX9_init_1 : decode cX9_init 1 = .ok (.invokespecial 3, 3) := by decide +kernel
theorem dX9_init_4 : decode cX9_init 4 = .ok (.aload_n 0, 1) := by decide +kernel
theorem dX9_init_5 : decode cX9_init 5 = .ok (.new 9, 3) := by decide +kernel
theorem dX9_init_8 : decode cX9_init 8 = .ok (.dup, 1) := by decide +kernel
theorem dX9_init_9 : decode cX9_init 9 = .ok (.invokespecial 11, 3) := by decide +kernel
theorem dX9_init_12 : decode cX9_init 12 = .ok (.putfield 12, 3) := by decide +kernel
theorem dX9_init_15 : decode cX9_init 15 = .ok (.aload_n 0, 1) := by decide +kernel
theorem dX9_init_16 : decode cX9_init 16 = .ok (.bipush 6, 2) := by decide +kernel
theorem dX9_init_18 : decode cX9_init 18 = .ok (.anewarray 18, 3) := by decide +kernel
theorem dX9_init_21 : decode cX9_init 21 = .ok (.putfield 20, 3) := by decide +kernel
theorem dX9_init_24 : decode cX9_init 24 = .ok (.aload_n 0, 1) := by decide +kernel
theorem dX9_init_25 : decode cX9_init 25 = .ok (.bipush 10, 2) := by decide +kernel
theorem dX9_init_27 : decode cX9_init 27 = .ok (.newarray .long, 2) := by decide +kernel
theorem dX9_init_29 : decode cX9_init 29 = .ok (.putfield 24, 3) := by decide +kernel
theorem dX9_init_32 : decode cX9_init 32 = .ok (.aload_n 0, 1) := by decide +kernel
theorem dX9_init_33 : decode cX9_init 33 = .ok (.bipush 10, 2) := by decide +kernel
theorem dX9_init_35 : decode cX9_init 35 = .ok (.newarray .long, 2) := by decide +kernel
theorem dX9_init_37 : decode cX9_init 37 = .ok (.putfield 28, 3) := by decide +kernel
theorem dX9_init_40 : decode cX9_init 40 = .ok (.aload_n 0, 1) := by decide +kernel
theorem dX9_init_41 : decode cX9_init 41 = .ok (.bipush 8, 2) := by decide +kernel
theorem dX9_init_43 : decode cX9_init 43 = .ok (.newarray .int, 2) := by decide +kernel
theorem dX9_init_45 : decode cX9_init 45 = .ok (.putfield 31, 3) := by decide +kernel
theorem dX9_init_48 : decode cX9_init 48 = .ok (.aload_n 0, 1) := by decide +kernel
theorem dX9_init_49 : decode cX9_init 49 = .ok (.iconst 0, 1) := by decide +kernel
theorem dX9_init_50 : decode cX9_init 50 = .ok (.putfield 35, 3) := by decide +kernel
theorem dX9_init_53 : decode cX9_init 53 = .ok (.aload_n 0, 1) := by decide +kernel
theorem dX9_init_54 : decode cX9_init 54 = .ok (.iconst 1, 1) := by decide +kernel
theorem dX9_init_55 : decode cX9_init 55 = .ok (.putfield 39, 3) := by decide +kernel
theorem dX9_init_58 : decode cX9_init 58 = .ok (.iconst 0, 1) := by decide +kernel
theorem dX9_init_59 : decode cX9_init 59 = .ok (.istore_n 1, 1) := by decide +kernel
theorem dX9_init_60 : decode cX9_init 60 = .ok (.iload_n 1, 1) := by decide +kernel
theorem dX9_init_61 : decode cX9_init 61 = .ok (.bipush 6, 2) := by decide +kernel
theorem dX9_init_63 : decode cX9_init 63 = .ok (.if_icmp .ge 22, 3) := by decide +kernel
theorem dX9_init_66 : decode cX9_init 66 = .ok (.aload_n 0, 1) := by decide +kernel
theorem dX9_init_67 : decode cX9_init 67 = .ok (.getfield 20, 3) := by decide +kernel
theorem dX9_init_70 : decode cX9_init 70 = .ok (.iload_n 1, 1) := by decide +kernel
theorem dX9_init_71 : decode cX9_init 71 = .ok (.new 18, 3) := by decide +kernel
theorem dX9_init_74 : decode cX9_init 74 = .ok (.dup, 1) := by decide +kernel
theorem dX9_init_75 : decode cX9_init 75 = .ok (.invokespecial 42, 3) := by decide +kernel
theorem dX9_init_78 : decode cX9_init 78 = .ok (.aastore, 1) := by decide +kernel
theorem dX9_init_79 : decode cX9_init 79 = .ok (.iinc 1 1, 3) := by decide +kernel
theorem dX9_init_82 : decode cX9_init 82 = .ok (.goto (-22), 3) := by decide +kernel
theorem dX9_init_85 : decode cX9_init 85 = .ok (.aload_n 0, 1) := by decide +kernel
theorem dX9_init_86 : decode cX9_init 86 = .ok (.getfield 31, 3) := by decide +kernel
theorem dX9_init_89 : decode cX9_init 89 = .ok (.iconst 1, 1) := by decide +kernel
theorem dX9_init_90 : decode cX9_init 90 = .ok (.invokestatic 43, 3) := by decide +kernel
theorem dX9_init_93 : decode cX9_init 93 = .ok (.return_, 1) := by decide +kernel
theorem dX9_copyFrom_0 : decode cX9_copyFrom 0 = .ok (.aload_n 0, 1) := by decide +kernel
theorem dX9_copyFrom_1 : decode cX9_copyFrom 1 = .ok (.getfield 12, 3) := by decide +kernel
theorem dX9_copyFrom_4 : decode cX9_copyFrom 4 = .ok (.aload_n 1, 1) := by decide +kernel
theorem dX9_copyFrom_5 : decode cX9_copyFrom 5 = .ok (.getfield 12, 3) := by decide +kernel
theorem dX9_copyFrom_8 : decode cX9_copyFrom 8 = .ok (.invokevirtual 49, 3) := by decide +kernel
theorem dX9_copyFrom_11 : decode cX9_copyFrom 11 = .ok (.iconst 0, 1) := by decide +kernel
theorem dX9_copyFrom_12 : decode cX9_copyFrom 12 = .ok (.istore_n 2, 1) := by decide +kernel
theorem dX9_copyFrom_13 : decode cX9_copyFrom 13 = .ok (.iload_n 2, 1) := by decide +kernel
theorem dX9_copyFrom_14 : decode cX9_copyFrom 14 = .ok (.aload_n 1, 1) := by decide +kernel
theorem dX9_copyFrom_15 : decode cX9_copyFrom 15 = .ok (.getfield 53, 3) := by decide +kernel
theorem dX9_copyFrom_18 : decode cX9_copyFrom 18 = .ok (.if_icmp .ge 24, 3) := by decide +kernel
theorem dX9_copyFrom_21 : decode cX9_copyFrom 21 = .ok (.aload_n 0, 1) := by decide +kernel
theorem dX9_copyFrom_22 : decode cX9_copyFrom 22 = .ok (.getfield 20, 3) := by decide +kernel
theorem dX9_copyFrom_25 : decode cX9_copyFrom 25 = .ok (.iload_n 2, 1) := by decide +kernel
theorem dX9_copyFrom_26 : decode cX9_copyFrom 26 = .ok (.aaload, 1) := by decide +kernel
theorem dX9_copyFrom_27 : decode cX9_copyFrom 27 = .ok (.aload_n 1, 1) := by decide +kernel
theorem dX9_copyFrom_28 : decode cX9_copyFrom 28 = .ok (.getfield 20, 3) := by decide +kernel
theorem dX9_copyFrom_31 : decode cX9_copyFrom 31 = .ok (.iload_n 2, 1) := by decide +kernel
theorem dX9_copyFrom_32 : decode cX9_copyFrom 32 = .ok (.aaload, 1) := by decide +kernel
theorem dX9_copyFrom_33 : decode cX9_copyFrom 33 = .ok (.invokevirtual 56, 3) := by decide +kernel
theorem dX9_copyFrom_36 : decode cX9_copyFrom 36 = .ok (.iinc 2 1, 3) := by decide +kernel
theorem dX9_copyFrom_39 : decode cX9_copyFrom 39 = .ok (.goto (-26), 3) := by decide +kernel
theorem dX9_copyFrom_42 : decode cX9_copyFrom 42 = .ok (.aload_n 0, 1) := by decide +kernel
theorem dX9_copyFrom_43 : decode cX9_copyFrom 43 = .ok (.aload_n 1, 1) := by decide +kernel
theorem dX9_copyFrom_44 : decode cX9_copyFrom 44 = .ok (.getfield 53, 3) := by decide +kernel
theorem dX9_copyFrom_47 : decode cX9_copyFrom 47 = .ok (.putfield 53, 3) := by decide +kernel
theorem dX9_copyFrom_50 : decode cX9_copyFrom 50 = .ok (.aload_n 1, 1) := by decide +kernel
theorem dX9_copyFrom_51 : decode cX9_copyFrom 51 = .ok (.getfield 24, 3) := by decide +kernel
theorem dX9_copyFrom_54 : decode cX9_copyFrom 54 = .ok (.iconst 0, 1) := by decide +kernel
theorem dX9_copyFrom_55 : decode cX9_copyFrom 55 = .ok (.aload_n 0, 1) := by decide +kernel
theorem dX9_copyFrom_56 : decode cX9_copyFrom 56 = .ok (.getfield 24, 3) := by decide +kernel
theorem dX9_copyFrom_59 : decode cX9_copyFrom 59 = .ok (.iconst 0, 1) := by decide +kernel
theorem dX9_copyFrom_60 : decode cX9_copyFrom 60 = .ok (.bipush 10, 2) := by decide +kernel
theorem dX9_copyFrom_62 : decode cX9_copyFrom 62 = .ok (.invokestatic 59, 3) := by decide +kernel
theorem dX9_copyFrom_65 : decode cX9_copyFrom 65 = .ok (.aload_n 1, 1) := by decide +kernel
theorem dX9_copyFrom_66 : decode cX9_copyFrom 66 = .ok (.getfield 28, 3) := by decide +kernel
theorem dX9_copyFrom_69 : decode cX9_copyFrom 69 = .ok (.iconst 0, 1) := by decide +kernel
theorem dX9_copyFrom_70 : decode cX9_copyFrom 70 = .ok (.aload_n 0, 1) := by decide +kernel
theorem dX9_copyFrom_71 : decode cX9_copyFrom 71 = .ok (.getfield 28, 3) := by decide +kernel
theorem dX9_copyFrom_74 : decode cX9_copyFrom 74 = .ok (.iconst 0, 1) := by decide +kernel
theorem dX9_copyFrom_75 : decode cX9_copyFrom 75 = .ok (.bipush 10, 2) := by decide +kernel
theorem dX9_copyFrom_77 : decode cX9_copyFrom 77 = .ok (.invokestatic 59, 3) := by decide +kernel
theorem dX9_copyFrom_80 : decode cX9_copyFrom 80 = .ok (.aload_n 0, 1) := by decide +kernel
theorem dX9_copyFrom_81 : decode cX9_copyFrom 81 = .ok (.aload_n 1, 1) := by decide +kernel
theorem dX9_copyFrom_82 : decode cX9_copyFrom 82 = .ok (.getfield 65, 3) := by decide +kernel
theorem dX9_copyFrom_85 : decode cX9_copyFrom 85 = .ok (.putfield 65, 3) := by decide +kernel
theorem dX9_copyFrom_88 : decode cX9_copyFrom 88 = .ok (.aload_n 1, 1) := by decide +kernel
theorem dX9_copyFrom_89 : decode cX9_copyFrom 89 = .ok (.getfield 31, 3) := by decide +kernel
theorem dX9_copyFrom_92 : decode cX9_copyFrom 92 = .ok (.iconst 0, 1) := by decide +kernel
theorem dX9_copyFrom_93 : decode cX9_copyFrom 93 = .ok (.aload_n 0, 1) := by decide +kernel
theorem dX9_copyFrom_94 : decode cX9_copyFrom 94 = .ok (.getfield 31, 3) := by decide +kernel
theorem dX9_copyFrom_97 : decode cX9_copyFrom 97 = .ok (.iconst 0, 1) := by decide +kernel
theorem dX9_copyFrom_98 : decode cX9_copyFrom 98 = .ok (.bipush 8, 2) := by decide +kernel
theorem dX9_copyFrom_100 : decode cX9_copyFrom 100 = .ok (.invokestatic 59, 3) := by decide +kernel
theorem dX9_copyFrom_103 : decode cX9_copyFrom 103 = .ok (.aload_n 0, 1) := by decide +kernel
theorem dX9_copyFrom_104 : decode cX9_copyFrom 104 = .ok (.aload_n 1, 1) := by decide +kernel
theorem dX9_copyFrom_105 : decode cX9_copyFrom 105 = .ok (.getfield 68, 3) := by decide +kernel
theorem dX9_copyFrom_108 : decode cX9_copyFrom 108 = .ok (.putfield 68, 3) := by decide +kernel
theorem dX9_copyFrom_111 : decode cX9_copyFrom 111 = .ok (.aload_n 0, 1) := by decide +kernel
theorem dX9_copyFrom_112 : decode cX9_copyFrom 112 = .ok (.aload_n 1, 1) := by decide +kernel
theorem dX9_copyFrom_113 : decode cX9_copyFrom 113 = .ok (.getfield 35, 3) := by decide +kernel
theorem dX9_copyFrom_116 : decode cX9_copyFrom 116 = .ok (.putfield 35, 3) := by decide +kernel
theorem dX9_copyFrom_119 : decode cX9_copyFrom 119 = .ok (.aload_n 0, 1) := by decide +kernel
theorem dX9_copyFrom_120 : decode cX9_copyFrom 120 = .ok (.aload_n 1, 1) := by decide +kernel
theorem dX9_copyFrom_121 : decode cX9_copyFrom 121 = .ok (.getfield 71, 3) := by decide +kernel
theorem dX9_copyFrom_124 : decode cX9_copyFrom 124 = .ok (.putfield 71, 3) := by decide +kernel
theorem dX9_copyFrom_127 : decode cX9_copyFrom 127 = .ok (.aload_n 0, 1) := by decide +kernel
theorem dX9_copyFrom_128 : decode cX9_copyFrom 128 = .ok (.aload_n 1, 1) := by decide +kernel
theorem dX9_copyFrom_129 : decode cX9_copyFrom 129 = .ok (.getfield 74, 3) := by decide +kernel
theorem dX9_copyFrom_132 : decode cX9_copyFrom 132 = .ok (.putfield 74, 3) := by decide +kernel
theorem dX9_copyFrom_135 : decode cX9_copyFrom 135 = .ok (.aload_n 0, 1) := by decide +kernel
theorem dX9_copyFrom_136 : decode cX9_copyFrom 136 = .ok (.aload_n 1, 1) := by decide +kernel
theorem dX9_copyFrom_137 : decode cX9_copyFrom 137 = .ok (.getfield 39, 3) := by decide +kernel
theorem dX9_copyFrom_140 : decode cX9_copyFrom 140 = .ok (.putfield 39, 3) := by decide +kernel
theorem dX9_copyFrom_143 : decode cX9_copyFrom 143 = .ok (.return_, 1) := by decide +kernel
theorem dX9_draw_0 : decode cX9_draw 0 = .ok (.aload_n 0, 1) := by decide +kernel
theorem dX9_draw_1 : decode cX9_draw 1 = .ok (.ldc 77, 2) := by decide +kernel
theorem dX9_draw_3 : decode cX9_draw 3 = .ok (.aload_n 0, 1) := by decide +kernel
theorem dX9_draw_4 : decode cX9_draw 4 = .ok (.getfield 39, 3) := by decide +kernel
theorem dX9_draw_7 : decode cX9_draw 7 = .ok (.imul, 1) := by decide +kernel
theorem dX9_draw_8 : decode cX9_draw 8 = .ok (.sipush 12345, 3) := by decide +kernel
theorem dX9_draw_11 : decode cX9_draw 11 = .ok (.iadd, 1) := by decide +kernel
theorem dX9_draw_12 : decode cX9_draw 12 = .ok (.putfield 39, 3) := by decide +kernel
theorem dX9_draw_15 : decode cX9_draw 15 = .ok (.aload_n 0, 1) := by decide +kernel
theorem dX9_draw_16 : decode cX9_draw 16 = .ok (.getfield 39, 3) := by decide +kernel
theorem dX9_draw_19 : decode cX9_draw 19 = .ok (.bipush 16, 2) := by decide +kernel
theorem dX9_draw_21 : decode cX9_draw 21 = .ok (.iushr, 1) := by decide +kernel
theorem dX9_draw_22 : decode cX9_draw 22 = .ok (.sipush 32767, 3) := by decide +kernel
theorem dX9_draw_25 : decode cX9_draw 25 = .ok (.iand, 1) := by decide +kernel
theorem dX9_draw_26 : decode cX9_draw 26 = .ok (.ireturn, 1) := by decide +kernel
theorem dX9_weigh_0 : decode cX9_weigh 0 = .ok (.lload_n 1, 1) := by decide +kernel
theorem dX9_weigh_1 : decode cX9_weigh 1 = .ok (.invokestatic 78, 3) := by decide +kernel
theorem dX9_weigh_4 : decode cX9_weigh 4 = .ok (.istore_n 3, 1) := by decide +kernel
theorem dX9_weigh_5 : decode cX9_weigh 5 = .ok (.iconst 0, 1) := by decide +kernel
theorem dX9_weigh_6 : decode cX9_weigh 6 = .ok (.istore 4, 2) := by decide +kernel
theorem dX9_weigh_8 : decode cX9_weigh 8 = .ok (.iconst 0, 1) := by decide +kernel
theorem dX9_weigh_9 : decode cX9_weigh 9 = .ok (.istore 5, 2) := by decide +kernel
theorem dX9_weigh_11 : decode cX9_weigh 11 = .ok (.iload 5, 2) := by decide +kernel
theorem dX9_weigh_13 : decode cX9_weigh 13 = .ok (.iload_n 3, 1) := by decide +kernel
theorem dX9_weigh_14 : decode cX9_weigh 14 = .ok (.if_icmp .ge 26, 3) := by decide +kernel
theorem dX9_weigh_17 : decode cX9_weigh 17 = .ok (.iload 4, 2) := by decide +kernel
theorem dX9_weigh_19 : decode cX9_weigh 19 = .ok (.aload_n 0, 1) := by decide +kernel
theorem dX9_weigh_20 : decode cX9_weigh 20 = .ok (.getfield 31, 3) := by decide +kernel
theorem dX9_weigh_23 : decode cX9_weigh 23 = .ok (.lload_n 1, 1) := by decide +kernel
theorem dX9_weigh_24 : decode cX9_weigh 24 = .ok (.iload_n 3, 1) := by decide +kernel
theorem dX9_weigh_25 : decode cX9_weigh 25 = .ok (.iload 5, 2) := by decide +kernel
theorem dX9_weigh_27 : decode cX9_weigh 27 = .ok (.invokestatic 82, 3) := by decide +kernel
theorem dX9_weigh_30 : decode cX9_weigh 30 = .ok (.iaload, 1) := by decide +kernel
theorem dX9_weigh_31 : decode cX9_weigh 31 = .ok (.iadd, 1) := by decide +kernel
theorem dX9_weigh_32 : decode cX9_weigh 32 = .ok (.istore 4, 2) := by decide +kernel
theorem dX9_weigh_34 : decode cX9_weigh 34 = .ok (.iinc 5 1, 3) := by decide +kernel
theorem dX9_weigh_37 : decode cX9_weigh 37 = .ok (.goto (-26), 3) := by decide +kernel
theorem dX9_weigh_40 : decode cX9_weigh 40 = .ok (.iload 4, 2) := by decide +kernel
theorem dX9_weigh_42 : decode cX9_weigh 42 = .ok (.ireturn, 1) := by decide +kernel
theorem dX9_explaining_0 : decode cX9_explaining 0 = .ok (.iconst 0, 1) := by decide +kernel
theorem dX9_explaining_1 : decode cX9_explaining 1 = .ok (.istore_n 2, 1) := by decide +kernel
theorem dX9_explaining_2 : decode cX9_explaining 2 = .ok (.iconst 0, 1) := by decide +kernel
theorem dX9_explaining_3 : decode cX9_explaining 3 = .ok (.istore_n 3, 1) := by decide +kernel
theorem dX9_explaining_4 : decode cX9_explaining 4 = .ok (.iload_n 3, 1) := by decide +kernel
theorem dX9_explaining_5 : decode cX9_explaining 5 = .ok (.aload_n 0, 1) := by decide +kernel
theorem dX9_explaining_6 : decode cX9_explaining 6 = .ok (.getfield 12, 3) := by decide +kernel
theorem dX9_explaining_9 : decode cX9_explaining 9 = .ok (.getfield 86, 3) := by decide +kernel
theorem dX9_explaining_12 : decode cX9_explaining 12 = .ok (.if_icmp .ge 51, 3) := by decide +kernel
theorem dX9_explaining_15 : decode cX9_explaining 15 = .ok (.aload_n 0, 1) := by decide +kernel
theorem dX9_explaining_16 : decode cX9_explaining 16 = .ok (.getfield 24, 3) := by decide +kernel
theorem dX9_explaining_19 : decode cX9_explaining 19 = .ok (.iload_n 1, 1) := by decide +kernel
theorem dX9_explaining_20 : decode cX9_explaining 20 = .ok (.laload, 1) := by decide +kernel
theorem dX9_explaining_21 : decode cX9_explaining 21 = .ok (.aload_n 0, 1) := by decide +kernel
theorem dX9_explaining_22 : decode cX9_explaining 22 = .ok (.getfield 28, 3) := by decide +kernel
theorem dX9_explaining_25 : decode cX9_explaining 25 = .ok (.iload_n 1, 1) := by decide +kernel
theorem dX9_explaining_26 : decode cX9_explaining 26 = .ok (.laload, 1) := by decide +kernel
theorem dX9_explaining_27 : decode cX9_explaining 27 = .ok (.aload_n 0, 1) := by decide +kernel
theorem dX9_explaining_28 : decode cX9_explaining 28 = .ok (.getfield 12, 3) := by decide +kernel
theorem dX9_explaining_31 : decode cX9_explaining 31 = .ok (.getfield 89, 3) := by decide +kernel
theorem dX9_explaining_34 : decode cX9_explaining 34 = .ok (.iload_n 3, 1) := by decide +kernel
theorem dX9_explaining_35 : decode cX9_explaining 35 = .ok (.laload, 1) := by decide +kernel
theorem dX9_explaining_36 : decode cX9_explaining 36 = .ok (.aload_n 0, 1) := by decide +kernel
theorem dX9_explaining_37 : decode cX9_explaining 37 = .ok (.getfield 12, 3) := by decide +kernel
theorem dX9_explaining_40 : decode cX9_explaining 40 = .ok (.getfield 92, 3) := by decide +kernel
theorem dX9_explaining_43 : decode cX9_explaining 43 = .ok (.iload_n 3, 1) := by decide +kernel
theorem dX9_explaining_44 : decode cX9_explaining 44 = .ok (.laload, 1) := by decide +kernel
theorem dX9_explaining_45 : decode cX9_explaining 45 = .ok (.invokestatic 95, 3) := by decide +kernel
theorem dX9_explaining_48 : decode cX9_explaining 48 = .ok (.ifCond .eq 9, 3) := by decide +kernel
theorem dX9_explaining_51 : decode cX9_explaining 51 = .ok (.iload_n 2, 1) := by decide +kernel
theorem dX9_explaining_52 : decode cX9_explaining 52 = .ok (.iconst 1, 1) := by decide +kernel
theorem dX9_explaining_53 : decode cX9_explaining 53 = .ok (.iload_n 3, 1) := by decide +kernel
theorem dX9_explaining_54 : decode cX9_explaining 54 = .ok (.ishl, 1) := by decide +kernel
theorem dX9_explaining_55 : decode cX9_explaining 55 = .ok (.ior, 1) := by decide +kernel
theorem dX9_explaining_56 : decode cX9_explaining 56 = .ok (.istore_n 2, 1) := by decide +kernel
theorem dX9_explaining_57 : decode cX9_explaining 57 = .ok (.iinc 3 1, 3) := by decide +kernel
theorem dX9_explaining_60 : decode cX9_explaining 60 = .ok (.goto (-56), 3) := by decide +kernel
theorem dX9_explaining_63 : decode cX9_explaining 63 = .ok (.iload_n 2, 1) := by decide +kernel
theorem dX9_explaining_64 : decode cX9_explaining 64 = .ok (.ireturn, 1) := by decide +kernel
theorem dX9_stepsOfAll_0 : decode cX9_stepsOfAll 0 = .ok (.iconst 0, 1) := by decide +kernel
theorem dX9_stepsOfAll_1 : decode cX9_stepsOfAll 1 = .ok (.istore_n 1, 1) := by decide +kernel
theorem dX9_stepsOfAll_2 : decode cX9_stepsOfAll 2 = .ok (.iconst 0, 1) := by decide +kernel
theorem dX9_stepsOfAll_3 : decode cX9_stepsOfAll 3 = .ok (.istore_n 2, 1) := by decide +kernel
theorem dX9_stepsOfAll_4 : decode cX9_stepsOfAll 4 = .ok (.iload_n 2, 1) := by decide +kernel
theorem dX9_stepsOfAll_5 : decode cX9_stepsOfAll 5 = .ok (.aload_n 0, 1) := by decide +kernel
theorem dX9_stepsOfAll_6 : decode cX9_stepsOfAll 6 = .ok (.getfield 53, 3) := by decide +kernel
theorem dX9_stepsOfAll_9 : decode cX9_stepsOfAll 9 = .ok (.if_icmp .ge 21, 3) := by decide +kernel
theorem dX9_stepsOfAll_12 : decode cX9_stepsOfAll 12 = .ok (.iload_n 1, 1) := by decide +kernel
theorem dX9_stepsOfAll_13 : decode cX9_stepsOfAll 13 = .ok (.aload_n 0, 1) := by decide +kernel
theorem dX9_stepsOfAll_14 : decode cX9_stepsOfAll 14 = .ok (.getfield 20, 3) := by decide +kernel
theorem dX9_stepsOfAll_17 : decode cX9_stepsOfAll 17 = .ok (.iload_n 2, 1) := by decide +kernel
theorem dX9_stepsOfAll_18 : decode cX9_stepsOfAll 18 = .ok (.aaload, 1) := by decide +kernel
theorem dX9_stepsOfAll_19 : decode cX9_stepsOfAll 19 = .ok (.getfield 99, 3) := by decide +kernel
theorem dX9_stepsOfAll_22 : decode cX9_stepsOfAll 22 = .ok (.iadd, 1) := by decide +kernel
theorem dX9_stepsOfAll_23 : decode cX9_stepsOfAll 23 = .ok (.istore_n 1, 1) := by decide +kernel
theorem dX9_stepsOfAll_24 : decode cX9_stepsOfAll 24 = .ok (.iinc 2 1, 3) := by decide +kernel
theorem dX9_stepsOfAll_27 : decode cX9_stepsOfAll 27 = .ok (.goto (-23), 3) := by decide +kernel
theorem dX9_stepsOfAll_30 : decode cX9_stepsOfAll 30 = .ok (.iload_n 1, 1) := by decide +kernel
theorem dX9_stepsOfAll_31 : decode cX9_stepsOfAll 31 = .ok (.ireturn, 1) := by decide +kernel
theorem dX9_beastsOfAll_0 : decode cX9_beastsOfAll 0 = .ok (.iconst 0, 1) := by decide +kernel
theorem dX9_beastsOfAll_1 : decode cX9_beastsOfAll 1 = .ok (.istore_n 1, 1) := by decide +kernel
theorem dX9_beastsOfAll_2 : decode cX9_beastsOfAll 2 = .ok (.iconst 0, 1) := by decide +kernel
theorem dX9_beastsOfAll_3 : decode cX9_beastsOfAll 3 = .ok (.istore_n 2, 1) := by decide +kernel
theorem dX9_beastsOfAll_4 : decode cX9_beastsOfAll 4 = .ok (.iload_n 2, 1) := by decide +kernel
theorem dX9_beastsOfAll_5 : decode cX9_beastsOfAll 5 = .ok (.aload_n 0, 1) := by decide +kernel
theorem dX9_beastsOfAll_6 : decode cX9_beastsOfAll 6 = .ok (.getfield 53, 3) := by decide +kernel
theorem dX9_beastsOfAll_9 : decode cX9_beastsOfAll 9 = .ok (.if_icmp .ge 24, 3) := by decide +kernel
theorem dX9_beastsOfAll_12 : decode cX9_beastsOfAll 12 = .ok (.iload_n 1, 1) := by decide +kernel
theorem dX9_beastsOfAll_13 : decode cX9_beastsOfAll 13 = .ok (.aload_n 0, 1) := by decide +kernel
theorem dX9_beastsOfAll_14 : decode cX9_beastsOfAll 14 = .ok (.getfield 20, 3) := by decide +kernel
theorem dX9_beastsOfAll_17 : decode cX9_beastsOfAll 17 = .ok (.iload_n 2, 1) := by decide +kernel
theorem dX9_beastsOfAll_18 : decode cX9_beastsOfAll 18 = .ok (.aaload, 1) := by decide +kernel
theorem dX9_beastsOfAll_19 : decode cX9_beastsOfAll 19 = .ok (.getfield 102, 3) := by decide +kernel
theorem dX9_beastsOfAll_22 : decode cX9_beastsOfAll 22 = .ok (.invokestatic 78, 3) := by decide +kernel
theorem dX9_beastsOfAll_25 : decode cX9_beastsOfAll 25 = .ok (.iadd, 1) := by decide +kernel
theorem dX9_beastsOfAll_26 : decode cX9_beastsOfAll 26 = .ok (.istore_n 1, 1) := by decide +kernel
theorem dX9_beastsOfAll_27 : decode cX9_beastsOfAll 27 = .ok (.iinc 2 1, 3) := by decide +kernel
theorem dX9_beastsOfAll_30 : decode cX9_beastsOfAll 30 = .ok (.goto (-26), 3) := by decide +kernel
theorem dX9_beastsOfAll_33 : decode cX9_beastsOfAll 33 = .ok (.iload_n 1, 1) := by decide +kernel
theorem dX9_beastsOfAll_34 : decode cX9_beastsOfAll 34 = .ok (.ireturn, 1) := by decide +kernel
theorem dX9_read_0 : decode cX9_read 0 = .ok (.aload_n 1, 1) := by decide +kernel
theorem dX9_read_1 : decode cX9_read 1 = .ok (.invokevirtual 106, 3) := by decide +kernel
theorem dX9_read_4 : decode cX9_read 4 = .ok (.aload_n 1, 1) := by decide +kernel
theorem dX9_read_5 : decode cX9_read 5 = .ok (.getfield 111, 3) := by decide +kernel
theorem dX9_read_8 : decode cX9_read 8 = .ok (.iconst (-1), 1) := by decide +kernel
theorem dX9_read_9 : decode cX9_read 9 = .ok (.if_icmp .ne 5, 3) := by decide +kernel
theorem dX9_read_12 : decode cX9_read 12 = .ok (.iconst 1, 1) := by decide +kernel
theorem dX9_read_13 : decode cX9_read 13 = .ok (.ireturn, 1) := by decide +kernel
theorem dX9_read_14 : decode cX9_read 14 = .ok (.iconst 0, 1) := by decide +kernel
theorem dX9_read_15 : decode cX9_read 15 = .ok (.istore_n 2, 1) := by decide +kernel
theorem dX9_read_16 : decode cX9_read 16 = .ok (.iload_n 2, 1) := by decide +kernel
theorem dX9_read_17 : decode cX9_read 17 = .ok (.bipush 14, 2) := by decide +kernel
theorem dX9_read_19 : decode cX9_read 19 = .ok (.if_icmp .ge 40, 3) := by decide +kernel
theorem dX9_read_22 : decode cX9_read 22 = .ok (.aload_n 0, 1) := by decide +kernel
theorem dX9_read_23 : decode cX9_read 23 = .ok (.aload_n 1, 1) := by decide +kernel
theorem dX9_read_24 : decode cX9_read 24 = .ok (.invokevirtual 114, 3) := by decide +kernel
theorem dX9_read_27 : decode cX9_read 27 = .ok (.ifCond .ne 5, 3) := by decide +kernel
theorem dX9_read_30 : decode cX9_read 30 = .ok (.iconst 0, 1) := by decide +kernel
theorem dX9_read_31 : decode cX9_read 31 = .ok (.ireturn, 1) := by decide +kernel
theorem dX9_read_32 : decode cX9_read 32 = .ok (.aload_n 1, 1) := by decide +kernel
theorem dX9_read_33 : decode cX9_read 33 = .ok (.getfield 111, 3) := by decide +kernel
theorem dX9_read_36 : decode cX9_read 36 = .ok (.iconst (-1), 1) := by decide +kernel
theorem dX9_read_37 : decode cX9_read 37 = .ok (.if_icmp .ne 5, 3) := by decide +kernel
theorem dX9_read_40 : decode cX9_read 40 = .ok (.iconst 1, 1) := by decide +kernel
theorem dX9_read_41 : decode cX9_read 41 = .ok (.ireturn, 1) := by decide +kernel
theorem dX9_read_42 : decode cX9_read 42 = .ok (.aload_n 1, 1) := by decide +kernel
theorem dX9_read_43 : decode cX9_read 43 = .ok (.bipush 59, 2) := by decide +kernel
theorem dX9_read_45 : decode cX9_read 45 = .ok (.invokevirtual 118, 3) := by decide +kernel
theorem dX9_read_48 : decode cX9_read 48 = .ok (.ifCond .ne 5, 3) := by decide +kernel
theorem dX9_read_51 : decode cX9_read 51 = .ok (.iconst 0, 1) := by decide +kernel
theorem dX9_read_52 : decode cX9_read 52 = .ok (.ireturn, 1) := by decide +kernel
theorem dX9_read_53 : decode cX9_read 53 = .ok (.iinc 2 1, 3) := by decide +kernel
theorem dX9_read_56 : decode cX9_read 56 = .ok (.goto (-40), 3) := by decide +kernel
theorem dX9_read_59 : decode cX9_read 59 = .ok (.aload_n 1, 1) := by decide +kernel
theorem dX9_read_60 : decode cX9_read 60 = .ok (.invokevirtual 122, 3) := by decide +kernel
theorem dX9_read_63 : decode cX9_read 63 = .ok (.ireturn, 1) := by decide +kernel
theorem dX9_readLine_0 : decode cX9_readLine 0 = .ok (.aload_n 1, 1) := by decide +kernel
theorem dX9_readLine_1 : decode cX9_readLine 1 = .ok (.ldc 126, 2) := by decide +kernel
theorem dX9_readLine_3 : decode cX9_readLine 3 = .ok (.invokevirtual 128, 3) := by decide +kernel
theorem dX9_readLine_6 : decode cX9_readLine 6 = .ok (.ifCond .eq 28, 3) := by decide +kernel
theorem dX9_readLine_9 : decode cX9_readLine 9 = .ok (.aload_n 0, 1) := by decide +kernel
theorem dX9_readLine_10 : decode cX9_readLine 10 = .ok (.getfield 12, 3) := by decide +kernel
theorem dX9_readLine_13 : decode cX9_readLine 13 = .ok (.getfield 86, 3) := by decide +kernel
theorem dX9_readLine_16 : decode cX9_readLine 16 = .ok (.bipush 12, 2) := by decide +kernel
theorem dX9_readLine_18 : decode cX9_readLine 18 = .ok (.if_icmp .ge 11, 3) := by decide +kernel
theorem dX9_readLine_21 : decode cX9_readLine 21 = .ok (.aload_n 0, 1) := by decide +kernel
theorem dX9_readLine_22 : decode cX9_readLine 22 = .ok (.aload_n 1, 1) := by decide +kernel
theorem dX9_readLine_23 : decode cX9_readLine 23 = .ok (.invokevirtual 132, 3) := by decide +kernel
theorem dX9_readLine_26 : decode cX9_readLine 26 = .ok (.goto 7, 3) := by decide +kernel
theorem dX9_readLine_29 : decode cX9_readLine 29 = .ok (.aload_n 1, 1) := by decide +kernel
theorem dX9_readLine_30 : decode cX9_readLine 30 = .ok (.invokevirtual 122, 3) := by decide +kernel
theorem dX9_readLine_33 : decode cX9_readLine 33 = .ok (.ireturn, 1) := by decide +kernel
theorem dX9_readLine_34 : decode cX9_readLine 34 = .ok (.aload_n 1, 1) := by decide +kernel
theorem dX9_readLine_35 : decode cX9_readLine 35 = .ok (.ldc 135, 2) := by decide +kernel
theorem dX9_readLine_37 : decode cX9_readLine 37 = .ok (.invokevirtual 128, 3) := by decide +kernel
theorem dX9_readLine_40 : decode cX9_readLine 40 = .ok (.ifCond .eq 25, 3) := by decide +kernel
theorem dX9_readLine_43 : decode cX9_readLine 43 = .ok (.aload_n 0, 1) := by decide +kernel
theorem dX9_readLine_44 : decode cX9_readLine 44 = .ok (.getfield 53, 3) := by decide +kernel
theorem dX9_readLine_47 : decode cX9_readLine 47 = .ok (.bipush 6, 2) := by decide +kernel
theorem dX9_readLine_49 : decode cX9_readLine 49 = .ok (.if_icmp .ge 11, 3) := by decide +kernel
theorem dX9_readLine_52 : decode cX9_readLine 52 = .ok (.aload_n 0, 1) := by decide +kernel
theorem dX9_readLine_53 : decode cX9_readLine 53 = .ok (.aload_n 1, 1) := by decide +kernel
theorem dX9_readLine_54 : decode cX9_readLine 54 = .ok (.invokevirtual 137, 3) := by decide +kernel
theorem dX9_readLine_57 : decode cX9_readLine 57 = .ok (.goto 7, 3) := by decide +kernel
theorem dX9_readLine_60 : decode cX9_readLine 60 = .ok (.aload_n 1, 1) := by decide +kernel
theorem dX9_readLine_61 : decode cX9_readLine 61 = .ok (.invokevirtual 122, 3) := by decide +kernel
theorem dX9_readLine_64 : decode cX9_readLine 64 = .ok (.ireturn, 1) := by decide +kernel
theorem dX9_readLine_65 : decode cX9_readLine 65 = .ok (.aload_n 1, 1) := by decide +kernel
theorem dX9_readLine_66 : decode cX9_readLine 66 = .ok (.ldc 140, 2) := by decide +kernel
theorem dX9_readLine_68 : decode cX9_readLine 68 = .ok (.invokevirtual 128, 3) := by decide +kernel
theorem dX9_readLine_71 : decode cX9_readLine 71 = .ok (.ifCond .eq 25, 3) := by decide +kernel
theorem dX9_readLine_74 : decode cX9_readLine 74 = .ok (.aload_n 0, 1) := by decide +kernel
theorem dX9_readLine_75 : decode cX9_readLine 75 = .ok (.getfield 65, 3) := by decide +kernel
theorem dX9_readLine_78 : decode cX9_readLine 78 = .ok (.bipush 10, 2) := by decide +kernel
theorem dX9_readLine_80 : decode cX9_readLine 80 = .ok (.if_icmp .ge 11, 3) := by decide +kernel
theorem dX9_readLine_83 : decode cX9_readLine 83 = .ok (.aload_n 0, 1) := by decide +kernel
theorem dX9_readLine_84 : decode cX9_readLine 84 = .ok (.aload_n 1, 1) := by decide +kernel
theorem dX9_readLine_85 : decode cX9_readLine 85 = .ok (.invokevirtual 142, 3) := by decide +kernel
theorem dX9_readLine_88 : decode cX9_readLine 88 = .ok (.goto 7, 3) := by decide +kernel
theorem dX9_readLine_91 : decode cX9_readLine 91 = .ok (.aload_n 1, 1) := by decide +kernel
theorem dX9_readLine_92 : decode cX9_readLine 92 = .ok (.invokevirtual 122, 3) := by decide +kernel
theorem dX9_readLine_95 : decode cX9_readLine 95 = .ok (.ireturn, 1) := by decide +kernel
theorem dX9_readLine_96 : decode cX9_readLine 96 = .ok (.aload_n 1, 1) := by decide +kernel
theorem dX9_readLine_97 : decode cX9_readLine 97 = .ok (.ldc 145, 2) := by decide +kernel
theorem dX9_readLine_99 : decode cX9_readLine 99 = .ok (.invokevirtual 128, 3) := by decide +kernel
theorem dX9_readLine_102 : decode cX9_readLine 102 = .ok (.ifCond .eq 9, 3) := by decide +kernel
theorem dX9_readLine_105 : decode cX9_readLine 105 = .ok (.aload_n 0, 1) := by decide +kernel
theorem dX9_readLine_106 : decode cX9_readLine 106 = .ok (.aload_n 1, 1) := by decide +kernel
theorem dX9_readLine_107 : decode cX9_readLine 107 = .ok (.invokevirtual 147, 3) := by decide +kernel
theorem dX9_readLine_110 : decode cX9_readLine 110 = .ok (.ireturn, 1) := by decide +kernel
theorem dX9_readLine_111 : decode cX9_readLine 111 = .ok (.aload_n 1, 1) := by decide +kernel
theorem dX9_readLine_112 : decode cX9_readLine 112 = .ok (.ldc 150, 2) := by decide +kernel
theorem dX9_readLine_114 : decode cX9_readLine 114 = .ok (.invokevirtual 128, 3) := by decide +kernel
theorem dX9_readLine_117 : decode cX9_readLine 117 = .ok (.ifCond .eq 9, 3) := by decide +kernel
theorem dX9_readLine_120 : decode cX9_readLine 120 = .ok (.aload_n 0, 1) := by decide +kernel
theorem dX9_readLine_121 : decode cX9_readLine 121 = .ok (.aload_n 1, 1) := by decide +kernel
theorem dX9_readLine_122 : decode cX9_readLine 122 = .ok (.invokevirtual 151, 3) := by decide +kernel
theorem dX9_readLine_125 : decode cX9_readLine 125 = .ok (.ireturn, 1) := by decide +kernel
theorem dX9_readLine_126 : decode cX9_readLine 126 = .ok (.aload_n 1, 1) := by decide +kernel
theorem dX9_readLine_127 : decode cX9_readLine 127 = .ok (.ldc 154, 2) := by decide +kernel
theorem dX9_readLine_129 : decode cX9_readLine 129 = .ok (.invokevirtual 128, 3) := by decide +kernel
theorem dX9_readLine_132 : decode cX9_readLine 132 = .ok (.ifCond .eq 9, 3) := by decide +kernel
theorem dX9_readLine_135 : decode cX9_readLine 135 = .ok (.aload_n 0, 1) := by decide +kernel
theorem dX9_readLine_136 : decode cX9_readLine 136 = .ok (.aload_n 1, 1) := by decide +kernel
theorem dX9_readLine_137 : decode cX9_readLine 137 = .ok (.invokevirtual 156, 3) := by decide +kernel
theorem dX9_readLine_140 : decode cX9_readLine 140 = .ok (.ireturn, 1) := by decide +kernel
theorem dX9_readLine_141 : decode cX9_readLine 141 = .ok (.aload_n 1, 1) := by decide +kernel
theorem dX9_readLine_142 : decode cX9_readLine 142 = .ok (.ldc 159, 2) := by decide +kernel
theorem dX9_readLine_144 : decode cX9_readLine 144 = .ok (.invokevirtual 128, 3) := by decide +kernel
theorem dX9_readLine_147 : decode cX9_readLine 147 = .ok (.ifCond .eq 11, 3) := by decide +kernel
theorem dX9_readLine_150 : decode cX9_readLine 150 = .ok (.aload_n 0, 1) := by decide +kernel
theorem dX9_readLine_151 : decode cX9_readLine 151 = .ok (.aload_n 1, 1) := by decide +kernel
theorem dX9_readLine_152 : decode cX9_readLine 152 = .ok (.invokevirtual 161, 3) := by decide +kernel
theorem dX9_readLine_155 : decode cX9_readLine 155 = .ok (.goto 7, 3) := by decide +kernel
theorem dX9_readLine_158 : decode cX9_readLine 158 = .ok (.aload_n 1, 1) := by decide +kernel
theorem dX9_readLine_159 : decode cX9_readLine 159 = .ok (.invokevirtual 122, 3) := by decide +kernel
theorem dX9_readLine_162 : decode cX9_readLine 162 = .ok (.ireturn, 1) := by decide +kernel
theorem dX9_readRule_0 : decode cX9_readRule 0 = .ok (.aload_n 1, 1) := by decide +kernel
theorem dX9_readRule_1 : decode cX9_readRule 1 = .ok (.invokevirtual 164, 3) := by decide +kernel
theorem dX9_readRule_4 : decode cX9_readRule 4 = .ok (.aload_n 1, 1) := by decide +kernel
theorem dX9_readRule_5 : decode cX9_readRule 5 = .ok (.iconst 1, 1) := by decide +kernel
theorem dX9_readRule_6 : decode cX9_readRule 6 = .ok (.iconst 4, 1) := by decide +kernel
theorem dX9_readRule_7 : decode cX9_readRule 7 = .ok (.invokevirtual 167, 3) := by decide +kernel
theorem dX9_readRule_10 : decode cX9_readRule 10 = .ok (.lstore_n 2, 1) := by decide +kernel
theorem dX9_readRule_11 : decode cX9_readRule 11 = .ok (.lload_n 2, 1) := by decide +kernel
theorem dX9_readRule_12 : decode cX9_readRule 12 = .ok (.ldc2_w 171, 3) := by decide +kernel
theorem dX9_readRule_15 : decode cX9_readRule 15 = .ok (.lcmp, 1) := by decide +kernel
theorem dX9_readRule_16 : decode cX9_readRule 16 = .ok (.ifCond .eq 12, 3) := by decide +kernel
theorem dX9_readRule_19 : decode cX9_readRule 19 = .ok (.aload_n 1, 1) := by decide +kernel
theorem dX9_readRule_20 : decode cX9_readRule 20 = .ok (.ldc 173, 2) := by decide +kernel
theorem dX9_readRule_22 : decode cX9_readRule 22 = .ok (.invokevirtual 175, 3) := by decide +kernel
theorem dX9_readRule_25 : decode cX9_readRule 25 = .ok (.ifCond .ne 5, 3) := by decide +kernel
theorem dX9_readRule_28 : decode cX9_readRule 28 = .ok (.iconst 0, 1) := by decide +kernel
theorem dX9_readRule_29 : decode cX9_readRule 29 = .ok (.ireturn, 1) := by decide +kernel
theorem dX9_readRule_30 : decode cX9_readRule 30 = .ok (.aload_n 1, 1) := by decide +kernel
theorem dX9_readRule_31 : decode cX9_readRule 31 = .ok (.iconst 0, 1) := by decide +kernel
theorem dX9_readRule_32 : decode cX9_readRule 32 = .ok (.iconst 5, 1) := by decide +kernel
theorem dX9_readRule_33 : decode cX9_readRule 33 = .ok (.invokevirtual 167, 3) := by decide +kernel
theorem dX9_readRule_36 : decode cX9_readRule 36 = .ok (.lstore 4, 2) := by decide +kernel
theorem dX9_readRule_38 : decode cX9_readRule 38 = .ok (.lload 4, 2) := by decide +kernel
theorem dX9_readRule_40 : decode cX9_readRule 40 = .ok (.ldc2_w 171, 3) := by decide +kernel
theorem dX9_readRule_43 : decode cX9_readRule 43 = .ok (.lcmp, 1) := by decide +kernel
theorem dX9_readRule_44 : decode cX9_readRule 44 = .ok (.ifCond .ne 5, 3) := by decide +kernel
theorem dX9_readRule_47 : decode cX9_readRule 47 = .ok (.iconst 0, 1) := by decide +kernel
theorem dX9_readRule_48 : decode cX9_readRule 48 = .ok (.ireturn, 1) := by decide +kernel
theorem dX9_readRule_49 : decode cX9_readRule 49 = .ok (.aload_n 0, 1) := by decide +kernel
theorem dX9_readRule_50 : decode cX9_readRule 50 = .ok (.getfield 12, 3) := by decide +kernel
theorem dX9_readRule_53 : decode cX9_readRule 53 = .ok (.lload_n 2, 1) := by decide +kernel
theorem dX9_readRule_54 : decode cX9_readRule 54 = .ok (.lload 4, 2) := by decide +kernel
theorem dX9_readRule_56 : decode cX9_readRule 56 = .ok (.invokevirtual 178, 3) := by decide +kernel
theorem dX9_readRule_59 : decode cX9_readRule 59 = .ok (.iconst 1, 1) := by decide +kernel
theorem dX9_readRule_60 : decode cX9_readRule 60 = .ok (.ireturn, 1) := by decide +kernel
theorem dX9_readField_0 : decode cX9_readField 0 = .ok (.aload_n 1, 1) := by decide +kernel
theorem dX9_readField_1 : decode cX9_readField 1 = .ok (.invokevirtual 164, 3) := by decide +kernel
theorem dX9_readField_4 : decode cX9_readField 4 = .ok (.aload_n 1, 1) := by decide +kernel
theorem dX9_readField_5 : decode cX9_readField 5 = .ok (.iconst 0, 1) := by decide +kernel
theorem dX9_readField_6 : decode cX9_readField 6 = .ok (.bipush 20, 2) := by decide +kernel
theorem dX9_readField_8 : decode cX9_readField 8 = .ok (.invokevirtual 167, 3) := by decide +kernel
theorem dX9_readField_11 : decode cX9_readField 11 = .ok (.lstore_n 2, 1) := by decide +kernel
theorem dX9_readField_12 : decode cX9_readField 12 = .ok (.lload_n 2, 1) := by decide +kernel
theorem dX9_readField_13 : decode cX9_readField 13 = .ok (.ldc2_w 171, 3) := by decide +kernel
theorem dX9_readField_16 : decode cX9_readField 16 = .ok (.lcmp, 1) := by decide +kernel
theorem dX9_readField_17 : decode cX9_readField 17 = .ok (.ifCond .ne 5, 3) := by decide +kernel
theorem dX9_readField_20 : decode cX9_readField 20 = .ok (.iconst 0, 1) := by decide +kernel
theorem dX9_readField_21 : decode cX9_readField 21 = .ok (.ireturn, 1) := by decide +kernel
theorem dX9_readField_22 : decode cX9_readField 22 = .ok (.aload_n 0, 1) := by decide +kernel
theorem dX9_readField_23 : decode cX9_readField 23 = .ok (.getfield 20, 3) := by decide +kernel
theorem dX9_readField_26 : decode cX9_readField 26 = .ok (.aload_n 0, 1) := by decide +kernel
theorem dX9_readField_27 : decode cX9_readField 27 = .ok (.getfield 53, 3) := by decide +kernel
theorem dX9_readField_30 : decode cX9_readField 30 = .ok (.aaload, 1) := by decide +kernel
theorem dX9_readField_31 : decode cX9_readField 31 = .ok (.lload_n 2, 1) := by decide +kernel
theorem dX9_readField_32 : decode cX9_readField 32 = .ok (.invokevirtual 182, 3) := by decide +kernel
theorem dX9_readField_35 : decode cX9_readField 35 = .ok (.aload_n 0, 1) := by decide +kernel
theorem dX9_readField_36 : decode cX9_readField 36 = .ok (.dup, 1) := by decide +kernel
theorem dX9_readField_37 : decode cX9_readField 37 = .ok (.getfield 53, 3) := by decide +kernel
theorem dX9_readField_40 : decode cX9_readField 40 = .ok (.iconst 1, 1) := by decide +kernel
theorem dX9_readField_41 : decode cX9_readField 41 = .ok (.iadd, 1) := by decide +kernel
theorem dX9_readField_42 : decode cX9_readField 42 = .ok (.putfield 53, 3) := by decide +kernel
theorem dX9_readField_45 : decode cX9_readField 45 = .ok (.iconst 1, 1) := by decide +kernel
theorem dX9_readField_46 : decode cX9_readField 46 = .ok (.ireturn, 1) := by decide +kernel
theorem dX9_readSeen_0 : decode cX9_readSeen 0 = .ok (.aload_n 1, 1) := by decide +kernel
theorem dX9_readSeen_1 : decode cX9_readSeen 1 = .ok (.invokevirtual 164, 3) := by decide +kernel
theorem dX9_readSeen_4 : decode cX9_readSeen 4 = .ok (.aload_n 1, 1) := by decide +kernel
theorem dX9_readSeen_5 : decode cX9_readSeen 5 = .ok (.iconst 0, 1) := by decide +kernel
theorem dX9_readSeen_6 : decode cX9_readSeen 6 = .ok (.bipush 20, 2) := by decide +kernel
theorem dX9_readSeen_8 : decode cX9_readSeen 8 = .ok (.invokevirtual 167, 3) := by decide +kernel
theorem dX9_readSeen_11 : decode cX9_readSeen 11 = .ok (.lstore_n 2, 1) := by decide +kernel
theorem dX9_readSeen_12 : decode cX9_readSeen 12 = .ok (.lload_n 2, 1) := by decide +kernel
theorem dX9_readSeen_13 : decode cX9_readSeen 13 = .ok (.ldc2_w 171, 3) := by decide +kernel
theorem dX9_readSeen_16 : decode cX9_readSeen 16 = .ok (.lcmp, 1) := by decide +kernel
theorem dX9_readSeen_17 : decode cX9_readSeen 17 = .ok (.ifCond .eq 12, 3) := by decide +kernel
theorem dX9_readSeen_20 : decode cX9_readSeen 20 = .ok (.aload_n 1, 1) := by decide +kernel
theorem dX9_readSeen_21 : decode cX9_readSeen 21 = .ok (.ldc 173, 2) := by decide +kernel
theorem dX9_readSeen_23 : decode cX9_readSeen 23 = .ok (.invokevirtual 175, 3) := by decide +kernel
theorem dX9_readSeen_26 : decode cX9_readSeen 26 = .ok (.ifCond .ne 5, 3) := by decide +kernel
theorem dX9_readSeen_29 : decode cX9_readSeen 29 = .ok (.iconst 0, 1) := by decide +kernel
theorem dX9_readSeen_30 : decode cX9_readSeen 30 = .ok (.ireturn, 1) := by decide +kernel
theorem dX9_readSeen_31 : decode cX9_readSeen 31 = .ok (.aload_n 1, 1) := by decide +kernel
theorem dX9_readSeen_32 : decode cX9_readSeen 32 = .ok (.iconst 0, 1) := by decide +kernel
theorem dX9_readSeen_33 : decode cX9_readSeen 33 = .ok (.bipush 20, 2) := by decide +kernel
theorem dX9_readSeen_35 : decode cX9_readSeen 35 = .ok (.invokevirtual 167, 3) := by decide +kernel
theorem dX9_readSeen_38 : decode cX9_readSeen 38 = .ok (.lstore 4, 2) := by decide +kernel
theorem dX9_readSeen_40 : decode cX9_readSeen 40 = .ok (.lload 4, 2) := by decide +kernel
theorem dX9_readSeen_42 : decode cX9_readSeen 42 = .ok (.ldc2_w 171, 3) := by decide +kernel
theorem dX9_readSeen_45 : decode cX9_readSeen 45 = .ok (.lcmp, 1) := by decide +kernel
theorem dX9_readSeen_46 : decode cX9_readSeen 46 = .ok (.ifCond .ne 5, 3) := by decide +kernel
theorem dX9_readSeen_49 : decode cX9_readSeen 49 = .ok (.iconst 0, 1) := by decide +kernel
theorem dX9_readSeen_50 : decode cX9_readSeen 50 = .ok (.ireturn, 1) := by decide +kernel
theorem dX9_readSeen_51 : decode cX9_readSeen 51 = .ok (.aload_n 0, 1) := by decide +kernel
theorem dX9_readSeen_52 : decode cX9_readSeen 52 = .ok (.getfield 24, 3) := by decide +kernel
theorem dX9_readSeen_55 : decode cX9_readSeen 55 = .ok (.aload_n 0, 1) := by decide +kernel
theorem dX9_readSeen_56 : decode cX9_readSeen 56 = .ok (.getfield 65, 3) := by decide +kernel
theorem dX9_readSeen_59 : decode cX9_readSeen 59 = .ok (.lload_n 2, 1) := by decide +kernel
theorem dX9_readSeen_60 : decode cX9_readSeen 60 = .ok (.lastore, 1) := by decide +kernel
theorem dX9_readSeen_61 : decode cX9_readSeen 61 = .ok (.aload_n 0, 1) := by decide +kernel
theorem dX9_readSeen_62 : decode cX9_readSeen 62 = .ok (.getfield 28, 3) := by decide +kernel
theorem dX9_readSeen_65 : decode cX9_readSeen 65 = .ok (.aload_n 0, 1) := by decide +kernel
theorem dX9_readSeen_66 : decode cX9_readSeen 66 = .ok (.getfield 65, 3) := by decide +kernel
theorem dX9_readSeen_69 : decode cX9_readSeen 69 = .ok (.lload 4, 2) := by decide +kernel
theorem dX9_readSeen_71 : decode cX9_readSeen 71 = .ok (.lastore, 1) := by decide +kernel
theorem dX9_readSeen_72 : decode cX9_readSeen 72 = .ok (.aload_n 0, 1) := by decide +kernel
theorem dX9_readSeen_73 : decode cX9_readSeen 73 = .ok (.dup, 1) := by decide +kernel
theorem dX9_readSeen_74 : decode cX9_readSeen 74 = .ok (.getfield 65, 3) := by decide +kernel
theorem dX9_readSeen_77 : decode cX9_readSeen 77 = .ok (.iconst 1, 1) := by decide +kernel
theorem dX9_readSeen_78 : decode cX9_readSeen 78 = .ok (.iadd, 1) := by decide +kernel
theorem dX9_readSeen_79 : decode cX9_readSeen 79 = .ok (.putfield 65, 3) := by decide +kernel
theorem dX9_readSeen_82 : decode cX9_readSeen 82 = .ok (.iconst 1, 1) := by decide +kernel
theorem dX9_readSeen_83 : decode cX9_readSeen 83 = .ok (.ireturn, 1) := by decide +kernel
theorem dX9_readFirst_0 : decode cX9_readFirst 0 = .ok (.aload_n 1, 1) := by decide +kernel
theorem dX9_readFirst_1 : decode cX9_readFirst 1 = .ok (.invokevirtual 164, 3) := by decide +kernel
theorem dX9_readFirst_4 : decode cX9_readFirst 4 = .ok (.aload_n 1, 1) := by decide +kernel
theorem dX9_readFirst_5 : decode cX9_readFirst 5 = .ok (.ldc 186, 2) := by decide +kernel
theorem dX9_readFirst_7 : decode cX9_readFirst 7 = .ok (.invokevirtual 128, 3) := by decide +kernel
theorem dX9_readFirst_10 : decode cX9_readFirst 10 = .ok (.ifCond .eq 7, 3) := by decide +kernel
theorem dX9_readFirst_13 : decode cX9_readFirst 13 = .ok (.iconst 0, 1) := by decide +kernel
theorem dX9_readFirst_14 : decode cX9_readFirst 14 = .ok (.goto 43, 3) := by decide +kernel
theorem dX9_readFirst_17 : decode cX9_readFirst 17 = .ok (.aload_n 1, 1) := by decide +kernel
theorem dX9_readFirst_18 : decode cX9_readFirst 18 = .ok (.ldc 187, 2) := by decide +kernel
theorem dX9_readFirst_20 : decode cX9_readFirst 20 = .ok (.invokevirtual 128, 3) := by decide +kernel
theorem dX9_readFirst_23 : decode cX9_readFirst 23 = .ok (.ifCond .eq 7, 3) := by decide +kernel
theorem dX9_readFirst_26 : decode cX9_readFirst 26 = .ok (.iconst 1, 1) := by decide +kernel
theorem dX9_readFirst_27 : decode cX9_readFirst 27 = .ok (.goto 30, 3) := by decide +kernel
theorem dX9_readFirst_30 : decode cX9_readFirst 30 = .ok (.aload_n 1, 1) := by decide +kernel
theorem dX9_readFirst_31 : decode cX9_readFirst 31 = .ok (.ldc 126, 2) := by decide +kernel
theorem dX9_readFirst_33 : decode cX9_readFirst 33 = .ok (.invokevirtual 128, 3) := by decide +kernel
theorem dX9_readFirst_36 : decode cX9_readFirst 36 = .ok (.ifCond .eq 7, 3) := by decide +kernel
theorem dX9_readFirst_39 : decode cX9_readFirst 39 = .ok (.iconst 2, 1) := by decide +kernel
theorem dX9_readFirst_40 : decode cX9_readFirst 40 = .ok (.goto 17, 3) := by decide +kernel
theorem dX9_readFirst_43 : decode cX9_readFirst 43 = .ok (.aload_n 1, 1) := by decide +kernel
theorem dX9_readFirst_44 : decode cX9_readFirst 44 = .ok (.ldc 188, 2) := by decide +kernel
theorem dX9_readFirst_46 : decode cX9_readFirst 46 = .ok (.invokevirtual 128, 3) := by decide +kernel
theorem dX9_readFirst_49 : decode cX9_readFirst 49 = .ok (.ifCond .eq 7, 3) := by decide +kernel
theorem dX9_readFirst_52 : decode cX9_readFirst 52 = .ok (.iconst 3, 1) := by decide +kernel
theorem dX9_readFirst_53 : decode cX9_readFirst 53 = .ok (.goto 4, 3) := by decide +kernel
theorem dX9_readFirst_56 : decode cX9_readFirst 56 = .ok (.iconst (-1), 1) := by decide +kernel
theorem dX9_readFirst_57 : decode cX9_readFirst 57 = .ok (.istore_n 2, 1) := by decide +kernel
theorem dX9_readFirst_58 : decode cX9_readFirst 58 = .ok (.iload_n 2, 1) := by decide +kernel
theorem dX9_readFirst_59 : decode cX9_readFirst 59 = .ok (.iconst (-1), 1) := by decide +kernel
theorem dX9_readFirst_60 : decode cX9_readFirst 60 = .ok (.if_icmp .ne 8, 3) := by decide +kernel
theorem dX9_readFirst_63 : decode cX9_readFirst 63 = .ok (.aload_n 1, 1) := by decide +kernel
theorem dX9_readFirst_64 : decode cX9_readFirst 64 = .ok (.invokevirtual 122, 3) := by decide +kernel
theorem dX9_readFirst_67 : decode cX9_readFirst 67 = .ok (.ireturn, 1) := by decide +kernel
theorem dX9_readFirst_68 : decode cX9_readFirst 68 = .ok (.aload_n 0, 1) := by decide +kernel
theorem dX9_readFirst_69 : decode cX9_readFirst 69 = .ok (.iload_n 2, 1) := by decide +kernel
theorem dX9_readFirst_70 : decode cX9_readFirst 70 = .ok (.putfield 35, 3) := by decide +kernel
theorem dX9_readFirst_73 : decode cX9_readFirst 73 = .ok (.aload_n 1, 1) := by decide +kernel
theorem dX9_readFirst_74 : decode cX9_readFirst 74 = .ok (.invokevirtual 164, 3) := by decide +kernel
theorem dX9_readFirst_77 : decode cX9_readFirst 77 = .ok (.iconst 1, 1) := by decide +kernel
theorem dX9_readFirst_78 : decode cX9_readFirst 78 = .ok (.ireturn, 1) := by decide +kernel
theorem dX9_readFog_0 : decode cX9_readFog 0 = .ok (.aload_n 1, 1) := by decide +kernel
theorem dX9_readFog_1 : decode cX9_readFog 1 = .ok (.invokevirtual 164, 3) := by decide +kernel
theorem dX9_readFog_4 : decode cX9_readFog 4 = .ok (.aload_n 1, 1) := by decide +kernel
theorem dX9_readFog_5 : decode cX9_readFog 5 = .ok (.bipush 100, 2) := by decide +kernel
theorem dX9_readFog_7 : decode cX9_readFog 7 = .ok (.invokevirtual 190, 3) := by decide +kernel
theorem dX9_readFog_10 : decode cX9_readFog 10 = .ok (.istore_n 2, 1) := by decide +kernel
theorem dX9_readFog_11 : decode cX9_readFog 11 = .ok (.iload_n 2, 1) := by decide +kernel
theorem dX9_readFog_12 : decode cX9_readFog 12 = .ok (.iconst (-1), 1) := by decide +kernel
theorem dX9_readFog_13 : decode cX9_readFog 13 = .ok (.if_icmp .ne 5, 3) := by decide +kernel
theorem dX9_readFog_16 : decode cX9_readFog 16 = .ok (.iconst 0, 1) := by decide +kernel
theorem dX9_readFog_17 : decode cX9_readFog 17 = .ok (.ireturn, 1) := by decide +kernel
theorem dX9_readFog_18 : decode cX9_readFog 18 = .ok (.aload_n 0, 1) := by decide +kernel
theorem dX9_readFog_19 : decode cX9_readFog 19 = .ok (.iload_n 2, 1) := by decide +kernel
theorem dX9_readFog_20 : decode cX9_readFog 20 = .ok (.putfield 71, 3) := by decide +kernel
theorem dX9_readFog_23 : decode cX9_readFog 23 = .ok (.iconst 1, 1) := by decide +kernel
theorem dX9_readFog_24 : decode cX9_readFog 24 = .ok (.ireturn, 1) := by decide +kernel
theorem dX9_readWeight_0 : decode cX9_readWeight 0 = .ok (.aload_n 1, 1) := by decide +kernel
theorem dX9_readWeight_1 : decode cX9_readWeight 1 = .ok (.invokevirtual 164, 3) := by decide +kernel
theorem dX9_readWeight_4 : decode cX9_readWeight 4 = .ok (.aload_n 1, 1) := by decide +kernel
theorem dX9_readWeight_5 : decode cX9_readWeight 5 = .ok (.iconst 1, 1) := by decide +kernel
theorem dX9_readWeight_6 : decode cX9_readWeight 6 = .ok (.iconst 1, 1) := by decide +kernel
theorem dX9_readWeight_7 : decode cX9_readWeight 7 = .ok (.invokevirtual 167, 3) := by decide +kernel
theorem dX9_readWeight_10 : decode cX9_readWeight 10 = .ok (.lstore_n 2, 1) := by decide +kernel
theorem dX9_readWeight_11 : decode cX9_readWeight 11 = .ok (.lload_n 2, 1) := by decide +kernel
theorem dX9_readWeight_12 : decode cX9_readWeight 12 = .ok (.ldc2_w 171, 3) := by decide +kernel
theorem dX9_readWeight_15 : decode cX9_readWeight 15 = .ok (.lcmp, 1) := by decide +kernel
theorem dX9_readWeight_16 : decode cX9_readWeight 16 = .ok (.ifCond .ne 5, 3) := by decide +kernel
theorem dX9_readWeight_19 : decode cX9_readWeight 19 = .ok (.iconst 0, 1) := by decide +kernel
theorem dX9_readWeight_20 : decode cX9_readWeight 20 = .ok (.ireturn, 1) := by decide +kernel
theorem dX9_readWeight_21 : decode cX9_readWeight 21 = .ok (.aload_n 1, 1) := by decide +kernel
theorem dX9_readWeight_22 : decode cX9_readWeight 22 = .ok (.bipush 99, 2) := by decide +kernel
theorem dX9_readWeight_24 : decode cX9_readWeight 24 = .ok (.invokevirtual 190, 3) := by decide +kernel
theorem dX9_readWeight_27 : decode cX9_readWeight 27 = .ok (.istore 4, 2) := by decide +kernel
theorem dX9_readWeight_29 : decode cX9_readWeight 29 = .ok (.iload 4, 2) := by decide +kernel
theorem dX9_readWeight_31 : decode cX9_readWeight 31 = .ok (.iconst (-1), 1) := by decide +kernel
theorem dX9_readWeight_32 : decode cX9_readWeight 32 = .ok (.if_icmp .ne 5, 3) := by decide +kernel
theorem dX9_readWeight_35 : decode cX9_readWeight 35 = .ok (.iconst 0, 1) := by decide +kernel
theorem dX9_readWeight_36 : decode cX9_readWeight 36 = .ok (.ireturn, 1) := by decide +kernel
theorem dX9_readWeight_37 : decode cX9_readWeight 37 = .ok (.aload_n 0, 1) := by decide +kernel
theorem dX9_readWeight_38 : decode cX9_readWeight 38 = .ok (.getfield 31, 3) := by decide +kernel
theorem dX9_readWeight_41 : decode cX9_readWeight 41 = .ok (.lload_n 2, 1) := by decide +kernel
theorem dX9_readWeight_42 : decode cX9_readWeight 42 = .ok (.iconst 1, 1) := by decide +kernel
theorem dX9_readWeight_43 : decode cX9_readWeight 43 = .ok (.iconst 0, 1) := by decide +kernel
theorem dX9_readWeight_44 : decode cX9_readWeight 44 = .ok (.invokestatic 82, 3) := by decide +kernel
theorem dX9_readWeight_47 : decode cX9_readWeight 47 = .ok (.iload 4, 2) := by decide +kernel
theorem dX9_readWeight_49 : decode cX9_readWeight 49 = .ok (.iastore, 1) := by decide +kernel
theorem dX9_readWeight_50 : decode cX9_readWeight 50 = .ok (.iconst 1, 1) := by decide +kernel
theorem dX9_readWeight_51 : decode cX9_readWeight 51 = .ok (.ireturn, 1) := by decide +kernel
theorem dX9_readDrop_0 : decode cX9_readDrop 0 = .ok (.aload_n 1, 1) := by decide +kernel
theorem dX9_readDrop_1 : decode cX9_readDrop 1 = .ok (.invokevirtual 164, 3) := by decide +kernel
theorem dX9_readDrop_4 : decode cX9_readDrop 4 = .ok (.aload_n 1, 1) := by decide +kernel
theorem dX9_readDrop_5 : decode cX9_readDrop 5 = .ok (.aload_n 0, 1) := by decide +kernel
theorem dX9_readDrop_6 : decode cX9_readDrop 6 = .ok (.getfield 12, 3) := by decide +kernel
theorem dX9_readDrop_9 : decode cX9_readDrop 9 = .ok (.getfield 86, 3) := by decide +kernel
theorem dX9_readDrop_12 : decode cX9_readDrop 12 = .ok (.iconst 1, 1) := by decide +kernel
theorem dX9_readDrop_13 : decode cX9_readDrop 13 = .ok (.isub, 1) := by decide +kernel
theorem dX9_readDrop_14 : decode cX9_readDrop 14 = .ok (.invokevirtual 190, 3) := by decide +kernel
theorem dX9_readDrop_17 : decode cX9_readDrop 17 = .ok (.istore_n 2, 1) := by decide +kernel
theorem dX9_readDrop_18 : decode cX9_readDrop 18 = .ok (.iload_n 2, 1) := by decide +kernel
theorem dX9_readDrop_19 : decode cX9_readDrop 19 = .ok (.iconst (-1), 1) := by decide +kernel
theorem dX9_readDrop_20 : decode cX9_readDrop 20 = .ok (.if_icmp .ne 5, 3) := by decide +kernel
theorem dX9_readDrop_23 : decode cX9_readDrop 23 = .ok (.iconst 0, 1) := by decide +kernel
theorem dX9_readDrop_24 : decode cX9_readDrop 24 = .ok (.ireturn, 1) := by decide +kernel
theorem dX9_readDrop_25 : decode cX9_readDrop 25 = .ok (.aload_n 0, 1) := by decide +kernel
theorem dX9_readDrop_26 : decode cX9_readDrop 26 = .ok (.getfield 12, 3) := by decide +kernel
theorem dX9_readDrop_29 : decode cX9_readDrop 29 = .ok (.iload_n 2, 1) := by decide +kernel
theorem dX9_readDrop_30 : decode cX9_readDrop 30 = .ok (.invokevirtual 194, 3) := by decide +kernel
theorem dX9_readDrop_33 : decode cX9_readDrop 33 = .ok (.iconst 1, 1) := by decide +kernel
theorem dX9_readDrop_34 : decode cX9_readDrop 34 = .ok (.ireturn, 1) := by decide +kernel
theorem dX10_init_0 : decode cX10_init 0 = .ok (.aload_n 0, 1) := by decide +kernel
theorem dX10_init_1 : decode cX10_init 1 = .ok (.invokespecial 3, 3) := by decide +kernel
theorem dX10_init_4 : decode cX10_init 4 = .ok (.aload_n 0, 1) := by decide +kernel
theorem dX10_init_5 : decode cX10_init 5 = .ok (.sipush 240, 3) := by decide +kernel
theorem dX10_init_8 : decode cX10_init 8 = .ok (.newarray .int, 2) := by decide +kernel
theorem dX10_init_10 : decode cX10_init 10 = .ok (.putfield 9, 3) := by decide +kernel
theorem dX10_init_13 : decode cX10_init 13 = .ok (.aload_n 0, 1) := by decide +kernel
theorem dX10_init_14 : decode cX10_init 14 = .ok (.bipush 20, 2) := by decide +kernel
theorem dX10_init_16 : decode cX10_init 16 = .ok (.newarray .int, 2) := by decide +kernel
theorem dX10_init_18 : decode cX10_init 18 = .ok (.putfield 15, 3) := by decide +kernel
theorem dX10_init_21 : decode cX10_init 21 = .ok (.aload_n 0, 1) := by decide +kernel
theorem dX10_init_22 : decode cX10_init 22 = .ok (.bipush 20, 2) := by decide +kernel
theorem dX10_init_24 : decode cX10_init 24 = .ok (.newarray .int, 2) := by decide +kernel
theorem dX10_init_26 : decode cX10_init 26 = .ok (.putfield 18, 3) := by decide +kernel
theorem dX10_init_29 : decode cX10_init 29 = .ok (.aload_n 0, 1) := by decide +kernel
theorem dX10_init_30 : decode cX10_init 30 = .ok (.sipush 252, 3) := by decide +kernel
theorem dX10_init_33 : decode cX10_init 33 = .ok (.newarray .int, 2) := by decide +kernel
theorem dX10_init_35 : decode cX10_init 35 = .ok (.putfield 21, 3) := by decide +kernel
theorem dX10_init_38 : decode cX10_init 38 = .ok (.aload_n 0, 1) := by decide +kernel
theorem dX10_init_39 : decode cX10_init 39 = .ok (.sipush 252, 3) := by decide +kernel
theorem dX10_init_42 : decode cX10_init 42 = .ok (.newarray .int, 2) := by decide +kernel
theorem dX10_init_44 : decode cX10_init 44 = .ok (.putfield 24, 3) := by decide +kernel
theorem dX10_init_47 : decode cX10_init 47 = .ok (.aload_n 0, 1) := by decide +kernel
theorem dX10_init_48 : decode cX10_init 48 = .ok (.bipush 20, 2) := by decide +kernel
theorem dX10_init_50 : decode cX10_init 50 = .ok (.newarray .int, 2) := by decide +kernel
theorem dX10_init_52 : decode cX10_init 52 = .ok (.putfield 27, 3) := by decide +kernel
theorem dX10_init_55 : decode cX10_init 55 = .ok (.aload_n 0, 1) := by decide +kernel
theorem dX10_init_56 : decode cX10_init 56 = .ok (.bipush 20, 2) := by decide +kernel
theorem dX10_init_58 : decode cX10_init 58 = .ok (.newarray .int, 2) := by decide +kernel
theorem dX10_init_60 : decode cX10_init 60 = .ok (.putfield 30, 3) := by decide +kernel
theorem dX10_init_63 : decode cX10_init 63 = .ok (.aload_n 0, 1) := by decide +kernel
theorem dX10_init_64 : decode cX10_init 64 = .ok (.aload_n 1, 1) := by decide +kernel
theorem dX10_init_65 : decode cX10_init 65 = .ok (.putfield 33, 3) := by decide +kernel
theorem dX10_init_68 : decode cX10_init 68 = .ok (.aload_n 0, 1) := by decide +kernel
theorem dX10_init_69 : decode cX10_init 69 = .ok (.aload_n 2, 1) := by decide +kernel
theorem dX10_init_70 : decode cX10_init 70 = .ok (.putfield 37, 3) := by decide +kernel
theorem dX10_init_73 : decode cX10_init 73 = .ok (.return_, 1) := by decide +kernel
theorem dX10_begin_0 : decode cX10_begin 0 = .ok (.aload_n 0, 1) := by decide +kernel
theorem dX10_begin_1 : decode cX10_begin 1 = .ok (.aload_n 1, 1) := by decide +kernel
theorem dX10_begin_2 : decode cX10_begin 2 = .ok (.getfield 41, 3) := by decide +kernel
theorem dX10_begin_5 : decode cX10_begin 5 = .ok (.putfield 47, 3) := by decide +kernel
theorem dX10_begin_8 : decode cX10_begin 8 = .ok (.aload_n 0, 1) := by decide +kernel
theorem dX10_begin_9 : decode cX10_begin 9 = .ok (.aload_n 1, 1) := by decide +kernel
theorem dX10_begin_10 : decode cX10_begin 10 = .ok (.getfield 48, 3) := by decide +kernel
theorem dX10_begin_13 : decode cX10_begin 13 = .ok (.putfield 51, 3) := by decide +kernel
theorem dX10_begin_16 : decode cX10_begin 16 = .ok (.aload_n 0, 1) := by decide +kernel
theorem dX10_begin_17 : decode cX10_begin 17 = .ok (.iconst 0, 1) := by decide +kernel
theorem dX10_begin_18 : decode cX10_begin 18 = .ok (.putfield 52, 3) := by decide +kernel
theorem dX10_begin_21 : decode cX10_begin 21 = .ok (.aload_n 0, 1) := by decide +kernel
theorem dX10_begin_22 : decode cX10_begin 22 = .ok (.aload_n 0, 1) := by decide +kernel
theorem dX10_begin_23 : decode cX10_begin 23 = .ok (.getfield 37, 3) := by decide +kernel
theorem dX10_begin_26 : decode cX10_begin 26 = .ok (.invokevirtual 55, 3) := by decide +kernel
theorem dX10_begin_29 : decode cX10_begin 29 = .ok (.ifCond .ne 7, 3) := by decide +kernel
theorem dX10_begin_32 : decode cX10_begin 32 = .ok (.iconst 1, 1) := by decide +kernel
theorem dX10_begin_33 : decode cX10_begin 33 = .ok (.goto 4, 3) := by decide +kernel
theorem dX10_begin_36 : decode cX10_begin 36 = .ok (.iconst 0, 1) := by decide +kernel
theorem dX10_begin_37 : decode cX10_begin 37 = .ok (.putfield 61, 3) := by decide +kernel
theorem dX10_begin_40 : decode cX10_begin 40 = .ok (.aload_n 0, 1) := by decide +kernel
theorem dX10_begin_41 : decode cX10_begin 41 = .ok (.getfield 61, 3) := by decide +kernel
theorem dX10_begin_44 : decode cX10_begin 44 = .ok (.ifCond .eq 11, 3) := by decide +kernel
theorem dX10_begin_47 : decode cX10_begin 47 = .ok (.aload_n 0, 1) := by decide +kernel
theorem dX10_begin_48 : decode cX10_begin 48 = .ok (.getfield 21, 3) := by decide +kernel
theorem dX10_begin_51 : decode cX10_begin 51 = .ok (.iconst 0, 1) := by decide +kernel
theorem dX10_begin_52 : decode cX10_begin 52 = .ok (.invokestatic 65, 3) := by decide +kernel
theorem dX10_begin_55 : decode cX10_begin 55 = .ok (.return_, 1) := by decide +kernel
theorem dX10_beginLawless_0 : decode cX10_beginLawless 0 = .ok (.aload_n 0, 1) := by decide +kernel
theorem dX10_beginLawless_1 : decode cX10_beginLawless 1 = .ok (.iconst 0, 1) := by decide +kernel
theorem dX10_beginLawless_2 : decode cX10_beginLawless 2 = .ok (.putfield 47, 3) := by decide +kernel
theorem dX10_beginLawless_5 : decode cX10_beginLawless 5 = .ok (.aload_n 0, 1) := by decide +kernel
theorem dX10_beginLawless_6 : decode cX10_beginLawless 6 = .ok (.iconst 0, 1) := by decide +kernel
theorem dX10_beginLawless_7 : decode cX10_beginLawless 7 = .ok (.putfield 52, 3) := by decide +kernel
theorem dX10_beginLawless_10 : decode cX10_beginLawless 10 = .ok (.aload_n 0, 1) := by decide +kernel
theorem dX10_beginLawless_11 : decode cX10_beginLawless 11 = .ok (.iconst 0, 1) := by decide +kernel
theorem dX10_beginLawless_12 : decode cX10_beginLawless 12 = .ok (.putfield 61, 3) := by decide +kernel
theorem dX10_beginLawless_15 : decode cX10_beginLawless 15 = .ok (.return_, 1) := by decide +kernel
theorem dX10_mayUse_0 : decode cX10_mayUse 0 = .ok (.aload_n 0, 1) := by decide +kernel
theorem dX10_mayUse_1 : decode cX10_mayUse 1 = .ok (.getfield 33, 3) := by decide +kernel
theorem dX10_mayUse_4 : decode cX10_mayUse 4 = .ok (.getfield 71, 3) := by decide +kernel
theorem dX10_mayUse_7 : decode cX10_mayUse 7 = .ok (.iload_n 1, 1) := by decide +kernel
theorem dX10_mayUse_8 : decode cX10_mayUse 8 = .ok (.iaload, 1) := by decide +kernel
theorem dX10_mayUse_9 : decode cX10_mayUse 9 = .ok (.istore 6, 2) := by decide +kernel
theorem dX10_mayUse_11 : decode cX10_mayUse 11 = .ok (.lload_n 3, 1) := by decide +kernel
theorem dX10_mayUse_12 : decode cX10_mayUse 12 = .ok (.iload 5, 2) := by decide +kernel
theorem dX10_mayUse_14 : decode cX10_mayUse 14 = .ok (.iload_n 2, 1) := by decide +kernel
theorem dX10_mayUse_15 : decode cX10_mayUse 15 = .ok (.aload_n 0, 1) := by decide +kernel
theorem dX10_mayUse_16 : decode cX10_mayUse 16 = .ok (.getfield 33, 3) := by decide +kernel
theorem dX10_mayUse_19 : decode cX10_mayUse 19 = .ok (.getfield 76, 3) := by decide +kernel
theorem dX10_mayUse_22 : decode cX10_mayUse 22 = .ok (.iload_n 1, 1) := by decide +kernel
theorem dX10_mayUse_23 : decode cX10_mayUse 23 = .ok (.laload, 1) := by decide +kernel
theorem dX10_mayUse_24 : decode cX10_mayUse 24 = .ok (.iload 6, 2) := by decide +kernel
theorem dX10_mayUse_26 : decode cX10_mayUse 26 = .ok (.invokestatic 80, 3) := by decide +kernel
theorem dX10_mayUse_29 : decode cX10_mayUse 29 = .ok (.ifCond .eq 34, 3) := by decide +kernel
theorem dX10_mayUse_32 : decode cX10_mayUse 32 = .ok (.aload_n 0, 1) := by decide +kernel
theorem dX10_mayUse_33 : decode cX10_mayUse 33 = .ok (.getfield 52, 3) := by decide +kernel
theorem dX10_mayUse_36 : decode cX10_mayUse 36 = .ok (.iload_n 1, 1) := by decide +kernel
theorem dX10_mayUse_37 : decode cX10_mayUse 37 = .ok (.ishr, 1) := by decide +kernel
theorem dX10_mayUse_38 : decode cX10_mayUse 38 = .ok (.iconst 1, 1) := by decide +kernel
theorem dX10_mayUse_39 : decode cX10_mayUse 39 = .ok (.iand, 1) := by decide +kernel
theorem dX10_mayUse_40 : decode cX10_mayUse 40 = .ok (.ifCond .ne 23, 3) := by decide +kernel
theorem dX10_mayUse_43 : decode cX10_mayUse 43 = .ok (.iload 5, 2) := by decide +kernel
theorem dX10_mayUse_45 : decode cX10_mayUse 45 = .ok (.iload 6, 2) := by decide +kernel
theorem dX10_mayUse_47 : decode cX10_mayUse 47 = .ok (.isub, 1) := by decide +kernel
theorem dX10_mayUse_48 : decode cX10_mayUse 48 = .ok (.aload_n 0, 1) := by decide +kernel
theorem dX10_mayUse_49 : decode cX10_mayUse 49 = .ok (.getfield 33, 3) := by decide +kernel
theorem dX10_mayUse_52 : decode cX10_mayUse 52 = .ok (.getfield 84, 3) := by decide +kernel
theorem dX10_mayUse_55 : decode cX10_mayUse 55 = .ok (.iload_n 1, 1) := by decide +kernel
theorem dX10_mayUse_56 : decode cX10_mayUse 56 = .ok (.iaload, 1) := by decide +kernel
theorem dX10_mayUse_57 : decode cX10_mayUse 57 = .ok (.iadd, 1) := by decide +kernel
theorem dX10_mayUse_58 : decode cX10_mayUse 58 = .ok (.bipush 20, 2) := by decide +kernel
theorem dX10_mayUse_60 : decode cX10_mayUse 60 = .ok (.if_icmp .le 5, 3) := by decide +kernel
theorem dX10_mayUse_63 : decode cX10_mayUse 63 = .ok (.iconst 0, 1) := by decide +kernel
theorem dX10_mayUse_64 : decode cX10_mayUse 64 = .ok (.ireturn, 1) := by decide +kernel
theorem dX10_mayUse_65 : decode cX10_mayUse 65 = .ok (.aload_n 0, 1) := by decide +kernel
theorem dX10_mayUse_66 : decode cX10_mayUse 66 = .ok (.getfield 61, 3) := by decide +kernel
theorem dX10_mayUse_69 : decode cX10_mayUse 69 = .ok (.ifCond .ne 5, 3) := by decide +kernel
theorem dX10_mayUse_72 : decode cX10_mayUse 72 = .ok (.iconst 1, 1) := by decide +kernel
theorem dX10_mayUse_73 : decode cX10_mayUse 73 = .ok (.ireturn, 1) := by decide +kernel
theorem dX10_mayUse_74 : decode cX10_mayUse 74 = .ok (.iload_n 1, 1) := by decide +kernel
theorem dX10_mayUse_75 : decode cX10_mayUse 75 = .ok (.bipush 21, 2) := by decide +kernel
theorem dX10_mayUse_77 : decode cX10_mayUse 77 = .ok (.imul, 1) := by decide +kernel
theorem dX10_mayUse_78 : decode cX10_mayUse 78 = .ok (.iload 5, 2) := by decide +kernel
theorem dX10_mayUse_80 : decode cX10_mayUse 80 = .ok (.iadd, 1) := by decide +kernel
theorem dX10_mayUse_81 : decode cX10_mayUse 81 = .ok (.istore 7, 2) := by decide +kernel
theorem dX10_mayUse_83 : decode cX10_mayUse 83 = .ok (.iconst 1, 1) := by decide +kernel
theorem dX10_mayUse_84 : decode cX10_mayUse 84 = .ok (.iload_n 2, 1) := by decide +kernel
theorem dX10_mayUse_85 : decode cX10_mayUse 85 = .ok (.ishl, 1) := by decide +kernel
theorem dX10_mayUse_86 : decode cX10_mayUse 86 = .ok (.istore 8, 2) := by decide +kernel
theorem dX10_mayUse_88 : decode cX10_mayUse 88 = .ok (.aload_n 0, 1) := by decide +kernel
theorem dX10_mayUse_89 : decode cX10_mayUse 89 = .ok (.getfield 21, 3) := by decide +kernel
theorem dX10_mayUse_92 : decode cX10_mayUse 92 = .ok (.iload 7, 2) := by decide +kernel
theorem dX10_mayUse_94 : decode cX10_mayUse 94 = .ok (.iaload, 1) := by decide +kernel
theorem dX10_mayUse_95 : decode cX10_mayUse 95 = .ok (.iload 8, 2) := by decide +kernel
theorem dX10_mayUse_97 : decode cX10_mayUse 97 = .ok (.iand, 1) := by decide +kernel
theorem dX10_mayUse_98 : decode cX10_mayUse 98 = .ok (.ifCond .ne 76, 3) := by decide +kernel
theorem dX10_mayUse_101 : decode cX10_mayUse 101 = .ok (.aload_n 0, 1) := by decide +kernel
theorem dX10_mayUse_102 : decode cX10_mayUse 102 = .ok (.getfield 21, 3) := by decide +kernel
theorem dX10_mayUse_105 : decode cX10_mayUse 105 = .ok (.iload 7, 2) := by decide +kernel
theorem dX10_mayUse_107 : decode cX10_mayUse 107 = .ok (.dup2, 1) := by decide +kernel
theorem dX10_mayUse_108 : decode cX10_mayUse 108 = .ok (.iaload, 1) := by decide +kernel
theorem dX10_mayUse_109 : decode cX10_mayUse 109 = .ok (.iload 8, 2) := by decide +kernel
theorem dX10_mayUse_111 : decode cX10_mayUse 111 = .ok (.ior, 1) := by decide +kernel
theorem dX10_mayUse_112 : decode cX10_mayUse 112 = .ok (.iastore, 1) := by decide +kernel
theorem dX10_mayUse_113 : decode cX10_mayUse 113 = .ok (.aload_n 0, 1) := by decide +kernel
theorem dX10_mayUse_114 : decode cX10_mayUse 114 = .ok (.getfield 37, 3) := by decide +kernel
theorem dX10_mayUse_117 : decode cX10_mayUse 117 = .ok (.iload_n 1, 1) := by decide +kernel
theorem dX10_mayUse_118 : decode cX10_mayUse 118 = .ok (.iload_n 2, 1) := by decide +kernel
theorem dX10_mayUse_119 : decode cX10_mayUse 119 = .ok (.iload 5, 2) := by decide +kernel
theorem dX10_mayUse_121 : decode cX10_mayUse 121 = .ok (.iload 5, 2) := by decide +kernel
theorem dX10_mayUse_123 : decode cX10_mayUse 123 = .ok (.iload_n 2, 1) := by decide +kernel
theorem dX10_mayUse_124 : decode cX10_mayUse 124 = .ok (.isub, 1) := by decide +kernel
theorem dX10_mayUse_125 : decode cX10_mayUse 125 = .ok (.iload 6, 2) := by decide +kernel
theorem dX10_mayUse_127 : decode cX10_mayUse 127 = .ok (.isub, 1) := by decide +kernel
theorem dX10_mayUse_128 : decode cX10_mayUse 128 = .ok (.aload_n 0, 1) := by decide +kernel
theorem dX10_mayUse_129 : decode cX10_mayUse 129 = .ok (.getfield 51, 3) := by decide +kernel
theorem dX10_mayUse_132 : decode cX10_mayUse 132 = .ok (.invokevirtual 87, 3) := by decide +kernel
theorem dX10_mayUse_135 : decode cX10_mayUse 135 = .ok (.istore 9, 2) := by decide +kernel
theorem dX10_mayUse_137 : decode cX10_mayUse 137 = .ok (.aload_n 0, 1) := by decide +kernel
theorem dX10_mayUse_138 : decode cX10_mayUse 138 = .ok (.getfield 24, 3) := by decide +kernel
theorem dX10_mayUse_141 : decode cX10_mayUse 141 = .ok (.iload 7, 2) := by decide +kernel
theorem dX10_mayUse_143 : decode cX10_mayUse 143 = .ok (.iload 9, 2) := by decide +kernel
theorem dX10_mayUse_145 : decode cX10_mayUse 145 = .ok (.ifCond .eq 16, 3) := by decide +kernel
theorem dX10_mayUse_148 : decode cX10_mayUse 148 = .ok (.aload_n 0, 1) := by decide +kernel
theorem dX10_mayUse_149 : decode cX10_mayUse 149 = .ok (.getfield 24, 3) := by decide +kernel
theorem dX10_mayUse_152 : decode cX10_mayUse 152 = .ok (.iload 7, 2) := by decide +kernel
theorem dX10_mayUse_154 : decode cX10_mayUse 154 = .ok (.iaload, 1) := by decide +kernel
theorem dX10_mayUse_155 : decode cX10_mayUse 155 = .ok (.iload 8, 2) := by decide +kernel
theorem dX10_mayUse_157 : decode cX10_mayUse 157 = .ok (.ior, 1) := by decide +kernel
theorem dX10_mayUse_158 : decode cX10_mayUse 158 = .ok (.goto 15, 3) := by decide +kernel
theorem dX10_mayUse_161 : decode cX10_mayUse 161 = .ok (.aload_n 0, 1) := by decide +kernel
theorem dX10_mayUse_162 : decode cX10_mayUse 162 = .ok (.getfield 24, 3) := by decide +kernel
theorem dX10_mayUse_165 : decode cX10_mayUse 165 = .ok (.iload 7, 2) := by decide +kernel
theorem dX10_mayUse_167 : decode cX10_mayUse 167 = .ok (.iaload, 1) := by decide +kernel
theorem dX10_mayUse_168 : decode cX10_mayUse 168 = .ok (.iload 8, 2) := by decide +kernel
theorem dX10_mayUse_170 : decode cX10_mayUse 170 = .ok (.iconst (-1), 1) := by decide +kernel
theorem dX10_mayUse_171 : decode cX10_mayUse 171 = .ok (.ixor, 1) := by decide +kernel
theorem dX10_mayUse_172 : decode cX10_mayUse 172 = .ok (.iand, 1) := by decide +kernel
theorem dX10_mayUse_173 : decode cX10_mayUse 173 = .ok (.iastore, 1) := by decide +kernel
theorem dX10_mayUse_174 : decode cX10_mayUse 174 = .ok (.aload_n 0, 1) := by decide +kernel
theorem dX10_mayUse_175 : decode cX10_mayUse 175 = .ok (.getfield 24, 3) := by decide +kernel
theorem dX10_mayUse_178 : decode cX10_mayUse 178 = .ok (.iload 7, 2) := by decide +kernel
theorem dX10_mayUse_180 : decode cX10_mayUse 180 = .ok (.iaload, 1) := by decide +kernel
theorem dX10_mayUse_181 : decode cX10_mayUse 181 = .ok (.iload 8, 2) := by decide +kernel
theorem dX10_mayUse_183 : decode cX10_mayUse 183 = .ok (.iand, 1) := by decide +kernel
theorem dX10_mayUse_184 : decode cX10_mayUse 184 = .ok (.ifCond .ne 7, 3) := by decide +kernel
theorem dX10_mayUse_187 : decode cX10_mayUse 187 = .ok (.iconst 1, 1) := by decide +kernel
theorem dX10_mayUse_188 : decode cX10_mayUse 188 = .ok (.goto 4, 3) := by decide +kernel
theorem dX10_mayUse_191 : decode cX10_mayUse 191 = .ok (.iconst 0, 1) := by decide +kernel
theorem dX10_mayUse_192 : decode cX10_mayUse 192 = .ok (.ireturn, 1) := by decide +kernel
theorem dX10_next_0 : decode cX10_next 0 = .ok (.lload_n 1, 1) := by decide +kernel
theorem dX10_next_1 : decode cX10_next 1 = .ok (.invokestatic 91, 3) := by decide +kernel
theorem dX10_next_4 : decode cX10_next 4 = .ok (.istore_n 3, 1) := by decide +kernel
theorem dX10_next_5 : decode cX10_next 5 = .ok (.aload_n 0, 1) := by decide +kernel
theorem dX10_next_6 : decode cX10_next 6 = .ok (.lload_n 1, 1) := by decide +kernel
theorem dX10_next_7 : decode cX10_next 7 = .ok (.iload_n 3, 1) := by decide +kernel
theorem dX10_next_8 : decode cX10_next 8 = .ok (.invokevirtual 95, 3) := by decide +kernel
theorem dX10_next_11 : decode cX10_next 11 = .ok (.istore 4, 2) := by decide +kernel
theorem dX10_next_13 : decode cX10_next 13 = .ok (.iload 4, 2) := by decide +kernel
theorem dX10_next_15 : decode cX10_next 15 = .ok (.ifCond .ne 9, 3) := by decide +kernel
theorem dX10_next_18 : decode cX10_next 18 = .ok (.ldc2_w 99, 3) := by decide +kernel
theorem dX10_next_21 : decode cX10_next 21 = .ok (.goto 11, 3) := by decide +kernel
theorem dX10_next_24 : decode cX10_next 24 = .ok (.aload_n 0, 1) := by decide +kernel
theorem dX10_next_25 : decode cX10_next 25 = .ok (.lload_n 1, 1) := by decide +kernel
theorem dX10_next_26 : decode cX10_next 26 = .ok (.iload_n 3, 1) := by decide +kernel
theorem dX10_next_27 : decode cX10_next 27 = .ok (.iload 4, 2) := by decide +kernel
theorem dX10_next_29 : decode cX10_next 29 = .ok (.invokevirtual 101, 3) := by decide +kernel
theorem dX10_next_32 : decode cX10_next 32 = .ok (.lreturn, 1) := by decide +kernel
theorem dX10_isSettled_0 : decode cX10_isSettled 0 = .ok (.aload_n 0, 1) := by decide +kernel
theorem dX10_isSettled_1 : decode cX10_isSettled 1 = .ok (.lload_n 1, 1) := by decide +kernel
theorem dX10_isSettled_2 : decode cX10_isSettled 2 = .ok (.lload_n 1, 1) := by decide +kernel
theorem dX10_isSettled_3 : decode cX10_isSettled 3 = .ok (.invokestatic 91, 3) := by decide +kernel
theorem dX10_isSettled_6 : decode cX10_isSettled 6 = .ok (.invokevirtual 95, 3) := by decide +kernel
theorem dX10_isSettled_9 : decode cX10_isSettled 9 = .ok (.ifCond .ne 7, 3) := by decide +kernel
theorem dX10_isSettled_12 : decode cX10_isSettled 12 = .ok (.iconst 1, 1) := by decide +kernel
theorem dX10_isSettled_13 : decode cX10_isSettled 13 = .ok (.goto 4, 3) := by decide +kernel
theorem dX10_isSettled_16 : decode cX10_isSettled 16 = .ok (.iconst 0, 1) := by decide +kernel
theorem dX10_isSettled_17 : decode cX10_isSettled 17 = .ok (.ireturn, 1) := by decide +kernel
theorem dX10_settle_0 : decode cX10_settle 0 = .ok (.lload_n 1, 1) := by decide +kernel
theorem dX10_settle_1 : decode cX10_settle 1 = .ok (.lstore 4, 2) := by decide +kernel
theorem dX10_settle_3 : decode cX10_settle 3 = .ok (.lload_n 1, 1) := by decide +kernel
theorem dX10_settle_4 : decode cX10_settle 4 = .ok (.lstore 6, 2) := by decide +kernel
theorem dX10_settle_6 : decode cX10_settle 6 = .ok (.iconst 1, 1) := by decide +kernel
theorem dX10_settle_7 : decode cX10_settle 7 = .ok (.istore 8, 2) := by decide +kernel
theorem dX10_settle_9 : decode cX10_settle 9 = .ok (.iconst 0, 1) := by decide +kernel
theorem dX10_settle_10 : decode cX10_settle 10 = .ok (.istore 9, 2) := by decide +kernel
theorem dX10_settle_12 : decode cX10_settle 12 = .ok (.iload 9, 2) := by decide +kernel
theorem dX10_settle_14 : decode cX10_settle 14 = .ok (.iload_n 3, 1) := by decide +kernel
theorem dX10_settle_15 : decode cX10_settle 15 = .ok (.if_icmp .gt 87, 3) := by decide +kernel
theorem dX10_settle_18 : decode cX10_settle 18 = .ok (.lload 4, 2) := by decide +kernel
theorem dX10_settle_20 : decode cX10_settle 20 = .ok (.invokestatic 91, 3) := by decide +kernel
theorem dX10_settle_23 : decode cX10_settle 23 = .ok (.istore 10, 2) := by decide +kernel
theorem dX10_settle_25 : decode cX10_settle 25 = .ok (.aload_n 0, 1) := by decide +kernel
theorem dX10_settle_26 : decode cX10_settle 26 = .ok (.lload 4, 2) := by decide +kernel
theorem dX10_settle_28 : decode cX10_settle 28 = .ok (.iload 10, 2) := by decide +kernel
theorem dX10_settle_30 : decode cX10_settle 30 = .ok (.invokevirtual 95, 3) := by decide +kernel
theorem dX10_settle_33 : decode cX10_settle 33 = .ok (.istore 11, 2) := by decide +kernel
theorem dX10_settle_35 : decode cX10_settle 35 = .ok (.iload 11, 2) := by decide +kernel
theorem dX10_settle_37 : decode cX10_settle 37 = .ok (.ifCond .ne 12, 3) := by decide +kernel
theorem dX10_settle_40 : decode cX10_settle 40 = .ok (.aload_n 0, 1) := by decide +kernel
theorem dX10_settle_41 : decode cX10_settle 41 = .ok (.iload 9, 2) := by decide +kernel
theorem dX10_settle_43 : decode cX10_settle 43 = .ok (.putfield 105, 3) := by decide +kernel
theorem dX10_settle_46 : decode cX10_settle 46 = .ok (.lload 4, 2) := by decide +kernel
theorem dX10_settle_48 : decode cX10_settle 48 = .ok (.lreturn, 1) := by decide +kernel
theorem dX10_settle_49 : decode cX10_settle 49 = .ok (.aload_n 0, 1) := by decide +kernel
theorem dX10_settle_50 : decode cX10_settle 50 = .ok (.lload 4, 2) := by decide +kernel
theorem dX10_settle_52 : decode cX10_settle 52 = .ok (.iload 10, 2) := by decide +kernel
theorem dX10_settle_54 : decode cX10_settle 54 = .ok (.iload 11, 2) := by decide +kernel
theorem dX10_settle_56 : decode cX10_settle 56 = .ok (.invokevirtual 101, 3) := by decide +kernel
theorem dX10_settle_59 : decode cX10_settle 59 = .ok (.lstore 12, 2) := by decide +kernel
theorem dX10_settle_61 : decode cX10_settle 61 = .ok (.lload 12, 2) := by decide +kernel
theorem dX10_settle_63 : decode cX10_settle 63 = .ok (.lload 6, 2) := by decide +kernel
theorem dX10_settle_65 : decode cX10_settle 65 = .ok (.lcmp, 1) := by decide +kernel
theorem dX10_settle_66 : decode cX10_settle 66 = .ok (.ifCond .ne 7, 3) := by decide +kernel
theorem dX10_settle_69 : decode cX10_settle 69 = .ok (.ldc2_w 99, 3) := by decide +kernel
theorem dX10_settle_72 : decode cX10_settle 72 = .ok (.lreturn, 1) := by decide +kernel
theorem dX10_settle_73 : decode cX10_settle 73 = .ok (.lload 12, 2) := by decide +kernel
theorem dX10_settle_75 : decode cX10_settle 75 = .ok (.lstore 4, 2) := by decide +kernel
theorem dX10_settle_77 : decode cX10_settle 77 = .ok (.iload 9, 2) := by decide +kernel
theorem dX10_settle_79 : decode cX10_settle 79 = .ok (.iconst 1, 1) := by decide +kernel
theorem dX10_settle_80 : decode cX10_settle 80 = .ok (.iadd, 1) := by decide +kernel
theorem dX10_settle_81 : decode cX10_settle 81 = .ok (.iload 8, 2) := by decide +kernel
theorem dX10_settle_83 : decode cX10_settle 83 = .ok (.if_icmp .ne 13, 3) := by decide +kernel
theorem dX10_settle_86 : decode cX10_settle 86 = .ok (.lload 4, 2) := by decide +kernel
theorem dX10_settle_88 : decode cX10_settle 88 = .ok (.lstore 6, 2) := by decide +kernel
theorem dX10_settle_90 : decode cX10_settle 90 = .ok (.iload 8, 2) := by decide +kernel
theorem dX10_settle_92 : decode cX10_settle 92 = .ok (.iconst 2, 1) := by decide +kernel
theorem dX10_settle_93 : decode cX10_settle 93 = .ok (.imul, 1) := by decide +kernel
theorem dX10_settle_94 : decode cX10_settle 94 = .ok (.istore 8, 2) := by decide +kernel
theorem dX10_settle_96 : decode cX10_settle 96 = .ok (.iinc 9 1, 3) := by decide +kernel
theorem dX10_settle_99 : decode cX10_settle 99 = .ok (.goto (-87), 3) := by decide +kernel
theorem dX10_settle_102 : decode cX10_settle 102 = .ok (.ldc2_w 99, 3) := by decide +kernel
theorem dX10_settle_105 : decode cX10_settle 105 = .ok (.lreturn, 1) := by decide +kernel
theorem dX10_goOn_0 : decode cX10_goOn 0 = .ok (.aload_n 0, 1) := by decide +kernel
theorem dX10_goOn_1 : decode cX10_goOn 1 = .ok (.aload_n 1, 1) := by decide +kernel
theorem dX10_goOn_2 : decode cX10_goOn 2 = .ok (.getfield 108, 3) := by decide +kernel
theorem dX10_goOn_5 : decode cX10_goOn 5 = .ok (.aload_n 1, 1) := by decide +kernel
theorem dX10_goOn_6 : decode cX10_goOn 6 = .ok (.getfield 108, 3) := by decide +kernel
theorem dX10_goOn_9 : decode cX10_goOn 9 = .ok (.invokestatic 91, 3) := by decide +kernel
theorem dX10_goOn_12 : decode cX10_goOn 12 = .ok (.invokevirtual 95, 3) := by decide +kernel
theorem dX10_goOn_15 : decode cX10_goOn 15 = .ok (.istore_n 2, 1) := by decide +kernel
theorem dX10_goOn_16 : decode cX10_goOn 16 = .ok (.iload_n 2, 1) := by decide +kernel
theorem dX10_goOn_17 : decode cX10_goOn 17 = .ok (.ifCond .ne 5, 3) := by decide +kernel
theorem dX10_goOn_20 : decode cX10_goOn 20 = .ok (.iconst 0, 1) := by decide +kernel
theorem dX10_goOn_21 : decode cX10_goOn 21 = .ok (.ireturn, 1) := by decide +kernel
theorem dX10_goOn_22 : decode cX10_goOn 22 = .ok (.aload_n 0, 1) := by decide +kernel
theorem dX10_goOn_23 : decode cX10_goOn 23 = .ok (.aload_n 1, 1) := by decide +kernel
theorem dX10_goOn_24 : decode cX10_goOn 24 = .ok (.iload_n 2, 1) := by decide +kernel
theorem dX10_goOn_25 : decode cX10_goOn 25 = .ok (.invokevirtual 114, 3) := by decide +kernel
theorem dX10_goOn_28 : decode cX10_goOn 28 = .ok (.iconst 1, 1) := by decide +kernel
theorem dX10_goOn_29 : decode cX10_goOn 29 = .ok (.ireturn, 1) := by decide +kernel
theorem dX10_gather_0 : decode cX10_gather 0 = .ok (.aload_n 0, 1) := by decide +kernel
theorem dX10_gather_1 : decode cX10_gather 1 = .ok (.getfield 33, 3) := by decide +kernel
theorem dX10_gather_4 : decode cX10_gather 4 = .ok (.getfield 118, 3) := by decide +kernel
theorem dX10_gather_7 : decode cX10_gather 7 = .ok (.istore 4, 2) := by decide +kernel
theorem dX10_gather_9 : decode cX10_gather 9 = .ok (.iload_n 3, 1) := by decide +kernel
theorem dX10_gather_10 : decode cX10_gather 10 = .ok (.iload 4, 2) := by decide +kernel
theorem dX10_gather_12 : decode cX10_gather 12 = .ok (.imul, 1) := by decide +kernel
theorem dX10_gather_13 : decode cX10_gather 13 = .ok (.istore 5, 2) := by decide +kernel
theorem dX10_gather_15 : decode cX10_gather 15 = .ok (.aload_n 0, 1) := by decide +kernel
theorem dX10_gather_16 : decode cX10_gather 16 = .ok (.getfield 47, 3) := by decide +kernel
theorem dX10_gather_19 : decode cX10_gather 19 = .ok (.iconst 3, 1) := by decide +kernel
theorem dX10_gather_20 : decode cX10_gather 20 = .ok (.if_icmp .ne 8, 3) := by decide +kernel
theorem dX10_gather_23 : decode cX10_gather 23 = .ok (.bipush 20, 2) := by decide +kernel
theorem dX10_gather_25 : decode cX10_gather 25 = .ok (.goto 4, 3) := by decide +kernel
theorem dX10_gather_28 : decode cX10_gather 28 = .ok (.iconst 1, 1) := by decide +kernel
theorem dX10_gather_29 : decode cX10_gather 29 = .ok (.istore 6, 2) := by decide +kernel
theorem dX10_gather_31 : decode cX10_gather 31 = .ok (.iconst 0, 1) := by decide +kernel
theorem dX10_gather_32 : decode cX10_gather 32 = .ok (.istore 7, 2) := by decide +kernel
theorem dX10_gather_34 : decode cX10_gather 34 = .ok (.iload_n 3, 1) := by decide +kernel
theorem dX10_gather_35 : decode cX10_gather 35 = .ok (.istore 8, 2) := by decide +kernel
theorem dX10_gather_37 : decode cX10_gather 37 = .ok (.iconst 0, 1) := by decide +kernel
theorem dX10_gather_38 : decode cX10_gather 38 = .ok (.istore 9, 2) := by decide +kernel
theorem dX10_gather_40 : decode cX10_gather 40 = .ok (.iconst 0, 1) := by decide +kernel
theorem dX10_gather_41 : decode cX10_gather 41 = .ok (.istore 10, 2) := by decide +kernel
theorem dX10_gather_43 : decode cX10_gather 43 = .ok (.iload 10, 2) := by decide +kernel
theorem dX10_gather_45 : decode cX10_gather 45 = .ok (.iload 5, 2) := by decide +kernel
theorem dX10_gather_47 : decode cX10_gather 47 = .ok (.if_icmp .ge 162, 3) := by decide +kernel
theorem dX10_gather_50 : decode cX10_gather 50 = .ok (.iload 7, 2) := by decide +kernel
theorem dX10_gather_52 : decode cX10_gather 52 = .ok (.iload 6, 2) := by decide +kernel
theorem dX10_gather_54 : decode cX10_gather 54 = .ok (.if_icmp .ge 155, 3) := by decide +kernel
theorem dX10_gather_57 : decode cX10_gather 57 = .ok (.aload_n 0, 1) := by decide +kernel
theorem dX10_gather_58 : decode cX10_gather 58 = .ok (.getfield 47, 3) := by decide +kernel
theorem dX10_gather_61 : decode cX10_gather 61 = .ok (.iconst 2, 1) := by decide +kernel
theorem dX10_gather_62 : decode cX10_gather 62 = .ok (.if_icmp .ne 10, 3) := by decide +kernel
theorem dX10_gather_65 : decode cX10_gather 65 = .ok (.iload 10, 2) := by decide +kernel
theorem dX10_gather_67 : decode cX10_gather 67 = .ok (.iload_n 3, 1) := by decide +kernel
theorem dX10_gather_68 : decode cX10_gather 68 = .ok (.irem, 1) := by decide +kernel
theorem dX10_gather_69 : decode cX10_gather 69 = .ok (.goto 28, 3) := by decide +kernel
theorem dX10_gather_72 : decode cX10_gather 72 = .ok (.aload_n 0, 1) := by decide +kernel
theorem dX10_gather_73 : decode cX10_gather 73 = .ok (.getfield 47, 3) := by decide +kernel
theorem dX10_gather_76 : decode cX10_gather 76 = .ok (.iconst 1, 1) := by decide +kernel
theorem dX10_gather_77 : decode cX10_gather 77 = .ok (.if_icmp .ne 15, 3) := by decide +kernel
theorem dX10_gather_80 : decode cX10_gather 80 = .ok (.iload_n 3, 1) := by decide +kernel
theorem dX10_gather_81 : decode cX10_gather 81 = .ok (.iconst 1, 1) := by decide +kernel
theorem dX10_gather_82 : decode cX10_gather 82 = .ok (.isub, 1) := by decide +kernel
theorem dX10_gather_83 : decode cX10_gather 83 = .ok (.iload 10, 2) := by decide +kernel
theorem dX10_gather_85 : decode cX10_gather 85 = .ok (.iload 4, 2) := by decide +kernel
theorem dX10_gather_87 : decode cX10_gather 87 = .ok (.idiv, 1) := by decide +kernel
theorem dX10_gather_88 : decode cX10_gather 88 = .ok (.isub, 1) := by decide +kernel
theorem dX10_gather_89 : decode cX10_gather 89 = .ok (.goto 8, 3) := by decide +kernel
theorem dX10_gather_92 : decode cX10_gather 92 = .ok (.iload 10, 2) := by decide +kernel
theorem dX10_gather_94 : decode cX10_gather 94 = .ok (.iload 4, 2) := by decide +kernel
theorem dX10_gather_96 : decode cX10_gather 96 = .ok (.idiv, 1) := by decide +kernel
theorem dX10_gather_97 : decode cX10_gather 97 = .ok (.istore 11, 2) := by decide +kernel
theorem dX10_gather_99 : decode cX10_gather 99 = .ok (.aload_n 0, 1) := by decide +kernel
theorem dX10_gather_100 : decode cX10_gather 100 = .ok (.getfield 47, 3) := by decide +kernel
theorem dX10_gather_103 : decode cX10_gather 103 = .ok (.iconst 2, 1) := by decide +kernel
theorem dX10_gather_104 : decode cX10_gather 104 = .ok (.if_icmp .ne 10, 3) := by decide +kernel
theorem dX10_gather_107 : decode cX10_gather 107 = .ok (.iload 10, 2) := by decide +kernel
theorem dX10_gather_109 : decode cX10_gather 109 = .ok (.iload_n 3, 1) := by decide +kernel
theorem dX10_gather_110 : decode cX10_gather 110 = .ok (.idiv, 1) := by decide +kernel
theorem dX10_gather_111 : decode cX10_gather 111 = .ok (.goto 8, 3) := by decide +kernel
theorem dX10_gather_114 : decode cX10_gather 114 = .ok (.iload 10, 2) := by decide +kernel
theorem dX10_gather_116 : decode cX10_gather 116 = .ok (.iload 4, 2) := by decide +kernel
theorem dX10_gather_118 : decode cX10_gather 118 = .ok (.irem, 1) := by decide +kernel
theorem dX10_gather_119 : decode cX10_gather 119 = .ok (.istore 12, 2) := by decide +kernel
theorem dX10_gather_121 : decode cX10_gather 121 = .ok (.iload 11, 2) := by decide +kernel
theorem dX10_gather_123 : decode cX10_gather 123 = .ok (.iload 9, 2) := by decide +kernel
theorem dX10_gather_125 : decode cX10_gather 125 = .ok (.if_icmp .lt 78, 3) := by decide +kernel
theorem dX10_gather_128 : decode cX10_gather 128 = .ok (.aload_n 0, 1) := by decide +kernel
theorem dX10_gather_129 : decode cX10_gather 129 = .ok (.iload 12, 2) := by decide +kernel
theorem dX10_gather_131 : decode cX10_gather 131 = .ok (.iload 11, 2) := by decide +kernel
theorem dX10_gather_133 : decode cX10_gather 133 = .ok (.lload_n 1, 1) := by decide +kernel
theorem dX10_gather_134 : decode cX10_gather 134 = .ok (.iload_n 3, 1) := by decide +kernel
theorem dX10_gather_135 : decode cX10_gather 135 = .ok (.invokevirtual 121, 3) := by decide +kernel
theorem dX10_gather_138 : decode cX10_gather 138 = .ok (.ifCond .eq 65, 3) := by decide +kernel
theorem dX10_gather_141 : decode cX10_gather 141 = .ok (.aload_n 0, 1) := by decide +kernel
theorem dX10_gather_142 : decode cX10_gather 142 = .ok (.getfield 15, 3) := by decide +kernel
theorem dX10_gather_145 : decode cX10_gather 145 = .ok (.iload 7, 2) := by decide +kernel
theorem dX10_gather_147 : decode cX10_gather 147 = .ok (.iload 11, 2) := by decide +kernel
theorem dX10_gather_149 : decode cX10_gather 149 = .ok (.iastore, 1) := by decide +kernel
theorem dX10_gather_150 : decode cX10_gather 150 = .ok (.aload_n 0, 1) := by decide +kernel
theorem dX10_gather_151 : decode cX10_gather 151 = .ok (.getfield 18, 3) := by decide +kernel
theorem dX10_gather_154 : decode cX10_gather 154 = .ok (.iload 7, 2) := by decide +kernel
theorem dX10_gather_156 : decode cX10_gather 156 = .ok (.iload 12, 2) := by decide +kernel
theorem dX10_gather_158 : decode cX10_gather 158 = .ok (.iastore, 1) := by decide +kernel
theorem dX10_gather_159 : decode cX10_gather 159 = .ok (.iinc 7 1, 3) := by decide +kernel
theorem dX10_gather_162 : decode cX10_gather 162 = .ok (.iload 8, 2) := by decide +kernel
theorem dX10_gather_164 : decode cX10_gather 164 = .ok (.aload_n 0, 1) := by decide +kernel
theorem dX10_gather_165 : decode cX10_gather 165 = .ok (.getfield 33, 3) := by decide +kernel
theorem dX10_gather_168 : decode cX10_gather 168 = .ok (.getfield 84, 3) := by decide +kernel
theorem dX10_gather_171 : decode cX10_gather 171 = .ok (.iload 12, 2) := by decide +kernel
theorem dX10_gather_173 : decode cX10_gather 173 = .ok (.iaload, 1) := by decide +kernel
theorem dX10_gather_174 : decode cX10_gather 174 = .ok (.aload_n 0, 1) := by decide +kernel
theorem dX10_gather_175 : decode cX10_gather 175 = .ok (.getfield 33, 3) := by decide +kernel
theorem dX10_gather_178 : decode cX10_gather 178 = .ok (.getfield 71, 3) := by decide +kernel
theorem dX10_gather_181 : decode cX10_gather 181 = .ok (.iload 12, 2) := by decide +kernel
theorem dX10_gather_183 : decode cX10_gather 183 = .ok (.iaload, 1) := by decide +kernel
theorem dX10_gather_184 : decode cX10_gather 184 = .ok (.isub, 1) := by decide +kernel
theorem dX10_gather_185 : decode cX10_gather 185 = .ok (.iadd, 1) := by decide +kernel
theorem dX10_gather_186 : decode cX10_gather 186 = .ok (.istore 8, 2) := by decide +kernel
theorem dX10_gather_188 : decode cX10_gather 188 = .ok (.iload 11, 2) := by decide +kernel
theorem dX10_gather_190 : decode cX10_gather 190 = .ok (.aload_n 0, 1) := by decide +kernel
theorem dX10_gather_191 : decode cX10_gather 191 = .ok (.getfield 33, 3) := by decide +kernel
theorem dX10_gather_194 : decode cX10_gather 194 = .ok (.getfield 71, 3) := by decide +kernel
theorem dX10_gather_197 : decode cX10_gather 197 = .ok (.iload 12, 2) := by decide +kernel
theorem dX10_gather_199 : decode cX10_gather 199 = .ok (.iaload, 1) := by decide +kernel
theorem dX10_gather_200 : decode cX10_gather 200 = .ok (.iadd, 1) := by decide +kernel
theorem dX10_gather_201 : decode cX10_gather 201 = .ok (.istore 9, 2) := by decide +kernel
theorem dX10_gather_203 : decode cX10_gather 203 = .ok (.iinc 10 1, 3) := by decide +kernel
theorem dX10_gather_206 : decode cX10_gather 206 = .ok (.goto (-163), 3) := by decide +kernel
theorem dX10_gather_209 : decode cX10_gather 209 = .ok (.iload 8, 2) := by decide +kernel
theorem dX10_gather_211 : decode cX10_gather 211 = .ok (.bipush 20, 2) := by decide +kernel
theorem dX10_gather_213 : decode cX10_gather 213 = .ok (.if_icmp .le 7, 3) := by decide +kernel
theorem dX10_gather_216 : decode cX10_gather 216 = .ok (.iconst 0, 1) := by decide +kernel
theorem dX10_gather_217 : decode cX10_gather 217 = .ok (.goto 5, 3) := by decide +kernel
theorem dX10_gather_220 : decode cX10_gather 220 = .ok (.iload 7, 2) := by decide +kernel
theorem dX10_gather_222 : decode cX10_gather 222 = .ok (.ireturn, 1) := by decide +kernel
theorem dX10_after_0 : decode cX10_after 0 = .ok (.lconst 1, 1) := by decide +kernel
theorem dX10_after_1 : decode cX10_after 1 = .ok (.lstore 5, 2) := by decide +kernel
theorem dX10_after_3 : decode cX10_after 3 = .ok (.iconst 0, 1) := by decide +kernel
theorem dX10_after_4 : decode cX10_after 4 = .ok (.istore 7, 2) := by decide +kernel
theorem dX10_after_6 : decode cX10_after 6 = .ok (.iconst 0, 1) := by decide +kernel
theorem dX10_after_7 : decode cX10_after 7 = .ok (.istore 8, 2) := by decide +kernel
theorem dX10_after_9 : decode cX10_after 9 = .ok (.iload 8, 2) := by decide +kernel
theorem dX10_after_11 : decode cX10_after 11 = .ok (.iload 4, 2) := by decide +kernel
theorem dX10_after_13 : decode cX10_after 13 = .ok (.if_icmp .ge 94, 3) := by decide +kernel
theorem dX10_after_16 : decode cX10_after 16 = .ok (.aload_n 0, 1) := by decide +kernel
theorem dX10_after_17 : decode cX10_after 17 = .ok (.getfield 18, 3) := by decide +kernel
theorem dX10_after_20 : decode cX10_after 20 = .ok (.iload 8, 2) := by decide +kernel
theorem dX10_after_22 : decode cX10_after 22 = .ok (.iaload, 1) := by decide +kernel
theorem dX10_after_23 : decode cX10_after 23 = .ok (.istore 9, 2) := by decide +kernel
theorem dX10_after_25 : decode cX10_after 25 = .ok (.lload 5, 2) := by decide +kernel
theorem dX10_after_27 : decode cX10_after 27 = .ok (.lload_n 1, 1) := by decide +kernel
theorem dX10_after_28 : decode cX10_after 28 = .ok (.iload_n 3, 1) := by decide +kernel
theorem dX10_after_29 : decode cX10_after 29 = .ok (.iload 7, 2) := by decide +kernel
theorem dX10_after_31 : decode cX10_after 31 = .ok (.aload_n 0, 1) := by decide +kernel
theorem dX10_after_32 : decode cX10_after 32 = .ok (.getfield 15, 3) := by decide +kernel
theorem dX10_after_35 : decode cX10_after 35 = .ok (.iload 8, 2) := by decide +kernel
theorem dX10_after_37 : decode cX10_after 37 = .ok (.iaload, 1) := by decide +kernel
theorem dX10_after_38 : decode cX10_after 38 = .ok (.invokestatic 125, 3) := by decide +kernel
theorem dX10_after_41 : decode cX10_after 41 = .ok (.lstore 5, 2) := by decide +kernel
theorem dX10_after_43 : decode cX10_after 43 = .ok (.lload 5, 2) := by decide +kernel
theorem dX10_after_45 : decode cX10_after 45 = .ok (.aload_n 0, 1) := by decide +kernel
theorem dX10_after_46 : decode cX10_after 46 = .ok (.getfield 33, 3) := by decide +kernel
theorem dX10_after_49 : decode cX10_after 49 = .ok (.getfield 129, 3) := by decide +kernel
theorem dX10_after_52 : decode cX10_after 52 = .ok (.iload 9, 2) := by decide +kernel
theorem dX10_after_54 : decode cX10_after 54 = .ok (.laload, 1) := by decide +kernel
theorem dX10_after_55 : decode cX10_after 55 = .ok (.aload_n 0, 1) := by decide +kernel
theorem dX10_after_56 : decode cX10_after 56 = .ok (.getfield 33, 3) := by decide +kernel
theorem dX10_after_59 : decode cX10_after 59 = .ok (.getfield 84, 3) := by decide +kernel
theorem dX10_after_62 : decode cX10_after 62 = .ok (.iload 9, 2) := by decide +kernel
theorem dX10_after_64 : decode cX10_after 64 = .ok (.iaload, 1) := by decide +kernel
theorem dX10_after_65 : decode cX10_after 65 = .ok (.iconst 0, 1) := by decide +kernel
theorem dX10_after_66 : decode cX10_after 66 = .ok (.aload_n 0, 1) := by decide +kernel
theorem dX10_after_67 : decode cX10_after 67 = .ok (.getfield 33, 3) := by decide +kernel
theorem dX10_after_70 : decode cX10_after 70 = .ok (.getfield 84, 3) := by decide +kernel
theorem dX10_after_73 : decode cX10_after 73 = .ok (.iload 9, 2) := by decide +kernel
theorem dX10_after_75 : decode cX10_after 75 = .ok (.iaload, 1) := by decide +kernel
theorem dX10_after_76 : decode cX10_after 76 = .ok (.invokestatic 125, 3) := by decide +kernel
theorem dX10_after_79 : decode cX10_after 79 = .ok (.lstore 5, 2) := by decide +kernel
theorem dX10_after_81 : decode cX10_after 81 = .ok (.aload_n 0, 1) := by decide +kernel
theorem dX10_after_82 : decode cX10_after 82 = .ok (.getfield 15, 3) := by decide +kernel
theorem dX10_after_85 : decode cX10_after 85 = .ok (.iload 8, 2) := by decide +kernel
theorem dX10_after_87 : decode cX10_after 87 = .ok (.iaload, 1) := by decide +kernel
theorem dX10_after_88 : decode cX10_after 88 = .ok (.aload_n 0, 1) := by decide +kernel
theorem dX10_after_89 : decode cX10_after 89 = .ok (.getfield 33, 3) := by decide +kernel
theorem dX10_after_92 : decode cX10_after 92 = .ok (.getfield 71, 3) := by decide +kernel
theorem dX10_after_95 : decode cX10_after 95 = .ok (.iload 9, 2) := by decide +kernel
theorem dX10_after_97 : decode cX10_after 97 = .ok (.iaload, 1) := by decide +kernel
theorem dX10_after_98 : decode cX10_after 98 = .ok (.iadd, 1) := by decide +kernel
theorem dX10_after_99 : decode cX10_after 99 = .ok (.istore 7, 2) := by decide +kernel
theorem dX10_after_101 : decode cX10_after 101 = .ok (.iinc 8 1, 3) := by decide +kernel
theorem dX10_after_104 : decode cX10_after 104 = .ok (.goto (-95), 3) := by decide +kernel
theorem dX10_after_107 : decode cX10_after 107 = .ok (.lload 5, 2) := by decide +kernel
theorem dX10_after_109 : decode cX10_after 109 = .ok (.lload_n 1, 1) := by decide +kernel
theorem dX10_after_110 : decode cX10_after 110 = .ok (.iload_n 3, 1) := by decide +kernel
theorem dX10_after_111 : decode cX10_after 111 = .ok (.iload 7, 2) := by decide +kernel
theorem dX10_after_113 : decode cX10_after 113 = .ok (.iload_n 3, 1) := by decide +kernel
theorem dX10_after_114 : decode cX10_after 114 = .ok (.invokestatic 125, 3) := by decide +kernel
theorem dX10_after_117 : decode cX10_after 117 = .ok (.lreturn, 1) := by decide +kernel
theorem dX10_turn_0 : decode cX10_turn 0 = .ok (.aload_n 0, 1) := by decide +kernel
theorem dX10_turn_1 : decode cX10_turn 1 = .ok (.getfield 15, 3) := by decide +kernel
theorem dX10_turn_4 : decode cX10_turn 4 = .ok (.iconst 0, 1) := by decide +kernel
theorem dX10_turn_5 : decode cX10_turn 5 = .ok (.iload_n 2, 1) := by decide +kernel
theorem dX10_turn_6 : decode cX10_turn 6 = .ok (.bipush 100, 2) := by decide +kernel
theorem dX10_turn_8 : decode cX10_turn 8 = .ok (.idiv, 1) := by decide +kernel
theorem dX10_turn_9 : decode cX10_turn 9 = .ok (.iastore, 1) := by decide +kernel
theorem dX10_turn_10 : decode cX10_turn 10 = .ok (.aload_n 0, 1) := by decide +kernel
theorem dX10_turn_11 : decode cX10_turn 11 = .ok (.getfield 18, 3) := by decide +kernel
theorem dX10_turn_14 : decode cX10_turn 14 = .ok (.iconst 0, 1) := by decide +kernel
theorem dX10_turn_15 : decode cX10_turn 15 = .ok (.iload_n 2, 1) := by decide +kernel
theorem dX10_turn_16 : decode cX10_turn 16 = .ok (.bipush 100, 2) := by decide +kernel
theorem dX10_turn_18 : decode cX10_turn 18 = .ok (.irem, 1) := by decide +kernel
theorem dX10_turn_19 : decode cX10_turn 19 = .ok (.iastore, 1) := by decide +kernel
theorem dX10_turn_20 : decode cX10_turn 20 = .ok (.aload_n 0, 1) := by decide +kernel
theorem dX10_turn_21 : decode cX10_turn 21 = .ok (.aload_n 1, 1) := by decide +kernel
theorem dX10_turn_22 : decode cX10_turn 22 = .ok (.iconst 1, 1) := by decide +kernel
theorem dX10_turn_23 : decode cX10_turn 23 = .ok (.invokevirtual 114, 3) := by decide +kernel
theorem dX10_turn_26 : decode cX10_turn 26 = .ok (.return_, 1) := by decide +kernel
theorem dX10_change_0 : decode cX10_change 0 = .ok (.aload_n 1, 1) := by decide +kernel
theorem dX10_change_1 : decode cX10_change 1 = .ok (.getfield 108, 3) := by decide +kernel
theorem dX10_change_4 : decode cX10_change 4 = .ok (.invokestatic 91, 3) := by decide +kernel
theorem dX10_change_7 : decode cX10_change 7 = .ok (.istore_n 3, 1) := by decide +kernel
theorem dX10_change_8 : decode cX10_change 8 = .ok (.aload_n 1, 1) := by decide +kernel
theorem dX10_change_9 : decode cX10_change 9 = .ok (.getfield 132, 3) := by decide +kernel
theorem dX10_change_12 : decode cX10_change 12 = .ok (.iconst 1, 1) := by decide +kernel
theorem dX10_change_13 : decode cX10_change 13 = .ok (.iadd, 1) := by decide +kernel
theorem dX10_change_14 : decode cX10_change 14 = .ok (.istore 4, 2) := by decide +kernel
theorem dX10_change_16 : decode cX10_change 16 = .ok (.iconst 0, 1) := by decide +kernel
theorem dX10_change_17 : decode cX10_change 17 = .ok (.istore 5, 2) := by decide +kernel
theorem dX10_change_19 : decode cX10_change 19 = .ok (.iconst 0, 1) := by decide +kernel
theorem dX10_change_20 : decode cX10_change 20 = .ok (.istore 6, 2) := by decide +kernel
theorem dX10_change_22 : decode cX10_change 22 = .ok (.iconst 0, 1) := by decide +kernel
theorem dX10_change_23 : decode cX10_change 23 = .ok (.istore 7, 2) := by decide +kernel
theorem dX10_change_25 : decode cX10_change 25 = .ok (.iload 7, 2) := by decide +kernel
theorem dX10_change_27 : decode cX10_change 27 = .ok (.iload_n 2, 1) := by decide +kernel
theorem dX10_change_28 : decode cX10_change 28 = .ok (.if_icmp .ge 92, 3) := by decide +kernel
theorem dX10_change_31 : decode cX10_change 31 = .ok (.aload_n 0, 1) := by decide +kernel
theorem dX10_change_32 : decode cX10_change 32 = .ok (.getfield 18, 3) := by decide +kernel
theorem dX10_change_35 : decode cX10_change 35 = .ok (.iload 7, 2) := by decide +kernel
theorem dX10_change_37 : decode cX10_change 37 = .ok (.iaload, 1) := by decide +kernel
theorem dX10_change_38 : decode cX10_change 38 = .ok (.istore 8, 2) := by decide +kernel
theorem dX10_change_40 : decode cX10_change 40 = .ok (.aload_n 0, 1) := by decide +kernel
theorem dX10_change_41 : decode cX10_change 41 = .ok (.aload_n 1, 1) := by decide +kernel
theorem dX10_change_42 : decode cX10_change 42 = .ok (.iload 5, 2) := by decide +kernel
theorem dX10_change_44 : decode cX10_change 44 = .ok (.aload_n 0, 1) := by decide +kernel
theorem dX10_change_45 : decode cX10_change 45 = .ok (.getfield 15, 3) := by decide +kernel
theorem dX10_change_48 : decode cX10_change 48 = .ok (.iload 7, 2) := by decide +kernel
theorem dX10_change_50 : decode cX10_change 50 = .ok (.iaload, 1) := by decide +kernel
theorem dX10_change_51 : decode cX10_change 51 = .ok (.iload 6, 2) := by decide +kernel
theorem dX10_change_53 : decode cX10_change 53 = .ok (.invokevirtual 133, 3) := by decide +kernel
theorem dX10_change_56 : decode cX10_change 56 = .ok (.istore 6, 2) := by decide +kernel
theorem dX10_change_58 : decode cX10_change 58 = .ok (.iconst 0, 1) := by decide +kernel
theorem dX10_change_59 : decode cX10_change 59 = .ok (.istore 9, 2) := by decide +kernel
theorem dX10_change_61 : decode cX10_change 61 = .ok (.iload 9, 2) := by decide +kernel
theorem dX10_change_63 : decode cX10_change 63 = .ok (.aload_n 0, 1) := by decide +kernel
theorem dX10_change_64 : decode cX10_change 64 = .ok (.getfield 33, 3) := by decide +kernel
theorem dX10_change_67 : decode cX10_change 67 = .ok (.getfield 84, 3) := by decide +kernel
theorem dX10_change_70 : decode cX10_change 70 = .ok (.iload 8, 2) := by decide +kernel
theorem dX10_change_72 : decode cX10_change 72 = .ok (.iaload, 1) := by decide +kernel
theorem dX10_change_73 : decode cX10_change 73 = .ok (.if_icmp .ge 21, 3) := by decide +kernel
theorem dX10_change_76 : decode cX10_change 76 = .ok (.aload_n 0, 1) := by decide +kernel
theorem dX10_change_77 : decode cX10_change 77 = .ok (.iload 8, 2) := by decide +kernel
theorem dX10_change_79 : decode cX10_change 79 = .ok (.iload 4, 2) := by decide +kernel
theorem dX10_change_81 : decode cX10_change 81 = .ok (.iload 6, 2) := by decide +kernel
theorem dX10_change_83 : decode cX10_change 83 = .ok (.invokevirtual 137, 3) := by decide +kernel
theorem dX10_change_86 : decode cX10_change 86 = .ok (.istore 6, 2) := by decide +kernel
theorem dX10_change_88 : decode cX10_change 88 = .ok (.iinc 9 1, 3) := by decide +kernel
theorem dX10_change_91 : decode cX10_change 91 = .ok (.goto (-30), 3) := by decide +kernel
theorem dX10_change_94 : decode cX10_change 94 = .ok (.aload_n 0, 1) := by decide +kernel
theorem dX10_change_95 : decode cX10_change 95 = .ok (.getfield 15, 3) := by decide +kernel
theorem dX10_change_98 : decode cX10_change 98 = .ok (.iload 7, 2) := by decide +kernel
theorem dX10_change_100 : decode cX10_change 100 = .ok (.iaload, 1) := by decide +kernel
theorem dX10_change_101 : decode cX10_change 101 = .ok (.aload_n 0, 1) := by decide +kernel
theorem dX10_change_102 : decode cX10_change 102 = .ok (.getfield 33, 3) := by decide +kernel
theorem dX10_change_105 : decode cX10_change 105 = .ok (.getfield 71, 3) := by decide +kernel
theorem dX10_change_108 : decode cX10_change 108 = .ok (.iload 8, 2) := by decide +kernel
theorem dX10_change_110 : decode cX10_change 110 = .ok (.iaload, 1) := by decide +kernel
theorem dX10_change_111 : decode cX10_change 111 = .ok (.iadd, 1) := by decide +kernel
theorem dX10_change_112 : decode cX10_change 112 = .ok (.istore 5, 2) := by decide +kernel
theorem dX10_change_114 : decode cX10_change 114 = .ok (.iinc 7 1, 3) := by decide +kernel
theorem dX10_change_117 : decode cX10_change 117 = .ok (.goto (-92), 3) := by decide +kernel
theorem dX10_change_120 : decode cX10_change 120 = .ok (.aload_n 0, 1) := by decide +kernel
theorem dX10_change_121 : decode cX10_change 121 = .ok (.aload_n 1, 1) := by decide +kernel
theorem dX10_change_122 : decode cX10_change 122 = .ok (.iload 5, 2) := by decide +kernel
theorem dX10_change_124 : decode cX10_change 124 = .ok (.iload_n 3, 1) := by decide +kernel
theorem dX10_change_125 : decode cX10_change 125 = .ok (.iload 6, 2) := by decide +kernel
theorem dX10_change_127 : decode cX10_change 127 = .ok (.invokevirtual 133, 3) := by decide +kernel
theorem dX10_change_130 : decode cX10_change 130 = .ok (.pop, 1) := by decide +kernel
theorem dX10_change_131 : decode cX10_change 131 = .ok (.aload_n 1, 1) := by decide +kernel
theorem dX10_change_132 : decode cX10_change 132 = .ok (.aload_n 0, 1) := by decide +kernel
theorem dX10_change_133 : decode cX10_change 133 = .ok (.getfield 27, 3) := by decide +kernel
theorem dX10_change_136 : decode cX10_change 136 = .ok (.aload_n 0, 1) := by decide +kernel
theorem dX10_change_137 : decode cX10_change 137 = .ok (.getfield 30, 3) := by decide +kernel
theorem dX10_change_140 : decode cX10_change 140 = .ok (.invokevirtual 141, 3) := by decide +kernel
theorem dX10_change_143 : decode cX10_change 143 = .ok (.aload_n 1, 1) := by decide +kernel
theorem dX10_change_144 : decode cX10_change 144 = .ok (.aload_n 0, 1) := by decide +kernel
theorem dX10_change_145 : decode cX10_change 145 = .ok (.aload_n 1, 1) := by decide +kernel
theorem dX10_change_146 : decode cX10_change 146 = .ok (.getfield 108, 3) := by decide +kernel
theorem dX10_change_149 : decode cX10_change 149 = .ok (.iload_n 3, 1) := by decide +kernel
theorem dX10_change_150 : decode cX10_change 150 = .ok (.iload_n 2, 1) := by decide +kernel
theorem dX10_change_151 : decode cX10_change 151 = .ok (.invokevirtual 101, 3) := by decide +kernel
theorem dX10_change_154 : decode cX10_change 154 = .ok (.putfield 108, 3) := by decide +kernel
theorem dX10_change_157 : decode cX10_change 157 = .ok (.aload_n 1, 1) := by decide +kernel
theorem dX10_change_158 : decode cX10_change 158 = .ok (.iload 4, 2) := by decide +kernel
theorem dX10_change_160 : decode cX10_change 160 = .ok (.putfield 132, 3) := by decide +kernel
theorem dX10_change_163 : decode cX10_change 163 = .ok (.return_, 1) := by decide +kernel
theorem dX10_keepMakers_0 : decode cX10_keepMakers 0 = .ok (.iload 4, 2) := by decide +kernel
theorem dX10_keepMakers_2 : decode cX10_keepMakers 2 = .ok (.istore 5, 2) := by decide +kernel
theorem dX10_keepMakers_4 : decode cX10_keepMakers 4 = .ok (.iload_n 2, 1) := by decide +kernel
theorem dX10_keepMakers_5 : decode cX10_keepMakers 5 = .ok (.istore 6, 2) := by decide +kernel
theorem dX10_keepMakers_7 : decode cX10_keepMakers 7 = .ok (.iload 6, 2) := by decide +kernel
theorem dX10_keepMakers_9 : decode cX10_keepMakers 9 = .ok (.iload_n 3, 1) := by decide +kernel
theorem dX10_keepMakers_10 : decode cX10_keepMakers 10 = .ok (.if_icmp .ge 31, 3) := by decide +kernel
theorem dX10_keepMakers_13 : decode cX10_keepMakers 13 = .ok (.aload_n 0, 1) := by decide +kernel
theorem dX10_keepMakers_14 : decode cX10_keepMakers 14 = .ok (.aload_n 1, 1) := by decide +kernel
theorem dX10_keepMakers_15 : decode cX10_keepMakers 15 = .ok (.getfield 145, 3) := by decide +kernel
theorem dX10_keepMakers_18 : decode cX10_keepMakers 18 = .ok (.iload 6, 2) := by decide +kernel
theorem dX10_keepMakers_20 : decode cX10_keepMakers 20 = .ok (.iaload, 1) := by decide +kernel
theorem dX10_keepMakers_21 : decode cX10_keepMakers 21 = .ok (.aload_n 1, 1) := by decide +kernel
theorem dX10_keepMakers_22 : decode cX10_keepMakers 22 = .ok (.getfield 148, 3) := by decide +kernel
theorem dX10_keepMakers_25 : decode cX10_keepMakers 25 = .ok (.iload 6, 2) := by decide +kernel
theorem dX10_keepMakers_27 : decode cX10_keepMakers 27 = .ok (.iaload, 1) := by decide +kernel
theorem dX10_keepMakers_28 : decode cX10_keepMakers 28 = .ok (.iload 5, 2) := by decide +kernel
theorem dX10_keepMakers_30 : decode cX10_keepMakers 30 = .ok (.invokevirtual 137, 3) := by decide +kernel
theorem dX10_keepMakers_33 : decode cX10_keepMakers 33 = .ok (.istore 5, 2) := by decide +kernel
theorem dX10_keepMakers_35 : decode cX10_keepMakers 35 = .ok (.iinc 6 1, 3) := by decide +kernel
theorem dX10_keepMakers_38 : decode cX10_keepMakers 38 = .ok (.goto (-31), 3) := by decide +kernel
theorem dX10_keepMakers_41 : decode cX10_keepMakers 41 = .ok (.iload 5, 2) := by decide +kernel
theorem dX10_keepMakers_43 : decode cX10_keepMakers 43 = .ok (.ireturn, 1) := by decide +kernel
theorem dX10_noteMaker_0 : decode cX10_noteMaker 0 = .ok (.iload_n 3, 1) := by decide +kernel
theorem dX10_noteMaker_1 : decode cX10_noteMaker 1 = .ok (.bipush 20, 2) := by decide +kernel
theorem dX10_noteMaker_3 : decode cX10_noteMaker 3 = .ok (.if_icmp .ge 17, 3) := by decide +kernel
theorem dX10_noteMaker_6 : decode cX10_noteMaker 6 = .ok (.aload_n 0, 1) := by decide +kernel
theorem dX10_noteMaker_7 : decode cX10_noteMaker 7 = .ok (.getfield 27, 3) := by decide +kernel
theorem dX10_noteMaker_10 : decode cX10_noteMaker 10 = .ok (.iload_n 3, 1) := by decide +kernel
theorem dX10_noteMaker_11 : decode cX10_noteMaker 11 = .ok (.iload_n 1, 1) := by decide +kernel
theorem dX10_noteMaker_12 : decode cX10_noteMaker 12 = .ok (.iastore, 1) := by decide +kernel
theorem dX10_noteMaker_13 : decode cX10_noteMaker 13 = .ok (.aload_n 0, 1) := by decide +kernel
theorem dX10_noteMaker_14 : decode cX10_noteMaker 14 = .ok (.getfield 30, 3) := by decide +kernel
theorem dX10_noteMaker_17 : decode cX10_noteMaker 17 = .ok (.iload_n 3, 1) := by decide +kernel
theorem dX10_noteMaker_18 : decode cX10_noteMaker 18 = .ok (.iload_n 2, 1) := by decide +kernel
theorem dX10_noteMaker_19 : decode cX10_noteMaker 19 = .ok (.iastore, 1) := by decide +kernel
theorem dX10_noteMaker_20 : decode cX10_noteMaker 20 = .ok (.iload_n 3, 1) := by decide +kernel
theorem dX10_noteMaker_21 : decode cX10_noteMaker 21 = .ok (.iconst 1, 1) := by decide +kernel
theorem dX10_noteMaker_22 : decode cX10_noteMaker 22 = .ok (.iadd, 1) := by decide +kernel
theorem dX10_noteMaker_23 : decode cX10_noteMaker 23 = .ok (.ireturn, 1) := by decide +kernel
theorem dX10_listTurns_0 : decode cX10_listTurns 0 = .ok (.lload_n 1, 1) := by decide +kernel
theorem dX10_listTurns_1 : decode cX10_listTurns 1 = .ok (.invokestatic 91, 3) := by decide +kernel
theorem dX10_listTurns_4 : decode cX10_listTurns 4 = .ok (.istore_n 3, 1) := by decide +kernel
theorem dX10_listTurns_5 : decode cX10_listTurns 5 = .ok (.iconst 0, 1) := by decide +kernel
theorem dX10_listTurns_6 : decode cX10_listTurns 6 = .ok (.istore 4, 2) := by decide +kernel
theorem dX10_listTurns_8 : decode cX10_listTurns 8 = .ok (.iconst 0, 1) := by decide +kernel
theorem dX10_listTurns_9 : decode cX10_listTurns 9 = .ok (.istore 5, 2) := by decide +kernel
theorem dX10_listTurns_11 : decode cX10_listTurns 11 = .ok (.iload 5, 2) := by decide +kernel
theorem dX10_listTurns_13 : decode cX10_listTurns 13 = .ok (.iload_n 3, 1) := by decide +kernel
theorem dX10_listTurns_14 : decode cX10_listTurns 14 = .ok (.if_icmp .ge 71, 3) := by decide +kernel
theorem dX10_listTurns_17 : decode cX10_listTurns 17 = .ok (.iconst 0, 1) := by decide +kernel
theorem dX10_listTurns_18 : decode cX10_listTurns 18 = .ok (.istore 6, 2) := by decide +kernel
theorem dX10_listTurns_20 : decode cX10_listTurns 20 = .ok (.iload 6, 2) := by decide +kernel
theorem dX10_listTurns_22 : decode cX10_listTurns 22 = .ok (.aload_n 0, 1) := by decide +kernel
theorem dX10_listTurns_23 : decode cX10_listTurns 23 = .ok (.getfield 33, 3) := by decide +kernel
theorem dX10_listTurns_26 : decode cX10_listTurns 26 = .ok (.getfield 118, 3) := by decide +kernel
theorem dX10_listTurns_29 : decode cX10_listTurns 29 = .ok (.if_icmp .ge 50, 3) := by decide +kernel
theorem dX10_listTurns_32 : decode cX10_listTurns 32 = .ok (.iload 4, 2) := by decide +kernel
theorem dX10_listTurns_34 : decode cX10_listTurns 34 = .ok (.aload_n 0, 1) := by decide +kernel
theorem dX10_listTurns_35 : decode cX10_listTurns 35 = .ok (.getfield 9, 3) := by decide +kernel
theorem dX10_listTurns_38 : decode cX10_listTurns 38 = .ok (.arraylength, 1) := by decide +kernel
theorem dX10_listTurns_39 : decode cX10_listTurns 39 = .ok (.if_icmp .ge 34, 3) := by decide +kernel
theorem dX10_listTurns_42 : decode cX10_listTurns 42 = .ok (.aload_n 0, 1) := by decide +kernel
theorem dX10_listTurns_43 : decode cX10_listTurns 43 = .ok (.iload 6, 2) := by decide +kernel
theorem dX10_listTurns_45 : decode cX10_listTurns 45 = .ok (.iload 5, 2) := by decide +kernel
theorem dX10_listTurns_47 : decode cX10_listTurns 47 = .ok (.lload_n 1, 1) := by decide +kernel
theorem dX10_listTurns_48 : decode cX10_listTurns 48 = .ok (.iload_n 3, 1) := by decide +kernel
theorem dX10_listTurns_49 : decode cX10_listTurns 49 = .ok (.invokevirtual 121, 3) := by decide +kernel
theorem dX10_listTurns_52 : decode cX10_listTurns 52 = .ok (.ifCond .eq 21, 3) := by decide +kernel
theorem dX10_listTurns_55 : decode cX10_listTurns 55 = .ok (.aload_n 0, 1) := by decide +kernel
theorem dX10_listTurns_56 : decode cX10_listTurns 56 = .ok (.getfield 9, 3) := by decide +kernel
theorem dX10_listTurns_59 : decode cX10_listTurns 59 = .ok (.iload 4, 2) := by decide +kernel
theorem dX10_listTurns_61 : decode cX10_listTurns 61 = .ok (.bipush 100, 2) := by decide +kernel
theorem dX10_listTurns_63 : decode cX10_listTurns 63 = .ok (.iload 5, 2) := by decide +kernel
theorem dX10_listTurns_65 : decode cX10_listTurns 65 = .ok (.imul, 1) := by decide +kernel
theorem dX10_listTurns_66 : decode cX10_listTurns 66 = .ok (.iload 6, 2) := by decide +kernel
theorem dX10_listTurns_68 : decode cX10_listTurns 68 = .ok (.iadd, 1) := by decide +kernel
theorem dX10_listTurns_69 : decode cX10_listTurns 69 = .ok (.iastore, 1) := by decide +kernel
theorem dX10_listTurns_70 : decode cX10_listTurns 70 = .ok (.iinc 4 1, 3) := by decide +kernel
theorem dX10_listTurns_73 : decode cX10_listTurns 73 = .ok (.iinc 6 1, 3) := by decide +kernel
theorem dX10_listTurns_76 : decode cX10_listTurns 76 = .ok (.goto (-56), 3) := by decide +kernel
theorem dX10_listTurns_79 : decode cX10_listTurns 79 = .ok (.iinc 5 1, 3) := by decide +kernel
theorem dX10_listTurns_82 : decode cX10_listTurns 82 = .ok (.goto (-71), 3) := by decide +kernel
theorem dX10_listTurns_85 : decode cX10_listTurns 85 = .ok (.iload 4, 2) := by decide +kernel
theorem dX10_listTurns_87 : decode cX10_listTurns 87 = .ok (.ireturn, 1) := by decide +kernel
theorem dX10_afterTurn_0 : decode cX10_afterTurn 0 = .ok (.iload_n 3, 1) := by decide +kernel
theorem dX10_afterTurn_1 : decode cX10_afterTurn 1 = .ok (.bipush 100, 2) := by decide +kernel
theorem dX10_afterTurn_3 : decode cX10_afterTurn 3 = .ok (.irem, 1) := by decide +kernel
theorem dX10_afterTurn_4 : decode cX10_afterTurn 4 = .ok (.istore 4, 2) := by decide +kernel
theorem dX10_afterTurn_6 : decode cX10_afterTurn 6 = .ok (.iload_n 3, 1) := by decide +kernel
theorem dX10_afterTurn_7 : decode cX10_afterTurn 7 = .ok (.bipush 100, 2) := by decide +kernel
theorem dX10_afterTurn_9 : decode cX10_afterTurn 9 = .ok (.idiv, 1) := by decide +kernel
theorem dX10_afterTurn_10 : decode cX10_afterTurn 10 = .ok (.istore 5, 2) := by decide +kernel
theorem dX10_afterTurn_12 : decode cX10_afterTurn 12 = .ok (.lload_n 1, 1) := by decide +kernel
theorem dX10_afterTurn_13 : decode cX10_afterTurn 13 = .ok (.lload_n 1, 1) := by decide +kernel
theorem dX10_afterTurn_14 : decode cX10_afterTurn 14 = .ok (.invokestatic 91, 3) := by decide +kernel
theorem dX10_afterTurn_17 : decode cX10_afterTurn 17 = .ok (.iload 5, 2) := by decide +kernel
theorem dX10_afterTurn_19 : decode cX10_afterTurn 19 = .ok (.aload_n 0, 1) := by decide +kernel
theorem dX10_afterTurn_20 : decode cX10_afterTurn 20 = .ok (.getfield 33, 3) := by decide +kernel
theorem dX10_afterTurn_23 : decode cX10_afterTurn 23 = .ok (.getfield 71, 3) := by decide +kernel
theorem dX10_afterTurn_26 : decode cX10_afterTurn 26 = .ok (.iload 4, 2) := by decide +kernel
theorem dX10_afterTurn_28 : decode cX10_afterTurn 28 = .ok (.iaload, 1) := by decide +kernel
theorem dX10_afterTurn_29 : decode cX10_afterTurn 29 = .ok (.aload_n 0, 1) := by decide +kernel
theorem dX10_afterTurn_30 : decode cX10_afterTurn 30 = .ok (.getfield 33, 3) := by decide +kernel
theorem dX10_afterTurn_33 : decode cX10_afterTurn 33 = .ok (.getfield 129, 3) := by decide +kernel
theorem dX10_afterTurn_36 : decode cX10_afterTurn 36 = .ok (.iload 4, 2) := by decide +kernel
theorem dX10_afterTurn_38 : decode cX10_afterTurn 38 = .ok (.laload, 1) := by decide +kernel
theorem dX10_afterTurn_39 : decode cX10_afterTurn 39 = .ok (.aload_n 0, 1) := by decide +kernel
theorem dX10_afterTurn_40 : decode cX10_afterTurn 40 = .ok (.getfield 33, 3) := by decide +kernel
theorem dX10_afterTurn_43 : decode cX10_afterTurn 43 = .ok (.getfield 84, 3) := by decide +kernel
theorem dX10_afterTurn_46 : decode cX10_afterTurn 46 = .ok (.iload 4, 2) := by decide +kernel
theorem dX10_afterTurn_48 : decode cX10_afterTurn 48 = .ok (.iaload, 1) := by decide +kernel
theorem dX10_afterTurn_49 : decode cX10_afterTurn 49 = .ok (.invokestatic 151, 3) := by decide +kernel
theorem dX10_afterTurn_52 : decode cX10_afterTurn 52 = .ok (.lreturn, 1) := by decide +kernel
theorem dX11_init_0 : decode cX11_init 0 = .ok (.aload_n 0, 1) := by decide +kernel
theorem dX11_init_1 : decode cX11_init 1 = .ok (.invokespecial 1, 3) := by decide +kernel
theorem dX11_init_4 : decode cX11_init 4 = .ok (.aload_n 0, 1) := by decide +kernel
theorem dX11_init_5 : decode cX11_init 5 = .ok (.new 7, 3) := by decide +kernel
theorem dX11_init_8 : decode cX11_init 8 = .ok (.dup, 1) := by decide +kernel
theorem dX11_init_9 : decode cX11_init 9 = .ok (.invokespecial 9, 3) := by decide +kernel
theorem dX11_init_12 : decode cX11_init 12 = .ok (.putfield 10, 3) := by decide +kernel
theorem dX11_init_15 : decode cX11_init 15 = .ok (.aload_n 0, 1) := by decide +kernel
theorem dX11_init_16 : decode cX11_init 16 = .ok (.new 16, 3) := by decide +kernel
theorem dX11_init_19 : decode cX11_init 19 = .ok (.dup, 1) := by decide +kernel
theorem dX11_init_20 : decode cX11_init 20 = .ok (.invokespecial 18, 3) := by decide +kernel
theorem dX11_init_23 : decode cX11_init 23 = .ok (.putfield 19, 3) := by decide +kernel
theorem dX11_init_26 : decode cX11_init 26 = .ok (.aload_n 0, 1) := by decide +kernel
theorem dX11_init_27 : decode cX11_init 27 = .ok (.new 16, 3) := by decide +kernel
theorem dX11_init_30 : decode cX11_init 30 = .ok (.dup, 1) := by decide +kernel
theorem dX11_init_31 : decode cX11_init 31 = .ok (.invokespecial 18, 3) := by decide +kernel
theorem dX11_init_34 : decode cX11_init 34 = .ok (.putfield 23, 3) := by decide +kernel
theorem dX11_init_37 : decode cX11_init 37 = .ok (.aload_n 0, 1) := by decide +kernel
theorem dX11_init_38 : decode cX11_init 38 = .ok (.new 26, 3) := by decide +kernel
theorem dX11_init_41 : decode cX11_init 41 = .ok (.dup, 1) := by decide +kernel
theorem dX11_init_42 : decode cX11_init 42 = .ok (.invokespecial 28, 3) := by decide +kernel
theorem dX11_init_45 : decode cX11_init 45 = .ok (.putfield 29, 3) := by decide +kernel
theorem dX11_init_48 : decode cX11_init 48 = .ok (.aload_n 0, 1) := by decide +kernel
theorem dX11_init_49 : decode cX11_init 49 = .ok (.new 26, 3) := by decide +kernel
theorem dX11_init_52 : decode cX11_init 52 = .ok (.dup, 1) := by decide +kernel
theorem dX11_init_53 : decode cX11_init 53 = .ok (.invokespecial 28, 3) := by decide +kernel
theorem dX11_init_56 : decode cX11_init 56 = .ok (.putfield 33, 3) := by decide +kernel
theorem dX11_init_59 : decode cX11_init 59 = .ok (.aload_n 0, 1) := by decide +kernel
theorem dX11_init_60 : decode cX11_init 60 = .ok (.new 16, 3) := by decide +kernel
theorem dX11_init_63 : decode cX11_init 63 = .ok (.dup, 1) := by decide +kernel
theorem dX11_init_64 : decode cX11_init 64 = .ok (.invokespecial 18, 3) := by decide +kernel
theorem dX11_init_67 : decode cX11_init 67 = .ok (.putfield 36, 3) := by decide +kernel
theorem dX11_init_70 : decode cX11_init 70 = .ok (.aload_n 0, 1) := by decide +kernel
theorem dX11_init_71 : decode cX11_init 71 = .ok (.new 26, 3) := by decide +kernel
theorem dX11_init_74 : decode cX11_init 74 = .ok (.dup, 1) := by decide +kernel
theorem dX11_init_75 : decode cX11_init 75 = .ok (.invokespecial 28, 3) := by decide +kernel
theorem dX11_init_78 : decode cX11_init 78 = .ok (.putfield 39, 3) := by decide +kernel
theorem dX11_init_81 : decode cX11_init 81 = .ok (.aload_n 0, 1) := by decide +kernel
theorem dX11_init_82 : decode cX11_init 82 = .ok (.bipush 16, 2) := by decide +kernel
theorem dX11_init_84 : decode cX11_init 84 = .ok (.anewarray 16, 3) := by decide +kernel
theorem dX11_init_87 : decode cX11_init 87 = .ok (.putfield 42, 3) := by decide +kernel
theorem dX11_init_90 : decode cX11_init 90 = .ok (.aload_n 0, 1) := by decide +kernel
theorem dX11_init_91 : decode cX11_init 91 = .ok (.new 46, 3) := by decide +kernel
theorem dX11_init_94 : decode cX11_init 94 = .ok (.dup, 1) := by decide +kernel
theorem dX11_init_95 : decode cX11_init 95 = .ok (.aload_n 0, 1) := by decide +kernel
theorem dX11_init_96 : decode cX11_init 96 = .ok (.getfield 19, 3) := by decide +kernel
theorem dX11_init_99 : decode cX11_init 99 = .ok (.getfield 48, 3) := by decide +kernel
theorem dX11_init_102 : decode cX11_init 102 = .ok (.aload_n 0, 1) := by decide +kernel
theorem dX11_init_103 : decode cX11_init 103 = .ok (.getfield 29, 3) := by decide +kernel
theorem dX11_init_106 : decode cX11_init 106 = .ok (.invokespecial 52, 3) := by decide +kernel
theorem dX11_init_109 : decode cX11_init 109 = .ok (.putfield 55, 3) := by decide +kernel
theorem dX11_init_112 : decode cX11_init 112 = .ok (.aload_n 0, 1) := by decide +kernel
theorem dX11_init_113 : decode cX11_init 113 = .ok (.new 59, 3) := by decide +kernel
theorem dX11_init_116 : decode cX11_init 116 = .ok (.dup, 1) := by decide +kernel
theorem dX11_init_117 : decode cX11_init 117 = .ok (.invokespecial 61, 3) := by decide +kernel
theorem dX11_init_120 : decode cX11_init 120 = .ok (.putfield 62, 3) := by decide +kernel
theorem dX11_init_123 : decode cX11_init 123 = .ok (.aload_n 0, 1) := by decide +kernel
theorem dX11_init_124 : decode cX11_init 124 = .ok (.new 59, 3) := by decide +kernel
theorem dX11_init_127 : decode cX11_init 127 = .ok (.dup, 1) := by decide +kernel
theorem dX11_init_128 : decode cX11_init 128 = .ok (.invokespecial 61, 3) := by decide +kernel
theorem dX11_init_131 : decode cX11_init 131 = .ok (.putfield 66, 3) := by decide +kernel
theorem dX11_init_134 : decode cX11_init 134 = .ok (.aload_n 0, 1) := by decide +kernel
theorem dX11_init_135 : decode cX11_init 135 = .ok (.new 69, 3) := by decide +kernel
theorem dX11_init_138 : decode cX11_init 138 = .ok (.dup, 1) := by decide +kernel
theorem dX11_init_139 : decode cX11_init 139 = .ok (.invokespecial 71, 3) := by decide +kernel
theorem dX11_init_142 : decode cX11_init 142 = .ok (.putfield 72, 3) := by decide +kernel
theorem dX11_init_145 : decode cX11_init 145 = .ok (.aload_n 0, 1) := by decide +kernel
theorem dX11_init_146 : decode cX11_init 146 = .ok (.new 76, 3) := by decide +kernel
theorem dX11_init_149 : decode cX11_init 149 = .ok (.dup, 1) := by decide +kernel
theorem dX11_init_150 : decode cX11_init 150 = .ok (.invokespecial 78, 3) := by decide +kernel
theorem dX11_init_153 : decode cX11_init 153 = .ok (.putfield 79, 3) := by decide +kernel
theorem dX11_init_156 : decode cX11_init 156 = .ok (.aload_n 0, 1) := by decide +kernel
theorem dX11_init_157 : decode cX11_init 157 = .ok (.new 83, 3) := by decide +kernel
theorem dX11_init_160 : decode cX11_init 160 = .ok (.dup, 1) := by decide +kernel
theorem dX11_init_161 : decode cX11_init 161 = .ok (.invokespecial 85, 3) := by decide +kernel
theorem dX11_init_164 : decode cX11_init 164 = .ok (.putfield 86, 3) := by decide +kernel
theorem dX11_init_167 : decode cX11_init 167 = .ok (.aload_n 0, 1) := by decide +kernel
theorem dX11_init_168 : decode cX11_init 168 = .ok (.new 90, 3) := by decide +kernel
theorem dX11_init_171 : decode cX11_init 171 = .ok (.dup, 1) := by decide +kernel
theorem dX11_init_172 : decode cX11_init 172 = .ok (.invokespecial 92, 3) := by decide +kernel
theorem dX11_init_175 : decode cX11_init 175 = .ok (.putfield 93, 3) := by decide +kernel
theorem dX11_init_178 : decode cX11_init 178 = .ok (.iconst 0, 1) := by decide +kernel
theorem dX11_init_179 : decode cX11_init 179 = .ok (.istore_n 1, 1) := by decide +kernel
theorem dX11_init_180 : decode cX11_init 180 = .ok (.iload_n 1, 1) := by decide +kernel
theorem dX11_init_181 : decode cX11_init 181 = .ok (.bipush 16, 2) := by decide +kernel
theorem dX11_init_183 : decode cX11_init 183 = .ok (.if_icmp .ge 22, 3) := by decide +kernel
theorem dX11_init_186 : decode cX11_init 186 = .ok (.aload_n 0, 1) := by decide +kernel
theorem dX11_init_187 : decode cX11_init 187 = .ok (.getfield 42, 3) := by decide +kernel
theorem dX11_init_190 : decode cX11_init 190 = .ok (.iload_n 1, 1) := by decide +kernel
theorem dX11_init_191 : decode cX11_init 191 = .ok (.new 16, 3) := by decide +kernel
theorem dX11_init_194 : decode cX11_init 194 = .ok (.dup, 1) := by decide +kernel
theorem dX11_init_195 : decode cX11_init 195 = .ok (.invokespecial 18, 3) := by decide +kernel
theorem dX11_init_198 : decode cX11_init 198 = .ok (.aastore, 1) := by decide +kernel
theorem dX11_init_199 : decode cX11_init 199 = .ok (.iinc 1 1, 3) := by decide +kernel
theorem dX11_init_202 : decode cX11_init 202 = .ok (.goto (-22), 3) := by decide +kernel
theorem dX11_init_205 : decode cX11_init 205 = .ok (.return_, 1) := by decide +kernel
theorem dX11_feed_0 : decode cX11_feed 0 = .ok (.aload_n 0, 1) := by decide +kernel
theorem dX11_feed_1 : decode cX11_feed 1 = .ok (.getfield 10, 3) := by decide +kernel
theorem dX11_feed_4 : decode cX11_feed 4 = .ok (.getfield 97, 3) := by decide +kernel
theorem dX11_feed_7 : decode cX11_feed 7 = .ok (.bipush 20, 2) := by decide +kernel
theorem dX11_feed_9 : decode cX11_feed 9 = .ok (.iadd, 1) := by decide +kernel
theorem dX11_feed_10 : decode cX11_feed 10 = .ok (.sipush 400, 3) := by decide +kernel
theorem dX11_feed_13 : decode cX11_feed 13 = .ok (.if_icmp .le 5, 3) := by decide +kernel
theorem dX11_feed_16 : decode cX11_feed 16 = .ok (.iconst (-1), 1) := by decide +kernel
theorem dX11_feed_17 : decode cX11_feed 17 = .ok (.ireturn, 1) := by decide +kernel
theorem dX11_feed_18 : decode cX11_feed 18 = .ok (.aload_n 0, 1) := by decide +kernel
theorem dX11_feed_19 : decode cX11_feed 19 = .ok (.getfield 10, 3) := by decide +kernel
theorem dX11_feed_22 : decode cX11_feed 22 = .ok (.iload_n 1, 1) := by decide +kernel
theorem dX11_feed_23 : decode cX11_feed 23 = .ok (.invokevirtual 101, 3) := by decide +kernel
theorem dX11_feed_26 : decode cX11_feed 26 = .ok (.aload_n 0, 1) := by decide +kernel
theorem dX11_feed_27 : decode cX11_feed 27 = .ok (.getfield 10, 3) := by decide +kernel
theorem dX11_feed_30 : decode cX11_feed 30 = .ok (.iload_n 2, 1) := by decide +kernel
theorem dX11_feed_31 : decode cX11_feed 31 = .ok (.invokevirtual 101, 3) := by decide +kernel
theorem dX11_feed_34 : decode cX11_feed 34 = .ok (.aload_n 0, 1) := by decide +kernel
theorem dX11_feed_35 : decode cX11_feed 35 = .ok (.getfield 10, 3) := by decide +kernel
theorem dX11_feed_38 : decode cX11_feed 38 = .ok (.iload_n 3, 1) := by decide +kernel
theorem dX11_feed_39 : decode cX11_feed 39 = .ok (.invokevirtual 101, 3) := by decide +kernel
theorem dX11_feed_42 : decode cX11_feed 42 = .ok (.aload_n 0, 1) := by decide +kernel
theorem dX11_feed_43 : decode cX11_feed 43 = .ok (.getfield 10, 3) := by decide +kernel
theorem dX11_feed_46 : decode cX11_feed 46 = .ok (.iload 4, 2) := by decide +kernel
theorem dX11_feed_48 : decode cX11_feed 48 = .ok (.invokevirtual 101, 3) := by decide +kernel
theorem dX11_feed_51 : decode cX11_feed 51 = .ok (.aload_n 0, 1) := by decide +kernel
theorem dX11_feed_52 : decode cX11_feed 52 = .ok (.getfield 10, 3) := by decide +kernel
theorem dX11_feed_55 : decode cX11_feed 55 = .ok (.iload 5, 2) := by decide +kernel
theorem dX11_feed_57 : decode cX11_feed 57 = .ok (.invokevirtual 101, 3) := by decide +kernel
theorem dX11_feed_60 : decode cX11_feed 60 = .ok (.aload_n 0, 1) := by decide +kernel
theorem dX11_feed_61 : decode cX11_feed 61 = .ok (.getfield 10, 3) := by decide +kernel
theorem dX11_feed_64 : decode cX11_feed 64 = .ok (.getfield 97, 3) := by decide +kernel
theorem dX11_feed_67 : decode cX11_feed 67 = .ok (.ireturn, 1) := by decide +kernel
theorem dX11_end_0 : decode cX11_end 0 = .ok (.iload_n 1, 1) := by decide +kernel
theorem dX11_end_1 : decode cX11_end 1 = .ok (.ifCond .lt 14, 3) := by decide +kernel
theorem dX11_end_4 : decode cX11_end 4 = .ok (.iload_n 1, 1) := by decide +kernel
theorem dX11_end_5 : decode cX11_end 5 = .ok (.aload_n 0, 1) := by decide +kernel
theorem dX11_end_6 : decode cX11_end 6 = .ok (.getfield 10, 3) := by decide +kernel
theorem dX11_end_9 : decode cX11_end 9 = .ok (.getfield 97, 3) := by decide +kernel
theorem dX11_end_12 : decode cX11_end 12 = .ok (.if_icmp .le 5, 3) := by decide +kernel
theorem dX11_end_15 : decode cX11_end 15 = .ok (.iconst 0, 1) := by decide +kernel
theorem dX11_end_16 : decode cX11_end 16 = .ok (.ireturn, 1) := by decide +kernel
theorem dX11_end_17 : decode cX11_end 17 = .ok (.aload_n 0, 1) := by decide +kernel
theorem dX11_end_18 : decode cX11_end 18 = .ok (.getfield 10, 3) := by decide +kernel
theorem dX11_end_21 : decode cX11_end 21 = .ok (.iload_n 1, 1) := by decide +kernel
theorem dX11_end_22 : decode cX11_end 22 = .ok (.putfield 97, 3) := by decide +kernel
theorem dX11_end_25 : decode cX11_end 25 = .ok (.iconst 1, 1) := by decide +kernel
theorem dX11_end_26 : decode cX11_end 26 = .ok (.ireturn, 1) := by decide +kernel
theorem dX11_valley_0 : decode cX11_valley 0 = .ok (.aload_n 0, 1) := by decide +kernel
theorem dX11_valley_1 : decode cX11_valley 1 = .ok (.getfield 23, 3) := by decide +kernel
theorem dX11_valley_4 : decode cX11_valley 4 = .ok (.aload_n 0, 1) := by decide +kernel
theorem dX11_valley_5 : decode cX11_valley 5 = .ok (.getfield 19, 3) := by decide +kernel
theorem dX11_valley_8 : decode cX11_valley 8 = .ok (.invokevirtual 105, 3) := by decide +kernel
theorem dX11_valley_11 : decode cX11_valley 11 = .ok (.aload_n 0, 1) := by decide +kernel
theorem dX11_valley_12 : decode cX11_valley 12 = .ok (.getfield 23, 3) := by decide +kernel
theorem dX11_valley_15 : decode cX11_valley 15 = .ok (.aload_n 0, 1) := by decide +kernel
theorem dX11_valley_16 : decode cX11_valley 16 = .ok (.getfield 10, 3) := by decide +kernel
theorem dX11_valley_19 : decode cX11_valley 19 = .ok (.invokevirtual 109, 3) := by decide +kernel
theorem dX11_valley_22 : decode cX11_valley 22 = .ok (.istore_n 1, 1) := by decide +kernel
theorem dX11_valley_23 : decode cX11_valley 23 = .ok (.aload_n 0, 1) := by decide +kernel
theorem dX11_valley_24 : decode cX11_valley 24 = .ok (.getfield 10, 3) := by decide +kernel
theorem dX11_valley_27 : decode cX11_valley 27 = .ok (.iconst 0, 1) := by decide +kernel
theorem dX11_valley_28 : decode cX11_valley 28 = .ok (.putfield 97, 3) := by decide +kernel
theorem dX11_valley_31 : decode cX11_valley 31 = .ok (.iload_n 1, 1) := by decide +kernel
theorem dX11_valley_32 : decode cX11_valley 32 = .ok (.ifCond .ne 11, 3) := by decide +kernel
theorem dX11_valley_35 : decode cX11_valley 35 = .ok (.new 113, 3) := by decide +kernel
theorem dX11_valley_38 : decode cX11_valley 38 = .ok (.dup, 1) := by decide +kernel
theorem dX11_valley_39 : decode cX11_valley 39 = .ok (.invokespecial 115, 3) := by decide +kernel
theorem dX11_valley_42 : decode cX11_valley 42 = .ok (.athrow, 1) := by decide +kernel
theorem dX11_valley_43 : decode cX11_valley 43 = .ok (.aload_n 0, 1) := by decide +kernel
theorem dX11_valley_44 : decode cX11_valley 44 = .ok (.getfield 19, 3) := by decide +kernel
theorem dX11_valley_47 : decode cX11_valley 47 = .ok (.getfield 116, 3) := by decide +kernel
theorem dX11_valley_50 : decode cX11_valley 50 = .ok (.bipush 10, 2) := by decide +kernel
theorem dX11_valley_52 : decode cX11_valley 52 = .ok (.if_icmp .lt 11, 3) := by decide +kernel
theorem dX11_valley_55 : decode cX11_valley 55 = .ok (.new 119, 3) := by decide +kernel
theorem dX11_valley_58 : decode cX11_valley 58 = .ok (.dup, 1) := by decide +kernel
theorem dX11_valley_59 : decode cX11_valley 59 = .ok (.invokespecial 121, 3) := by decide +kernel
theorem dX11_valley_62 : decode cX11_valley 62 = .ok (.athrow, 1) := by decide +kernel
theorem dX11_valley_63 : decode cX11_valley 63 = .ok (.aload_n 0, 1) := by decide +kernel
theorem dX11_valley_64 : decode cX11_valley 64 = .ok (.getfield 23, 3) := by decide +kernel
theorem dX11_valley_67 : decode cX11_valley 67 = .ok (.dup, 1) := by decide +kernel
theorem dX11_valley_68 : decode cX11_valley 68 = .ok (.getfield 116, 3) := by decide +kernel
theorem dX11_valley_71 : decode cX11_valley 71 = .ok (.iconst 1, 1) := by decide +kernel
theorem dX11_valley_72 : decode cX11_valley 72 = .ok (.iadd, 1) := by decide +kernel
theorem dX11_valley_73 : decode cX11_valley 73 = .ok (.putfield 116, 3) := by decide +kernel
theorem dX11_valley_76 : decode cX11_valley 76 = .ok (.aload_n 0, 1) := by decide +kernel
theorem dX11_valley_77 : decode cX11_valley 77 = .ok (.getfield 19, 3) := by decide +kernel
theorem dX11_valley_80 : decode cX11_valley 80 = .ok (.aload_n 0, 1) := by decide +kernel
theorem dX11_valley_81 : decode cX11_valley 81 = .ok (.getfield 23, 3) := by decide +kernel
theorem dX11_valley_84 : decode cX11_valley 84 = .ok (.invokevirtual 105, 3) := by decide +kernel
theorem dX11_valley_87 : decode cX11_valley 87 = .ok (.aload_n 0, 1) := by decide +kernel
theorem dX11_valley_88 : decode cX11_valley 88 = .ok (.invokevirtual 122, 3) := by decide +kernel
theorem dX11_valley_91 : decode cX11_valley 91 = .ok (.aload_n 0, 1) := by decide +kernel
theorem dX11_valley_92 : decode cX11_valley 92 = .ok (.getfield 19, 3) := by decide +kernel
theorem dX11_valley_95 : decode cX11_valley 95 = .ok (.getfield 116, 3) := by decide +kernel
theorem dX11_valley_98 : decode cX11_valley 98 = .ok (.ireturn, 1) := by decide +kernel
theorem dX11_law_0 : decode cX11_law 0 = .ok (.aload_n 0, 1) := by decide +kernel
theorem dX11_law_1 : decode cX11_law 1 = .ok (.getfield 33, 3) := by decide +kernel
theorem dX11_law_4 : decode cX11_law 4 = .ok (.aload_n 0, 1) := by decide +kernel
theorem dX11_law_5 : decode cX11_law 5 = .ok (.getfield 10, 3) := by decide +kernel
theorem dX11_law_8 : decode cX11_law 8 = .ok (.invokevirtual 125, 3) := by decide +kernel
theorem dX11_law_11 : decode cX11_law 11 = .ok (.istore_n 1, 1) := by decide +kernel
theorem dX11_law_12 : decode cX11_law 12 = .ok (.aload_n 0, 1) := by decide +kernel
theorem dX11_law_13 : decode cX11_law 13 = .ok (.getfield 10, 3) := by decide +kernel
theorem dX11_law_16 : decode cX11_law 16 = .ok (.iconst 0, 1) := by decide +kernel
theorem dX11_law_17 : decode cX11_law 17 = .ok (.putfield 97, 3) := by decide +kernel
theorem dX11_law_20 : decode cX11_law 20 = .ok (.iload_n 1, 1) := by decide +kernel
theorem dX11_law_21 : decode cX11_law 21 = .ok (.ifCond .ne 11, 3) := by decide +kernel
theorem dX11_law_24 : decode cX11_law 24 = .ok (.new 113, 3) := by decide +kernel
theorem dX11_law_27 : decode cX11_law 27 = .ok (.dup, 1) := by decide +kernel
theorem dX11_law_28 : decode cX11_law 28 = .ok (.invokespecial 115, 3) := by decide +kernel
theorem dX11_law_31 : decode cX11_law 31 = .ok (.athrow, 1) := by decide +kernel
theorem dX11_law_32 : decode cX11_law 32 = .ok (.aload_n 0, 1) := by decide +kernel
theorem dX11_law_33 : decode cX11_law 33 = .ok (.getfield 29, 3) := by decide +kernel
theorem dX11_law_36 : decode cX11_law 36 = .ok (.aload_n 0, 1) := by decide +kernel
theorem dX11_law_37 : decode cX11_law 37 = .ok (.getfield 33, 3) := by decide +kernel
theorem dX11_law_40 : decode cX11_law 40 = .ok (.invokevirtual 126, 3) := by decide +kernel
theorem dX11_law_43 : decode cX11_law 43 = .ok (.aload_n 0, 1) := by decide +kernel
theorem dX11_law_44 : decode cX11_law 44 = .ok (.invokevirtual 122, 3) := by decide +kernel
theorem dX11_law_47 : decode cX11_law 47 = .ok (.aload_n 0, 1) := by decide +kernel
theorem dX11_law_48 : decode cX11_law 48 = .ok (.getfield 29, 3) := by decide +kernel
theorem dX11_law_51 : decode cX11_law 51 = .ok (.getfield 129, 3) := by decide +kernel
theorem dX11_law_54 : decode cX11_law 54 = .ok (.ireturn, 1) := by decide +kernel
theorem dX11_fault_0 : decode cX11_fault 0 = .ok (.aload_n 0, 1) := by decide +kernel
theorem dX11_fault_1 : decode cX11_fault 1 = .ok (.getfield 10, 3) := by decide +kernel
theorem dX11_fault_4 : decode cX11_fault 4 = .ok (.getfield 132, 3) := by decide +kernel
theorem dX11_fault_7 : decode cX11_fault 7 = .ok (.ireturn, 1) := by decide +kernel
theorem dX11_rule_0 : decode cX11_rule 0 = .ok (.aload_n 0, 1) := by decide +kernel
theorem dX11_rule_1 : decode cX11_rule 1 = .ok (.iload_n 1, 1) := by decide +kernel
theorem dX11_rule_2 : decode cX11_rule 2 = .ok (.invokevirtual 135, 3) := by decide +kernel
theorem dX11_rule_5 : decode cX11_rule 5 = .ok (.iload_n 2, 1) := by decide +kernel
theorem dX11_rule_6 : decode cX11_rule 6 = .ok (.ifCond .eq 18, 3) := by decide +kernel
theorem dX11_rule_9 : decode cX11_rule 9 = .ok (.aload_n 0, 1) := by decide +kernel
theorem dX11_rule_10 : decode cX11_rule 10 = .ok (.getfield 19, 3) := by decide +kernel
theorem dX11_rule_13 : decode cX11_rule 13 = .ok (.getfield 48, 3) := by decide +kernel
theorem dX11_rule_16 : decode cX11_rule 16 = .ok (.getfield 138, 3) := by decide +kernel
theorem dX11_rule_19 : decode cX11_rule 19 = .ok (.iload_n 1, 1) := by decide +kernel
theorem dX11_rule_20 : decode cX11_rule 20 = .ok (.laload, 1) := by decide +kernel
theorem dX11_rule_21 : decode cX11_rule 21 = .ok (.goto 15, 3) := by decide +kernel
theorem dX11_rule_24 : decode cX11_rule 24 = .ok (.aload_n 0, 1) := by decide +kernel
theorem dX11_rule_25 : decode cX11_rule 25 = .ok (.getfield 19, 3) := by decide +kernel
theorem dX11_rule_28 : decode cX11_rule 28 = .ok (.getfield 48, 3) := by decide +kernel
theorem dX11_rule_31 : decode cX11_rule 31 = .ok (.getfield 144, 3) := by decide +kernel
theorem dX11_rule_34 : decode cX11_rule 34 = .ok (.iload_n 1, 1) := by decide +kernel
theorem dX11_rule_35 : decode cX11_rule 35 = .ok (.laload, 1) := by decide +kernel
theorem dX11_rule_36 : decode cX11_rule 36 = .ok (.lreturn, 1) := by decide +kernel
theorem dX11_field_0 : decode cX11_field 0 = .ok (.aload_n 0, 1) := by decide +kernel
theorem dX11_field_1 : decode cX11_field 1 = .ok (.iload_n 1, 1) := by decide +kernel
theorem dX11_field_2 : decode cX11_field 2 = .ok (.invokevirtual 147, 3) := by decide +kernel
theorem dX11_field_5 : decode cX11_field 5 = .ok (.aload_n 0, 1) := by decide +kernel
theorem dX11_field_6 : decode cX11_field 6 = .ok (.getfield 19, 3) := by decide +kernel
theorem dX11_field_9 : decode cX11_field 9 = .ok (.getfield 150, 3) := by decide +kernel
theorem dX11_field_12 : decode cX11_field 12 = .ok (.iload_n 1, 1) := by decide +kernel
theorem dX11_field_13 : decode cX11_field 13 = .ok (.aaload, 1) := by decide +kernel
theorem dX11_field_14 : decode cX11_field 14 = .ok (.getfield 154, 3) := by decide +kernel
theorem dX11_field_17 : decode cX11_field 17 = .ok (.lreturn, 1) := by decide +kernel
theorem dX11_seen_0 : decode cX11_seen 0 = .ok (.aload_n 0, 1) := by decide +kernel
theorem dX11_seen_1 : decode cX11_seen 1 = .ok (.iload_n 1, 1) := by decide +kernel
theorem dX11_seen_2 : decode cX11_seen 2 = .ok (.invokevirtual 160, 3) := by decide +kernel
theorem dX11_seen_5 : decode cX11_seen 5 = .ok (.iload_n 2, 1) := by decide +kernel
theorem dX11_seen_6 : decode cX11_seen 6 = .ok (.ifCond .eq 15, 3) := by decide +kernel
theorem dX11_seen_9 : decode cX11_seen 9 = .ok (.aload_n 0, 1) := by decide +kernel
theorem dX11_seen_10 : decode cX11_seen 10 = .ok (.getfield 19, 3) := by decide +kernel
theorem dX11_seen_13 : decode cX11_seen 13 = .ok (.getfield 163, 3) := by decide +kernel
theorem dX11_seen_16 : decode cX11_seen 16 = .ok (.iload_n 1, 1) := by decide +kernel
theorem dX11_seen_17 : decode cX11_seen 17 = .ok (.laload, 1) := by decide +kernel
theorem dX11_seen_18 : decode cX11_seen 18 = .ok (.goto 12, 3) := by decide +kernel
theorem dX11_seen_21 : decode cX11_seen 21 = .ok (.aload_n 0, 1) := by decide +kernel
theorem dX11_seen_22 : decode cX11_seen 22 = .ok (.getfield 19, 3) := by decide +kernel
theorem dX11_seen_25 : decode cX11_seen 25 = .ok (.getfield 166, 3) := by decide +kernel
theorem dX11_seen_28 : decode cX11_seen 28 = .ok (.iload_n 1, 1) := by decide +kernel
theorem dX11_seen_29 : decode cX11_seen 29 = .ok (.laload, 1) := by decide +kernel
theorem dX11_seen_30 : decode cX11_seen 30 = .ok (.lreturn, 1) := by decide +kernel
theorem dX11_beast_0 : decode cX11_beast 0 = .ok (.lload_n 1, 1) := by decide +kernel
theorem dX11_beast_1 : decode cX11_beast 1 = .ok (.invokestatic 169, 3) := by decide +kernel
theorem dX11_beast_4 : decode cX11_beast 4 = .ok (.lload_n 1, 1) := by decide +kernel
theorem dX11_beast_5 : decode cX11_beast 5 = .ok (.invokestatic 173, 3) := by decide +kernel
theorem dX11_beast_8 : decode cX11_beast 8 = .ok (.istore 4, 2) := by decide +kernel
theorem dX11_beast_10 : decode cX11_beast 10 = .ok (.iload_n 3, 1) := by decide +kernel
theorem dX11_beast_11 : decode cX11_beast 11 = .ok (.ifCond .lt 9, 3) := by decide +kernel
theorem dX11_beast_14 : decode cX11_beast 14 = .ok (.iload_n 3, 1) := by decide +kernel
theorem dX11_beast_15 : decode cX11_beast 15 = .ok (.iload 4, 2) := by decide +kernel
theorem dX11_beast_17 : decode cX11_beast 17 = .ok (.if_icmp .lt 7, 3) := by decide +kernel
theorem dX11_beast_20 : decode cX11_beast 20 = .ok (.iconst (-1), 1) := by decide +kernel
theorem dX11_beast_21 : decode cX11_beast 21 = .ok (.goto 10, 3) := by decide +kernel
theorem dX11_beast_24 : decode cX11_beast 24 = .ok (.lload_n 1, 1) := by decide +kernel
theorem dX11_beast_25 : decode cX11_beast 25 = .ok (.iload 4, 2) := by decide +kernel
theorem dX11_beast_27 : decode cX11_beast 27 = .ok (.iload_n 3, 1) := by decide +kernel
theorem dX11_beast_28 : decode cX11_beast 28 = .ok (.invokestatic 177, 3) := by decide +kernel
theorem dX11_beast_31 : decode cX11_beast 31 = .ok (.ireturn, 1) := by decide +kernel
theorem dX11_steps_0 : decode cX11_steps 0 = .ok (.aload_n 0, 1) := by decide +kernel
theorem dX11_steps_1 : decode cX11_steps 1 = .ok (.iload_n 1, 1) := by decide +kernel
theorem dX11_steps_2 : decode cX11_steps 2 = .ok (.invokevirtual 147, 3) := by decide +kernel
theorem dX11_steps_5 : decode cX11_steps 5 = .ok (.aload_n 0, 1) := by decide +kernel
theorem dX11_steps_6 : decode cX11_steps 6 = .ok (.getfield 19, 3) := by decide +kernel
theorem dX11_steps_9 : decode cX11_steps 9 = .ok (.getfield 150, 3) := by decide +kernel
theorem dX11_steps_12 : decode cX11_steps 12 = .ok (.iload_n 1, 1) := by decide +kernel
theorem dX11_steps_13 : decode cX11_steps 13 = .ok (.aaload, 1) := by decide +kernel
theorem dX11_steps_14 : decode cX11_steps 14 = .ok (.getfield 181, 3) := by decide +kernel
theorem dX11_steps_17 : decode cX11_steps 17 = .ok (.ireturn, 1) := by decide +kernel
theorem dX11_maker_0 : decode cX11_maker 0 = .ok (.aload_n 0, 1) := by decide +kernel
theorem dX11_maker_1 : decode cX11_maker 1 = .ok (.iload_n 1, 1) := by decide +kernel
theorem dX11_maker_2 : decode cX11_maker 2 = .ok (.invokevirtual 147, 3) := by decide +kernel
theorem dX11_maker_5 : decode cX11_maker 5 = .ok (.aload_n 0, 1) := by decide +kernel
theorem dX11_maker_6 : decode cX11_maker 6 = .ok (.getfield 19, 3) := by decide +kernel
theorem dX11_maker_9 : decode cX11_maker 9 = .ok (.getfield 150, 3) := by decide +kernel
theorem dX11_maker_12 : decode cX11_maker 12 = .ok (.iload_n 1, 1) := by decide +kernel
theorem dX11_maker_13 : decode cX11_maker 13 = .ok (.aaload, 1) := by decide +kernel
theorem dX11_maker_14 : decode cX11_maker 14 = .ok (.astore 4, 2) := by decide +kernel
theorem dX11_maker_16 : decode cX11_maker 16 = .ok (.iload_n 2, 1) := by decide +kernel
theorem dX11_maker_17 : decode cX11_maker 17 = .ok (.ifCond .lt 15, 3) := by decide +kernel
theorem dX11_maker_20 : decode cX11_maker 20 = .ok (.iload_n 2, 1) := by decide +kernel
theorem dX11_maker_21 : decode cX11_maker 21 = .ok (.aload 4, 2) := by decide +kernel
theorem dX11_maker_23 : decode cX11_maker 23 = .ok (.getfield 154, 3) := by decide +kernel
theorem dX11_maker_26 : decode cX11_maker 26 = .ok (.invokestatic 173, 3) := by decide +kernel
theorem dX11_maker_29 : decode cX11_maker 29 = .ok (.if_icmp .lt 11, 3) := by decide +kernel
theorem dX11_maker_32 : decode cX11_maker 32 = .ok (.new 184, 3) := by decide +kernel
theorem dX11_maker_35 : decode cX11_maker 35 = .ok (.dup, 1) := by decide +kernel
theorem dX11_maker_36 : decode cX11_maker 36 = .ok (.invokespecial 186, 3) := by decide +kernel
theorem dX11_maker_39 : decode cX11_maker 39 = .ok (.athrow, 1) := by decide +kernel
theorem dX11_maker_40 : decode cX11_maker 40 = .ok (.iload_n 3, 1) := by decide +kernel
theorem dX11_maker_41 : decode cX11_maker 41 = .ok (.iconst 2, 1) := by decide +kernel
theorem dX11_maker_42 : decode cX11_maker 42 = .ok (.invokestatic 187, 3) := by decide +kernel
theorem dX11_maker_45 : decode cX11_maker 45 = .ok (.iload_n 3, 1) := by decide +kernel
theorem dX11_maker_46 : decode cX11_maker 46 = .ok (.ifCond .ne 13, 3) := by decide +kernel
theorem dX11_maker_49 : decode cX11_maker 49 = .ok (.aload 4, 2) := by decide +kernel
theorem dX11_maker_51 : decode cX11_maker 51 = .ok (.getfield 191, 3) := by decide +kernel
theorem dX11_maker_54 : decode cX11_maker 54 = .ok (.iload_n 2, 1) := by decide +kernel
theorem dX11_maker_55 : decode cX11_maker 55 = .ok (.iaload, 1) := by decide +kernel
theorem dX11_maker_56 : decode cX11_maker 56 = .ok (.goto 10, 3) := by decide +kernel
theorem dX11_maker_59 : decode cX11_maker 59 = .ok (.aload 4, 2) := by decide +kernel
theorem dX11_maker_61 : decode cX11_maker 61 = .ok (.getfield 195, 3) := by decide +kernel
theorem dX11_maker_64 : decode cX11_maker 64 = .ok (.iload_n 2, 1) := by decide +kernel
theorem dX11_maker_65 : decode cX11_maker 65 = .ok (.iaload, 1) := by decide +kernel
theorem dX11_maker_66 : decode cX11_maker 66 = .ok (.ireturn, 1) := by decide +kernel
theorem dX11_fits_0 : decode cX11_fits 0 = .ok (.aload_n 0, 1) := by decide +kernel
theorem dX11_fits_1 : decode cX11_fits 1 = .ok (.iload_n 3, 1) := by decide +kernel
theorem dX11_fits_2 : decode cX11_fits 2 = .ok (.invokevirtual 135, 3) := by decide +kernel
theorem dX11_fits_5 : decode cX11_fits 5 = .ok (.lload_n 1, 1) := by decide +kernel
theorem dX11_fits_6 : decode cX11_fits 6 = .ok (.invokestatic 169, 3) := by decide +kernel
theorem dX11_fits_9 : decode cX11_fits 9 = .ok (.aload_n 0, 1) := by decide +kernel
theorem dX11_fits_10 : decode cX11_fits 10 = .ok (.getfield 55, 3) := by decide +kernel
theorem dX11_fits_13 : decode cX11_fits 13 = .ok (.aload_n 0, 1) := by decide +kernel
theorem dX11_fits_14 : decode cX11_fits 14 = .ok (.getfield 19, 3) := by decide +kernel
theorem dX11_fits_17 : decode cX11_fits 17 = .ok (.invokevirtual 198, 3) := by decide +kernel
theorem dX11_fits_20 : decode cX11_fits 20 = .ok (.aload_n 0, 1) := by decide +kernel
theorem dX11_fits_21 : decode cX11_fits 21 = .ok (.getfield 55, 3) := by decide +kernel
theorem dX11_fits_24 : decode cX11_fits 24 = .ok (.iload_n 3, 1) := by decide +kernel
theorem dX11_fits_25 : decode cX11_fits 25 = .ok (.iload 4, 2) := by decide +kernel
theorem dX11_fits_27 : decode cX11_fits 27 = .ok (.lload_n 1, 1) := by decide +kernel
theorem dX11_fits_28 : decode cX11_fits 28 = .ok (.lload_n 1, 1) := by decide +kernel
theorem dX11_fits_29 : decode cX11_fits 29 = .ok (.invokestatic 173, 3) := by decide +kernel
theorem dX11_fits_32 : decode cX11_fits 32 = .ok (.invokevirtual 201, 3) := by decide +kernel
theorem dX11_fits_35 : decode cX11_fits 35 = .ok (.ireturn, 1) := by decide +kernel
theorem dX11_use_0 : decode cX11_use 0 = .ok (.aload_n 0, 1) := by decide +kernel
theorem dX11_use_1 : decode cX11_use 1 = .ok (.iload_n 1, 1) := by decide +kernel
theorem dX11_use_2 : decode cX11_use 2 = .ok (.invokevirtual 147, 3) := by decide +kernel
theorem dX11_use_5 : decode cX11_use 5 = .ok (.aload_n 0, 1) := by decide +kernel
theorem dX11_use_6 : decode cX11_use 6 = .ok (.iload_n 2, 1) := by decide +kernel
theorem dX11_use_7 : decode cX11_use 7 = .ok (.invokevirtual 135, 3) := by decide +kernel
theorem dX11_use_10 : decode cX11_use 10 = .ok (.aload_n 0, 1) := by decide +kernel
theorem dX11_use_11 : decode cX11_use 11 = .ok (.getfield 19, 3) := by decide +kernel
theorem dX11_use_14 : decode cX11_use 14 = .ok (.getfield 150, 3) := by decide +kernel
theorem dX11_use_17 : decode cX11_use 17 = .ok (.iload_n 1, 1) := by decide +kernel
theorem dX11_use_18 : decode cX11_use 18 = .ok (.aaload, 1) := by decide +kernel
theorem dX11_use_19 : decode cX11_use 19 = .ok (.astore 4, 2) := by decide +kernel
theorem dX11_use_21 : decode cX11_use 21 = .ok (.aload_n 0, 1) := by decide +kernel
theorem dX11_use_22 : decode cX11_use 22 = .ok (.getfield 55, 3) := by decide +kernel
theorem dX11_use_25 : decode cX11_use 25 = .ok (.aload_n 0, 1) := by decide +kernel
theorem dX11_use_26 : decode cX11_use 26 = .ok (.getfield 19, 3) := by decide +kernel
theorem dX11_use_29 : decode cX11_use 29 = .ok (.invokevirtual 198, 3) := by decide +kernel
theorem dX11_use_32 : decode cX11_use 32 = .ok (.aload_n 0, 1) := by decide +kernel
theorem dX11_use_33 : decode cX11_use 33 = .ok (.getfield 55, 3) := by decide +kernel
theorem dX11_use_36 : decode cX11_use 36 = .ok (.iload_n 2, 1) := by decide +kernel
theorem dX11_use_37 : decode cX11_use 37 = .ok (.iload_n 3, 1) := by decide +kernel
theorem dX11_use_38 : decode cX11_use 38 = .ok (.aload 4, 2) := by decide +kernel
theorem dX11_use_40 : decode cX11_use 40 = .ok (.getfield 154, 3) := by decide +kernel
theorem dX11_use_43 : decode cX11_use 43 = .ok (.aload 4, 2) := by decide +kernel
theorem dX11_use_45 : decode cX11_use 45 = .ok (.getfield 154, 3) := by decide +kernel
theorem dX11_use_48 : decode cX11_use 48 = .ok (.invokestatic 173, 3) := by decide +kernel
theorem dX11_use_51 : decode cX11_use 51 = .ok (.invokevirtual 201, 3) := by decide +kernel
theorem dX11_use_54 : decode cX11_use 54 = .ok (.ifCond .ne 11, 3) := by decide +kernel
theorem dX11_use_57 : decode cX11_use 57 = .ok (.new 205, 3) := by decide +kernel
theorem dX11_use_60 : decode cX11_use 60 = .ok (.dup, 1) := by decide +kernel
theorem dX11_use_61 : decode cX11_use 61 = .ok (.invokespecial 207, 3) := by decide +kernel
theorem dX11_use_64 : decode cX11_use 64 = .ok (.athrow, 1) := by decide +kernel
theorem dX11_use_65 : decode cX11_use 65 = .ok (.aload_n 0, 1) := by decide +kernel
theorem dX11_use_66 : decode cX11_use 66 = .ok (.invokevirtual 208, 3) := by decide +kernel
theorem dX11_use_69 : decode cX11_use 69 = .ok (.aload_n 0, 1) := by decide +kernel
theorem dX11_use_70 : decode cX11_use 70 = .ok (.getfield 55, 3) := by decide +kernel
theorem dX11_use_73 : decode cX11_use 73 = .ok (.aload 4, 2) := by decide +kernel
theorem dX11_use_75 : decode cX11_use 75 = .ok (.bipush 100, 2) := by decide +kernel
theorem dX11_use_77 : decode cX11_use 77 = .ok (.iload_n 3, 1) := by decide +kernel
theorem dX11_use_78 : decode cX11_use 78 = .ok (.imul, 1) := by decide +kernel
theorem dX11_use_79 : decode cX11_use 79 = .ok (.iload_n 2, 1) := by decide +kernel
theorem dX11_use_80 : decode cX11_use 80 = .ok (.iadd, 1) := by decide +kernel
theorem dX11_use_81 : decode cX11_use 81 = .ok (.invokevirtual 211, 3) := by decide +kernel
theorem dX11_use_84 : decode cX11_use 84 = .ok (.aload 4, 2) := by decide +kernel
theorem dX11_use_86 : decode cX11_use 86 = .ok (.getfield 154, 3) := by decide +kernel
theorem dX11_use_89 : decode cX11_use 89 = .ok (.lreturn, 1) := by decide +kernel
theorem dX11_run_0 : decode cX11_run 0 = .ok (.aload_n 0, 1) := by decide +kernel
theorem dX11_run_1 : decode cX11_run 1 = .ok (.iload_n 1, 1) := by decide +kernel
theorem dX11_run_2 : decode cX11_run 2 = .ok (.invokevirtual 147, 3) := by decide +kernel
theorem dX11_run_5 : decode cX11_run 5 = .ok (.iload_n 2, 1) := by decide +kernel
theorem dX11_run_6 : decode cX11_run 6 = .ok (.iconst 1, 1) := by decide +kernel
theorem dX11_run_7 : decode cX11_run 7 = .ok (.sipush 200, 3) := by decide +kernel
theorem dX11_run_10 : decode cX11_run 10 = .ok (.invokestatic 215, 3) := by decide +kernel
theorem dX11_run_13 : decode cX11_run 13 = .ok (.aload_n 0, 1) := by decide +kernel
theorem dX11_run_14 : decode cX11_run 14 = .ok (.invokevirtual 208, 3) := by decide +kernel
theorem dX11_run_17 : decode cX11_run 17 = .ok (.aload_n 0, 1) := by decide +kernel
theorem dX11_run_18 : decode cX11_run 18 = .ok (.getfield 55, 3) := by decide +kernel
theorem dX11_run_21 : decode cX11_run 21 = .ok (.aload_n 0, 1) := by decide +kernel
theorem dX11_run_22 : decode cX11_run 22 = .ok (.getfield 19, 3) := by decide +kernel
theorem dX11_run_25 : decode cX11_run 25 = .ok (.invokevirtual 198, 3) := by decide +kernel
theorem dX11_run_28 : decode cX11_run 28 = .ok (.iconst 0, 1) := by decide +kernel
theorem dX11_run_29 : decode cX11_run 29 = .ok (.istore_n 3, 1) := by decide +kernel
theorem dX11_run_30 : decode cX11_run 30 = .ok (.iload_n 3, 1) := by decide +kernel
theorem dX11_run_31 : decode cX11_run 31 = .ok (.iload_n 2, 1) := by decide +kernel
theorem dX11_run_32 : decode cX11_run 32 = .ok (.if_icmp .ge 28, 3) := by decide +kernel
theorem dX11_run_35 : decode cX11_run 35 = .ok (.aload_n 0, 1) := by decide +kernel
theorem dX11_run_36 : decode cX11_run 36 = .ok (.getfield 55, 3) := by decide +kernel
theorem dX11_run_39 : decode cX11_run 39 = .ok (.aload_n 0, 1) := by decide +kernel
theorem dX11_run_40 : decode cX11_run 40 = .ok (.getfield 19, 3) := by decide +kernel
theorem dX11_run_43 : decode cX11_run 43 = .ok (.getfield 150, 3) := by decide +kernel
theorem dX11_run_46 : decode cX11_run 46 = .ok (.iload_n 1, 1) := by decide +kernel
theorem dX11_run_47 : decode cX11_run 47 = .ok (.aaload, 1) := by decide +kernel
theorem dX11_run_48 : decode cX11_run 48 = .ok (.invokevirtual 219, 3) := by decide +kernel
theorem dX11_run_51 : decode cX11_run 51 = .ok (.ifCond .eq 9, 3) := by decide +kernel
theorem dX11_run_54 : decode cX11_run 54 = .ok (.iinc 3 1, 3) := by decide +kernel
theorem dX11_run_57 : decode cX11_run 57 = .ok (.goto (-27), 3) := by decide +kernel
theorem dX11_run_60 : decode cX11_run 60 = .ok (.iload_n 3, 1) := by decide +kernel
theorem dX11_run_61 : decode cX11_run 61 = .ok (.ireturn, 1) := by decide +kernel
theorem dX11_put_0 : decode cX11_put 0 = .ok (.aload_n 0, 1) := by decide +kernel
theorem dX11_put_1 : decode cX11_put 1 = .ok (.iload_n 1, 1) := by decide +kernel
theorem dX11_put_2 : decode cX11_put 2 = .ok (.invokevirtual 147, 3) := by decide +kernel
theorem dX11_put_5 : decode cX11_put 5 = .ok (.lload_n 2, 1) := by decide +kernel
theorem dX11_put_6 : decode cX11_put 6 = .ok (.invokestatic 169, 3) := by decide +kernel
theorem dX11_put_9 : decode cX11_put 9 = .ok (.aload_n 0, 1) := by decide +kernel
theorem dX11_put_10 : decode cX11_put 10 = .ok (.invokevirtual 208, 3) := by decide +kernel
theorem dX11_put_13 : decode cX11_put 13 = .ok (.aload_n 0, 1) := by decide +kernel
theorem dX11_put_14 : decode cX11_put 14 = .ok (.getfield 19, 3) := by decide +kernel
theorem dX11_put_17 : decode cX11_put 17 = .ok (.getfield 150, 3) := by decide +kernel
theorem dX11_put_20 : decode cX11_put 20 = .ok (.iload_n 1, 1) := by decide +kernel
theorem dX11_put_21 : decode cX11_put 21 = .ok (.aaload, 1) := by decide +kernel
theorem dX11_put_22 : decode cX11_put 22 = .ok (.getfield 154, 3) := by decide +kernel
theorem dX11_put_25 : decode cX11_put 25 = .ok (.lstore 4, 2) := by decide +kernel
theorem dX11_put_27 : decode cX11_put 27 = .ok (.aload_n 0, 1) := by decide +kernel
theorem dX11_put_28 : decode cX11_put 28 = .ok (.getfield 19, 3) := by decide +kernel
theorem dX11_put_31 : decode cX11_put 31 = .ok (.getfield 150, 3) := by decide +kernel
theorem dX11_put_34 : decode cX11_put 34 = .ok (.iload_n 1, 1) := by decide +kernel
theorem dX11_put_35 : decode cX11_put 35 = .ok (.aaload, 1) := by decide +kernel
theorem dX11_put_36 : decode cX11_put 36 = .ok (.lload_n 2, 1) := by decide +kernel
theorem dX11_put_37 : decode cX11_put 37 = .ok (.invokevirtual 223, 3) := by decide +kernel
theorem dX11_put_40 : decode cX11_put 40 = .ok (.lload 4, 2) := by decide +kernel
theorem dX11_put_42 : decode cX11_put 42 = .ok (.lreturn, 1) := by decide +kernel
theorem dX11_add_0 : decode cX11_add 0 = .ok (.lload_n 1, 1) := by decide +kernel
theorem dX11_add_1 : decode cX11_add 1 = .ok (.invokestatic 169, 3) := by decide +kernel
theorem dX11_add_4 : decode cX11_add 4 = .ok (.lload_n 3, 1) := by decide +kernel
theorem dX11_add_5 : decode cX11_add 5 = .ok (.invokestatic 169, 3) := by decide +kernel
theorem dX11_add_8 : decode cX11_add 8 = .ok (.lload_n 1, 1) := by decide +kernel
theorem dX11_add_9 : decode cX11_add 9 = .ok (.invokestatic 173, 3) := by decide +kernel
theorem dX11_add_12 : decode cX11_add 12 = .ok (.iconst 1, 1) := by decide +kernel
theorem dX11_add_13 : decode cX11_add 13 = .ok (.iconst 4, 1) := by decide +kernel
theorem dX11_add_14 : decode cX11_add 14 = .ok (.invokestatic 215, 3) := by decide +kernel
theorem dX11_add_17 : decode cX11_add 17 = .ok (.lload_n 3, 1) := by decide +kernel
theorem dX11_add_18 : decode cX11_add 18 = .ok (.invokestatic 173, 3) := by decide +kernel
theorem dX11_add_21 : decode cX11_add 21 = .ok (.iconst 0, 1) := by decide +kernel
theorem dX11_add_22 : decode cX11_add 22 = .ok (.iconst 5, 1) := by decide +kernel
theorem dX11_add_23 : decode cX11_add 23 = .ok (.invokestatic 215, 3) := by decide +kernel
theorem dX11_add_26 : decode cX11_add 26 = .ok (.aload_n 0, 1) := by decide +kernel
theorem dX11_add_27 : decode cX11_add 27 = .ok (.lload_n 1, 1) := by decide +kernel
theorem dX11_add_28 : decode cX11_add 28 = .ok (.lload_n 3, 1) := by decide +kernel
theorem dX11_add_29 : decode cX11_add 29 = .ok (.invokevirtual 226, 3) := by decide +kernel
theorem dX11_add_32 : decode cX11_add 32 = .ok (.ireturn, 1) := by decide +kernel
theorem dX11_addRule_0 : decode cX11_addRule 0 = .ok (.aload_n 0, 1) := by decide +kernel
theorem dX11_addRule_1 : decode cX11_addRule 1 = .ok (.getfield 19, 3) := by decide +kernel
theorem dX11_addRule_4 : decode cX11_addRule 4 = .ok (.getfield 48, 3) := by decide +kernel
theorem dX11_addRule_7 : decode cX11_addRule 7 = .ok (.getfield 230, 3) := by decide +kernel
theorem dX11_addRule_10 : decode cX11_addRule 10 = .ok (.bipush 12, 2) := by decide +kernel
theorem dX11_addRule_12 : decode cX11_addRule 12 = .ok (.if_icmp .lt 11, 3) := by decide +kernel
theorem dX11_addRule_15 : decode cX11_addRule 15 = .ok (.new 119, 3) := by decide +kernel
theorem dX11_addRule_18 : decode cX11_addRule 18 = .ok (.dup, 1) := by decide +kernel
theorem dX11_addRule_19 : decode cX11_addRule 19 = .ok (.invokespecial 121, 3) := by decide +kernel
theorem dX11_addRule_22 : decode cX11_addRule 22 = .ok (.athrow, 1) := by decide +kernel
theorem dX11_addRule_23 : decode cX11_addRule 23 = .ok (.aload_n 0, 1) := by decide +kernel
theorem dX11_addRule_24 : decode cX11_addRule 24 = .ok (.invokevirtual 208, 3) := by decide +kernel
theorem dX11_addRule_27 : decode cX11_addRule 27 = .ok (.aload_n 0, 1) := by decide +kernel
theorem dX11_addRule_28 : decode cX11_addRule 28 = .ok (.getfield 19, 3) := by decide +kernel
theorem dX11_addRule_31 : decode cX11_addRule 31 = .ok (.getfield 48, 3) := by decide +kernel
theorem dX11_addRule_34 : decode cX11_addRule 34 = .ok (.lload_n 1, 1) := by decide +kernel
theorem dX11_addRule_35 : decode cX11_addRule 35 = .ok (.lload_n 3, 1) := by decide +kernel
theorem dX11_addRule_36 : decode cX11_addRule 36 = .ok (.invokevirtual 231, 3) := by decide +kernel
theorem dX11_addRule_39 : decode cX11_addRule 39 = .ok (.aload_n 0, 1) := by decide +kernel
theorem dX11_addRule_40 : decode cX11_addRule 40 = .ok (.getfield 19, 3) := by decide +kernel
theorem dX11_addRule_43 : decode cX11_addRule 43 = .ok (.getfield 48, 3) := by decide +kernel
theorem dX11_addRule_46 : decode cX11_addRule 46 = .ok (.getfield 230, 3) := by decide +kernel
theorem dX11_addRule_49 : decode cX11_addRule 49 = .ok (.iconst 1, 1) := by decide +kernel
theorem dX11_addRule_50 : decode cX11_addRule 50 = .ok (.isub, 1) := by decide +kernel
theorem dX11_addRule_51 : decode cX11_addRule 51 = .ok (.ireturn, 1) := by decide +kernel
theorem dX11_drop_0 : decode cX11_drop 0 = .ok (.aload_n 0, 1) := by decide +kernel
theorem dX11_drop_1 : decode cX11_drop 1 = .ok (.iload_n 1, 1) := by decide +kernel
theorem dX11_drop_2 : decode cX11_drop 2 = .ok (.invokevirtual 135, 3) := by decide +kernel
theorem dX11_drop_5 : decode cX11_drop 5 = .ok (.aload_n 0, 1) := by decide +kernel
theorem dX11_drop_6 : decode cX11_drop 6 = .ok (.invokevirtual 208, 3) := by decide +kernel
theorem dX11_drop_9 : decode cX11_drop 9 = .ok (.aload_n 0, 1) := by decide +kernel
theorem dX11_drop_10 : decode cX11_drop 10 = .ok (.getfield 19, 3) := by decide +kernel
theorem dX11_drop_13 : decode cX11_drop 13 = .ok (.getfield 48, 3) := by decide +kernel
theorem dX11_drop_16 : decode cX11_drop 16 = .ok (.iload_n 1, 1) := by decide +kernel
theorem dX11_drop_17 : decode cX11_drop 17 = .ok (.invokevirtual 234, 3) := by decide +kernel
theorem dX11_drop_20 : decode cX11_drop 20 = .ok (.aload_n 0, 1) := by decide +kernel
theorem dX11_drop_21 : decode cX11_drop 21 = .ok (.getfield 19, 3) := by decide +kernel
theorem dX11_drop_24 : decode cX11_drop 24 = .ok (.getfield 48, 3) := by decide +kernel
theorem dX11_drop_27 : decode cX11_drop 27 = .ok (.getfield 230, 3) := by decide +kernel
theorem dX11_drop_30 : decode cX11_drop 30 = .ok (.ireturn, 1) := by decide +kernel
theorem dX11_years_0 : decode cX11_years 0 = .ok (.aload_n 0, 1) := by decide +kernel
theorem dX11_years_1 : decode cX11_years 1 = .ok (.iload_n 1, 1) := by decide +kernel
theorem dX11_years_2 : decode cX11_years 2 = .ok (.invokevirtual 147, 3) := by decide +kernel
theorem dX11_years_5 : decode cX11_years 5 = .ok (.iload_n 2, 1) := by decide +kernel
theorem dX11_years_6 : decode cX11_years 6 = .ok (.iconst 1, 1) := by decide +kernel
theorem dX11_years_7 : decode cX11_years 7 = .ok (.sipush 200, 3) := by decide +kernel
theorem dX11_years_10 : decode cX11_years 10 = .ok (.invokestatic 215, 3) := by decide +kernel
theorem dX11_years_13 : decode cX11_years 13 = .ok (.aload_n 0, 1) := by decide +kernel
theorem dX11_years_14 : decode cX11_years 14 = .ok (.invokevirtual 208, 3) := by decide +kernel
theorem dX11_years_17 : decode cX11_years 17 = .ok (.iconst 0, 1) := by decide +kernel
theorem dX11_years_18 : decode cX11_years 18 = .ok (.istore_n 3, 1) := by decide +kernel
theorem dX11_years_19 : decode cX11_years 19 = .ok (.iconst 0, 1) := by decide +kernel
theorem dX11_years_20 : decode cX11_years 20 = .ok (.istore 4, 2) := by decide +kernel
theorem dX11_years_22 : decode cX11_years 22 = .ok (.iload 4, 2) := by decide +kernel
theorem dX11_years_24 : decode cX11_years 24 = .ok (.iload_n 2, 1) := by decide +kernel
theorem dX11_years_25 : decode cX11_years 25 = .ok (.if_icmp .ge 28, 3) := by decide +kernel
theorem dX11_years_28 : decode cX11_years 28 = .ok (.aload_n 0, 1) := by decide +kernel
theorem dX11_years_29 : decode cX11_years 29 = .ok (.aload_n 0, 1) := by decide +kernel
theorem dX11_years_30 : decode cX11_years 30 = .ok (.getfield 19, 3) := by decide +kernel
theorem dX11_years_33 : decode cX11_years 33 = .ok (.getfield 150, 3) := by decide +kernel
theorem dX11_years_36 : decode cX11_years 36 = .ok (.iload_n 1, 1) := by decide +kernel
theorem dX11_years_37 : decode cX11_years 37 = .ok (.aaload, 1) := by decide +kernel
theorem dX11_years_38 : decode cX11_years 38 = .ok (.invokevirtual 237, 3) := by decide +kernel
theorem dX11_years_41 : decode cX11_years 41 = .ok (.ifCond .eq 6, 3) := by decide +kernel
theorem dX11_years_44 : decode cX11_years 44 = .ok (.iinc 3 1, 3) := by decide +kernel
theorem dX11_years_47 : decode cX11_years 47 = .ok (.iinc 4 1, 3) := by decide +kernel
theorem dX11_years_50 : decode cX11_years 50 = .ok (.goto (-28), 3) := by decide +kernel
theorem dX11_years_53 : decode cX11_years 53 = .ok (.iload_n 3, 1) := by decide +kernel
theorem dX11_years_54 : decode cX11_years 54 = .ok (.ireturn, 1) := by decide +kernel
theorem dX11_goYear_0 : decode cX11_goYear 0 = .ok (.iconst 0, 1) := by decide +kernel
theorem dX11_goYear_1 : decode cX11_goYear 1 = .ok (.istore_n 2, 1) := by decide +kernel
theorem dX11_goYear_2 : decode cX11_goYear 2 = .ok (.aload_n 0, 1) := by decide +kernel
theorem dX11_goYear_3 : decode cX11_goYear 3 = .ok (.getfield 19, 3) := by decide +kernel
theorem dX11_goYear_6 : decode cX11_goYear 6 = .ok (.invokevirtual 240, 3) := by decide +kernel
theorem dX11_goYear_9 : decode cX11_goYear 9 = .ok (.bipush 100, 2) := by decide +kernel
theorem dX11_goYear_11 : decode cX11_goYear 11 = .ok (.irem, 1) := by decide +kernel
theorem dX11_goYear_12 : decode cX11_goYear 12 = .ok (.aload_n 0, 1) := by decide +kernel
theorem dX11_goYear_13 : decode cX11_goYear 13 = .ok (.getfield 19, 3) := by decide +kernel
theorem dX11_goYear_16 : decode cX11_goYear 16 = .ok (.getfield 244, 3) := by decide +kernel
theorem dX11_goYear_19 : decode cX11_goYear 19 = .ok (.if_icmp .lt 57, 3) := by decide +kernel
theorem dX11_goYear_22 : decode cX11_goYear 22 = .ok (.aload_n 0, 1) := by decide +kernel
theorem dX11_goYear_23 : decode cX11_goYear 23 = .ok (.getfield 55, 3) := by decide +kernel
theorem dX11_goYear_26 : decode cX11_goYear 26 = .ok (.aload_n 0, 1) := by decide +kernel
theorem dX11_goYear_27 : decode cX11_goYear 27 = .ok (.getfield 19, 3) := by decide +kernel
theorem dX11_goYear_30 : decode cX11_goYear 30 = .ok (.invokevirtual 198, 3) := by decide +kernel
theorem dX11_goYear_33 : decode cX11_goYear 33 = .ok (.aload_n 0, 1) := by decide +kernel
theorem dX11_goYear_34 : decode cX11_goYear 34 = .ok (.getfield 55, 3) := by decide +kernel
theorem dX11_goYear_37 : decode cX11_goYear 37 = .ok (.aload_n 1, 1) := by decide +kernel
theorem dX11_goYear_38 : decode cX11_goYear 38 = .ok (.getfield 154, 3) := by decide +kernel
theorem dX11_goYear_41 : decode cX11_goYear 41 = .ok (.invokevirtual 247, 3) := by decide +kernel
theorem dX11_goYear_44 : decode cX11_goYear 44 = .ok (.istore_n 3, 1) := by decide +kernel
theorem dX11_goYear_45 : decode cX11_goYear 45 = .ok (.iload_n 3, 1) := by decide +kernel
theorem dX11_goYear_46 : decode cX11_goYear 46 = .ok (.ifCond .le 30, 3) := by decide +kernel
theorem dX11_goYear_49 : decode cX11_goYear 49 = .ok (.aload_n 0, 1) := by decide +kernel
theorem dX11_goYear_50 : decode cX11_goYear 50 = .ok (.getfield 55, 3) := by decide +kernel
theorem dX11_goYear_53 : decode cX11_goYear 53 = .ok (.aload_n 1, 1) := by decide +kernel
theorem dX11_goYear_54 : decode cX11_goYear 54 = .ok (.aload_n 0, 1) := by decide +kernel
theorem dX11_goYear_55 : decode cX11_goYear 55 = .ok (.getfield 55, 3) := by decide +kernel
theorem dX11_goYear_58 : decode cX11_goYear 58 = .ok (.getfield 250, 3) := by decide +kernel
theorem dX11_goYear_61 : decode cX11_goYear 61 = .ok (.aload_n 0, 1) := by decide +kernel
theorem dX11_goYear_62 : decode cX11_goYear 62 = .ok (.getfield 19, 3) := by decide +kernel
theorem dX11_goYear_65 : decode cX11_goYear 65 = .ok (.invokevirtual 240, 3) := by decide +kernel
theorem dX11_goYear_68 : decode cX11_goYear 68 = .ok (.iload_n 3, 1) := by decide +kernel
theorem dX11_goYear_69 : decode cX11_goYear 69 = .ok (.irem, 1) := by decide +kernel
theorem dX11_goYear_70 : decode cX11_goYear 70 = .ok (.iaload, 1) := by decide +kernel
theorem dX11_goYear_71 : decode cX11_goYear 71 = .ok (.invokevirtual 211, 3) := by decide +kernel
theorem dX11_goYear_74 : decode cX11_goYear 74 = .ok (.iconst 1, 1) := by decide +kernel
theorem dX11_goYear_75 : decode cX11_goYear 75 = .ok (.istore_n 2, 1) := by decide +kernel
theorem dX11_goYear_76 : decode cX11_goYear 76 = .ok (.aload_n 0, 1) := by decide +kernel
theorem dX11_goYear_77 : decode cX11_goYear 77 = .ok (.getfield 19, 3) := by decide +kernel
theorem dX11_goYear_80 : decode cX11_goYear 80 = .ok (.dup, 1) := by decide +kernel
theorem dX11_goYear_81 : decode cX11_goYear 81 = .ok (.getfield 253, 3) := by decide +kernel
theorem dX11_goYear_84 : decode cX11_goYear 84 = .ok (.iconst 1, 1) := by decide +kernel
theorem dX11_goYear_85 : decode cX11_goYear 85 = .ok (.iadd, 1) := by decide +kernel
theorem dX11_goYear_86 : decode cX11_goYear 86 = .ok (.putfield 253, 3) := by decide +kernel
theorem dX11_goYear_89 : decode cX11_goYear 89 = .ok (.iload_n 2, 1) := by decide +kernel
theorem dX11_goYear_90 : decode cX11_goYear 90 = .ok (.ireturn, 1) := by decide +kernel
theorem dX11_settles_0 : decode cX11_settles 0 = .ok (.lload_n 1, 1) := by decide +kernel
theorem dX11_settles_1 : decode cX11_settles 1 = .ok (.invokestatic 169, 3) := by decide +kernel
theorem dX11_settles_4 : decode cX11_settles 4 = .ok (.iload_n 3, 1) := by decide +kernel
theorem dX11_settles_5 : decode cX11_settles 5 = .ok (.iconst 0, 1) := by decide +kernel
theorem dX11_settles_6 : decode cX11_settles 6 = .ok (.sipush 500, 3) := by decide +kernel
theorem dX11_settles_9 : decode cX11_settles 9 = .ok (.invokestatic 215, 3) := by decide +kernel
theorem dX11_settles_12 : decode cX11_settles 12 = .ok (.aload_n 0, 1) := by decide +kernel
theorem dX11_settles_13 : decode cX11_settles 13 = .ok (.getfield 55, 3) := by decide +kernel
theorem dX11_settles_16 : decode cX11_settles 16 = .ok (.aload_n 0, 1) := by decide +kernel
theorem dX11_settles_17 : decode cX11_settles 17 = .ok (.getfield 19, 3) := by decide +kernel
theorem dX11_settles_20 : decode cX11_settles 20 = .ok (.invokevirtual 198, 3) := by decide +kernel
theorem dX11_settles_23 : decode cX11_settles 23 = .ok (.aload_n 0, 1) := by decide +kernel
theorem dX11_settles_24 : decode cX11_settles 24 = .ok (.getfield 55, 3) := by decide +kernel
theorem dX11_settles_27 : decode cX11_settles 27 = .ok (.lload_n 1, 1) := by decide +kernel
theorem dX11_settles_28 : decode cX11_settles 28 = .ok (.iload_n 3, 1) := by decide +kernel
theorem dX11_settles_29 : decode cX11_settles 29 = .ok (.invokevirtual 256, 3) := by decide +kernel
theorem dX11_settles_32 : decode cX11_settles 32 = .ok (.lstore 5, 2) := by decide +kernel
theorem dX11_settles_34 : decode cX11_settles 34 = .ok (.lload 5, 2) := by decide +kernel
theorem dX11_settles_36 : decode cX11_settles 36 = .ok (.ldc2_w 260, 3) := by decide +kernel
theorem dX11_settles_39 : decode cX11_settles 39 = .ok (.lcmp, 1) := by decide +kernel
theorem dX11_settles_40 : decode cX11_settles 40 = .ok (.ifCond .eq 8, 3) := by decide +kernel
theorem dX11_settles_43 : decode cX11_settles 43 = .ok (.iload 4, 2) := by decide +kernel
theorem dX11_settles_45 : decode cX11_settles 45 = .ok (.ifCond .eq 8, 3) := by decide +kernel
theorem dX11_settles_48 : decode cX11_settles 48 = .ok (.lload 5, 2) := by decide +kernel
theorem dX11_settles_50 : decode cX11_settles 50 = .ok (.goto 11, 3) := by decide +kernel
theorem dX11_settles_53 : decode cX11_settles 53 = .ok (.aload_n 0, 1) := by decide +kernel
theorem dX11_settles_54 : decode cX11_settles 54 = .ok (.getfield 55, 3) := by decide +kernel
theorem dX11_settles_57 : decode cX11_settles 57 = .ok (.getfield 262, 3) := by decide +kernel
theorem dX11_settles_60 : decode cX11_settles 60 = .ok (.i2l, 1) := by decide +kernel
theorem dX11_settles_61 : decode cX11_settles 61 = .ok (.lreturn, 1) := by decide +kernel
theorem dX11_again_0 : decode cX11_again 0 = .ok (.lload_n 1, 1) := by decide +kernel
theorem dX11_again_1 : decode cX11_again 1 = .ok (.invokestatic 169, 3) := by decide +kernel
theorem dX11_again_4 : decode cX11_again 4 = .ok (.aload_n 0, 1) := by decide +kernel
theorem dX11_again_5 : decode cX11_again 5 = .ok (.getfield 55, 3) := by decide +kernel
theorem dX11_again_8 : decode cX11_again 8 = .ok (.aload_n 0, 1) := by decide +kernel
theorem dX11_again_9 : decode cX11_again 9 = .ok (.getfield 19, 3) := by decide +kernel
theorem dX11_again_12 : decode cX11_again 12 = .ok (.invokevirtual 198, 3) := by decide +kernel
theorem dX11_again_15 : decode cX11_again 15 = .ok (.aload_n 0, 1) := by decide +kernel
theorem dX11_again_16 : decode cX11_again 16 = .ok (.getfield 62, 3) := by decide +kernel
theorem dX11_again_19 : decode cX11_again 19 = .ok (.lload_n 1, 1) := by decide +kernel
theorem dX11_again_20 : decode cX11_again 20 = .ok (.invokevirtual 263, 3) := by decide +kernel
theorem dX11_again_23 : decode cX11_again 23 = .ok (.lload_n 1, 1) := by decide +kernel
theorem dX11_again_24 : decode cX11_again 24 = .ok (.lstore 4, 2) := by decide +kernel
theorem dX11_again_26 : decode cX11_again 26 = .ok (.iconst 1, 1) := by decide +kernel
theorem dX11_again_27 : decode cX11_again 27 = .ok (.istore 6, 2) := by decide +kernel
theorem dX11_again_29 : decode cX11_again 29 = .ok (.iload 6, 2) := by decide +kernel
theorem dX11_again_31 : decode cX11_again 31 = .ok (.sipush 500, 3) := by decide +kernel
theorem dX11_again_34 : decode cX11_again 34 = .ok (.if_icmp .gt 72, 3) := by decide +kernel
theorem dX11_again_37 : decode cX11_again 37 = .ok (.aload_n 0, 1) := by decide +kernel
theorem dX11_again_38 : decode cX11_again 38 = .ok (.getfield 55, 3) := by decide +kernel
theorem dX11_again_41 : decode cX11_again 41 = .ok (.lload 4, 2) := by decide +kernel
theorem dX11_again_43 : decode cX11_again 43 = .ok (.invokevirtual 265, 3) := by decide +kernel
theorem dX11_again_46 : decode cX11_again 46 = .ok (.lstore 4, 2) := by decide +kernel
theorem dX11_again_48 : decode cX11_again 48 = .ok (.lload 4, 2) := by decide +kernel
theorem dX11_again_50 : decode cX11_again 50 = .ok (.ldc2_w 260, 3) := by decide +kernel
theorem dX11_again_53 : decode cX11_again 53 = .ok (.lcmp, 1) := by decide +kernel
theorem dX11_again_54 : decode cX11_again 54 = .ok (.ifCond .ne 5, 3) := by decide +kernel
theorem dX11_again_57 : decode cX11_again 57 = .ok (.iconst (-1), 1) := by decide +kernel
theorem dX11_again_58 : decode cX11_again 58 = .ok (.ireturn, 1) := by decide +kernel
theorem dX11_again_59 : decode cX11_again 59 = .ok (.aload_n 0, 1) := by decide +kernel
theorem dX11_again_60 : decode cX11_again 60 = .ok (.getfield 62, 3) := by decide +kernel
theorem dX11_again_63 : decode cX11_again 63 = .ok (.lload 4, 2) := by decide +kernel
theorem dX11_again_65 : decode cX11_again 65 = .ok (.invokevirtual 269, 3) := by decide +kernel
theorem dX11_again_68 : decode cX11_again 68 = .ok (.istore 7, 2) := by decide +kernel
theorem dX11_again_70 : decode cX11_again 70 = .ok (.iload 7, 2) := by decide +kernel
theorem dX11_again_72 : decode cX11_again 72 = .ok (.iconst (-1), 1) := by decide +kernel
theorem dX11_again_73 : decode cX11_again 73 = .ok (.if_icmp .eq 15, 3) := by decide +kernel
theorem dX11_again_76 : decode cX11_again 76 = .ok (.iload_n 3, 1) := by decide +kernel
theorem dX11_again_77 : decode cX11_again 77 = .ok (.ifCond .eq 8, 3) := by decide +kernel
theorem dX11_again_80 : decode cX11_again 80 = .ok (.iload 7, 2) := by decide +kernel
theorem dX11_again_82 : decode cX11_again 82 = .ok (.goto 5, 3) := by decide +kernel
theorem dX11_again_85 : decode cX11_again 85 = .ok (.iload 6, 2) := by decide +kernel
theorem dX11_again_87 : decode cX11_again 87 = .ok (.ireturn, 1) := by decide +kernel
theorem dX11_again_88 : decode cX11_again 88 = .ok (.aload_n 0, 1) := by decide +kernel
theorem dX11_again_89 : decode cX11_again 89 = .ok (.getfield 62, 3) := by decide +kernel
theorem dX11_again_92 : decode cX11_again 92 = .ok (.lload 4, 2) := by decide +kernel
theorem dX11_again_94 : decode cX11_again 94 = .ok (.iload 6, 2) := by decide +kernel
theorem dX11_again_96 : decode cX11_again 96 = .ok (.invokevirtual 272, 3) := by decide +kernel
theorem dX11_again_99 : decode cX11_again 99 = .ok (.pop, 1) := by decide +kernel
theorem dX11_again_100 : decode cX11_again 100 = .ok (.iinc 6 1, 3) := by decide +kernel
theorem dX11_again_103 : decode cX11_again 103 = .ok (.goto (-74), 3) := by decide +kernel
theorem dX11_again_106 : decode cX11_again 106 = .ok (.iconst (-1), 1) := by decide +kernel
theorem dX11_again_107 : decode cX11_again 107 = .ok (.ireturn, 1) := by decide +kernel
theorem dX11_alike_0 : decode cX11_alike 0 = .ok (.lload_n 1, 1) := by decide +kernel
theorem dX11_alike_1 : decode cX11_alike 1 = .ok (.invokestatic 169, 3) := by decide +kernel
theorem dX11_alike_4 : decode cX11_alike 4 = .ok (.lload_n 3, 1) := by decide +kernel
theorem dX11_alike_5 : decode cX11_alike 5 = .ok (.invokestatic 169, 3) := by decide +kernel
theorem dX11_alike_8 : decode cX11_alike 8 = .ok (.aload_n 0, 1) := by decide +kernel
theorem dX11_alike_9 : decode cX11_alike 9 = .ok (.getfield 55, 3) := by decide +kernel
theorem dX11_alike_12 : decode cX11_alike 12 = .ok (.aload_n 0, 1) := by decide +kernel
theorem dX11_alike_13 : decode cX11_alike 13 = .ok (.getfield 19, 3) := by decide +kernel
theorem dX11_alike_16 : decode cX11_alike 16 = .ok (.invokevirtual 198, 3) := by decide +kernel
theorem dX11_alike_19 : decode cX11_alike 19 = .ok (.aload_n 0, 1) := by decide +kernel
theorem dX11_alike_20 : decode cX11_alike 20 = .ok (.getfield 55, 3) := by decide +kernel
theorem dX11_alike_23 : decode cX11_alike 23 = .ok (.lload_n 1, 1) := by decide +kernel
theorem dX11_alike_24 : decode cX11_alike 24 = .ok (.sipush 200, 3) := by decide +kernel
theorem dX11_alike_27 : decode cX11_alike 27 = .ok (.invokevirtual 256, 3) := by decide +kernel
theorem dX11_alike_30 : decode cX11_alike 30 = .ok (.lstore 5, 2) := by decide +kernel
theorem dX11_alike_32 : decode cX11_alike 32 = .ok (.lload 5, 2) := by decide +kernel
theorem dX11_alike_34 : decode cX11_alike 34 = .ok (.ldc2_w 260, 3) := by decide +kernel
theorem dX11_alike_37 : decode cX11_alike 37 = .ok (.lcmp, 1) := by decide +kernel
theorem dX11_alike_38 : decode cX11_alike 38 = .ok (.ifCond .eq 24, 3) := by decide +kernel
theorem dX11_alike_41 : decode cX11_alike 41 = .ok (.lload 5, 2) := by decide +kernel
theorem dX11_alike_43 : decode cX11_alike 43 = .ok (.aload_n 0, 1) := by decide +kernel
theorem dX11_alike_44 : decode cX11_alike 44 = .ok (.getfield 55, 3) := by decide +kernel
theorem dX11_alike_47 : decode cX11_alike 47 = .ok (.lload_n 3, 1) := by decide +kernel
theorem dX11_alike_48 : decode cX11_alike 48 = .ok (.sipush 200, 3) := by decide +kernel
theorem dX11_alike_51 : decode cX11_alike 51 = .ok (.invokevirtual 256, 3) := by decide +kernel
theorem dX11_alike_54 : decode cX11_alike 54 = .ok (.lcmp, 1) := by decide +kernel
theorem dX11_alike_55 : decode cX11_alike 55 = .ok (.ifCond .ne 7, 3) := by decide +kernel
theorem dX11_alike_58 : decode cX11_alike 58 = .ok (.iconst 1, 1) := by decide +kernel
theorem dX11_alike_59 : decode cX11_alike 59 = .ok (.goto 4, 3) := by decide +kernel
theorem dX11_alike_62 : decode cX11_alike 62 = .ok (.iconst 0, 1) := by decide +kernel
theorem dX11_alike_63 : decode cX11_alike 63 = .ok (.ireturn, 1) := by decide +kernel
theorem dX11_endless_0 : decode cX11_endless 0 = .ok (.aload_n 0, 1) := by decide +kernel
theorem dX11_endless_1 : decode cX11_endless 1 = .ok (.getfield 55, 3) := by decide +kernel
theorem dX11_endless_4 : decode cX11_endless 4 = .ok (.aload_n 0, 1) := by decide +kernel
theorem dX11_endless_5 : decode cX11_endless 5 = .ok (.getfield 19, 3) := by decide +kernel
theorem dX11_endless_8 : decode cX11_endless 8 = .ok (.invokevirtual 198, 3) := by decide +kernel
theorem dX11_endless_11 : decode cX11_endless 11 = .ok (.aload_n 0, 1) := by decide +kernel
theorem dX11_endless_12 : decode cX11_endless 12 = .ok (.getfield 19, 3) := by decide +kernel
theorem dX11_endless_15 : decode cX11_endless 15 = .ok (.getfield 48, 3) := by decide +kernel
theorem dX11_endless_18 : decode cX11_endless 18 = .ok (.invokevirtual 276, 3) := by decide +kernel
theorem dX11_endless_21 : decode cX11_endless 21 = .ok (.istore_n 1, 1) := by decide +kernel
theorem dX11_endless_22 : decode cX11_endless 22 = .ok (.iconst 1, 1) := by decide +kernel
theorem dX11_endless_23 : decode cX11_endless 23 = .ok (.istore_n 2, 1) := by decide +kernel
theorem dX11_endless_24 : decode cX11_endless 24 = .ok (.iload_n 2, 1) := by decide +kernel
theorem dX11_endless_25 : decode cX11_endless 25 = .ok (.iconst 3, 1) := by decide +kernel
theorem dX11_endless_26 : decode cX11_endless 26 = .ok (.if_icmp .gt 76, 3) := by decide +kernel
theorem dX11_endless_29 : decode cX11_endless 29 = .ok (.lconst 1, 1) := by decide +kernel
theorem dX11_endless_30 : decode cX11_endless 30 = .ok (.iconst 3, 1) := by decide +kernel
theorem dX11_endless_31 : decode cX11_endless 31 = .ok (.iload_n 2, 1) := by decide +kernel
theorem dX11_endless_32 : decode cX11_endless 32 = .ok (.imul, 1) := by decide +kernel
theorem dX11_endless_33 : decode cX11_endless 33 = .ok (.lshl, 1) := by decide +kernel
theorem dX11_endless_34 : decode cX11_endless 34 = .ok (.iload_n 2, 1) := by decide +kernel
theorem dX11_endless_35 : decode cX11_endless 35 = .ok (.invokestatic 279, 3) := by decide +kernel
theorem dX11_endless_38 : decode cX11_endless 38 = .ok (.lor, 1) := by decide +kernel
theorem dX11_endless_39 : decode cX11_endless 39 = .ok (.lstore_n 3, 1) := by decide +kernel
theorem dX11_endless_40 : decode cX11_endless 40 = .ok (.lconst 1, 1) := by decide +kernel
theorem dX11_endless_41 : decode cX11_endless 41 = .ok (.iconst 3, 1) := by decide +kernel
theorem dX11_endless_42 : decode cX11_endless 42 = .ok (.iload_n 2, 1) := by decide +kernel
theorem dX11_endless_43 : decode cX11_endless 43 = .ok (.imul, 1) := by decide +kernel
theorem dX11_endless_44 : decode cX11_endless 44 = .ok (.lshl, 1) := by decide +kernel
theorem dX11_endless_45 : decode cX11_endless 45 = .ok (.lstore 5, 2) := by decide +kernel
theorem dX11_endless_47 : decode cX11_endless 47 = .ok (.lload 5, 2) := by decide +kernel
theorem dX11_endless_49 : decode cX11_endless 49 = .ok (.lload_n 3, 1) := by decide +kernel
theorem dX11_endless_50 : decode cX11_endless 50 = .ok (.lcmp, 1) := by decide +kernel
theorem dX11_endless_51 : decode cX11_endless 51 = .ok (.ifCond .gt 45, 3) := by decide +kernel
theorem dX11_endless_54 : decode cX11_endless 54 = .ok (.lload 5, 2) := by decide +kernel
theorem dX11_endless_56 : decode cX11_endless 56 = .ok (.invokestatic 283, 3) := by decide +kernel
theorem dX11_endless_59 : decode cX11_endless 59 = .ok (.iload_n 1, 1) := by decide +kernel
theorem dX11_endless_60 : decode cX11_endless 60 = .ok (.iconst (-1), 1) := by decide +kernel
theorem dX11_endless_61 : decode cX11_endless 61 = .ok (.ixor, 1) := by decide +kernel
theorem dX11_endless_62 : decode cX11_endless 62 = .ok (.iand, 1) := by decide +kernel
theorem dX11_endless_63 : decode cX11_endless 63 = .ok (.ifCond .ne 24, 3) := by decide +kernel
theorem dX11_endless_66 : decode cX11_endless 66 = .ok (.aload_n 0, 1) := by decide +kernel
theorem dX11_endless_67 : decode cX11_endless 67 = .ok (.getfield 55, 3) := by decide +kernel
theorem dX11_endless_70 : decode cX11_endless 70 = .ok (.lload 5, 2) := by decide +kernel
theorem dX11_endless_72 : decode cX11_endless 72 = .ok (.bipush 100, 2) := by decide +kernel
theorem dX11_endless_74 : decode cX11_endless 74 = .ok (.invokevirtual 256, 3) := by decide +kernel
theorem dX11_endless_77 : decode cX11_endless 77 = .ok (.ldc2_w 260, 3) := by decide +kernel
theorem dX11_endless_80 : decode cX11_endless 80 = .ok (.lcmp, 1) := by decide +kernel
theorem dX11_endless_81 : decode cX11_endless 81 = .ok (.ifCond .ne 6, 3) := by decide +kernel
theorem dX11_endless_84 : decode cX11_endless 84 = .ok (.lload 5, 2) := by decide +kernel
theorem dX11_endless_86 : decode cX11_endless 86 = .ok (.lreturn, 1) := by decide +kernel
theorem dX11_endless_87 : decode cX11_endless 87 = .ok (.lload 5, 2) := by decide +kernel
theorem dX11_endless_89 : decode cX11_endless 89 = .ok (.lconst 1, 1) := by decide +kernel
theorem dX11_endless_90 : decode cX11_endless 90 = .ok (.ladd, 1) := by decide +kernel
theorem dX11_endless_91 : decode cX11_endless 91 = .ok (.lstore 5, 2) := by decide +kernel
theorem dX11_endless_93 : decode cX11_endless 93 = .ok (.goto (-46), 3) := by decide +kernel
theorem dX11_endless_96 : decode cX11_endless 96 = .ok (.iinc 2 1, 3) := by decide +kernel
theorem dX11_endless_99 : decode cX11_endless 99 = .ok (.goto (-75), 3) := by decide +kernel
theorem dX11_endless_102 : decode cX11_endless 102 = .ok (.ldc2_w 260, 3) := by decide +kernel
theorem dX11_endless_105 : decode cX11_endless 105 = .ok (.lreturn, 1) := by decide +kernel
theorem dX11_reckons_0 : decode cX11_reckons 0 = .ok (.iload_n 2, 1) := by decide +kernel
theorem dX11_reckons_1 : decode cX11_reckons 1 = .ok (.iconst 0, 1) := by decide +kernel
theorem dX11_reckons_2 : decode cX11_reckons 2 = .ok (.iconst 4, 1) := by decide +kernel
theorem dX11_reckons_3 : decode cX11_reckons 3 = .ok (.invokestatic 215, 3) := by decide +kernel
theorem dX11_reckons_6 : decode cX11_reckons 6 = .ok (.iload_n 1, 1) := by decide +kernel
theorem dX11_reckons_7 : decode cX11_reckons 7 = .ok (.iconst 0, 1) := by decide +kernel
theorem dX11_reckons_8 : decode cX11_reckons 8 = .ok (.iconst 3, 1) := by decide +kernel
theorem dX11_reckons_9 : decode cX11_reckons 9 = .ok (.invokestatic 215, 3) := by decide +kernel
theorem dX11_reckons_12 : decode cX11_reckons 12 = .ok (.aload_n 0, 1) := by decide +kernel
theorem dX11_reckons_13 : decode cX11_reckons 13 = .ok (.getfield 55, 3) := by decide +kernel
theorem dX11_reckons_16 : decode cX11_reckons 16 = .ok (.aload_n 0, 1) := by decide +kernel
theorem dX11_reckons_17 : decode cX11_reckons 17 = .ok (.getfield 19, 3) := by decide +kernel
theorem dX11_reckons_20 : decode cX11_reckons 20 = .ok (.invokevirtual 198, 3) := by decide +kernel
theorem dX11_reckons_23 : decode cX11_reckons 23 = .ok (.iload_n 1, 1) := by decide +kernel
theorem dX11_reckons_24 : decode cX11_reckons 24 = .ok (.ifCond .ne 11, 3) := by decide +kernel
theorem dX11_reckons_27 : decode cX11_reckons 27 = .ok (.aload_n 0, 1) := by decide +kernel
theorem dX11_reckons_28 : decode cX11_reckons 28 = .ok (.iload_n 2, 1) := by decide +kernel
theorem dX11_reckons_29 : decode cX11_reckons 29 = .ok (.invokevirtual 286, 3) := by decide +kernel
theorem dX11_reckons_32 : decode cX11_reckons 32 = .ok (.goto 22, 3) := by decide +kernel
theorem dX11_reckons_35 : decode cX11_reckons 35 = .ok (.iload_n 1, 1) := by decide +kernel
theorem dX11_reckons_36 : decode cX11_reckons 36 = .ok (.iconst 1, 1) := by decide +kernel
theorem dX11_reckons_37 : decode cX11_reckons 37 = .ok (.if_icmp .ne 11, 3) := by decide +kernel
theorem dX11_reckons_40 : decode cX11_reckons 40 = .ok (.aload_n 0, 1) := by decide +kernel
theorem dX11_reckons_41 : decode cX11_reckons 41 = .ok (.iload_n 2, 1) := by decide +kernel
theorem dX11_reckons_42 : decode cX11_reckons 42 = .ok (.invokevirtual 289, 3) := by decide +kernel
theorem dX11_reckons_45 : decode cX11_reckons 45 = .ok (.goto 9, 3) := by decide +kernel
theorem dX11_reckons_48 : decode cX11_reckons 48 = .ok (.aload_n 0, 1) := by decide +kernel
theorem dX11_reckons_49 : decode cX11_reckons 49 = .ok (.iload_n 1, 1) := by decide +kernel
theorem dX11_reckons_50 : decode cX11_reckons 50 = .ok (.iload_n 2, 1) := by decide +kernel
theorem dX11_reckons_51 : decode cX11_reckons 51 = .ok (.invokevirtual 292, 3) := by decide +kernel
theorem dX11_reckons_54 : decode cX11_reckons 54 = .ok (.lreturn, 1) := by decide +kernel
theorem dX11_reckonsSums_0 : decode cX11_reckonsSums 0 = .ok (.iconst 0, 1) := by decide +kernel
theorem dX11_reckonsSums_1 : decode cX11_reckonsSums 1 = .ok (.istore_n 2, 1) := by decide +kernel
theorem dX11_reckonsSums_2 : decode cX11_reckonsSums 2 = .ok (.iload_n 2, 1) := by decide +kernel
theorem dX11_reckonsSums_3 : decode cX11_reckonsSums 3 = .ok (.iload_n 1, 1) := by decide +kernel
theorem dX11_reckonsSums_4 : decode cX11_reckonsSums 4 = .ok (.if_icmp .gt 60, 3) := by decide +kernel
theorem dX11_reckonsSums_7 : decode cX11_reckonsSums 7 = .ok (.iconst 0, 1) := by decide +kernel
theorem dX11_reckonsSums_8 : decode cX11_reckonsSums 8 = .ok (.istore_n 3, 1) := by decide +kernel
theorem dX11_reckonsSums_9 : decode cX11_reckonsSums 9 = .ok (.iload_n 3, 1) := by decide +kernel
theorem dX11_reckonsSums_10 : decode cX11_reckonsSums 10 = .ok (.iload_n 1, 1) := by decide +kernel
theorem dX11_reckonsSums_11 : decode cX11_reckonsSums 11 = .ok (.if_icmp .gt 47, 3) := by decide +kernel
theorem dX11_reckonsSums_14 : decode cX11_reckonsSums 14 = .ok (.lconst 1, 1) := by decide +kernel
theorem dX11_reckonsSums_15 : decode cX11_reckonsSums 15 = .ok (.iconst 0, 1) := by decide +kernel
theorem dX11_reckonsSums_16 : decode cX11_reckonsSums 16 = .ok (.iload_n 2, 1) := by decide +kernel
theorem dX11_reckonsSums_17 : decode cX11_reckonsSums 17 = .ok (.invokestatic 296, 3) := by decide +kernel
theorem dX11_reckonsSums_20 : decode cX11_reckonsSums 20 = .ok (.iconst 1, 1) := by decide +kernel
theorem dX11_reckonsSums_21 : decode cX11_reckonsSums 21 = .ok (.iconst 1, 1) := by decide +kernel
theorem dX11_reckonsSums_22 : decode cX11_reckonsSums 22 = .ok (.invokestatic 296, 3) := by decide +kernel
theorem dX11_reckonsSums_25 : decode cX11_reckonsSums 25 = .ok (.iconst 0, 1) := by decide +kernel
theorem dX11_reckonsSums_26 : decode cX11_reckonsSums 26 = .ok (.iload_n 3, 1) := by decide +kernel
theorem dX11_reckonsSums_27 : decode cX11_reckonsSums 27 = .ok (.invokestatic 296, 3) := by decide +kernel
theorem dX11_reckonsSums_30 : decode cX11_reckonsSums 30 = .ok (.lstore 4, 2) := by decide +kernel
theorem dX11_reckonsSums_32 : decode cX11_reckonsSums 32 = .ok (.aload_n 0, 1) := by decide +kernel
theorem dX11_reckonsSums_33 : decode cX11_reckonsSums 33 = .ok (.lload 4, 2) := by decide +kernel
theorem dX11_reckonsSums_35 : decode cX11_reckonsSums 35 = .ok (.lconst 1, 1) := by decide +kernel
theorem dX11_reckonsSums_36 : decode cX11_reckonsSums 36 = .ok (.iconst 0, 1) := by decide +kernel
theorem dX11_reckonsSums_37 : decode cX11_reckonsSums 37 = .ok (.iload_n 2, 1) := by decide +kernel
theorem dX11_reckonsSums_38 : decode cX11_reckonsSums 38 = .ok (.iload_n 3, 1) := by decide +kernel
theorem dX11_reckonsSums_39 : decode cX11_reckonsSums 39 = .ok (.iadd, 1) := by decide +kernel
theorem dX11_reckonsSums_40 : decode cX11_reckonsSums 40 = .ok (.invokestatic 296, 3) := by decide +kernel
theorem dX11_reckonsSums_43 : decode cX11_reckonsSums 43 = .ok (.invokevirtual 300, 3) := by decide +kernel
theorem dX11_reckonsSums_46 : decode cX11_reckonsSums 46 = .ok (.ifCond .ne 6, 3) := by decide +kernel
theorem dX11_reckonsSums_49 : decode cX11_reckonsSums 49 = .ok (.lload 4, 2) := by decide +kernel
theorem dX11_reckonsSums_51 : decode cX11_reckonsSums 51 = .ok (.lreturn, 1) := by decide +kernel
theorem dX11_reckonsSums_52 : decode cX11_reckonsSums 52 = .ok (.iinc 3 1, 3) := by decide +kernel
theorem dX11_reckonsSums_55 : decode cX11_reckonsSums 55 = .ok (.goto (-46), 3) := by decide +kernel
theorem dX11_reckonsSums_58 : decode cX11_reckonsSums 58 = .ok (.iinc 2 1, 3) := by decide +kernel
theorem dX11_reckonsSums_61 : decode cX11_reckonsSums 61 = .ok (.goto (-59), 3) := by decide +kernel
theorem dX11_reckonsSums_64 : decode cX11_reckonsSums 64 = .ok (.ldc2_w 260, 3) := by decide +kernel
theorem dX11_reckonsSums_67 : decode cX11_reckonsSums 67 = .ok (.lreturn, 1) := by decide +kernel
theorem dX11_reckonsOrder_0 : decode cX11_reckonsOrder 0 = .ok (.iconst 0, 1) := by decide +kernel
theorem dX11_reckonsOrder_1 : decode cX11_reckonsOrder 1 = .ok (.istore_n 2, 1) := by decide +kernel
theorem dX11_reckonsOrder_2 : decode cX11_reckonsOrder 2 = .ok (.iload_n 2, 1) := by decide +kernel
theorem dX11_reckonsOrder_3 : decode cX11_reckonsOrder 3 = .ok (.iconst 1, 1) := by decide +kernel
theorem dX11_reckonsOrder_4 : decode cX11_reckonsOrder 4 = .ok (.iload_n 1, 1) := by decide +kernel
theorem dX11_reckonsOrder_5 : decode cX11_reckonsOrder 5 = .ok (.ishl, 1) := by decide +kernel
theorem dX11_reckonsOrder_6 : decode cX11_reckonsOrder 6 = .ok (.if_icmp .ge 70, 3) := by decide +kernel
theorem dX11_reckonsOrder_9 : decode cX11_reckonsOrder 9 = .ok (.lconst 1, 1) := by decide +kernel
theorem dX11_reckonsOrder_10 : decode cX11_reckonsOrder 10 = .ok (.lstore_n 3, 1) := by decide +kernel
theorem dX11_reckonsOrder_11 : decode cX11_reckonsOrder 11 = .ok (.iload_n 1, 1) := by decide +kernel
theorem dX11_reckonsOrder_12 : decode cX11_reckonsOrder 12 = .ok (.iconst 1, 1) := by decide +kernel
theorem dX11_reckonsOrder_13 : decode cX11_reckonsOrder 13 = .ok (.isub, 1) := by decide +kernel
theorem dX11_reckonsOrder_14 : decode cX11_reckonsOrder 14 = .ok (.istore 5, 2) := by decide +kernel
theorem dX11_reckonsOrder_16 : decode cX11_reckonsOrder 16 = .ok (.iload 5, 2) := by decide +kernel
theorem dX11_reckonsOrder_18 : decode cX11_reckonsOrder 18 = .ok (.ifCond .lt 21, 3) := by decide +kernel
theorem dX11_reckonsOrder_21 : decode cX11_reckonsOrder 21 = .ok (.lload_n 3, 1) := by decide +kernel
theorem dX11_reckonsOrder_22 : decode cX11_reckonsOrder 22 = .ok (.iload_n 2, 1) := by decide +kernel
theorem dX11_reckonsOrder_23 : decode cX11_reckonsOrder 23 = .ok (.iload 5, 2) := by decide +kernel
theorem dX11_reckonsOrder_25 : decode cX11_reckonsOrder 25 = .ok (.ishr, 1) := by decide +kernel
theorem dX11_reckonsOrder_26 : decode cX11_reckonsOrder 26 = .ok (.iconst 1, 1) := by decide +kernel
theorem dX11_reckonsOrder_27 : decode cX11_reckonsOrder 27 = .ok (.iand, 1) := by decide +kernel
theorem dX11_reckonsOrder_28 : decode cX11_reckonsOrder 28 = .ok (.iconst 1, 1) := by decide +kernel
theorem dX11_reckonsOrder_29 : decode cX11_reckonsOrder 29 = .ok (.invokestatic 296, 3) := by decide +kernel
theorem dX11_reckonsOrder_32 : decode cX11_reckonsOrder 32 = .ok (.lstore_n 3, 1) := by decide +kernel
theorem dX11_reckonsOrder_33 : decode cX11_reckonsOrder 33 = .ok (.iinc 5 (-1), 3) := by decide +kernel
theorem dX11_reckonsOrder_36 : decode cX11_reckonsOrder 36 = .ok (.goto (-20), 3) := by decide +kernel
theorem dX11_reckonsOrder_39 : decode cX11_reckonsOrder 39 = .ok (.iload_n 2, 1) := by decide +kernel
theorem dX11_reckonsOrder_40 : decode cX11_reckonsOrder 40 = .ok (.invokestatic 304, 3) := by decide +kernel
theorem dX11_reckonsOrder_43 : decode cX11_reckonsOrder 43 = .ok (.istore 5, 2) := by decide +kernel
theorem dX11_reckonsOrder_45 : decode cX11_reckonsOrder 45 = .ok (.aload_n 0, 1) := by decide +kernel
theorem dX11_reckonsOrder_46 : decode cX11_reckonsOrder 46 = .ok (.lload_n 3, 1) := by decide +kernel
theorem dX11_reckonsOrder_47 : decode cX11_reckonsOrder 47 = .ok (.lconst 1, 1) := by decide +kernel
theorem dX11_reckonsOrder_48 : decode cX11_reckonsOrder 48 = .ok (.iconst 0, 1) := by decide +kernel
theorem dX11_reckonsOrder_49 : decode cX11_reckonsOrder 49 = .ok (.iload_n 1, 1) := by decide +kernel
theorem dX11_reckonsOrder_50 : decode cX11_reckonsOrder 50 = .ok (.iload 5, 2) := by decide +kernel
theorem dX11_reckonsOrder_52 : decode cX11_reckonsOrder 52 = .ok (.isub, 1) := by decide +kernel
theorem dX11_reckonsOrder_53 : decode cX11_reckonsOrder 53 = .ok (.invokestatic 296, 3) := by decide +kernel
theorem dX11_reckonsOrder_56 : decode cX11_reckonsOrder 56 = .ok (.iconst 1, 1) := by decide +kernel
theorem dX11_reckonsOrder_57 : decode cX11_reckonsOrder 57 = .ok (.iload 5, 2) := by decide +kernel
theorem dX11_reckonsOrder_59 : decode cX11_reckonsOrder 59 = .ok (.invokestatic 296, 3) := by decide +kernel
theorem dX11_reckonsOrder_62 : decode cX11_reckonsOrder 62 = .ok (.invokevirtual 300, 3) := by decide +kernel
theorem dX11_reckonsOrder_65 : decode cX11_reckonsOrder 65 = .ok (.ifCond .ne 5, 3) := by decide +kernel
theorem dX11_reckonsOrder_68 : decode cX11_reckonsOrder 68 = .ok (.lload_n 3, 1) := by decide +kernel
theorem dX11_reckonsOrder_69 : decode cX11_reckonsOrder 69 = .ok (.lreturn, 1) := by decide +kernel
theorem dX11_reckonsOrder_70 : decode cX11_reckonsOrder 70 = .ok (.iinc 2 1, 3) := by decide +kernel
theorem dX11_reckonsOrder_73 : decode cX11_reckonsOrder 73 = .ok (.goto (-71), 3) := by decide +kernel
theorem dX11_reckonsOrder_76 : decode cX11_reckonsOrder 76 = .ok (.ldc2_w 260, 3) := by decide +kernel
theorem dX11_reckonsOrder_79 : decode cX11_reckonsOrder 79 = .ok (.lreturn, 1) := by decide +kernel
theorem dX11_reckonsEach_0 : decode cX11_reckonsEach 0 = .ok (.iconst 0, 1) := by decide +kernel
theorem dX11_reckonsEach_1 : decode cX11_reckonsEach 1 = .ok (.istore_n 3, 1) := by decide +kernel
theorem dX11_reckonsEach_2 : decode cX11_reckonsEach 2 = .ok (.iload_n 3, 1) := by decide +kernel
theorem dX11_reckonsEach_3 : decode cX11_reckonsEach 3 = .ok (.iload_n 2, 1) := by decide +kernel
theorem dX11_reckonsEach_4 : decode cX11_reckonsEach 4 = .ok (.if_icmp .gt 83, 3) := by decide +kernel
theorem dX11_reckonsEach_7 : decode cX11_reckonsEach 7 = .ok (.lconst 1, 1) := by decide +kernel
theorem dX11_reckonsEach_8 : decode cX11_reckonsEach 8 = .ok (.iconst 0, 1) := by decide +kernel
theorem dX11_reckonsEach_9 : decode cX11_reckonsEach 9 = .ok (.iload_n 3, 1) := by decide +kernel
theorem dX11_reckonsEach_10 : decode cX11_reckonsEach 10 = .ok (.invokestatic 296, 3) := by decide +kernel
theorem dX11_reckonsEach_13 : decode cX11_reckonsEach 13 = .ok (.lstore 4, 2) := by decide +kernel
theorem dX11_reckonsEach_15 : decode cX11_reckonsEach 15 = .ok (.lload 4, 2) := by decide +kernel
theorem dX11_reckonsEach_17 : decode cX11_reckonsEach 17 = .ok (.iconst 2, 1) := by decide +kernel
theorem dX11_reckonsEach_18 : decode cX11_reckonsEach 18 = .ok (.iconst 1, 1) := by decide +kernel
theorem dX11_reckonsEach_19 : decode cX11_reckonsEach 19 = .ok (.invokestatic 296, 3) := by decide +kernel
theorem dX11_reckonsEach_22 : decode cX11_reckonsEach 22 = .ok (.lstore 6, 2) := by decide +kernel
theorem dX11_reckonsEach_24 : decode cX11_reckonsEach 24 = .ok (.iload_n 1, 1) := by decide +kernel
theorem dX11_reckonsEach_25 : decode cX11_reckonsEach 25 = .ok (.iconst 2, 1) := by decide +kernel
theorem dX11_reckonsEach_26 : decode cX11_reckonsEach 26 = .ok (.if_icmp .ne 8, 3) := by decide +kernel
theorem dX11_reckonsEach_29 : decode cX11_reckonsEach 29 = .ok (.lload 6, 2) := by decide +kernel
theorem dX11_reckonsEach_31 : decode cX11_reckonsEach 31 = .ok (.goto 15, 3) := by decide +kernel
theorem dX11_reckonsEach_34 : decode cX11_reckonsEach 34 = .ok (.lload 4, 2) := by decide +kernel
theorem dX11_reckonsEach_36 : decode cX11_reckonsEach 36 = .ok (.iconst 0, 1) := by decide +kernel
theorem dX11_reckonsEach_37 : decode cX11_reckonsEach 37 = .ok (.iload_n 3, 1) := by decide +kernel
theorem dX11_reckonsEach_38 : decode cX11_reckonsEach 38 = .ok (.invokestatic 296, 3) := by decide +kernel
theorem dX11_reckonsEach_41 : decode cX11_reckonsEach 41 = .ok (.iconst 3, 1) := by decide +kernel
theorem dX11_reckonsEach_42 : decode cX11_reckonsEach 42 = .ok (.iconst 1, 1) := by decide +kernel
theorem dX11_reckonsEach_43 : decode cX11_reckonsEach 43 = .ok (.invokestatic 296, 3) := by decide +kernel
theorem dX11_reckonsEach_46 : decode cX11_reckonsEach 46 = .ok (.lstore 8, 2) := by decide +kernel
theorem dX11_reckonsEach_48 : decode cX11_reckonsEach 48 = .ok (.iload_n 1, 1) := by decide +kernel
theorem dX11_reckonsEach_49 : decode cX11_reckonsEach 49 = .ok (.iconst 2, 1) := by decide +kernel
theorem dX11_reckonsEach_50 : decode cX11_reckonsEach 50 = .ok (.if_icmp .ne 13, 3) := by decide +kernel
theorem dX11_reckonsEach_53 : decode cX11_reckonsEach 53 = .ok (.lload 6, 2) := by decide +kernel
theorem dX11_reckonsEach_55 : decode cX11_reckonsEach 55 = .ok (.iconst 0, 1) := by decide +kernel
theorem dX11_reckonsEach_56 : decode cX11_reckonsEach 56 = .ok (.iload_n 3, 1) := by decide +kernel
theorem dX11_reckonsEach_57 : decode cX11_reckonsEach 57 = .ok (.invokestatic 296, 3) := by decide +kernel
theorem dX11_reckonsEach_60 : decode cX11_reckonsEach 60 = .ok (.goto 5, 3) := by decide +kernel
theorem dX11_reckonsEach_63 : decode cX11_reckonsEach 63 = .ok (.lload 4, 2) := by decide +kernel
theorem dX11_reckonsEach_65 : decode cX11_reckonsEach 65 = .ok (.lstore 10, 2) := by decide +kernel
theorem dX11_reckonsEach_67 : decode cX11_reckonsEach 67 = .ok (.aload_n 0, 1) := by decide +kernel
theorem dX11_reckonsEach_68 : decode cX11_reckonsEach 68 = .ok (.lload 8, 2) := by decide +kernel
theorem dX11_reckonsEach_70 : decode cX11_reckonsEach 70 = .ok (.lload 10, 2) := by decide +kernel
theorem dX11_reckonsEach_72 : decode cX11_reckonsEach 72 = .ok (.invokevirtual 300, 3) := by decide +kernel
theorem dX11_reckonsEach_75 : decode cX11_reckonsEach 75 = .ok (.ifCond .ne 6, 3) := by decide +kernel
theorem dX11_reckonsEach_78 : decode cX11_reckonsEach 78 = .ok (.lload 8, 2) := by decide +kernel
theorem dX11_reckonsEach_80 : decode cX11_reckonsEach 80 = .ok (.lreturn, 1) := by decide +kernel
theorem dX11_reckonsEach_81 : decode cX11_reckonsEach 81 = .ok (.iinc 3 1, 3) := by decide +kernel
theorem dX11_reckonsEach_84 : decode cX11_reckonsEach 84 = .ok (.goto (-82), 3) := by decide +kernel
theorem dX11_reckonsEach_87 : decode cX11_reckonsEach 87 = .ok (.ldc2_w 260, 3) := by decide +kernel
theorem dX11_reckonsEach_90 : decode cX11_reckonsEach 90 = .ok (.lreturn, 1) := by decide +kernel
theorem dX11_settlesTo_0 : decode cX11_settlesTo 0 = .ok (.aload_n 0, 1) := by decide +kernel
theorem dX11_settlesTo_1 : decode cX11_settlesTo 1 = .ok (.getfield 55, 3) := by decide +kernel
theorem dX11_settlesTo_4 : decode cX11_settlesTo 4 = .ok (.lload_n 1, 1) := by decide +kernel
theorem dX11_settlesTo_5 : decode cX11_settlesTo 5 = .ok (.sipush 200, 3) := by decide +kernel
theorem dX11_settlesTo_8 : decode cX11_settlesTo 8 = .ok (.invokevirtual 256, 3) := by decide +kernel
theorem dX11_settlesTo_11 : decode cX11_settlesTo 11 = .ok (.lload_n 3, 1) := by decide +kernel
theorem dX11_settlesTo_12 : decode cX11_settlesTo 12 = .ok (.lcmp, 1) := by decide +kernel
theorem dX11_settlesTo_13 : decode cX11_settlesTo 13 = .ok (.ifCond .ne 7, 3) := by decide +kernel
theorem dX11_settlesTo_16 : decode cX11_settlesTo 16 = .ok (.iconst 1, 1) := by decide +kernel
theorem dX11_settlesTo_17 : decode cX11_settlesTo 17 = .ok (.goto 4, 3) := by decide +kernel
theorem dX11_settlesTo_20 : decode cX11_settlesTo 20 = .ok (.iconst 0, 1) := by decide +kernel
theorem dX11_settlesTo_21 : decode cX11_settlesTo 21 = .ok (.ireturn, 1) := by decide +kernel
theorem dX11_dropped_0 : decode cX11_dropped 0 = .ok (.aload_n 0, 1) := by decide +kernel
theorem dX11_dropped_1 : decode cX11_dropped 1 = .ok (.getfield 55, 3) := by decide +kernel
theorem dX11_dropped_4 : decode cX11_dropped 4 = .ok (.aload_n 0, 1) := by decide +kernel
theorem dX11_dropped_5 : decode cX11_dropped 5 = .ok (.getfield 19, 3) := by decide +kernel
theorem dX11_dropped_8 : decode cX11_dropped 8 = .ok (.invokevirtual 198, 3) := by decide +kernel
theorem dX11_dropped_11 : decode cX11_dropped 11 = .ok (.bipush 8, 2) := by decide +kernel
theorem dX11_dropped_13 : decode cX11_dropped 13 = .ok (.aload_n 0, 1) := by decide +kernel
theorem dX11_dropped_14 : decode cX11_dropped 14 = .ok (.getfield 19, 3) := by decide +kernel
theorem dX11_dropped_17 : decode cX11_dropped 17 = .ok (.getfield 48, 3) := by decide +kernel
theorem dX11_dropped_20 : decode cX11_dropped 20 = .ok (.getfield 230, 3) := by decide +kernel
theorem dX11_dropped_23 : decode cX11_dropped 23 = .ok (.invokestatic 310, 3) := by decide +kernel
theorem dX11_dropped_26 : decode cX11_dropped 26 = .ok (.istore_n 2, 1) := by decide +kernel
theorem dX11_dropped_27 : decode cX11_dropped 27 = .ok (.iconst 0, 1) := by decide +kernel
theorem dX11_dropped_28 : decode cX11_dropped 28 = .ok (.istore_n 3, 1) := by decide +kernel
theorem dX11_dropped_29 : decode cX11_dropped 29 = .ok (.iload_n 3, 1) := by decide +kernel
theorem dX11_dropped_30 : decode cX11_dropped 30 = .ok (.iload_n 2, 1) := by decide +kernel
theorem dX11_dropped_31 : decode cX11_dropped 31 = .ok (.if_icmp .gt 48, 3) := by decide +kernel
theorem dX11_dropped_34 : decode cX11_dropped 34 = .ok (.iconst 0, 1) := by decide +kernel
theorem dX11_dropped_35 : decode cX11_dropped 35 = .ok (.istore 4, 2) := by decide +kernel
theorem dX11_dropped_37 : decode cX11_dropped 37 = .ok (.iload 4, 2) := by decide +kernel
theorem dX11_dropped_39 : decode cX11_dropped 39 = .ok (.iconst 1, 1) := by decide +kernel
theorem dX11_dropped_40 : decode cX11_dropped 40 = .ok (.iload_n 2, 1) := by decide +kernel
theorem dX11_dropped_41 : decode cX11_dropped 41 = .ok (.ishl, 1) := by decide +kernel
theorem dX11_dropped_42 : decode cX11_dropped 42 = .ok (.if_icmp .ge 31, 3) := by decide +kernel
theorem dX11_dropped_45 : decode cX11_dropped 45 = .ok (.iload 4, 2) := by decide +kernel
theorem dX11_dropped_47 : decode cX11_dropped 47 = .ok (.invokestatic 304, 3) := by decide +kernel
theorem dX11_dropped_50 : decode cX11_dropped 50 = .ok (.iload_n 3, 1) := by decide +kernel
theorem dX11_dropped_51 : decode cX11_dropped 51 = .ok (.if_icmp .ne 16, 3) := by decide +kernel
theorem dX11_dropped_54 : decode cX11_dropped 54 = .ok (.aload_n 0, 1) := by decide +kernel
theorem dX11_dropped_55 : decode cX11_dropped 55 = .ok (.iload 4, 2) := by decide +kernel
theorem dX11_dropped_57 : decode cX11_dropped 57 = .ok (.iload_n 1, 1) := by decide +kernel
theorem dX11_dropped_58 : decode cX11_dropped 58 = .ok (.invokevirtual 316, 3) := by decide +kernel
theorem dX11_dropped_61 : decode cX11_dropped 61 = .ok (.ifCond .eq 6, 3) := by decide +kernel
theorem dX11_dropped_64 : decode cX11_dropped 64 = .ok (.iload 4, 2) := by decide +kernel
theorem dX11_dropped_66 : decode cX11_dropped 66 = .ok (.ireturn, 1) := by decide +kernel
theorem dX11_dropped_67 : decode cX11_dropped 67 = .ok (.iinc 4 1, 3) := by decide +kernel
theorem dX11_dropped_70 : decode cX11_dropped 70 = .ok (.goto (-33), 3) := by decide +kernel
theorem dX11_dropped_73 : decode cX11_dropped 73 = .ok (.iinc 3 1, 3) := by decide +kernel
theorem dX11_dropped_76 : decode cX11_dropped 76 = .ok (.goto (-47), 3) := by decide +kernel
theorem dX11_dropped_79 : decode cX11_dropped 79 = .ok (.iconst (-1), 1) := by decide +kernel
theorem dX11_dropped_80 : decode cX11_dropped 80 = .ok (.ireturn, 1) := by decide +kernel
theorem dX11_settlesWithout_0 : decode cX11_settlesWithout 0 = .ok (.aload_n 0, 1) := by decide +kernel
theorem dX11_settlesWithout_1 : decode cX11_settlesWithout 1 = .ok (.getfield 55, 3) := by decide +kernel
theorem dX11_settlesWithout_4 : decode cX11_settlesWithout 4 = .ok (.iload_n 1, 1) := by decide +kernel
theorem dX11_settlesWithout_5 : decode cX11_settlesWithout 5 = .ok (.putfield 320, 3) := by decide +kernel
theorem dX11_settlesWithout_8 : decode cX11_settlesWithout 8 = .ok (.iconst 0, 1) := by decide +kernel
theorem dX11_settlesWithout_9 : decode cX11_settlesWithout 9 = .ok (.istore_n 3, 1) := by decide +kernel
theorem dX11_settlesWithout_10 : decode cX11_settlesWithout 10 = .ok (.iload_n 3, 1) := by decide +kernel
theorem dX11_settlesWithout_11 : decode cX11_settlesWithout 11 = .ok (.aload_n 0, 1) := by decide +kernel
theorem dX11_settlesWithout_12 : decode cX11_settlesWithout 12 = .ok (.getfield 19, 3) := by decide +kernel
theorem dX11_settlesWithout_15 : decode cX11_settlesWithout 15 = .ok (.getfield 323, 3) := by decide +kernel
theorem dX11_settlesWithout_18 : decode cX11_settlesWithout 18 = .ok (.if_icmp .ge 47, 3) := by decide +kernel
theorem dX11_settlesWithout_21 : decode cX11_settlesWithout 21 = .ok (.iload_n 2, 1) := by decide +kernel
theorem dX11_settlesWithout_22 : decode cX11_settlesWithout 22 = .ok (.iload_n 3, 1) := by decide +kernel
theorem dX11_settlesWithout_23 : decode cX11_settlesWithout 23 = .ok (.ishr, 1) := by decide +kernel
theorem dX11_settlesWithout_24 : decode cX11_settlesWithout 24 = .ok (.iconst 1, 1) := by decide +kernel
theorem dX11_settlesWithout_25 : decode cX11_settlesWithout 25 = .ok (.iand, 1) := by decide +kernel
theorem dX11_settlesWithout_26 : decode cX11_settlesWithout 26 = .ok (.ifCond .eq 33, 3) := by decide +kernel
theorem dX11_settlesWithout_29 : decode cX11_settlesWithout 29 = .ok (.aload_n 0, 1) := by decide +kernel
theorem dX11_settlesWithout_30 : decode cX11_settlesWithout 30 = .ok (.getfield 55, 3) := by decide +kernel
theorem dX11_settlesWithout_33 : decode cX11_settlesWithout 33 = .ok (.aload_n 0, 1) := by decide +kernel
theorem dX11_settlesWithout_34 : decode cX11_settlesWithout 34 = .ok (.getfield 19, 3) := by decide +kernel
theorem dX11_settlesWithout_37 : decode cX11_settlesWithout 37 = .ok (.getfield 150, 3) := by decide +kernel
theorem dX11_settlesWithout_40 : decode cX11_settlesWithout 40 = .ok (.iload_n 3, 1) := by decide +kernel
theorem dX11_settlesWithout_41 : decode cX11_settlesWithout 41 = .ok (.aaload, 1) := by decide +kernel
theorem dX11_settlesWithout_42 : decode cX11_settlesWithout 42 = .ok (.getfield 154, 3) := by decide +kernel
theorem dX11_settlesWithout_45 : decode cX11_settlesWithout 45 = .ok (.bipush 100, 2) := by decide +kernel
theorem dX11_settlesWithout_47 : decode cX11_settlesWithout 47 = .ok (.invokevirtual 256, 3) := by decide +kernel
theorem dX11_settlesWithout_50 : decode cX11_settlesWithout 50 = .ok (.ldc2_w 260, 3) := by decide +kernel
theorem dX11_settlesWithout_53 : decode cX11_settlesWithout 53 = .ok (.lcmp, 1) := by decide +kernel
theorem dX11_settlesWithout_54 : decode cX11_settlesWithout 54 = .ok (.ifCond .ne 5, 3) := by decide +kernel
theorem dX11_settlesWithout_57 : decode cX11_settlesWithout 57 = .ok (.iconst 0, 1) := by decide +kernel
theorem dX11_settlesWithout_58 : decode cX11_settlesWithout 58 = .ok (.ireturn, 1) := by decide +kernel
theorem dX11_settlesWithout_59 : decode cX11_settlesWithout 59 = .ok (.iinc 3 1, 3) := by decide +kernel
theorem dX11_settlesWithout_62 : decode cX11_settlesWithout 62 = .ok (.goto (-52), 3) := by decide +kernel
theorem dX11_settlesWithout_65 : decode cX11_settlesWithout 65 = .ok (.iconst 1, 1) := by decide +kernel
theorem dX11_settlesWithout_66 : decode cX11_settlesWithout 66 = .ok (.ireturn, 1) := by decide +kernel
theorem dX11_becomes_0 : decode cX11_becomes 0 = .ok (.lload_n 1, 1) := by decide +kernel
theorem dX11_becomes_1 : decode cX11_becomes 1 = .ok (.invokestatic 169, 3) := by decide +kernel
theorem dX11_becomes_4 : decode cX11_becomes 4 = .ok (.iload_n 3, 1) := by decide +kernel
theorem dX11_becomes_5 : decode cX11_becomes 5 = .ok (.iconst 0, 1) := by decide +kernel
theorem dX11_becomes_6 : decode cX11_becomes 6 = .ok (.bipush 40, 2) := by decide +kernel
theorem dX11_becomes_8 : decode cX11_becomes 8 = .ok (.invokestatic 215, 3) := by decide +kernel
theorem dX11_becomes_11 : decode cX11_becomes 11 = .ok (.iload 4, 2) := by decide +kernel
theorem dX11_becomes_13 : decode cX11_becomes 13 = .ok (.iconst 4, 1) := by decide +kernel
theorem dX11_becomes_14 : decode cX11_becomes 14 = .ok (.invokestatic 187, 3) := by decide +kernel
theorem dX11_becomes_17 : decode cX11_becomes 17 = .ok (.aload_n 0, 1) := by decide +kernel
theorem dX11_becomes_18 : decode cX11_becomes 18 = .ok (.getfield 55, 3) := by decide +kernel
theorem dX11_becomes_21 : decode cX11_becomes 21 = .ok (.aload_n 0, 1) := by decide +kernel
theorem dX11_becomes_22 : decode cX11_becomes 22 = .ok (.getfield 19, 3) := by decide +kernel
theorem dX11_becomes_25 : decode cX11_becomes 25 = .ok (.invokevirtual 198, 3) := by decide +kernel
theorem dX11_becomes_28 : decode cX11_becomes 28 = .ok (.aload_n 0, 1) := by decide +kernel
theorem dX11_becomes_29 : decode cX11_becomes 29 = .ok (.getfield 62, 3) := by decide +kernel
theorem dX11_becomes_32 : decode cX11_becomes 32 = .ok (.aload_n 0, 1) := by decide +kernel
theorem dX11_becomes_33 : decode cX11_becomes 33 = .ok (.getfield 55, 3) := by decide +kernel
theorem dX11_becomes_36 : decode cX11_becomes 36 = .ok (.lload_n 1, 1) := by decide +kernel
theorem dX11_becomes_37 : decode cX11_becomes 37 = .ok (.iload_n 3, 1) := by decide +kernel
theorem dX11_becomes_38 : decode cX11_becomes 38 = .ok (.invokevirtual 326, 3) := by decide +kernel
theorem dX11_becomes_41 : decode cX11_becomes 41 = .ok (.ifCond .ne 7, 3) := by decide +kernel
theorem dX11_becomes_44 : decode cX11_becomes 44 = .ok (.ldc2_w 330, 3) := by decide +kernel
theorem dX11_becomes_47 : decode cX11_becomes 47 = .ok (.lreturn, 1) := by decide +kernel
theorem dX11_becomes_48 : decode cX11_becomes 48 = .ok (.iload 4, 2) := by decide +kernel
theorem dX11_becomes_50 : decode cX11_becomes 50 = .ok (.tableswitch 57 0 2 #[26, 35, 44], 26) := by decide +kernel
theorem dX11_becomes_76 : decode cX11_becomes 76 = .ok (.aload_n 0, 1) := by decide +kernel
theorem dX11_becomes_77 : decode cX11_becomes 77 = .ok (.getfield 62, 3) := by decide +kernel
theorem dX11_becomes_80 : decode cX11_becomes 80 = .ok (.getfield 332, 3) := by decide +kernel
theorem dX11_becomes_83 : decode cX11_becomes 83 = .ok (.i2l, 1) := by decide +kernel
theorem dX11_becomes_84 : decode cX11_becomes 84 = .ok (.lreturn, 1) := by decide +kernel
theorem dX11_becomes_85 : decode cX11_becomes 85 = .ok (.aload_n 0, 1) := by decide +kernel
theorem dX11_becomes_86 : decode cX11_becomes 86 = .ok (.getfield 62, 3) := by decide +kernel
theorem dX11_becomes_89 : decode cX11_becomes 89 = .ok (.invokevirtual 333, 3) := by decide +kernel
theorem dX11_becomes_92 : decode cX11_becomes 92 = .ok (.i2l, 1) := by decide +kernel
theorem dX11_becomes_93 : decode cX11_becomes 93 = .ok (.lreturn, 1) := by decide +kernel
theorem dX11_becomes_94 : decode cX11_becomes 94 = .ok (.aload_n 0, 1) := by decide +kernel
theorem dX11_becomes_95 : decode cX11_becomes 95 = .ok (.getfield 62, 3) := by decide +kernel
theorem dX11_becomes_98 : decode cX11_becomes 98 = .ok (.aload_n 0, 1) := by decide +kernel
theorem dX11_becomes_99 : decode cX11_becomes 99 = .ok (.getfield 55, 3) := by decide +kernel
theorem dX11_becomes_102 : decode cX11_becomes 102 = .ok (.invokevirtual 336, 3) := by decide +kernel
theorem dX11_becomes_105 : decode cX11_becomes 105 = .ok (.i2l, 1) := by decide +kernel
theorem dX11_becomes_106 : decode cX11_becomes 106 = .ok (.lreturn, 1) := by decide +kernel
theorem dX11_becomes_107 : decode cX11_becomes 107 = .ok (.aload_n 0, 1) := by decide +kernel
theorem dX11_becomes_108 : decode cX11_becomes 108 = .ok (.getfield 62, 3) := by decide +kernel
theorem dX11_becomes_111 : decode cX11_becomes 111 = .ok (.aload_n 0, 1) := by decide +kernel
theorem dX11_becomes_112 : decode cX11_becomes 112 = .ok (.getfield 55, 3) := by decide +kernel
theorem dX11_becomes_115 : decode cX11_becomes 115 = .ok (.invokevirtual 340, 3) := by decide +kernel
theorem dX11_becomes_118 : decode cX11_becomes 118 = .ok (.lreturn, 1) := by decide +kernel
theorem dX11_fewest_0 : decode cX11_fewest 0 = .ok (.lload_n 1, 1) := by decide +kernel
theorem dX11_fewest_1 : decode cX11_fewest 1 = .ok (.invokestatic 169, 3) := by decide +kernel
theorem dX11_fewest_4 : decode cX11_fewest 4 = .ok (.lload_n 3, 1) := by decide +kernel
theorem dX11_fewest_5 : decode cX11_fewest 5 = .ok (.invokestatic 169, 3) := by decide +kernel
theorem dX11_fewest_8 : decode cX11_fewest 8 = .ok (.aload_n 0, 1) := by decide +kernel
theorem dX11_fewest_9 : decode cX11_fewest 9 = .ok (.getfield 55, 3) := by decide +kernel
theorem dX11_fewest_12 : decode cX11_fewest 12 = .ok (.aload_n 0, 1) := by decide +kernel
theorem dX11_fewest_13 : decode cX11_fewest 13 = .ok (.getfield 19, 3) := by decide +kernel
theorem dX11_fewest_16 : decode cX11_fewest 16 = .ok (.invokevirtual 198, 3) := by decide +kernel
theorem dX11_fewest_19 : decode cX11_fewest 19 = .ok (.aload_n 0, 1) := by decide +kernel
theorem dX11_fewest_20 : decode cX11_fewest 20 = .ok (.getfield 62, 3) := by decide +kernel
theorem dX11_fewest_23 : decode cX11_fewest 23 = .ok (.lload_n 1, 1) := by decide +kernel
theorem dX11_fewest_24 : decode cX11_fewest 24 = .ok (.invokevirtual 263, 3) := by decide +kernel
theorem dX11_fewest_27 : decode cX11_fewest 27 = .ok (.iconst 0, 1) := by decide +kernel
theorem dX11_fewest_28 : decode cX11_fewest 28 = .ok (.istore 5, 2) := by decide +kernel
theorem dX11_fewest_30 : decode cX11_fewest 30 = .ok (.iload 5, 2) := by decide +kernel
theorem dX11_fewest_32 : decode cX11_fewest 32 = .ok (.sipush 1500, 3) := by decide +kernel
theorem dX11_fewest_35 : decode cX11_fewest 35 = .ok (.if_icmp .gt 53, 3) := by decide +kernel
theorem dX11_fewest_38 : decode cX11_fewest 38 = .ok (.aload_n 0, 1) := by decide +kernel
theorem dX11_fewest_39 : decode cX11_fewest 39 = .ok (.getfield 62, 3) := by decide +kernel
theorem dX11_fewest_42 : decode cX11_fewest 42 = .ok (.lload_n 3, 1) := by decide +kernel
theorem dX11_fewest_43 : decode cX11_fewest 43 = .ok (.invokevirtual 269, 3) := by decide +kernel
theorem dX11_fewest_46 : decode cX11_fewest 46 = .ok (.iconst (-1), 1) := by decide +kernel
theorem dX11_fewest_47 : decode cX11_fewest 47 = .ok (.if_icmp .eq 6, 3) := by decide +kernel
theorem dX11_fewest_50 : decode cX11_fewest 50 = .ok (.iload 5, 2) := by decide +kernel
theorem dX11_fewest_52 : decode cX11_fewest 52 = .ok (.ireturn, 1) := by decide +kernel
theorem dX11_fewest_53 : decode cX11_fewest 53 = .ok (.aload_n 0, 1) := by decide +kernel
theorem dX11_fewest_54 : decode cX11_fewest 54 = .ok (.getfield 62, 3) := by decide +kernel
theorem dX11_fewest_57 : decode cX11_fewest 57 = .ok (.invokevirtual 344, 3) := by decide +kernel
theorem dX11_fewest_60 : decode cX11_fewest 60 = .ok (.ifCond .ne 5, 3) := by decide +kernel
theorem dX11_fewest_63 : decode cX11_fewest 63 = .ok (.iconst (-1), 1) := by decide +kernel
theorem dX11_fewest_64 : decode cX11_fewest 64 = .ok (.ireturn, 1) := by decide +kernel
theorem dX11_fewest_65 : decode cX11_fewest 65 = .ok (.aload_n 0, 1) := by decide +kernel
theorem dX11_fewest_66 : decode cX11_fewest 66 = .ok (.getfield 62, 3) := by decide +kernel
theorem dX11_fewest_69 : decode cX11_fewest 69 = .ok (.aload_n 0, 1) := by decide +kernel
theorem dX11_fewest_70 : decode cX11_fewest 70 = .ok (.getfield 55, 3) := by decide +kernel
theorem dX11_fewest_73 : decode cX11_fewest 73 = .ok (.invokevirtual 348, 3) := by decide +kernel
theorem dX11_fewest_76 : decode cX11_fewest 76 = .ok (.ifCond .ne 6, 3) := by decide +kernel
theorem dX11_fewest_79 : decode cX11_fewest 79 = .ok (.bipush (-3), 2) := by decide +kernel
theorem dX11_fewest_81 : decode cX11_fewest 81 = .ok (.ireturn, 1) := by decide +kernel
theorem dX11_fewest_82 : decode cX11_fewest 82 = .ok (.iinc 5 1, 3) := by decide +kernel
theorem dX11_fewest_85 : decode cX11_fewest 85 = .ok (.goto (-55), 3) := by decide +kernel
theorem dX11_fewest_88 : decode cX11_fewest 88 = .ok (.iconst (-1), 1) := by decide +kernel
theorem dX11_fewest_89 : decode cX11_fewest 89 = .ok (.ireturn, 1) := by decide +kernel
theorem dX11_meets_0 : decode cX11_meets 0 = .ok (.lload_n 1, 1) := by decide +kernel
theorem dX11_meets_1 : decode cX11_meets 1 = .ok (.invokestatic 169, 3) := by decide +kernel
theorem dX11_meets_4 : decode cX11_meets 4 = .ok (.lload_n 3, 1) := by decide +kernel
theorem dX11_meets_5 : decode cX11_meets 5 = .ok (.invokestatic 169, 3) := by decide +kernel
theorem dX11_meets_8 : decode cX11_meets 8 = .ok (.iload 5, 2) := by decide +kernel
theorem dX11_meets_10 : decode cX11_meets 10 = .ok (.iconst 0, 1) := by decide +kernel
theorem dX11_meets_11 : decode cX11_meets 11 = .ok (.bipush 12, 2) := by decide +kernel
theorem dX11_meets_13 : decode cX11_meets 13 = .ok (.invokestatic 215, 3) := by decide +kernel
theorem dX11_meets_16 : decode cX11_meets 16 = .ok (.aload_n 0, 1) := by decide +kernel
theorem dX11_meets_17 : decode cX11_meets 17 = .ok (.getfield 55, 3) := by decide +kernel
theorem dX11_meets_20 : decode cX11_meets 20 = .ok (.aload_n 0, 1) := by decide +kernel
theorem dX11_meets_21 : decode cX11_meets 21 = .ok (.getfield 19, 3) := by decide +kernel
theorem dX11_meets_24 : decode cX11_meets 24 = .ok (.invokevirtual 198, 3) := by decide +kernel
theorem dX11_meets_27 : decode cX11_meets 27 = .ok (.aload_n 0, 1) := by decide +kernel
theorem dX11_meets_28 : decode cX11_meets 28 = .ok (.getfield 62, 3) := by decide +kernel
theorem dX11_meets_31 : decode cX11_meets 31 = .ok (.aload_n 0, 1) := by decide +kernel
theorem dX11_meets_32 : decode cX11_meets 32 = .ok (.getfield 55, 3) := by decide +kernel
theorem dX11_meets_35 : decode cX11_meets 35 = .ok (.lload_n 1, 1) := by decide +kernel
theorem dX11_meets_36 : decode cX11_meets 36 = .ok (.iload 5, 2) := by decide +kernel
theorem dX11_meets_38 : decode cX11_meets 38 = .ok (.invokevirtual 326, 3) := by decide +kernel
theorem dX11_meets_41 : decode cX11_meets 41 = .ok (.ifCond .eq 20, 3) := by decide +kernel
theorem dX11_meets_44 : decode cX11_meets 44 = .ok (.aload_n 0, 1) := by decide +kernel
theorem dX11_meets_45 : decode cX11_meets 45 = .ok (.getfield 66, 3) := by decide +kernel
theorem dX11_meets_48 : decode cX11_meets 48 = .ok (.aload_n 0, 1) := by decide +kernel
theorem dX11_meets_49 : decode cX11_meets 49 = .ok (.getfield 55, 3) := by decide +kernel
theorem dX11_meets_52 : decode cX11_meets 52 = .ok (.lload_n 3, 1) := by decide +kernel
theorem dX11_meets_53 : decode cX11_meets 53 = .ok (.iload 5, 2) := by decide +kernel
theorem dX11_meets_55 : decode cX11_meets 55 = .ok (.invokevirtual 326, 3) := by decide +kernel
theorem dX11_meets_58 : decode cX11_meets 58 = .ok (.ifCond .ne 7, 3) := by decide +kernel
theorem dX11_meets_61 : decode cX11_meets 61 = .ok (.ldc2_w 330, 3) := by decide +kernel
theorem dX11_meets_64 : decode cX11_meets 64 = .ok (.lreturn, 1) := by decide +kernel
theorem dX11_meets_65 : decode cX11_meets 65 = .ok (.iconst (-1), 1) := by decide +kernel
theorem dX11_meets_66 : decode cX11_meets 66 = .ok (.istore 7, 2) := by decide +kernel
theorem dX11_meets_68 : decode cX11_meets 68 = .ok (.ldc2_w 260, 3) := by decide +kernel
theorem dX11_meets_71 : decode cX11_meets 71 = .ok (.lstore 8, 2) := by decide +kernel
theorem dX11_meets_73 : decode cX11_meets 73 = .ok (.iconst 0, 1) := by decide +kernel
theorem dX11_meets_74 : decode cX11_meets 74 = .ok (.istore 10, 2) := by decide +kernel
theorem dX11_meets_76 : decode cX11_meets 76 = .ok (.iload 10, 2) := by decide +kernel
theorem dX11_meets_78 : decode cX11_meets 78 = .ok (.aload_n 0, 1) := by decide +kernel
theorem dX11_meets_79 : decode cX11_meets 79 = .ok (.getfield 62, 3) := by decide +kernel
theorem dX11_meets_82 : decode cX11_meets 82 = .ok (.getfield 332, 3) := by decide +kernel
theorem dX11_meets_85 : decode cX11_meets 85 = .ok (.if_icmp .ge 109, 3) := by decide +kernel
theorem dX11_meets_88 : decode cX11_meets 88 = .ok (.aload_n 0, 1) := by decide +kernel
theorem dX11_meets_89 : decode cX11_meets 89 = .ok (.getfield 66, 3) := by decide +kernel
theorem dX11_meets_92 : decode cX11_meets 92 = .ok (.aload_n 0, 1) := by decide +kernel
theorem dX11_meets_93 : decode cX11_meets 93 = .ok (.getfield 62, 3) := by decide +kernel
theorem dX11_meets_96 : decode cX11_meets 96 = .ok (.getfield 352, 3) := by decide +kernel
theorem dX11_meets_99 : decode cX11_meets 99 = .ok (.iload 10, 2) := by decide +kernel
theorem dX11_meets_101 : decode cX11_meets 101 = .ok (.laload, 1) := by decide +kernel
theorem dX11_meets_102 : decode cX11_meets 102 = .ok (.invokevirtual 269, 3) := by decide +kernel
theorem dX11_meets_105 : decode cX11_meets 105 = .ok (.istore 11, 2) := by decide +kernel
theorem dX11_meets_107 : decode cX11_meets 107 = .ok (.iload 11, 2) := by decide +kernel
theorem dX11_meets_109 : decode cX11_meets 109 = .ok (.iconst (-1), 1) := by decide +kernel
theorem dX11_meets_110 : decode cX11_meets 110 = .ok (.if_icmp .eq 78, 3) := by decide +kernel
theorem dX11_meets_113 : decode cX11_meets 113 = .ok (.aload_n 0, 1) := by decide +kernel
theorem dX11_meets_114 : decode cX11_meets 114 = .ok (.getfield 62, 3) := by decide +kernel
theorem dX11_meets_117 : decode cX11_meets 117 = .ok (.getfield 355, 3) := by decide +kernel
theorem dX11_meets_120 : decode cX11_meets 120 = .ok (.iload 10, 2) := by decide +kernel
theorem dX11_meets_122 : decode cX11_meets 122 = .ok (.iaload, 1) := by decide +kernel
theorem dX11_meets_123 : decode cX11_meets 123 = .ok (.aload_n 0, 1) := by decide +kernel
theorem dX11_meets_124 : decode cX11_meets 124 = .ok (.getfield 66, 3) := by decide +kernel
theorem dX11_meets_127 : decode cX11_meets 127 = .ok (.getfield 355, 3) := by decide +kernel
theorem dX11_meets_130 : decode cX11_meets 130 = .ok (.iload 11, 2) := by decide +kernel
theorem dX11_meets_132 : decode cX11_meets 132 = .ok (.iaload, 1) := by decide +kernel
theorem dX11_meets_133 : decode cX11_meets 133 = .ok (.iadd, 1) := by decide +kernel
theorem dX11_meets_134 : decode cX11_meets 134 = .ok (.istore 12, 2) := by decide +kernel
theorem dX11_meets_136 : decode cX11_meets 136 = .ok (.iload 7, 2) := by decide +kernel
theorem dX11_meets_138 : decode cX11_meets 138 = .ok (.iconst (-1), 1) := by decide +kernel
theorem dX11_meets_139 : decode cX11_meets 139 = .ok (.if_icmp .eq 33, 3) := by decide +kernel
theorem dX11_meets_142 : decode cX11_meets 142 = .ok (.iload 12, 2) := by decide +kernel
theorem dX11_meets_144 : decode cX11_meets 144 = .ok (.iload 7, 2) := by decide +kernel
theorem dX11_meets_146 : decode cX11_meets 146 = .ok (.if_icmp .lt 26, 3) := by decide +kernel
theorem dX11_meets_149 : decode cX11_meets 149 = .ok (.iload 12, 2) := by decide +kernel
theorem dX11_meets_151 : decode cX11_meets 151 = .ok (.iload 7, 2) := by decide +kernel
theorem dX11_meets_153 : decode cX11_meets 153 = .ok (.if_icmp .ne 35, 3) := by decide +kernel
theorem dX11_meets_156 : decode cX11_meets 156 = .ok (.aload_n 0, 1) := by decide +kernel
theorem dX11_meets_157 : decode cX11_meets 157 = .ok (.getfield 62, 3) := by decide +kernel
theorem dX11_meets_160 : decode cX11_meets 160 = .ok (.getfield 352, 3) := by decide +kernel
theorem dX11_meets_163 : decode cX11_meets 163 = .ok (.iload 10, 2) := by decide +kernel
theorem dX11_meets_165 : decode cX11_meets 165 = .ok (.laload, 1) := by decide +kernel
theorem dX11_meets_166 : decode cX11_meets 166 = .ok (.lload 8, 2) := by decide +kernel
theorem dX11_meets_168 : decode cX11_meets 168 = .ok (.lcmp, 1) := by decide +kernel
theorem dX11_meets_169 : decode cX11_meets 169 = .ok (.ifCond .ge 19, 3) := by decide +kernel
theorem dX11_meets_172 : decode cX11_meets 172 = .ok (.iload 12, 2) := by decide +kernel
theorem dX11_meets_174 : decode cX11_meets 174 = .ok (.istore 7, 2) := by decide +kernel
theorem dX11_meets_176 : decode cX11_meets 176 = .ok (.aload_n 0, 1) := by decide +kernel
theorem dX11_meets_177 : decode cX11_meets 177 = .ok (.getfield 62, 3) := by decide +kernel
theorem dX11_meets_180 : decode cX11_meets 180 = .ok (.getfield 352, 3) := by decide +kernel
theorem dX11_meets_183 : decode cX11_meets 183 = .ok (.iload 10, 2) := by decide +kernel
theorem dX11_meets_185 : decode cX11_meets 185 = .ok (.laload, 1) := by decide +kernel
theorem dX11_meets_186 : decode cX11_meets 186 = .ok (.lstore 8, 2) := by decide +kernel
theorem dX11_meets_188 : decode cX11_meets 188 = .ok (.iinc 10 1, 3) := by decide +kernel
theorem dX11_meets_191 : decode cX11_meets 191 = .ok (.goto (-115), 3) := by decide +kernel
theorem dX11_meets_194 : decode cX11_meets 194 = .ok (.iload 6, 2) := by decide +kernel
theorem dX11_meets_196 : decode cX11_meets 196 = .ok (.ifCond .eq 8, 3) := by decide +kernel
theorem dX11_meets_199 : decode cX11_meets 199 = .ok (.lload 8, 2) := by decide +kernel
theorem dX11_meets_201 : decode cX11_meets 201 = .ok (.goto 6, 3) := by decide +kernel
theorem dX11_meets_204 : decode cX11_meets 204 = .ok (.iload 7, 2) := by decide +kernel
theorem dX11_meets_206 : decode cX11_meets 206 = .ok (.i2l, 1) := by decide +kernel
theorem dX11_meets_207 : decode cX11_meets 207 = .ok (.lreturn, 1) := by decide +kernel
theorem dX11_drovers_0 : decode cX11_drovers 0 = .ok (.aload_n 0, 1) := by decide +kernel
theorem dX11_drovers_1 : decode cX11_drovers 1 = .ok (.lload_n 1, 1) := by decide +kernel
theorem dX11_drovers_2 : decode cX11_drovers 2 = .ok (.iload_n 3, 1) := by decide +kernel
theorem dX11_drovers_3 : decode cX11_drovers 3 = .ok (.invokevirtual 358, 3) := by decide +kernel
theorem dX11_drovers_6 : decode cX11_drovers 6 = .ok (.ifCond .eq 13, 3) := by decide +kernel
theorem dX11_drovers_9 : decode cX11_drovers 9 = .ok (.aload_n 0, 1) := by decide +kernel
theorem dX11_drovers_10 : decode cX11_drovers 10 = .ok (.getfield 72, 3) := by decide +kernel
theorem dX11_drovers_13 : decode cX11_drovers 13 = .ok (.getfield 361, 3) := by decide +kernel
theorem dX11_drovers_16 : decode cX11_drovers 16 = .ok (.goto 5, 3) := by decide +kernel
theorem dX11_drovers_19 : decode cX11_drovers 19 = .ok (.bipush (-3), 2) := by decide +kernel
theorem dX11_drovers_21 : decode cX11_drovers 21 = .ok (.ireturn, 1) := by decide +kernel
theorem dX11_best_0 : decode cX11_best 0 = .ok (.aload_n 0, 1) := by decide +kernel
theorem dX11_best_1 : decode cX11_best 1 = .ok (.lload_n 1, 1) := by decide +kernel
theorem dX11_best_2 : decode cX11_best 2 = .ok (.iload_n 3, 1) := by decide +kernel
theorem dX11_best_3 : decode cX11_best 3 = .ok (.invokevirtual 358, 3) := by decide +kernel
theorem dX11_best_6 : decode cX11_best 6 = .ok (.ifCond .eq 13, 3) := by decide +kernel
theorem dX11_best_9 : decode cX11_best 9 = .ok (.aload_n 0, 1) := by decide +kernel
theorem dX11_best_10 : decode cX11_best 10 = .ok (.getfield 72, 3) := by decide +kernel
theorem dX11_best_13 : decode cX11_best 13 = .ok (.getfield 364, 3) := by decide +kernel
theorem dX11_best_16 : decode cX11_best 16 = .ok (.goto 5, 3) := by decide +kernel
theorem dX11_best_19 : decode cX11_best 19 = .ok (.bipush (-3), 2) := by decide +kernel
theorem dX11_best_21 : decode cX11_best 21 = .ok (.ireturn, 1) := by decide +kernel
theorem dX11_play_0 : decode cX11_play 0 = .ok (.lload_n 1, 1) := by decide +kernel
theorem dX11_play_1 : decode cX11_play 1 = .ok (.invokestatic 169, 3) := by decide +kernel
theorem dX11_play_4 : decode cX11_play 4 = .ok (.iload_n 3, 1) := by decide +kernel
theorem dX11_play_5 : decode cX11_play 5 = .ok (.iconst 1, 1) := by decide +kernel
theorem dX11_play_6 : decode cX11_play 6 = .ok (.bipush 8, 2) := by decide +kernel
theorem dX11_play_8 : decode cX11_play 8 = .ok (.invokestatic 215, 3) := by decide +kernel
theorem dX11_play_11 : decode cX11_play 11 = .ok (.aload_n 0, 1) := by decide +kernel
theorem dX11_play_12 : decode cX11_play 12 = .ok (.getfield 55, 3) := by decide +kernel
theorem dX11_play_15 : decode cX11_play 15 = .ok (.aload_n 0, 1) := by decide +kernel
theorem dX11_play_16 : decode cX11_play 16 = .ok (.getfield 19, 3) := by decide +kernel
theorem dX11_play_19 : decode cX11_play 19 = .ok (.invokevirtual 198, 3) := by decide +kernel
theorem dX11_play_22 : decode cX11_play 22 = .ok (.aload_n 0, 1) := by decide +kernel
theorem dX11_play_23 : decode cX11_play 23 = .ok (.getfield 62, 3) := by decide +kernel
theorem dX11_play_26 : decode cX11_play 26 = .ok (.aload_n 0, 1) := by decide +kernel
theorem dX11_play_27 : decode cX11_play 27 = .ok (.getfield 55, 3) := by decide +kernel
theorem dX11_play_30 : decode cX11_play 30 = .ok (.lload_n 1, 1) := by decide +kernel
theorem dX11_play_31 : decode cX11_play 31 = .ok (.iload_n 3, 1) := by decide +kernel
theorem dX11_play_32 : decode cX11_play 32 = .ok (.invokevirtual 326, 3) := by decide +kernel
theorem dX11_play_35 : decode cX11_play 35 = .ok (.ifCond .ne 5, 3) := by decide +kernel
theorem dX11_play_38 : decode cX11_play 38 = .ok (.iconst 0, 1) := by decide +kernel
theorem dX11_play_39 : decode cX11_play 39 = .ok (.ireturn, 1) := by decide +kernel
theorem dX11_play_40 : decode cX11_play 40 = .ok (.aload_n 0, 1) := by decide +kernel
theorem dX11_play_41 : decode cX11_play 41 = .ok (.getfield 72, 3) := by decide +kernel
theorem dX11_play_44 : decode cX11_play 44 = .ok (.aload_n 0, 1) := by decide +kernel
theorem dX11_play_45 : decode cX11_play 45 = .ok (.getfield 55, 3) := by decide +kernel
theorem dX11_play_48 : decode cX11_play 48 = .ok (.aload_n 0, 1) := by decide +kernel
theorem dX11_play_49 : decode cX11_play 49 = .ok (.getfield 62, 3) := by decide +kernel
theorem dX11_play_52 : decode cX11_play 52 = .ok (.iload_n 3, 1) := by decide +kernel
theorem dX11_play_53 : decode cX11_play 53 = .ok (.invokevirtual 366, 3) := by decide +kernel
theorem dX11_play_56 : decode cX11_play 56 = .ok (.iconst 1, 1) := by decide +kernel
theorem dX11_play_57 : decode cX11_play 57 = .ok (.ireturn, 1) := by decide +kernel
theorem dX11_overlaps_0 : decode cX11_overlaps 0 = .ok (.iload_n 1, 1) := by decide +kernel
theorem dX11_overlaps_1 : decode cX11_overlaps 1 = .ok (.iconst 3, 1) := by decide +kernel
theorem dX11_overlaps_2 : decode cX11_overlaps 2 = .ok (.invokestatic 187, 3) := by decide +kernel
theorem dX11_overlaps_5 : decode cX11_overlaps 5 = .ok (.aload_n 0, 1) := by decide +kernel
theorem dX11_overlaps_6 : decode cX11_overlaps 6 = .ok (.getfield 55, 3) := by decide +kernel
theorem dX11_overlaps_9 : decode cX11_overlaps 9 = .ok (.invokevirtual 369, 3) := by decide +kernel
theorem dX11_overlaps_12 : decode cX11_overlaps 12 = .ok (.aload_n 0, 1) := by decide +kernel
theorem dX11_overlaps_13 : decode cX11_overlaps 13 = .ok (.getfield 86, 3) := by decide +kernel
theorem dX11_overlaps_16 : decode cX11_overlaps 16 = .ok (.aload_n 0, 1) := by decide +kernel
theorem dX11_overlaps_17 : decode cX11_overlaps 17 = .ok (.getfield 55, 3) := by decide +kernel
theorem dX11_overlaps_20 : decode cX11_overlaps 20 = .ok (.iload_n 1, 1) := by decide +kernel
theorem dX11_overlaps_21 : decode cX11_overlaps 21 = .ok (.ifCond .eq 7, 3) := by decide +kernel
theorem dX11_overlaps_24 : decode cX11_overlaps 24 = .ok (.iconst 1, 1) := by decide +kernel
theorem dX11_overlaps_25 : decode cX11_overlaps 25 = .ok (.goto 4, 3) := by decide +kernel
theorem dX11_overlaps_28 : decode cX11_overlaps 28 = .ok (.iconst 0, 1) := by decide +kernel
theorem dX11_overlaps_29 : decode cX11_overlaps 29 = .ok (.invokevirtual 372, 3) := by decide +kernel
theorem dX11_overlaps_32 : decode cX11_overlaps 32 = .ok (.iload_n 1, 1) := by decide +kernel
theorem dX11_overlaps_33 : decode cX11_overlaps 33 = .ok (.ifCond .ne 14, 3) := by decide +kernel
theorem dX11_overlaps_36 : decode cX11_overlaps 36 = .ok (.aload_n 0, 1) := by decide +kernel
theorem dX11_overlaps_37 : decode cX11_overlaps 37 = .ok (.getfield 86, 3) := by decide +kernel
theorem dX11_overlaps_40 : decode cX11_overlaps 40 = .ok (.getfield 376, 3) := by decide +kernel
theorem dX11_overlaps_43 : decode cX11_overlaps 43 = .ok (.i2l, 1) := by decide +kernel
theorem dX11_overlaps_44 : decode cX11_overlaps 44 = .ok (.goto 26, 3) := by decide +kernel
theorem dX11_overlaps_47 : decode cX11_overlaps 47 = .ok (.iload_n 1, 1) := by decide +kernel
theorem dX11_overlaps_48 : decode cX11_overlaps 48 = .ok (.iconst 1, 1) := by decide +kernel
theorem dX11_overlaps_49 : decode cX11_overlaps 49 = .ok (.if_icmp .ne 14, 3) := by decide +kernel
theorem dX11_overlaps_52 : decode cX11_overlaps 52 = .ok (.aload_n 0, 1) := by decide +kernel
theorem dX11_overlaps_53 : decode cX11_overlaps 53 = .ok (.getfield 86, 3) := by decide +kernel
theorem dX11_overlaps_56 : decode cX11_overlaps 56 = .ok (.getfield 379, 3) := by decide +kernel
theorem dX11_overlaps_59 : decode cX11_overlaps 59 = .ok (.i2l, 1) := by decide +kernel
theorem dX11_overlaps_60 : decode cX11_overlaps 60 = .ok (.goto 10, 3) := by decide +kernel
theorem dX11_overlaps_63 : decode cX11_overlaps 63 = .ok (.aload_n 0, 1) := by decide +kernel
theorem dX11_overlaps_64 : decode cX11_overlaps 64 = .ok (.getfield 86, 3) := by decide +kernel
theorem dX11_overlaps_67 : decode cX11_overlaps 67 = .ok (.getfield 382, 3) := by decide +kernel
theorem dX11_overlaps_70 : decode cX11_overlaps 70 = .ok (.lreturn, 1) := by decide +kernel
theorem dX11_complete_0 : decode cX11_complete 0 = .ok (.aload_n 0, 1) := by decide +kernel
theorem dX11_complete_1 : decode cX11_complete 1 = .ok (.getfield 55, 3) := by decide +kernel
theorem dX11_complete_4 : decode cX11_complete 4 = .ok (.invokevirtual 369, 3) := by decide +kernel
theorem dX11_complete_7 : decode cX11_complete 7 = .ok (.aload_n 0, 1) := by decide +kernel
theorem dX11_complete_8 : decode cX11_complete 8 = .ok (.getfield 86, 3) := by decide +kernel
theorem dX11_complete_11 : decode cX11_complete 11 = .ok (.aload_n 0, 1) := by decide +kernel
theorem dX11_complete_12 : decode cX11_complete 12 = .ok (.getfield 55, 3) := by decide +kernel
theorem dX11_complete_15 : decode cX11_complete 15 = .ok (.iconst 1, 1) := by decide +kernel
theorem dX11_complete_16 : decode cX11_complete 16 = .ok (.invokevirtual 372, 3) := by decide +kernel
theorem dX11_complete_19 : decode cX11_complete 19 = .ok (.aload_n 0, 1) := by decide +kernel
theorem dX11_complete_20 : decode cX11_complete 20 = .ok (.getfield 86, 3) := by decide +kernel
theorem dX11_complete_23 : decode cX11_complete 23 = .ok (.getfield 385, 3) := by decide +kernel
theorem dX11_complete_26 : decode cX11_complete 26 = .ok (.ldc2_w 260, 3) := by decide +kernel
theorem dX11_complete_29 : decode cX11_complete 29 = .ok (.lcmp, 1) := by decide +kernel
theorem dX11_complete_30 : decode cX11_complete 30 = .ok (.ifCond .eq 17, 3) := by decide +kernel
theorem dX11_complete_33 : decode cX11_complete 33 = .ok (.aload_n 0, 1) := by decide +kernel
theorem dX11_complete_34 : decode cX11_complete 34 = .ok (.getfield 86, 3) := by decide +kernel
theorem dX11_complete_37 : decode cX11_complete 37 = .ok (.getfield 385, 3) := by decide +kernel
theorem dX11_complete_40 : decode cX11_complete 40 = .ok (.invokestatic 173, 3) := by decide +kernel
theorem dX11_complete_43 : decode cX11_complete 43 = .ok (.iconst 4, 1) := by decide +kernel
theorem dX11_complete_44 : decode cX11_complete 44 = .ok (.if_icmp .le 5, 3) := by decide +kernel
theorem dX11_complete_47 : decode cX11_complete 47 = .ok (.iconst (-1), 1) := by decide +kernel
theorem dX11_complete_48 : decode cX11_complete 48 = .ok (.ireturn, 1) := by decide +kernel
theorem dX11_complete_49 : decode cX11_complete 49 = .ok (.aload_n 0, 1) := by decide +kernel
theorem dX11_complete_50 : decode cX11_complete 50 = .ok (.aload_n 0, 1) := by decide +kernel
theorem dX11_complete_51 : decode cX11_complete 51 = .ok (.getfield 86, 3) := by decide +kernel
theorem dX11_complete_54 : decode cX11_complete 54 = .ok (.getfield 385, 3) := by decide +kernel
theorem dX11_complete_57 : decode cX11_complete 57 = .ok (.aload_n 0, 1) := by decide +kernel
theorem dX11_complete_58 : decode cX11_complete 58 = .ok (.getfield 86, 3) := by decide +kernel
theorem dX11_complete_61 : decode cX11_complete 61 = .ok (.getfield 388, 3) := by decide +kernel
theorem dX11_complete_64 : decode cX11_complete 64 = .ok (.invokevirtual 226, 3) := by decide +kernel
theorem dX11_complete_67 : decode cX11_complete 67 = .ok (.ireturn, 1) := by decide +kernel
theorem dX11_never_0 : decode cX11_never 0 = .ok (.lload_n 1, 1) := by decide +kernel
theorem dX11_never_1 : decode cX11_never 1 = .ok (.invokestatic 169, 3) := by decide +kernel
theorem dX11_never_4 : decode cX11_never 4 = .ok (.lload_n 3, 1) := by decide +kernel
theorem dX11_never_5 : decode cX11_never 5 = .ok (.invokestatic 169, 3) := by decide +kernel
theorem dX11_never_8 : decode cX11_never 8 = .ok (.iload 5, 2) := by decide +kernel
theorem dX11_never_10 : decode cX11_never 10 = .ok (.invokestatic 391, 3) := by decide +kernel
theorem dX11_never_13 : decode cX11_never 13 = .ok (.aload_n 0, 1) := by decide +kernel
theorem dX11_never_14 : decode cX11_never 14 = .ok (.getfield 79, 3) := by decide +kernel
theorem dX11_never_17 : decode cX11_never 17 = .ok (.aload_n 0, 1) := by decide +kernel
theorem dX11_never_18 : decode cX11_never 18 = .ok (.getfield 19, 3) := by decide +kernel
theorem dX11_never_21 : decode cX11_never 21 = .ok (.getfield 48, 3) := by decide +kernel
theorem dX11_never_24 : decode cX11_never 24 = .ok (.invokevirtual 394, 3) := by decide +kernel
theorem dX11_never_27 : decode cX11_never 27 = .ok (.lload_n 1, 1) := by decide +kernel
theorem dX11_never_28 : decode cX11_never 28 = .ok (.invokestatic 283, 3) := by decide +kernel
theorem dX11_never_31 : decode cX11_never 31 = .ok (.ior, 1) := by decide +kernel
theorem dX11_never_32 : decode cX11_never 32 = .ok (.lload_n 3, 1) := by decide +kernel
theorem dX11_never_33 : decode cX11_never 33 = .ok (.invokestatic 283, 3) := by decide +kernel
theorem dX11_never_36 : decode cX11_never 36 = .ok (.ior, 1) := by decide +kernel
theorem dX11_never_37 : decode cX11_never 37 = .ok (.invokevirtual 397, 3) := by decide +kernel
theorem dX11_never_40 : decode cX11_never 40 = .ok (.ifCond .ne 6, 3) := by decide +kernel
theorem dX11_never_43 : decode cX11_never 43 = .ok (.bipush (-3), 2) := by decide +kernel
theorem dX11_never_45 : decode cX11_never 45 = .ok (.ireturn, 1) := by decide +kernel
theorem dX11_never_46 : decode cX11_never 46 = .ok (.aload_n 0, 1) := by decide +kernel
theorem dX11_never_47 : decode cX11_never 47 = .ok (.getfield 79, 3) := by decide +kernel
theorem dX11_never_50 : decode cX11_never 50 = .ok (.aload_n 0, 1) := by decide +kernel
theorem dX11_never_51 : decode cX11_never 51 = .ok (.getfield 19, 3) := by decide +kernel
theorem dX11_never_54 : decode cX11_never 54 = .ok (.getfield 48, 3) := by decide +kernel
theorem dX11_never_57 : decode cX11_never 57 = .ok (.invokevirtual 401, 3) := by decide +kernel
theorem dX11_never_60 : decode cX11_never 60 = .ok (.aload_n 0, 1) := by decide +kernel
theorem dX11_never_61 : decode cX11_never 61 = .ok (.getfield 79, 3) := by decide +kernel
theorem dX11_never_64 : decode cX11_never 64 = .ok (.lload_n 1, 1) := by decide +kernel
theorem dX11_never_65 : decode cX11_never 65 = .ok (.lload_n 3, 1) := by decide +kernel
theorem dX11_never_66 : decode cX11_never 66 = .ok (.invokevirtual 405, 3) := by decide +kernel
theorem dX11_never_69 : decode cX11_never 69 = .ok (.iconst 2, 1) := by decide +kernel
theorem dX11_never_70 : decode cX11_never 70 = .ok (.istore 6, 2) := by decide +kernel
theorem dX11_never_72 : decode cX11_never 72 = .ok (.iload 6, 2) := by decide +kernel
theorem dX11_never_74 : decode cX11_never 74 = .ok (.iconst 5, 1) := by decide +kernel
theorem dX11_never_75 : decode cX11_never 75 = .ok (.if_icmp .gt 43, 3) := by decide +kernel
theorem dX11_never_78 : decode cX11_never 78 = .ok (.aload_n 0, 1) := by decide +kernel
theorem dX11_never_79 : decode cX11_never 79 = .ok (.getfield 79, 3) := by decide +kernel
theorem dX11_never_82 : decode cX11_never 82 = .ok (.iload 6, 2) := by decide +kernel
theorem dX11_never_84 : decode cX11_never 84 = .ok (.invokevirtual 408, 3) := by decide +kernel
theorem dX11_never_87 : decode cX11_never 87 = .ok (.ifCond .eq 25, 3) := by decide +kernel
theorem dX11_never_90 : decode cX11_never 90 = .ok (.iload 5, 2) := by decide +kernel
theorem dX11_never_92 : decode cX11_never 92 = .ok (.iconst (-1), 1) := by decide +kernel
theorem dX11_never_93 : decode cX11_never 93 = .ok (.if_icmp .ne 8, 3) := by decide +kernel
theorem dX11_never_96 : decode cX11_never 96 = .ok (.iload 6, 2) := by decide +kernel
theorem dX11_never_98 : decode cX11_never 98 = .ok (.goto 13, 3) := by decide +kernel
theorem dX11_never_101 : decode cX11_never 101 = .ok (.aload_n 0, 1) := by decide +kernel
theorem dX11_never_102 : decode cX11_never 102 = .ok (.getfield 79, 3) := by decide +kernel
theorem dX11_never_105 : decode cX11_never 105 = .ok (.getfield 411, 3) := by decide +kernel
theorem dX11_never_108 : decode cX11_never 108 = .ok (.iload 5, 2) := by decide +kernel
theorem dX11_never_110 : decode cX11_never 110 = .ok (.iaload, 1) := by decide +kernel
theorem dX11_never_111 : decode cX11_never 111 = .ok (.ireturn, 1) := by decide +kernel
theorem dX11_never_112 : decode cX11_never 112 = .ok (.iinc 6 1, 3) := by decide +kernel
theorem dX11_never_115 : decode cX11_never 115 = .ok (.goto (-43), 3) := by decide +kernel
theorem dX11_never_118 : decode cX11_never 118 = .ok (.iconst (-1), 1) := by decide +kernel
theorem dX11_never_119 : decode cX11_never 119 = .ok (.ireturn, 1) := by decide +kernel
theorem dX11_falls_0 : decode cX11_falls 0 = .ok (.iload_n 1, 1) := by decide +kernel
theorem dX11_falls_1 : decode cX11_falls 1 = .ok (.iconst 1, 1) := by decide +kernel
theorem dX11_falls_2 : decode cX11_falls 2 = .ok (.iconst 5, 1) := by decide +kernel
theorem dX11_falls_3 : decode cX11_falls 3 = .ok (.invokestatic 215, 3) := by decide +kernel
theorem dX11_falls_6 : decode cX11_falls 6 = .ok (.iload_n 2, 1) := by decide +kernel
theorem dX11_falls_7 : decode cX11_falls 7 = .ok (.invokestatic 391, 3) := by decide +kernel
theorem dX11_falls_10 : decode cX11_falls 10 = .ok (.aload_n 0, 1) := by decide +kernel
theorem dX11_falls_11 : decode cX11_falls 11 = .ok (.getfield 79, 3) := by decide +kernel
theorem dX11_falls_14 : decode cX11_falls 14 = .ok (.aload_n 0, 1) := by decide +kernel
theorem dX11_falls_15 : decode cX11_falls 15 = .ok (.getfield 19, 3) := by decide +kernel
theorem dX11_falls_18 : decode cX11_falls 18 = .ok (.getfield 48, 3) := by decide +kernel
theorem dX11_falls_21 : decode cX11_falls 21 = .ok (.invokevirtual 394, 3) := by decide +kernel
theorem dX11_falls_24 : decode cX11_falls 24 = .ok (.invokevirtual 397, 3) := by decide +kernel
theorem dX11_falls_27 : decode cX11_falls 27 = .ok (.ifCond .ne 6, 3) := by decide +kernel
theorem dX11_falls_30 : decode cX11_falls 30 = .ok (.bipush (-3), 2) := by decide +kernel
theorem dX11_falls_32 : decode cX11_falls 32 = .ok (.ireturn, 1) := by decide +kernel
theorem dX11_falls_33 : decode cX11_falls 33 = .ok (.aload_n 0, 1) := by decide +kernel
theorem dX11_falls_34 : decode cX11_falls 34 = .ok (.getfield 79, 3) := by decide +kernel
theorem dX11_falls_37 : decode cX11_falls 37 = .ok (.aload_n 0, 1) := by decide +kernel
theorem dX11_falls_38 : decode cX11_falls 38 = .ok (.getfield 19, 3) := by decide +kernel
theorem dX11_falls_41 : decode cX11_falls 41 = .ok (.getfield 48, 3) := by decide +kernel
theorem dX11_falls_44 : decode cX11_falls 44 = .ok (.invokevirtual 401, 3) := by decide +kernel
theorem dX11_falls_47 : decode cX11_falls 47 = .ok (.aload_n 0, 1) := by decide +kernel
theorem dX11_falls_48 : decode cX11_falls 48 = .ok (.getfield 79, 3) := by decide +kernel
theorem dX11_falls_51 : decode cX11_falls 51 = .ok (.iload_n 1, 1) := by decide +kernel
theorem dX11_falls_52 : decode cX11_falls 52 = .ok (.invokevirtual 414, 3) := by decide +kernel
theorem dX11_falls_55 : decode cX11_falls 55 = .ok (.istore_n 3, 1) := by decide +kernel
theorem dX11_falls_56 : decode cX11_falls 56 = .ok (.iload_n 2, 1) := by decide +kernel
theorem dX11_falls_57 : decode cX11_falls 57 = .ok (.iconst (-1), 1) := by decide +kernel
theorem dX11_falls_58 : decode cX11_falls 58 = .ok (.if_icmp .ne 13, 3) := by decide +kernel
theorem dX11_falls_61 : decode cX11_falls 61 = .ok (.iload_n 3, 1) := by decide +kernel
theorem dX11_falls_62 : decode cX11_falls 62 = .ok (.ifCond .eq 7, 3) := by decide +kernel
theorem dX11_falls_65 : decode cX11_falls 65 = .ok (.iconst 1, 1) := by decide +kernel
theorem dX11_falls_66 : decode cX11_falls 66 = .ok (.goto 4, 3) := by decide +kernel
theorem dX11_falls_69 : decode cX11_falls 69 = .ok (.iconst 0, 1) := by decide +kernel
theorem dX11_falls_70 : decode cX11_falls 70 = .ok (.ireturn, 1) := by decide +kernel
theorem dX11_falls_71 : decode cX11_falls 71 = .ok (.iload_n 3, 1) := by decide +kernel
theorem dX11_falls_72 : decode cX11_falls 72 = .ok (.ifCond .eq 15, 3) := by decide +kernel
theorem dX11_falls_75 : decode cX11_falls 75 = .ok (.aload_n 0, 1) := by decide +kernel
theorem dX11_falls_76 : decode cX11_falls 76 = .ok (.getfield 79, 3) := by decide +kernel
theorem dX11_falls_79 : decode cX11_falls 79 = .ok (.getfield 411, 3) := by decide +kernel
theorem dX11_falls_82 : decode cX11_falls 82 = .ok (.iload_n 2, 1) := by decide +kernel
theorem dX11_falls_83 : decode cX11_falls 83 = .ok (.iaload, 1) := by decide +kernel
theorem dX11_falls_84 : decode cX11_falls 84 = .ok (.goto 4, 3) := by decide +kernel
theorem dX11_falls_87 : decode cX11_falls 87 = .ok (.iconst (-1), 1) := by decide +kernel
theorem dX11_falls_88 : decode cX11_falls 88 = .ok (.ireturn, 1) := by decide +kernel
theorem dX11_light_0 : decode cX11_light 0 = .ok (.lload_n 1, 1) := by decide +kernel
theorem dX11_light_1 : decode cX11_light 1 = .ok (.invokestatic 169, 3) := by decide +kernel
theorem dX11_light_4 : decode cX11_light 4 = .ok (.aload_n 0, 1) := by decide +kernel
theorem dX11_light_5 : decode cX11_light 5 = .ok (.getfield 19, 3) := by decide +kernel
theorem dX11_light_8 : decode cX11_light 8 = .ok (.lload_n 1, 1) := by decide +kernel
theorem dX11_light_9 : decode cX11_light 9 = .ok (.invokevirtual 417, 3) := by decide +kernel
theorem dX11_light_12 : decode cX11_light 12 = .ok (.ireturn, 1) := by decide +kernel
theorem dX11_loss_0 : decode cX11_loss 0 = .ok (.aload_n 0, 1) := by decide +kernel
theorem dX11_loss_1 : decode cX11_loss 1 = .ok (.iload_n 1, 1) := by decide +kernel
theorem dX11_loss_2 : decode cX11_loss 2 = .ok (.invokevirtual 135, 3) := by decide +kernel
theorem dX11_loss_5 : decode cX11_loss 5 = .ok (.aload_n 0, 1) := by decide +kernel
theorem dX11_loss_6 : decode cX11_loss 6 = .ok (.getfield 19, 3) := by decide +kernel
theorem dX11_loss_9 : decode cX11_loss 9 = .ok (.aload_n 0, 1) := by decide +kernel
theorem dX11_loss_10 : decode cX11_loss 10 = .ok (.getfield 19, 3) := by decide +kernel
theorem dX11_loss_13 : decode cX11_loss 13 = .ok (.getfield 48, 3) := by decide +kernel
theorem dX11_loss_16 : decode cX11_loss 16 = .ok (.getfield 144, 3) := by decide +kernel
theorem dX11_loss_19 : decode cX11_loss 19 = .ok (.iload_n 1, 1) := by decide +kernel
theorem dX11_loss_20 : decode cX11_loss 20 = .ok (.laload, 1) := by decide +kernel
theorem dX11_loss_21 : decode cX11_loss 21 = .ok (.invokevirtual 417, 3) := by decide +kernel
theorem dX11_loss_24 : decode cX11_loss 24 = .ok (.aload_n 0, 1) := by decide +kernel
theorem dX11_loss_25 : decode cX11_loss 25 = .ok (.getfield 19, 3) := by decide +kernel
theorem dX11_loss_28 : decode cX11_loss 28 = .ok (.aload_n 0, 1) := by decide +kernel
theorem dX11_loss_29 : decode cX11_loss 29 = .ok (.getfield 19, 3) := by decide +kernel
theorem dX11_loss_32 : decode cX11_loss 32 = .ok (.getfield 48, 3) := by decide +kernel
theorem dX11_loss_35 : decode cX11_loss 35 = .ok (.getfield 138, 3) := by decide +kernel
theorem dX11_loss_38 : decode cX11_loss 38 = .ok (.iload_n 1, 1) := by decide +kernel
theorem dX11_loss_39 : decode cX11_loss 39 = .ok (.laload, 1) := by decide +kernel
theorem dX11_loss_40 : decode cX11_loss 40 = .ok (.invokevirtual 417, 3) := by decide +kernel
theorem dX11_loss_43 : decode cX11_loss 43 = .ok (.isub, 1) := by decide +kernel
theorem dX11_loss_44 : decode cX11_loss 44 = .ok (.ireturn, 1) := by decide +kernel
theorem dX11_explained_0 : decode cX11_explained 0 = .ok (.aload_n 0, 1) := by decide +kernel
theorem dX11_explained_1 : decode cX11_explained 1 = .ok (.iload_n 1, 1) := by decide +kernel
theorem dX11_explained_2 : decode cX11_explained 2 = .ok (.invokevirtual 160, 3) := by decide +kernel
theorem dX11_explained_5 : decode cX11_explained 5 = .ok (.aload_n 0, 1) := by decide +kernel
theorem dX11_explained_6 : decode cX11_explained 6 = .ok (.getfield 19, 3) := by decide +kernel
theorem dX11_explained_9 : decode cX11_explained 9 = .ok (.iload_n 1, 1) := by decide +kernel
theorem dX11_explained_10 : decode cX11_explained 10 = .ok (.invokevirtual 420, 3) := by decide +kernel
theorem dX11_explained_13 : decode cX11_explained 13 = .ok (.ireturn, 1) := by decide +kernel
theorem dX11_telling_0 : decode cX11_telling 0 = .ok (.aload_n 0, 1) := by decide +kernel
theorem dX11_telling_1 : decode cX11_telling 1 = .ok (.getfield 93, 3) := by decide +kernel
theorem dX11_telling_4 : decode cX11_telling 4 = .ok (.aload_n 0, 1) := by decide +kernel
theorem dX11_telling_5 : decode cX11_telling 5 = .ok (.getfield 19, 3) := by decide +kernel
theorem dX11_telling_8 : decode cX11_telling 8 = .ok (.invokevirtual 423, 3) := by decide +kernel
theorem dX11_telling_11 : decode cX11_telling 11 = .ok (.ireturn, 1) := by decide +kernel
theorem dX11_guessed_0 : decode cX11_guessed 0 = .ok (.iload_n 1, 1) := by decide +kernel
theorem dX11_guessed_1 : decode cX11_guessed 1 = .ok (.iconst 3, 1) := by decide +kernel
theorem dX11_guessed_2 : decode cX11_guessed 2 = .ok (.invokestatic 187, 3) := by decide +kernel
theorem dX11_guessed_5 : decode cX11_guessed 5 = .ok (.aload_n 0, 1) := by decide +kernel
theorem dX11_guessed_6 : decode cX11_guessed 6 = .ok (.getfield 93, 3) := by decide +kernel
theorem dX11_guessed_9 : decode cX11_guessed 9 = .ok (.aload_n 0, 1) := by decide +kernel
theorem dX11_guessed_10 : decode cX11_guessed 10 = .ok (.getfield 19, 3) := by decide +kernel
theorem dX11_guessed_13 : decode cX11_guessed 13 = .ok (.invokevirtual 427, 3) := by decide +kernel
theorem dX11_guessed_16 : decode cX11_guessed 16 = .ok (.iload_n 1, 1) := by decide +kernel
theorem dX11_guessed_17 : decode cX11_guessed 17 = .ok (.ifCond .ne 14, 3) := by decide +kernel
theorem dX11_guessed_20 : decode cX11_guessed 20 = .ok (.aload_n 0, 1) := by decide +kernel
theorem dX11_guessed_21 : decode cX11_guessed 21 = .ok (.getfield 93, 3) := by decide +kernel
theorem dX11_guessed_24 : decode cX11_guessed 24 = .ok (.getfield 429, 3) := by decide +kernel
theorem dX11_guessed_27 : decode cX11_guessed 27 = .ok (.i2l, 1) := by decide +kernel
theorem dX11_guessed_28 : decode cX11_guessed 28 = .ok (.goto 25, 3) := by decide +kernel
theorem dX11_guessed_31 : decode cX11_guessed 31 = .ok (.iload_n 1, 1) := by decide +kernel
theorem dX11_guessed_32 : decode cX11_guessed 32 = .ok (.iconst 1, 1) := by decide +kernel
theorem dX11_guessed_33 : decode cX11_guessed 33 = .ok (.if_icmp .ne 13, 3) := by decide +kernel
theorem dX11_guessed_36 : decode cX11_guessed 36 = .ok (.aload_n 0, 1) := by decide +kernel
theorem dX11_guessed_37 : decode cX11_guessed 37 = .ok (.getfield 93, 3) := by decide +kernel
theorem dX11_guessed_40 : decode cX11_guessed 40 = .ok (.getfield 430, 3) := by decide +kernel
theorem dX11_guessed_43 : decode cX11_guessed 43 = .ok (.goto 10, 3) := by decide +kernel
theorem dX11_guessed_46 : decode cX11_guessed 46 = .ok (.aload_n 0, 1) := by decide +kernel
theorem dX11_guessed_47 : decode cX11_guessed 47 = .ok (.getfield 93, 3) := by decide +kernel
theorem dX11_guessed_50 : decode cX11_guessed 50 = .ok (.getfield 433, 3) := by decide +kernel
theorem dX11_guessed_53 : decode cX11_guessed 53 = .ok (.lreturn, 1) := by decide +kernel
theorem dX11_sorts_0 : decode cX11_sorts 0 = .ok (.iload_n 1, 1) := by decide +kernel
theorem dX11_sorts_1 : decode cX11_sorts 1 = .ok (.iconst 4, 1) := by decide +kernel
theorem dX11_sorts_2 : decode cX11_sorts 2 = .ok (.invokestatic 187, 3) := by decide +kernel
theorem dX11_sorts_5 : decode cX11_sorts 5 = .ok (.sipush 255, 3) := by decide +kernel
theorem dX11_sorts_8 : decode cX11_sorts 8 = .ok (.istore_n 2, 1) := by decide +kernel
theorem dX11_sorts_9 : decode cX11_sorts 9 = .ok (.iload_n 1, 1) := by decide +kernel
theorem dX11_sorts_10 : decode cX11_sorts 10 = .ok (.tableswitch 67 0 2 #[26, 41, 56], 26) := by decide +kernel
theorem dX11_sorts_36 : decode cX11_sorts 36 = .ok (.iload_n 2, 1) := by decide +kernel
theorem dX11_sorts_37 : decode cX11_sorts 37 = .ok (.aload_n 0, 1) := by decide +kernel
theorem dX11_sorts_38 : decode cX11_sorts 38 = .ok (.getfield 19, 3) := by decide +kernel
theorem dX11_sorts_41 : decode cX11_sorts 41 = .ok (.getfield 48, 3) := by decide +kernel
theorem dX11_sorts_44 : decode cX11_sorts 44 = .ok (.invokevirtual 276, 3) := by decide +kernel
theorem dX11_sorts_47 : decode cX11_sorts 47 = .ok (.iconst (-1), 1) := by decide +kernel
theorem dX11_sorts_48 : decode cX11_sorts 48 = .ok (.ixor, 1) := by decide +kernel
theorem dX11_sorts_49 : decode cX11_sorts 49 = .ok (.iand, 1) := by decide +kernel
theorem dX11_sorts_50 : decode cX11_sorts 50 = .ok (.ireturn, 1) := by decide +kernel
theorem dX11_sorts_51 : decode cX11_sorts 51 = .ok (.iload_n 2, 1) := by decide +kernel
theorem dX11_sorts_52 : decode cX11_sorts 52 = .ok (.aload_n 0, 1) := by decide +kernel
theorem dX11_sorts_53 : decode cX11_sorts 53 = .ok (.getfield 19, 3) := by decide +kernel
theorem dX11_sorts_56 : decode cX11_sorts 56 = .ok (.getfield 48, 3) := by decide +kernel
theorem dX11_sorts_59 : decode cX11_sorts 59 = .ok (.invokevirtual 436, 3) := by decide +kernel
theorem dX11_sorts_62 : decode cX11_sorts 62 = .ok (.iconst (-1), 1) := by decide +kernel
theorem dX11_sorts_63 : decode cX11_sorts 63 = .ok (.ixor, 1) := by decide +kernel
theorem dX11_sorts_64 : decode cX11_sorts 64 = .ok (.iand, 1) := by decide +kernel
theorem dX11_sorts_65 : decode cX11_sorts 65 = .ok (.ireturn, 1) := by decide +kernel
theorem dX11_sorts_66 : decode cX11_sorts 66 = .ok (.aload_n 0, 1) := by decide +kernel
theorem dX11_sorts_67 : decode cX11_sorts 67 = .ok (.getfield 19, 3) := by decide +kernel
theorem dX11_sorts_70 : decode cX11_sorts 70 = .ok (.getfield 48, 3) := by decide +kernel
theorem dX11_sorts_73 : decode cX11_sorts 73 = .ok (.invokevirtual 439, 3) := by decide +kernel
theorem dX11_sorts_76 : decode cX11_sorts 76 = .ok (.ireturn, 1) := by decide +kernel
theorem dX11_sorts_77 : decode cX11_sorts 77 = .ok (.aload_n 0, 1) := by decide +kernel
theorem dX11_sorts_78 : decode cX11_sorts 78 = .ok (.getfield 19, 3) := by decide +kernel
theorem dX11_sorts_81 : decode cX11_sorts 81 = .ok (.getfield 48, 3) := by decide +kernel
theorem dX11_sorts_84 : decode cX11_sorts 84 = .ok (.invokevirtual 442, 3) := by decide +kernel
theorem dX11_sorts_87 : decode cX11_sorts 87 = .ok (.ireturn, 1) := by decide +kernel
theorem dX11_seed_0 : decode cX11_seed 0 = .ok (.aload_n 0, 1) := by decide +kernel
theorem dX11_seed_1 : decode cX11_seed 1 = .ok (.getfield 19, 3) := by decide +kernel
theorem dX11_seed_4 : decode cX11_seed 4 = .ok (.getfield 445, 3) := by decide +kernel
theorem dX11_seed_7 : decode cX11_seed 7 = .ok (.istore_n 2, 1) := by decide +kernel
theorem dX11_seed_8 : decode cX11_seed 8 = .ok (.aload_n 0, 1) := by decide +kernel
theorem dX11_seed_9 : decode cX11_seed 9 = .ok (.getfield 19, 3) := by decide +kernel
theorem dX11_seed_12 : decode cX11_seed 12 = .ok (.iload_n 1, 1) := by decide +kernel
theorem dX11_seed_13 : decode cX11_seed 13 = .ok (.putfield 445, 3) := by decide +kernel
theorem dX11_seed_16 : decode cX11_seed 16 = .ok (.iload_n 2, 1) := by decide +kernel
theorem dX11_seed_17 : decode cX11_seed 17 = .ok (.ireturn, 1) := by decide +kernel
theorem dX11_undo_0 : decode cX11_undo 0 = .ok (.aload_n 0, 1) := by decide +kernel
theorem dX11_undo_1 : decode cX11_undo 1 = .ok (.getfield 448, 3) := by decide +kernel
theorem dX11_undo_4 : decode cX11_undo 4 = .ok (.ifCond .ne 5, 3) := by decide +kernel
theorem dX11_undo_7 : decode cX11_undo 7 = .ok (.iconst 0, 1) := by decide +kernel
theorem dX11_undo_8 : decode cX11_undo 8 = .ok (.ireturn, 1) := by decide +kernel
theorem dX11_undo_9 : decode cX11_undo 9 = .ok (.aload_n 0, 1) := by decide +kernel
theorem dX11_undo_10 : decode cX11_undo 10 = .ok (.dup, 1) := by decide +kernel
theorem dX11_undo_11 : decode cX11_undo 11 = .ok (.getfield 448, 3) := by decide +kernel
theorem dX11_undo_14 : decode cX11_undo 14 = .ok (.iconst 1, 1) := by decide +kernel
theorem dX11_undo_15 : decode cX11_undo 15 = .ok (.isub, 1) := by decide +kernel
theorem dX11_undo_16 : decode cX11_undo 16 = .ok (.putfield 448, 3) := by decide +kernel
theorem dX11_undo_19 : decode cX11_undo 19 = .ok (.aload_n 0, 1) := by decide +kernel
theorem dX11_undo_20 : decode cX11_undo 20 = .ok (.aload_n 0, 1) := by decide +kernel
theorem dX11_undo_21 : decode cX11_undo 21 = .ok (.getfield 451, 3) := by decide +kernel
theorem dX11_undo_24 : decode cX11_undo 24 = .ok (.bipush 16, 2) := by decide +kernel
theorem dX11_undo_26 : decode cX11_undo 26 = .ok (.iadd, 1) := by decide +kernel
theorem dX11_undo_27 : decode cX11_undo 27 = .ok (.iconst 1, 1) := by decide +kernel
theorem dX11_undo_28 : decode cX11_undo 28 = .ok (.isub, 1) := by decide +kernel
theorem dX11_undo_29 : decode cX11_undo 29 = .ok (.bipush 16, 2) := by decide +kernel
theorem dX11_undo_31 : decode cX11_undo 31 = .ok (.irem, 1) := by decide +kernel
theorem dX11_undo_32 : decode cX11_undo 32 = .ok (.putfield 451, 3) := by decide +kernel
theorem dX11_undo_35 : decode cX11_undo 35 = .ok (.aload_n 0, 1) := by decide +kernel
theorem dX11_undo_36 : decode cX11_undo 36 = .ok (.getfield 19, 3) := by decide +kernel
theorem dX11_undo_39 : decode cX11_undo 39 = .ok (.aload_n 0, 1) := by decide +kernel
theorem dX11_undo_40 : decode cX11_undo 40 = .ok (.getfield 42, 3) := by decide +kernel
theorem dX11_undo_43 : decode cX11_undo 43 = .ok (.aload_n 0, 1) := by decide +kernel
theorem dX11_undo_44 : decode cX11_undo 44 = .ok (.getfield 451, 3) := by decide +kernel
theorem dX11_undo_47 : decode cX11_undo 47 = .ok (.aaload, 1) := by decide +kernel
theorem dX11_undo_48 : decode cX11_undo 48 = .ok (.invokevirtual 105, 3) := by decide +kernel
theorem dX11_undo_51 : decode cX11_undo 51 = .ok (.iconst 1, 1) := by decide +kernel
theorem dX11_undo_52 : decode cX11_undo 52 = .ok (.ireturn, 1) := by decide +kernel
theorem dX11_image_0 : decode cX11_image 0 = .ok (.aload_n 0, 1) := by decide +kernel
theorem dX11_image_1 : decode cX11_image 1 = .ok (.getfield 36, 3) := by decide +kernel
theorem dX11_image_4 : decode cX11_image 4 = .ok (.aload_n 0, 1) := by decide +kernel
theorem dX11_image_5 : decode cX11_image 5 = .ok (.getfield 19, 3) := by decide +kernel
theorem dX11_image_8 : decode cX11_image 8 = .ok (.invokevirtual 105, 3) := by decide +kernel
theorem dX11_image_11 : decode cX11_image 11 = .ok (.aload_n 0, 1) := by decide +kernel
theorem dX11_image_12 : decode cX11_image 12 = .ok (.getfield 39, 3) := by decide +kernel
theorem dX11_image_15 : decode cX11_image 15 = .ok (.aload_n 0, 1) := by decide +kernel
theorem dX11_image_16 : decode cX11_image 16 = .ok (.getfield 29, 3) := by decide +kernel
theorem dX11_image_19 : decode cX11_image 19 = .ok (.invokevirtual 126, 3) := by decide +kernel
theorem dX11_image_22 : decode cX11_image 22 = .ok (.aload_n 0, 1) := by decide +kernel
theorem dX11_image_23 : decode cX11_image 23 = .ok (.iconst 1, 1) := by decide +kernel
theorem dX11_image_24 : decode cX11_image 24 = .ok (.putfield 454, 3) := by decide +kernel
theorem dX11_image_27 : decode cX11_image 27 = .ok (.return_, 1) := by decide +kernel
theorem dX11_back_0 : decode cX11_back 0 = .ok (.aload_n 0, 1) := by decide +kernel
theorem dX11_back_1 : decode cX11_back 1 = .ok (.getfield 454, 3) := by decide +kernel
theorem dX11_back_4 : decode cX11_back 4 = .ok (.ifCond .ne 5, 3) := by decide +kernel
theorem dX11_back_7 : decode cX11_back 7 = .ok (.iconst 0, 1) := by decide +kernel
theorem dX11_back_8 : decode cX11_back 8 = .ok (.ireturn, 1) := by decide +kernel
theorem dX11_back_9 : decode cX11_back 9 = .ok (.aload_n 0, 1) := by decide +kernel
theorem dX11_back_10 : decode cX11_back 10 = .ok (.getfield 19, 3) := by decide +kernel
theorem dX11_back_13 : decode cX11_back 13 = .ok (.aload_n 0, 1) := by decide +kernel
theorem dX11_back_14 : decode cX11_back 14 = .ok (.getfield 36, 3) := by decide +kernel
theorem dX11_back_17 : decode cX11_back 17 = .ok (.invokevirtual 105, 3) := by decide +kernel
theorem dX11_back_20 : decode cX11_back 20 = .ok (.aload_n 0, 1) := by decide +kernel
theorem dX11_back_21 : decode cX11_back 21 = .ok (.getfield 29, 3) := by decide +kernel
theorem dX11_back_24 : decode cX11_back 24 = .ok (.aload_n 0, 1) := by decide +kernel
theorem dX11_back_25 : decode cX11_back 25 = .ok (.getfield 39, 3) := by decide +kernel
theorem dX11_back_28 : decode cX11_back 28 = .ok (.invokevirtual 126, 3) := by decide +kernel
theorem dX11_back_31 : decode cX11_back 31 = .ok (.aload_n 0, 1) := by decide +kernel
theorem dX11_back_32 : decode cX11_back 32 = .ok (.invokevirtual 122, 3) := by decide +kernel
theorem dX11_back_35 : decode cX11_back 35 = .ok (.iconst 1, 1) := by decide +kernel
theorem dX11_back_36 : decode cX11_back 36 = .ok (.ireturn, 1) := by decide +kernel
theorem dX11_count_0 : decode cX11_count 0 = .ok (.iload_n 1, 1) := by decide +kernel
theorem dX11_count_1 : decode cX11_count 1 = .ok (.tableswitch 147 0 10 #[59, 70, 78, 86, 94, 102, 110, 118, 126, 134, 142], 59) := by decide +kernel
theorem dX11_count_60 : decode cX11_count 60 = .ok (.aload_n 0, 1) := by decide +kernel
theorem dX11_count_61 : decode cX11_count 61 = .ok (.getfield 19, 3) := by decide +kernel
theorem dX11_count_64 : decode cX11_count 64 = .ok (.getfield 48, 3) := by decide +kernel
theorem dX11_count_67 : decode cX11_count 67 = .ok (.getfield 230, 3) := by decide +kernel
theorem dX11_count_70 : decode cX11_count 70 = .ok (.ireturn, 1) := by decide +kernel
theorem dX11_count_71 : decode cX11_count 71 = .ok (.aload_n 0, 1) := by decide +kernel
theorem dX11_count_72 : decode cX11_count 72 = .ok (.getfield 19, 3) := by decide +kernel
theorem dX11_count_75 : decode cX11_count 75 = .ok (.getfield 323, 3) := by decide +kernel
theorem dX11_count_78 : decode cX11_count 78 = .ok (.ireturn, 1) := by decide +kernel
theorem dX11_count_79 : decode cX11_count 79 = .ok (.aload_n 0, 1) := by decide +kernel
theorem dX11_count_80 : decode cX11_count 80 = .ok (.getfield 19, 3) := by decide +kernel
theorem dX11_count_83 : decode cX11_count 83 = .ok (.getfield 458, 3) := by decide +kernel
theorem dX11_count_86 : decode cX11_count 86 = .ok (.ireturn, 1) := by decide +kernel
theorem dX11_count_87 : decode cX11_count 87 = .ok (.aload_n 0, 1) := by decide +kernel
theorem dX11_count_88 : decode cX11_count 88 = .ok (.getfield 19, 3) := by decide +kernel
theorem dX11_count_91 : decode cX11_count 91 = .ok (.getfield 116, 3) := by decide +kernel
theorem dX11_count_94 : decode cX11_count 94 = .ok (.ireturn, 1) := by decide +kernel
theorem dX11_count_95 : decode cX11_count 95 = .ok (.aload_n 0, 1) := by decide +kernel
theorem dX11_count_96 : decode cX11_count 96 = .ok (.getfield 29, 3) := by decide +kernel
theorem dX11_count_99 : decode cX11_count 99 = .ok (.getfield 129, 3) := by decide +kernel
theorem dX11_count_102 : decode cX11_count 102 = .ok (.ireturn, 1) := by decide +kernel
theorem dX11_count_103 : decode cX11_count 103 = .ok (.aload_n 0, 1) := by decide +kernel
theorem dX11_count_104 : decode cX11_count 104 = .ok (.getfield 19, 3) := by decide +kernel
theorem dX11_count_107 : decode cX11_count 107 = .ok (.getfield 461, 3) := by decide +kernel
theorem dX11_count_110 : decode cX11_count 110 = .ok (.ireturn, 1) := by decide +kernel
theorem dX11_count_111 : decode cX11_count 111 = .ok (.aload_n 0, 1) := by decide +kernel
theorem dX11_count_112 : decode cX11_count 112 = .ok (.getfield 19, 3) := by decide +kernel
theorem dX11_count_115 : decode cX11_count 115 = .ok (.getfield 244, 3) := by decide +kernel
theorem dX11_count_118 : decode cX11_count 118 = .ok (.ireturn, 1) := by decide +kernel
theorem dX11_count_119 : decode cX11_count 119 = .ok (.aload_n 0, 1) := by decide +kernel
theorem dX11_count_120 : decode cX11_count 120 = .ok (.getfield 19, 3) := by decide +kernel
theorem dX11_count_123 : decode cX11_count 123 = .ok (.getfield 253, 3) := by decide +kernel
theorem dX11_count_126 : decode cX11_count 126 = .ok (.ireturn, 1) := by decide +kernel
theorem dX11_count_127 : decode cX11_count 127 = .ok (.aload_n 0, 1) := by decide +kernel
theorem dX11_count_128 : decode cX11_count 128 = .ok (.getfield 19, 3) := by decide +kernel
theorem dX11_count_131 : decode cX11_count 131 = .ok (.invokevirtual 464, 3) := by decide +kernel
theorem dX11_count_134 : decode cX11_count 134 = .ok (.ireturn, 1) := by decide +kernel
theorem dX11_count_135 : decode cX11_count 135 = .ok (.aload_n 0, 1) := by decide +kernel
theorem dX11_count_136 : decode cX11_count 136 = .ok (.getfield 19, 3) := by decide +kernel
theorem dX11_count_139 : decode cX11_count 139 = .ok (.invokevirtual 467, 3) := by decide +kernel
theorem dX11_count_142 : decode cX11_count 142 = .ok (.ireturn, 1) := by decide +kernel
theorem dX11_count_143 : decode cX11_count 143 = .ok (.aload_n 0, 1) := by decide +kernel
theorem dX11_count_144 : decode cX11_count 144 = .ok (.getfield 448, 3) := by decide +kernel
theorem dX11_count_147 : decode cX11_count 147 = .ok (.ireturn, 1) := by decide +kernel
theorem dX11_count_148 : decode cX11_count 148 = .ok (.iconst (-1), 1) := by decide +kernel
theorem dX11_count_149 : decode cX11_count 149 = .ok (.ireturn, 1) := by decide +kernel
theorem dX11_remember_0 : decode cX11_remember 0 = .ok (.aload_n 0, 1) := by decide +kernel
theorem dX11_remember_1 : decode cX11_remember 1 = .ok (.getfield 42, 3) := by decide +kernel
theorem dX11_remember_4 : decode cX11_remember 4 = .ok (.aload_n 0, 1) := by decide +kernel
theorem dX11_remember_5 : decode cX11_remember 5 = .ok (.getfield 451, 3) := by decide +kernel
theorem dX11_remember_8 : decode cX11_remember 8 = .ok (.aaload, 1) := by decide +kernel
theorem dX11_remember_9 : decode cX11_remember 9 = .ok (.aload_n 0, 1) := by decide +kernel
theorem dX11_remember_10 : decode cX11_remember 10 = .ok (.getfield 19, 3) := by decide +kernel
theorem dX11_remember_13 : decode cX11_remember 13 = .ok (.invokevirtual 105, 3) := by decide +kernel
theorem dX11_remember_16 : decode cX11_remember 16 = .ok (.aload_n 0, 1) := by decide +kernel
theorem dX11_remember_17 : decode cX11_remember 17 = .ok (.aload_n 0, 1) := by decide +kernel
theorem dX11_remember_18 : decode cX11_remember 18 = .ok (.getfield 451, 3) := by decide +kernel
theorem dX11_remember_21 : decode cX11_remember 21 = .ok (.iconst 1, 1) := by decide +kernel
theorem dX11_remember_22 : decode cX11_remember 22 = .ok (.iadd, 1) := by decide +kernel
theorem dX11_remember_23 : decode cX11_remember 23 = .ok (.bipush 16, 2) := by decide +kernel
theorem dX11_remember_25 : decode cX11_remember 25 = .ok (.irem, 1) := by decide +kernel
theorem dX11_remember_26 : decode cX11_remember 26 = .ok (.putfield 451, 3) := by decide +kernel
theorem dX11_remember_29 : decode cX11_remember 29 = .ok (.aload_n 0, 1) := by decide +kernel
theorem dX11_remember_30 : decode cX11_remember 30 = .ok (.aload_n 0, 1) := by decide +kernel
theorem dX11_remember_31 : decode cX11_remember 31 = .ok (.getfield 448, 3) := by decide +kernel
theorem dX11_remember_34 : decode cX11_remember 34 = .ok (.iconst 1, 1) := by decide +kernel
theorem dX11_remember_35 : decode cX11_remember 35 = .ok (.iadd, 1) := by decide +kernel
theorem dX11_remember_36 : decode cX11_remember 36 = .ok (.bipush 16, 2) := by decide +kernel
theorem dX11_remember_38 : decode cX11_remember 38 = .ok (.invokestatic 310, 3) := by decide +kernel
theorem dX11_remember_41 : decode cX11_remember 41 = .ok (.putfield 448, 3) := by decide +kernel
theorem dX11_remember_44 : decode cX11_remember 44 = .ok (.return_, 1) := by decide +kernel
theorem dX11_forgetActs_0 : decode cX11_forgetActs 0 = .ok (.aload_n 0, 1) := by decide +kernel
theorem dX11_forgetActs_1 : decode cX11_forgetActs 1 = .ok (.iconst 0, 1) := by decide +kernel
theorem dX11_forgetActs_2 : decode cX11_forgetActs 2 = .ok (.putfield 448, 3) := by decide +kernel
theorem dX11_forgetActs_5 : decode cX11_forgetActs 5 = .ok (.return_, 1) := by decide +kernel
theorem dX11_checkRule_0 : decode cX11_checkRule 0 = .ok (.iload_n 1, 1) := by decide +kernel
theorem dX11_checkRule_1 : decode cX11_checkRule 1 = .ok (.ifCond .lt 17, 3) := by decide +kernel
theorem dX11_checkRule_4 : decode cX11_checkRule 4 = .ok (.iload_n 1, 1) := by decide +kernel
theorem dX11_checkRule_5 : decode cX11_checkRule 5 = .ok (.aload_n 0, 1) := by decide +kernel
theorem dX11_checkRule_6 : decode cX11_checkRule 6 = .ok (.getfield 19, 3) := by decide +kernel
theorem dX11_checkRule_9 : decode cX11_checkRule 9 = .ok (.getfield 48, 3) := by decide +kernel
theorem dX11_checkRule_12 : decode cX11_checkRule 12 = .ok (.getfield 230, 3) := by decide +kernel
theorem dX11_checkRule_15 : decode cX11_checkRule 15 = .ok (.if_icmp .lt 11, 3) := by decide +kernel
theorem dX11_checkRule_18 : decode cX11_checkRule 18 = .ok (.new 184, 3) := by decide +kernel
theorem dX11_checkRule_21 : decode cX11_checkRule 21 = .ok (.dup, 1) := by decide +kernel
theorem dX11_checkRule_22 : decode cX11_checkRule 22 = .ok (.invokespecial 186, 3) := by decide +kernel
theorem dX11_checkRule_25 : decode cX11_checkRule 25 = .ok (.athrow, 1) := by decide +kernel
theorem dX11_checkRule_26 : decode cX11_checkRule 26 = .ok (.return_, 1) := by decide +kernel
theorem dX11_checkField_0 : decode cX11_checkField 0 = .ok (.iload_n 1, 1) := by decide +kernel
theorem dX11_checkField_1 : decode cX11_checkField 1 = .ok (.ifCond .lt 14, 3) := by decide +kernel
theorem dX11_checkField_4 : decode cX11_checkField 4 = .ok (.iload_n 1, 1) := by decide +kernel
theorem dX11_checkField_5 : decode cX11_checkField 5 = .ok (.aload_n 0, 1) := by decide +kernel
theorem dX11_checkField_6 : decode cX11_checkField 6 = .ok (.getfield 19, 3) := by decide +kernel
theorem dX11_checkField_9 : decode cX11_checkField 9 = .ok (.getfield 323, 3) := by decide +kernel
theorem dX11_checkField_12 : decode cX11_checkField 12 = .ok (.if_icmp .lt 11, 3) := by decide +kernel
theorem dX11_checkField_15 : decode cX11_checkField 15 = .ok (.new 184, 3) := by decide +kernel
theorem dX11_checkField_18 : decode cX11_checkField 18 = .ok (.dup, 1) := by decide +kernel
theorem dX11_checkField_19 : decode cX11_checkField 19 = .ok (.invokespecial 186, 3) := by decide +kernel
theorem dX11_checkField_22 : decode cX11_checkField 22 = .ok (.athrow, 1) := by decide +kernel
theorem dX11_checkField_23 : decode cX11_checkField 23 = .ok (.return_, 1) := by decide +kernel
theorem dX11_checkSeen_0 : decode cX11_checkSeen 0 = .ok (.iload_n 1, 1) := by decide +kernel
theorem dX11_checkSeen_1 : decode cX11_checkSeen 1 = .ok (.ifCond .lt 14, 3) := by decide +kernel
theorem dX11_checkSeen_4 : decode cX11_checkSeen 4 = .ok (.iload_n 1, 1) := by decide +kernel
theorem dX11_checkSeen_5 : decode cX11_checkSeen 5 = .ok (.aload_n 0, 1) := by decide +kernel
theorem dX11_checkSeen_6 : decode cX11_checkSeen 6 = .ok (.getfield 19, 3) := by decide +kernel
theorem dX11_checkSeen_9 : decode cX11_checkSeen 9 = .ok (.getfield 458, 3) := by decide +kernel
theorem dX11_checkSeen_12 : decode cX11_checkSeen 12 = .ok (.if_icmp .lt 11, 3) := by decide +kernel
theorem dX11_checkSeen_15 : decode cX11_checkSeen 15 = .ok (.new 184, 3) := by decide +kernel
theorem dX11_checkSeen_18 : decode cX11_checkSeen 18 = .ok (.dup, 1) := by decide +kernel
theorem dX11_checkSeen_19 : decode cX11_checkSeen 19 = .ok (.invokespecial 186, 3) := by decide +kernel
theorem dX11_checkSeen_22 : decode cX11_checkSeen 22 = .ok (.athrow, 1) := by decide +kernel
theorem dX11_checkSeen_23 : decode cX11_checkSeen 23 = .ok (.return_, 1) := by decide +kernel
theorem dX11_checkBeastOrNone_0 : decode cX11_checkBeastOrNone 0 = .ok (.iload_n 0, 1) := by decide +kernel
theorem dX11_checkBeastOrNone_1 : decode cX11_checkBeastOrNone 1 = .ok (.iconst (-1), 1) := by decide +kernel
theorem dX11_checkBeastOrNone_2 : decode cX11_checkBeastOrNone 2 = .ok (.if_icmp .lt 9, 3) := by decide +kernel
theorem dX11_checkBeastOrNone_5 : decode cX11_checkBeastOrNone 5 = .ok (.iload_n 0, 1) := by decide +kernel
theorem dX11_checkBeastOrNone_6 : decode cX11_checkBeastOrNone 6 = .ok (.bipush 8, 2) := by decide +kernel
theorem dX11_checkBeastOrNone_8 : decode cX11_checkBeastOrNone 8 = .ok (.if_icmp .lt 11, 3) := by decide +kernel
theorem dX11_checkBeastOrNone_11 : decode cX11_checkBeastOrNone 11 = .ok (.new 184, 3) := by decide +kernel
theorem dX11_checkBeastOrNone_14 : decode cX11_checkBeastOrNone 14 = .ok (.dup, 1) := by decide +kernel
theorem dX11_checkBeastOrNone_15 : decode cX11_checkBeastOrNone 15 = .ok (.invokespecial 186, 3) := by decide +kernel
theorem dX11_checkBeastOrNone_18 : decode cX11_checkBeastOrNone 18 = .ok (.athrow, 1) := by decide +kernel
theorem dX11_checkBeastOrNone_19 : decode cX11_checkBeastOrNone 19 = .ok (.return_, 1) := by decide +kernel
theorem dX11_checkCode_0 : decode cX11_checkCode 0 = .ok (.lload_n 0, 1) := by decide +kernel
theorem dX11_checkCode_1 : decode cX11_checkCode 1 = .ok (.invokestatic 470, 3) := by decide +kernel
theorem dX11_checkCode_4 : decode cX11_checkCode 4 = .ok (.ifCond .ne 11, 3) := by decide +kernel
theorem dX11_checkCode_7 : decode cX11_checkCode 7 = .ok (.new 113, 3) := by decide +kernel
theorem dX11_checkCode_10 : decode cX11_checkCode 10 = .ok (.dup, 1) := by decide +kernel
theorem dX11_checkCode_11 : decode cX11_checkCode 11 = .ok (.invokespecial 115, 3) := by decide +kernel
theorem dX11_checkCode_14 : decode cX11_checkCode 14 = .ok (.athrow, 1) := by decide +kernel
theorem dX11_checkCode_15 : decode cX11_checkCode 15 = .ok (.return_, 1) := by decide +kernel
theorem dX11_checkNumber_0 : decode cX11_checkNumber 0 = .ok (.iload_n 0, 1) := by decide +kernel
theorem dX11_checkNumber_1 : decode cX11_checkNumber 1 = .ok (.iload_n 1, 1) := by decide +kernel
theorem dX11_checkNumber_2 : decode cX11_checkNumber 2 = .ok (.if_icmp .lt 8, 3) := by decide +kernel
theorem dX11_checkNumber_5 : decode cX11_checkNumber 5 = .ok (.iload_n 0, 1) := by decide +kernel
theorem dX11_checkNumber_6 : decode cX11_checkNumber 6 = .ok (.iload_n 2, 1) := by decide +kernel
theorem dX11_checkNumber_7 : decode cX11_checkNumber 7 = .ok (.if_icmp .le 11, 3) := by decide +kernel
theorem dX11_checkNumber_10 : decode cX11_checkNumber 10 = .ok (.new 113, 3) := by decide +kernel
theorem dX11_checkNumber_13 : decode cX11_checkNumber 13 = .ok (.dup, 1) := by decide +kernel
theorem dX11_checkNumber_14 : decode cX11_checkNumber 14 = .ok (.invokespecial 115, 3) := by decide +kernel
theorem dX11_checkNumber_17 : decode cX11_checkNumber 17 = .ok (.athrow, 1) := by decide +kernel
theorem dX11_checkNumber_18 : decode cX11_checkNumber 18 = .ok (.return_, 1) := by decide +kernel
theorem dX11_checkWhat_0 : decode cX11_checkWhat 0 = .ok (.iload_n 0, 1) := by decide +kernel
theorem dX11_checkWhat_1 : decode cX11_checkWhat 1 = .ok (.ifCond .lt 8, 3) := by decide +kernel
theorem dX11_checkWhat_4 : decode cX11_checkWhat 4 = .ok (.iload_n 0, 1) := by decide +kernel
theorem dX11_checkWhat_5 : decode cX11_checkWhat 5 = .ok (.iload_n 1, 1) := by decide +kernel
theorem dX11_checkWhat_6 : decode cX11_checkWhat 6 = .ok (.if_icmp .lt 11, 3) := by decide +kernel
theorem dX11_checkWhat_9 : decode cX11_checkWhat 9 = .ok (.new 474, 3) := by decide +kernel
theorem dX11_checkWhat_12 : decode cX11_checkWhat 12 = .ok (.dup, 1) := by decide +kernel
theorem dX11_checkWhat_13 : decode cX11_checkWhat 13 = .ok (.invokespecial 476, 3) := by decide +kernel
theorem dX11_checkWhat_16 : decode cX11_checkWhat 16 = .ok (.athrow, 1) := by decide +kernel
theorem dX11_checkWhat_17 : decode cX11_checkWhat 17 = .ok (.return_, 1) := by decide +kernel
theorem dX11_isCode_0 : decode cX11_isCode 0 = .ok (.lload_n 0, 1) := by decide +kernel
theorem dX11_isCode_1 : decode cX11_isCode 1 = .ok (.lconst 0, 1) := by decide +kernel
theorem dX11_isCode_2 : decode cX11_isCode 2 = .ok (.lcmp, 1) := by decide +kernel
theorem dX11_isCode_3 : decode cX11_isCode 3 = .ok (.ifCond .le 38, 3) := by decide +kernel
theorem dX11_isCode_6 : decode cX11_isCode 6 = .ok (.lload_n 0, 1) := by decide +kernel
theorem dX11_isCode_7 : decode cX11_isCode 7 = .ok (.bipush 20, 2) := by decide +kernel
theorem dX11_isCode_9 : decode cX11_isCode 9 = .ok (.invokestatic 279, 3) := by decide +kernel
theorem dX11_isCode_12 : decode cX11_isCode 12 = .ok (.bipush 20, 2) := by decide +kernel
theorem dX11_isCode_14 : decode cX11_isCode 14 = .ok (.invokestatic 279, 3) := by decide +kernel
theorem dX11_isCode_17 : decode cX11_isCode 17 = .ok (.ladd, 1) := by decide +kernel
theorem dX11_isCode_18 : decode cX11_isCode 18 = .ok (.lconst 1, 1) := by decide +kernel
theorem dX11_isCode_19 : decode cX11_isCode 19 = .ok (.ladd, 1) := by decide +kernel
theorem dX11_isCode_20 : decode cX11_isCode 20 = .ok (.lcmp, 1) := by decide +kernel
theorem dX11_isCode_21 : decode cX11_isCode 21 = .ok (.ifCond .gt 20, 3) := by decide +kernel
theorem dX11_isCode_24 : decode cX11_isCode 24 = .ok (.lload_n 0, 1) := by decide +kernel
theorem dX11_isCode_25 : decode cX11_isCode 25 = .ok (.iconst 3, 1) := by decide +kernel
theorem dX11_isCode_26 : decode cX11_isCode 26 = .ok (.lload_n 0, 1) := by decide +kernel
theorem dX11_isCode_27 : decode cX11_isCode 27 = .ok (.invokestatic 173, 3) := by decide +kernel
theorem dX11_isCode_30 : decode cX11_isCode 30 = .ok (.imul, 1) := by decide +kernel
theorem dX11_isCode_31 : decode cX11_isCode 31 = .ok (.lushr, 1) := by decide +kernel
theorem dX11_isCode_32 : decode cX11_isCode 32 = .ok (.lconst 1, 1) := by decide +kernel
theorem dX11_isCode_33 : decode cX11_isCode 33 = .ok (.lcmp, 1) := by decide +kernel
theorem dX11_isCode_34 : decode cX11_isCode 34 = .ok (.ifCond .ne 7, 3) := by decide +kernel
theorem dX11_isCode_37 : decode cX11_isCode 37 = .ok (.iconst 1, 1) := by decide +kernel
theorem dX11_isCode_38 : decode cX11_isCode 38 = .ok (.goto 4, 3) := by decide +kernel
theorem dX11_isCode_41 : decode cX11_isCode 41 = .ok (.iconst 0, 1) := by decide +kernel
theorem dX11_isCode_42 : decode cX11_isCode 42 = .ok (.ireturn, 1) := by decide +kernel
theorem dX11_sizeOf_0 : decode cX11_sizeOf 0 = .ok (.iconst 0, 1) := by decide +kernel
theorem dX11_sizeOf_1 : decode cX11_sizeOf 1 = .ok (.istore_n 2, 1) := by decide +kernel
theorem dX11_sizeOf_2 : decode cX11_sizeOf 2 = .ok (.iload_n 2, 1) := by decide +kernel
theorem dX11_sizeOf_3 : decode cX11_sizeOf 3 = .ok (.bipush 20, 2) := by decide +kernel
theorem dX11_sizeOf_5 : decode cX11_sizeOf 5 = .ok (.if_icmp .ge 21, 3) := by decide +kernel
theorem dX11_sizeOf_8 : decode cX11_sizeOf 8 = .ok (.lload_n 0, 1) := by decide +kernel
theorem dX11_sizeOf_9 : decode cX11_sizeOf 9 = .ok (.iconst 3, 1) := by decide +kernel
theorem dX11_sizeOf_10 : decode cX11_sizeOf 10 = .ok (.iload_n 2, 1) := by decide +kernel
theorem dX11_sizeOf_11 : decode cX11_sizeOf 11 = .ok (.imul, 1) := by decide +kernel
theorem dX11_sizeOf_12 : decode cX11_sizeOf 12 = .ok (.iconst 3, 1) := by decide +kernel
theorem dX11_sizeOf_13 : decode cX11_sizeOf 13 = .ok (.iadd, 1) := by decide +kernel
theorem dX11_sizeOf_14 : decode cX11_sizeOf 14 = .ok (.lushr, 1) := by decide +kernel
theorem dX11_sizeOf_15 : decode cX11_sizeOf 15 = .ok (.lconst 0, 1) := by decide +kernel
theorem dX11_sizeOf_16 : decode cX11_sizeOf 16 = .ok (.lcmp, 1) := by decide +kernel
theorem dX11_sizeOf_17 : decode cX11_sizeOf 17 = .ok (.ifCond .eq 9, 3) := by decide +kernel
theorem dX11_sizeOf_20 : decode cX11_sizeOf 20 = .ok (.iinc 2 1, 3) := by decide +kernel
theorem dX11_sizeOf_23 : decode cX11_sizeOf 23 = .ok (.goto (-21), 3) := by decide +kernel
theorem dX11_sizeOf_26 : decode cX11_sizeOf 26 = .ok (.iload_n 2, 1) := by decide +kernel
theorem dX11_sizeOf_27 : decode cX11_sizeOf 27 = .ok (.ireturn, 1) := by decide +kernel
theorem dX11_figures_0 : decode cX11_figures 0 = .ok (.lconst 1, 1) := by decide +kernel
theorem dX11_figures_1 : decode cX11_figures 1 = .ok (.iconst 3, 1) := by decide +kernel
theorem dX11_figures_2 : decode cX11_figures 2 = .ok (.iload_n 0, 1) := by decide +kernel
theorem dX11_figures_3 : decode cX11_figures 3 = .ok (.imul, 1) := by decide +kernel
theorem dX11_figures_4 : decode cX11_figures 4 = .ok (.lshl, 1) := by decide +kernel
theorem dX11_figures_5 : decode cX11_figures 5 = .ok (.lconst 1, 1) := by decide +kernel
theorem dX11_figures_6 : decode cX11_figures 6 = .ok (.lsub, 1) := by decide +kernel
theorem dX11_figures_7 : decode cX11_figures 7 = .ok (.lreturn, 1) := by decide +kernel
theorem dX11_beastAt_0 : decode cX11_beastAt 0 = .ok (.lload_n 0, 1) := by decide +kernel
theorem dX11_beastAt_1 : decode cX11_beastAt 1 = .ok (.iconst 3, 1) := by decide +kernel
theorem dX11_beastAt_2 : decode cX11_beastAt 2 = .ok (.iload_n 2, 1) := by decide +kernel
theorem dX11_beastAt_3 : decode cX11_beastAt 3 = .ok (.iconst 1, 1) := by decide +kernel
theorem dX11_beastAt_4 : decode cX11_beastAt 4 = .ok (.isub, 1) := by decide +kernel
theorem dX11_beastAt_5 : decode cX11_beastAt 5 = .ok (.iload_n 3, 1) := by decide +kernel
theorem dX11_beastAt_6 : decode cX11_beastAt 6 = .ok (.isub, 1) := by decide +kernel
theorem dX11_beastAt_7 : decode cX11_beastAt 7 = .ok (.imul, 1) := by decide +kernel
theorem dX11_beastAt_8 : decode cX11_beastAt 8 = .ok (.lushr, 1) := by decide +kernel
theorem dX11_beastAt_9 : decode cX11_beastAt 9 = .ok (.ldc2_w 477, 3) := by decide +kernel
theorem dX11_beastAt_12 : decode cX11_beastAt 12 = .ok (.land, 1) := by decide +kernel
theorem dX11_beastAt_13 : decode cX11_beastAt 13 = .ok (.l2i, 1) := by decide +kernel
theorem dX11_beastAt_14 : decode cX11_beastAt 14 = .ok (.ireturn, 1) := by decide +kernel
theorem dX11_kindsIn_0 : decode cX11_kindsIn 0 = .ok (.lload_n 0, 1) := by decide +kernel
theorem dX11_kindsIn_1 : decode cX11_kindsIn 1 = .ok (.invokestatic 173, 3) := by decide +kernel
theorem dX11_kindsIn_4 : decode cX11_kindsIn 4 = .ok (.istore_n 2, 1) := by decide +kernel
theorem dX11_kindsIn_5 : decode cX11_kindsIn 5 = .ok (.iconst 0, 1) := by decide +kernel
theorem dX11_kindsIn_6 : decode cX11_kindsIn 6 = .ok (.istore_n 3, 1) := by decide +kernel
theorem dX11_kindsIn_7 : decode cX11_kindsIn 7 = .ok (.iconst 0, 1) := by decide +kernel
theorem dX11_kindsIn_8 : decode cX11_kindsIn 8 = .ok (.istore 4, 2) := by decide +kernel
theorem dX11_kindsIn_10 : decode cX11_kindsIn 10 = .ok (.iload 4, 2) := by decide +kernel
theorem dX11_kindsIn_12 : decode cX11_kindsIn 12 = .ok (.iload_n 2, 1) := by decide +kernel
theorem dX11_kindsIn_13 : decode cX11_kindsIn 13 = .ok (.if_icmp .ge 21, 3) := by decide +kernel
theorem dX11_kindsIn_16 : decode cX11_kindsIn 16 = .ok (.iload_n 3, 1) := by decide +kernel
theorem dX11_kindsIn_17 : decode cX11_kindsIn 17 = .ok (.iconst 1, 1) := by decide +kernel
theorem dX11_kindsIn_18 : decode cX11_kindsIn 18 = .ok (.lload_n 0, 1) := by decide +kernel
theorem dX11_kindsIn_19 : decode cX11_kindsIn 19 = .ok (.iload_n 2, 1) := by decide +kernel
theorem dX11_kindsIn_20 : decode cX11_kindsIn 20 = .ok (.iload 4, 2) := by decide +kernel
theorem dX11_kindsIn_22 : decode cX11_kindsIn 22 = .ok (.invokestatic 177, 3) := by decide +kernel
theorem dX11_kindsIn_25 : decode cX11_kindsIn 25 = .ok (.ishl, 1) := by decide +kernel
theorem dX11_kindsIn_26 : decode cX11_kindsIn 26 = .ok (.ior, 1) := by decide +kernel
theorem dX11_kindsIn_27 : decode cX11_kindsIn 27 = .ok (.istore_n 3, 1) := by decide +kernel
theorem dX11_kindsIn_28 : decode cX11_kindsIn 28 = .ok (.iinc 4 1, 3) := by decide +kernel
theorem dX11_kindsIn_31 : decode cX11_kindsIn 31 = .ok (.goto (-21), 3) := by decide +kernel
theorem dX11_kindsIn_34 : decode cX11_kindsIn 34 = .ok (.iload_n 3, 1) := by decide +kernel
theorem dX11_kindsIn_35 : decode cX11_kindsIn 35 = .ok (.ireturn, 1) := by decide +kernel
theorem dX11_withBeasts_0 : decode cX11_withBeasts 0 = .ok (.lload_n 0, 1) := by decide +kernel
theorem dX11_withBeasts_1 : decode cX11_withBeasts 1 = .ok (.lstore 4, 2) := by decide +kernel
theorem dX11_withBeasts_3 : decode cX11_withBeasts 3 = .ok (.iconst 0, 1) := by decide +kernel
theorem dX11_withBeasts_4 : decode cX11_withBeasts 4 = .ok (.istore 6, 2) := by decide +kernel
theorem dX11_withBeasts_6 : decode cX11_withBeasts 6 = .ok (.iload 6, 2) := by decide +kernel
theorem dX11_withBeasts_8 : decode cX11_withBeasts 8 = .ok (.iload_n 3, 1) := by decide +kernel
theorem dX11_withBeasts_9 : decode cX11_withBeasts 9 = .ok (.if_icmp .ge 18, 3) := by decide +kernel
theorem dX11_withBeasts_12 : decode cX11_withBeasts 12 = .ok (.lload 4, 2) := by decide +kernel
theorem dX11_withBeasts_14 : decode cX11_withBeasts 14 = .ok (.iconst 3, 1) := by decide +kernel
theorem dX11_withBeasts_15 : decode cX11_withBeasts 15 = .ok (.lshl, 1) := by decide +kernel
theorem dX11_withBeasts_16 : decode cX11_withBeasts 16 = .ok (.iload_n 2, 1) := by decide +kernel
theorem dX11_withBeasts_17 : decode cX11_withBeasts 17 = .ok (.i2l, 1) := by decide +kernel
theorem dX11_withBeasts_18 : decode cX11_withBeasts 18 = .ok (.lor, 1) := by decide +kernel
theorem dX11_withBeasts_19 : decode cX11_withBeasts 19 = .ok (.lstore 4, 2) := by decide +kernel
theorem dX11_withBeasts_21 : decode cX11_withBeasts 21 = .ok (.iinc 6 1, 3) := by decide +kernel
theorem dX11_withBeasts_24 : decode cX11_withBeasts 24 = .ok (.goto (-18), 3) := by decide +kernel
theorem dX11_withBeasts_27 : decode cX11_withBeasts 27 = .ok (.lload 4, 2) := by decide +kernel
theorem dX11_withBeasts_29 : decode cX11_withBeasts 29 = .ok (.lreturn, 1) := by decide +kernel
theorem dX11_withPart_0 : decode cX11_withPart 0 = .ok (.iload 6, 2) := by decide +kernel
theorem dX11_withPart_2 : decode cX11_withPart 2 = .ok (.iload 5, 2) := by decide +kernel
theorem dX11_withPart_4 : decode cX11_withPart 4 = .ok (.isub, 1) := by decide +kernel
theorem dX11_withPart_5 : decode cX11_withPart 5 = .ok (.istore 7, 2) := by decide +kernel
theorem dX11_withPart_7 : decode cX11_withPart 7 = .ok (.lload_n 0, 1) := by decide +kernel
theorem dX11_withPart_8 : decode cX11_withPart 8 = .ok (.iconst 3, 1) := by decide +kernel
theorem dX11_withPart_9 : decode cX11_withPart 9 = .ok (.iload 7, 2) := by decide +kernel
theorem dX11_withPart_11 : decode cX11_withPart 11 = .ok (.imul, 1) := by decide +kernel
theorem dX11_withPart_12 : decode cX11_withPart 12 = .ok (.lshl, 1) := by decide +kernel
theorem dX11_withPart_13 : decode cX11_withPart 13 = .ok (.lload_n 2, 1) := by decide +kernel
theorem dX11_withPart_14 : decode cX11_withPart 14 = .ok (.iconst 3, 1) := by decide +kernel
theorem dX11_withPart_15 : decode cX11_withPart 15 = .ok (.iload 4, 2) := by decide +kernel
theorem dX11_withPart_17 : decode cX11_withPart 17 = .ok (.iload 6, 2) := by decide +kernel
theorem dX11_withPart_19 : decode cX11_withPart 19 = .ok (.isub, 1) := by decide +kernel
theorem dX11_withPart_20 : decode cX11_withPart 20 = .ok (.imul, 1) := by decide +kernel
theorem dX11_withPart_21 : decode cX11_withPart 21 = .ok (.lushr, 1) := by decide +kernel
theorem dX11_withPart_22 : decode cX11_withPart 22 = .ok (.iload 7, 2) := by decide +kernel
theorem dX11_withPart_24 : decode cX11_withPart 24 = .ok (.invokestatic 279, 3) := by decide +kernel
theorem dX11_withPart_27 : decode cX11_withPart 27 = .ok (.land, 1) := by decide +kernel
theorem dX11_withPart_28 : decode cX11_withPart 28 = .ok (.lor, 1) := by decide +kernel
theorem dX11_withPart_29 : decode cX11_withPart 29 = .ok (.lreturn, 1) := by decide +kernel
theorem dX11_standsIn_0 : decode cX11_standsIn 0 = .ok (.iload_n 3, 1) := by decide +kernel
theorem dX11_standsIn_1 : decode cX11_standsIn 1 = .ok (.ifCond .lt 16, 3) := by decide +kernel
theorem dX11_standsIn_4 : decode cX11_standsIn 4 = .ok (.iload_n 3, 1) := by decide +kernel
theorem dX11_standsIn_5 : decode cX11_standsIn 5 = .ok (.iload_n 2, 1) := by decide +kernel
theorem dX11_standsIn_6 : decode cX11_standsIn 6 = .ok (.if_icmp .ge 11, 3) := by decide +kernel
theorem dX11_standsIn_9 : decode cX11_standsIn 9 = .ok (.iload 6, 2) := by decide +kernel
theorem dX11_standsIn_11 : decode cX11_standsIn 11 = .ok (.iload_n 2, 1) := by decide +kernel
theorem dX11_standsIn_12 : decode cX11_standsIn 12 = .ok (.iload_n 3, 1) := by decide +kernel
theorem dX11_standsIn_13 : decode cX11_standsIn 13 = .ok (.isub, 1) := by decide +kernel
theorem dX11_standsIn_14 : decode cX11_standsIn 14 = .ok (.if_icmp .le 5, 3) := by decide +kernel
theorem dX11_standsIn_17 : decode cX11_standsIn 17 = .ok (.iconst 0, 1) := by decide +kernel
theorem dX11_standsIn_18 : decode cX11_standsIn 18 = .ok (.ireturn, 1) := by decide +kernel
theorem dX11_standsIn_19 : decode cX11_standsIn 19 = .ok (.iload_n 2, 1) := by decide +kernel
theorem dX11_standsIn_20 : decode cX11_standsIn 20 = .ok (.iload_n 3, 1) := by decide +kernel
theorem dX11_standsIn_21 : decode cX11_standsIn 21 = .ok (.isub, 1) := by decide +kernel
theorem dX11_standsIn_22 : decode cX11_standsIn 22 = .ok (.iload 6, 2) := by decide +kernel
theorem dX11_standsIn_24 : decode cX11_standsIn 24 = .ok (.isub, 1) := by decide +kernel
theorem dX11_standsIn_25 : decode cX11_standsIn 25 = .ok (.istore 7, 2) := by decide +kernel
theorem dX11_standsIn_27 : decode cX11_standsIn 27 = .ok (.lload_n 0, 1) := by decide +kernel
theorem dX11_standsIn_28 : decode cX11_standsIn 28 = .ok (.iconst 3, 1) := by decide +kernel
theorem dX11_standsIn_29 : decode cX11_standsIn 29 = .ok (.iload 7, 2) := by decide +kernel
theorem dX11_standsIn_31 : decode cX11_standsIn 31 = .ok (.imul, 1) := by decide +kernel
theorem dX11_standsIn_32 : decode cX11_standsIn 32 = .ok (.lushr, 1) := by decide +kernel
theorem dX11_standsIn_33 : decode cX11_standsIn 33 = .ok (.lload 4, 2) := by decide +kernel
theorem dX11_standsIn_35 : decode cX11_standsIn 35 = .ok (.lxor, 1) := by decide +kernel
theorem dX11_standsIn_36 : decode cX11_standsIn 36 = .ok (.iload 6, 2) := by decide +kernel
theorem dX11_standsIn_38 : decode cX11_standsIn 38 = .ok (.invokestatic 279, 3) := by decide +kernel
theorem dX11_standsIn_41 : decode cX11_standsIn 41 = .ok (.land, 1) := by decide +kernel
theorem dX11_standsIn_42 : decode cX11_standsIn 42 = .ok (.lconst 0, 1) := by decide +kernel
theorem dX11_standsIn_43 : decode cX11_standsIn 43 = .ok (.lcmp, 1) := by decide +kernel
theorem dX11_standsIn_44 : decode cX11_standsIn 44 = .ok (.ifCond .ne 7, 3) := by decide +kernel
theorem dX11_standsIn_47 : decode cX11_standsIn 47 = .ok (.iconst 1, 1) := by decide +kernel
theorem dX11_standsIn_48 : decode cX11_standsIn 48 = .ok (.goto 4, 3) := by decide +kernel
theorem dX11_standsIn_51 : decode cX11_standsIn 51 = .ok (.iconst 0, 1) := by decide +kernel
theorem dX11_standsIn_52 : decode cX11_standsIn 52 = .ok (.ireturn, 1) := by decide +kernel
theorem dX11_replaced_0 : decode cX11_replaced 0 = .ok (.lload_n 0, 1) := by decide +kernel
theorem dX11_replaced_1 : decode cX11_replaced 1 = .ok (.iconst 3, 1) := by decide +kernel
theorem dX11_replaced_2 : decode cX11_replaced 2 = .ok (.iload_n 2, 1) := by decide +kernel
theorem dX11_replaced_3 : decode cX11_replaced 3 = .ok (.iload_n 3, 1) := by decide +kernel
theorem dX11_replaced_4 : decode cX11_replaced 4 = .ok (.isub, 1) := by decide +kernel
theorem dX11_replaced_5 : decode cX11_replaced 5 = .ok (.imul, 1) := by decide +kernel
theorem dX11_replaced_6 : decode cX11_replaced 6 = .ok (.lushr, 1) := by decide +kernel
theorem dX11_replaced_7 : decode cX11_replaced 7 = .ok (.lstore 8, 2) := by decide +kernel
theorem dX11_replaced_9 : decode cX11_replaced 9 = .ok (.lload 8, 2) := by decide +kernel
theorem dX11_replaced_11 : decode cX11_replaced 11 = .ok (.iconst 3, 1) := by decide +kernel
theorem dX11_replaced_12 : decode cX11_replaced 12 = .ok (.iload 7, 2) := by decide +kernel
theorem dX11_replaced_14 : decode cX11_replaced 14 = .ok (.imul, 1) := by decide +kernel
theorem dX11_replaced_15 : decode cX11_replaced 15 = .ok (.lshl, 1) := by decide +kernel
theorem dX11_replaced_16 : decode cX11_replaced 16 = .ok (.lload 5, 2) := by decide +kernel
theorem dX11_replaced_18 : decode cX11_replaced 18 = .ok (.iload 7, 2) := by decide +kernel
theorem dX11_replaced_20 : decode cX11_replaced 20 = .ok (.invokestatic 279, 3) := by decide +kernel
theorem dX11_replaced_23 : decode cX11_replaced 23 = .ok (.land, 1) := by decide +kernel
theorem dX11_replaced_24 : decode cX11_replaced 24 = .ok (.lor, 1) := by decide +kernel
theorem dX11_replaced_25 : decode cX11_replaced 25 = .ok (.lstore 10, 2) := by decide +kernel
theorem dX11_replaced_27 : decode cX11_replaced 27 = .ok (.lload 10, 2) := by decide +kernel
theorem dX11_replaced_29 : decode cX11_replaced 29 = .ok (.lload_n 0, 1) := by decide +kernel
theorem dX11_replaced_30 : decode cX11_replaced 30 = .ok (.iload_n 2, 1) := by decide +kernel
theorem dX11_replaced_31 : decode cX11_replaced 31 = .ok (.iload_n 3, 1) := by decide +kernel
theorem dX11_replaced_32 : decode cX11_replaced 32 = .ok (.iload 4, 2) := by decide +kernel
theorem dX11_replaced_34 : decode cX11_replaced 34 = .ok (.iadd, 1) := by decide +kernel
theorem dX11_replaced_35 : decode cX11_replaced 35 = .ok (.iload_n 2, 1) := by decide +kernel
theorem dX11_replaced_36 : decode cX11_replaced 36 = .ok (.invokestatic 479, 3) := by decide +kernel
theorem dX11_replaced_39 : decode cX11_replaced 39 = .ok (.lreturn, 1) := by decide +kernel
theorem dX11_canBecome_0 : decode cX11_canBecome 0 = .ok (.lload_n 0, 1) := by decide +kernel
theorem dX11_canBecome_1 : decode cX11_canBecome 1 = .ok (.invokestatic 173, 3) := by decide +kernel
theorem dX11_canBecome_4 : decode cX11_canBecome 4 = .ok (.istore 8, 2) := by decide +kernel
theorem dX11_canBecome_6 : decode cX11_canBecome 6 = .ok (.lload 4, 2) := by decide +kernel
theorem dX11_canBecome_8 : decode cX11_canBecome 8 = .ok (.invokestatic 173, 3) := by decide +kernel
theorem dX11_canBecome_11 : decode cX11_canBecome 11 = .ok (.istore 9, 2) := by decide +kernel
theorem dX11_canBecome_13 : decode cX11_canBecome 13 = .ok (.lload 6, 2) := by decide +kernel
theorem dX11_canBecome_15 : decode cX11_canBecome 15 = .ok (.invokestatic 173, 3) := by decide +kernel
theorem dX11_canBecome_18 : decode cX11_canBecome 18 = .ok (.istore 10, 2) := by decide +kernel
theorem dX11_canBecome_20 : decode cX11_canBecome 20 = .ok (.iload 8, 2) := by decide +kernel
theorem dX11_canBecome_22 : decode cX11_canBecome 22 = .ok (.iload 9, 2) := by decide +kernel
theorem dX11_canBecome_24 : decode cX11_canBecome 24 = .ok (.isub, 1) := by decide +kernel
theorem dX11_canBecome_25 : decode cX11_canBecome 25 = .ok (.iload 10, 2) := by decide +kernel
theorem dX11_canBecome_27 : decode cX11_canBecome 27 = .ok (.iadd, 1) := by decide +kernel
theorem dX11_canBecome_28 : decode cX11_canBecome 28 = .ok (.lload_n 2, 1) := by decide +kernel
theorem dX11_canBecome_29 : decode cX11_canBecome 29 = .ok (.invokestatic 173, 3) := by decide +kernel
theorem dX11_canBecome_32 : decode cX11_canBecome 32 = .ok (.if_icmp .eq 5, 3) := by decide +kernel
theorem dX11_canBecome_35 : decode cX11_canBecome 35 = .ok (.iconst 0, 1) := by decide +kernel
theorem dX11_canBecome_36 : decode cX11_canBecome 36 = .ok (.ireturn, 1) := by decide +kernel
theorem dX11_canBecome_37 : decode cX11_canBecome 37 = .ok (.iconst 0, 1) := by decide +kernel
theorem dX11_canBecome_38 : decode cX11_canBecome 38 = .ok (.istore 11, 2) := by decide +kernel
theorem dX11_canBecome_40 : decode cX11_canBecome 40 = .ok (.iload 11, 2) := by decide +kernel
theorem dX11_canBecome_42 : decode cX11_canBecome 42 = .ok (.iload 8, 2) := by decide +kernel
theorem dX11_canBecome_44 : decode cX11_canBecome 44 = .ok (.if_icmp .ge 45, 3) := by decide +kernel
theorem dX11_canBecome_47 : decode cX11_canBecome 47 = .ok (.lload_n 0, 1) := by decide +kernel
theorem dX11_canBecome_48 : decode cX11_canBecome 48 = .ok (.iload 8, 2) := by decide +kernel
theorem dX11_canBecome_50 : decode cX11_canBecome 50 = .ok (.iload 11, 2) := by decide +kernel
theorem dX11_canBecome_52 : decode cX11_canBecome 52 = .ok (.lload 4, 2) := by decide +kernel
theorem dX11_canBecome_54 : decode cX11_canBecome 54 = .ok (.iload 9, 2) := by decide +kernel
theorem dX11_canBecome_56 : decode cX11_canBecome 56 = .ok (.invokestatic 483, 3) := by decide +kernel
theorem dX11_canBecome_59 : decode cX11_canBecome 59 = .ok (.ifCond .eq 24, 3) := by decide +kernel
theorem dX11_canBecome_62 : decode cX11_canBecome 62 = .ok (.lload_n 0, 1) := by decide +kernel
theorem dX11_canBecome_63 : decode cX11_canBecome 63 = .ok (.iload 8, 2) := by decide +kernel
theorem dX11_canBecome_65 : decode cX11_canBecome 65 = .ok (.iload 11, 2) := by decide +kernel
theorem dX11_canBecome_67 : decode cX11_canBecome 67 = .ok (.iload 9, 2) := by decide +kernel
theorem dX11_canBecome_69 : decode cX11_canBecome 69 = .ok (.lload 6, 2) := by decide +kernel
theorem dX11_canBecome_71 : decode cX11_canBecome 71 = .ok (.iload 10, 2) := by decide +kernel
theorem dX11_canBecome_73 : decode cX11_canBecome 73 = .ok (.invokestatic 487, 3) := by decide +kernel
theorem dX11_canBecome_76 : decode cX11_canBecome 76 = .ok (.lload_n 2, 1) := by decide +kernel
theorem dX11_canBecome_77 : decode cX11_canBecome 77 = .ok (.lcmp, 1) := by decide +kernel
theorem dX11_canBecome_78 : decode cX11_canBecome 78 = .ok (.ifCond .ne 5, 3) := by decide +kernel
theorem dX11_canBecome_81 : decode cX11_canBecome 81 = .ok (.iconst 1, 1) := by decide +kernel
theorem dX11_canBecome_82 : decode cX11_canBecome 82 = .ok (.ireturn, 1) := by decide +kernel
theorem dX11_canBecome_83 : decode cX11_canBecome 83 = .ok (.iinc 11 1, 3) := by decide +kernel
theorem dX11_canBecome_86 : decode cX11_canBecome 86 = .ok (.goto (-46), 3) := by decide +kernel
theorem dX11_canBecome_89 : decode cX11_canBecome 89 = .ok (.iconst 0, 1) := by decide +kernel
theorem dX11_canBecome_90 : decode cX11_canBecome 90 = .ok (.ireturn, 1) := by decide +kernel
theorem dJ6_numberOfLeadingZeros_0f7a4_0 : decode cJ6_numberOfLeadingZeros_0f7a4 0 = .ok (.iload_n 0, 1) := by decide +kernel
theorem dJ6_numberOfLeadingZeros_0f7a4_1 : decode cJ6_numberOfLeadingZeros_0f7a4 1 = .ok (.ifCond .gt 14, 3) := by decide +kernel
theorem dJ6_numberOfLeadingZeros_0f7a4_4 : decode cJ6_numberOfLeadingZeros_0f7a4 4 = .ok (.iload_n 0, 1) := by decide +kernel
theorem dJ6_numberOfLeadingZeros_0f7a4_5 : decode cJ6_numberOfLeadingZeros_0f7a4 5 = .ok (.ifCond .ne 8, 3) := by decide +kernel
theorem dJ6_numberOfLeadingZeros_0f7a4_8 : decode cJ6_numberOfLeadingZeros_0f7a4 8 = .ok (.bipush 32, 2) := by decide +kernel
theorem dJ6_numberOfLeadingZeros_0f7a4_10 : decode cJ6_numberOfLeadingZeros_0f7a4 10 = .ok (.goto 4, 3) := by decide +kernel
theorem dJ6_numberOfLeadingZeros_0f7a4_13 : decode cJ6_numberOfLeadingZeros_0f7a4 13 = .ok (.iconst 0, 1) := by decide +kernel
theorem dJ6_numberOfLeadingZeros_0f7a4_14 : decode cJ6_numberOfLeadingZeros_0f7a4 14 = .ok (.ireturn, 1) := by decide +kernel
theorem dJ6_numberOfLeadingZeros_0f7a4_15 : decode cJ6_numberOfLeadingZeros_0f7a4 15 = .ok (.bipush 31, 2) := by decide +kernel
theorem dJ6_numberOfLeadingZeros_0f7a4_17 : decode cJ6_numberOfLeadingZeros_0f7a4 17 = .ok (.istore_n 1, 1) := by decide +kernel
theorem dJ6_numberOfLeadingZeros_0f7a4_18 : decode cJ6_numberOfLeadingZeros_0f7a4 18 = .ok (.iload_n 0, 1) := by decide +kernel
theorem dJ6_numberOfLeadingZeros_0f7a4_19 : decode cJ6_numberOfLeadingZeros_0f7a4 19 = .ok (.ldc_w 264, 3) := by decide +kernel
theorem dJ6_numberOfLeadingZeros_0f7a4_22 : decode cJ6_numberOfLeadingZeros_0f7a4 22 = .ok (.if_icmp .lt 11, 3) := by decide +kernel
theorem dJ6_numberOfLeadingZeros_0f7a4_25 : decode cJ6_numberOfLeadingZeros_0f7a4 25 = .ok (.iinc 1 (-16), 3) := by decide +kernel
theorem dJ6_numberOfLeadingZeros_0f7a4_28 : decode cJ6_numberOfLeadingZeros_0f7a4 28 = .ok (.iload_n 0, 1) := by decide +kernel
theorem dJ6_numberOfLeadingZeros_0f7a4_29 : decode cJ6_numberOfLeadingZeros_0f7a4 29 = .ok (.bipush 16, 2) := by decide +kernel
theorem dJ6_numberOfLeadingZeros_0f7a4_31 : decode cJ6_numberOfLeadingZeros_0f7a4 31 = .ok (.iushr, 1) := by decide +kernel
theorem dJ6_numberOfLeadingZeros_0f7a4_32 : decode cJ6_numberOfLeadingZeros_0f7a4 32 = .ok (.istore_n 0, 1) := by decide +kernel
theorem dJ6_numberOfLeadingZeros_0f7a4_33 : decode cJ6_numberOfLeadingZeros_0f7a4 33 = .ok (.iload_n 0, 1) := by decide +kernel
theorem dJ6_numberOfLeadingZeros_0f7a4_34 : decode cJ6_numberOfLeadingZeros_0f7a4 34 = .ok (.sipush 256, 3) := by decide +kernel
theorem dJ6_numberOfLeadingZeros_0f7a4_37 : decode cJ6_numberOfLeadingZeros_0f7a4 37 = .ok (.if_icmp .lt 11, 3) := by decide +kernel
theorem dJ6_numberOfLeadingZeros_0f7a4_40 : decode cJ6_numberOfLeadingZeros_0f7a4 40 = .ok (.iinc 1 (-8), 3) := by decide +kernel
theorem dJ6_numberOfLeadingZeros_0f7a4_43 : decode cJ6_numberOfLeadingZeros_0f7a4 43 = .ok (.iload_n 0, 1) := by decide +kernel
theorem dJ6_numberOfLeadingZeros_0f7a4_44 : decode cJ6_numberOfLeadingZeros_0f7a4 44 = .ok (.bipush 8, 2) := by decide +kernel
theorem dJ6_numberOfLeadingZeros_0f7a4_46 : decode cJ6_numberOfLeadingZeros_0f7a4 46 = .ok (.iushr, 1) := by decide +kernel
theorem dJ6_numberOfLeadingZeros_0f7a4_47 : decode cJ6_numberOfLeadingZeros_0f7a4 47 = .ok (.istore_n 0, 1) := by decide +kernel
theorem dJ6_numberOfLeadingZeros_0f7a4_48 : decode cJ6_numberOfLeadingZeros_0f7a4 48 = .ok (.iload_n 0, 1) := by decide +kernel
theorem dJ6_numberOfLeadingZeros_0f7a4_49 : decode cJ6_numberOfLeadingZeros_0f7a4 49 = .ok (.bipush 16, 2) := by decide +kernel
theorem dJ6_numberOfLeadingZeros_0f7a4_51 : decode cJ6_numberOfLeadingZeros_0f7a4 51 = .ok (.if_icmp .lt 10, 3) := by decide +kernel
theorem dJ6_numberOfLeadingZeros_0f7a4_54 : decode cJ6_numberOfLeadingZeros_0f7a4 54 = .ok (.iinc 1 (-4), 3) := by decide +kernel
theorem dJ6_numberOfLeadingZeros_0f7a4_57 : decode cJ6_numberOfLeadingZeros_0f7a4 57 = .ok (.iload_n 0, 1) := by decide +kernel
theorem dJ6_numberOfLeadingZeros_0f7a4_58 : decode cJ6_numberOfLeadingZeros_0f7a4 58 = .ok (.iconst 4, 1) := by decide +kernel
theorem dJ6_numberOfLeadingZeros_0f7a4_59 : decode cJ6_numberOfLeadingZeros_0f7a4 59 = .ok (.iushr, 1) := by decide +kernel
theorem dJ6_numberOfLeadingZeros_0f7a4_60 : decode cJ6_numberOfLeadingZeros_0f7a4 60 = .ok (.istore_n 0, 1) := by decide +kernel
theorem dJ6_numberOfLeadingZeros_0f7a4_61 : decode cJ6_numberOfLeadingZeros_0f7a4 61 = .ok (.iload_n 0, 1) := by decide +kernel
theorem dJ6_numberOfLeadingZeros_0f7a4_62 : decode cJ6_numberOfLeadingZeros_0f7a4 62 = .ok (.iconst 4, 1) := by decide +kernel
theorem dJ6_numberOfLeadingZeros_0f7a4_63 : decode cJ6_numberOfLeadingZeros_0f7a4 63 = .ok (.if_icmp .lt 10, 3) := by decide +kernel
theorem dJ6_numberOfLeadingZeros_0f7a4_66 : decode cJ6_numberOfLeadingZeros_0f7a4 66 = .ok (.iinc 1 (-2), 3) := by decide +kernel
theorem dJ6_numberOfLeadingZeros_0f7a4_69 : decode cJ6_numberOfLeadingZeros_0f7a4 69 = .ok (.iload_n 0, 1) := by decide +kernel
theorem dJ6_numberOfLeadingZeros_0f7a4_70 : decode cJ6_numberOfLeadingZeros_0f7a4 70 = .ok (.iconst 2, 1) := by decide +kernel
theorem dJ6_numberOfLeadingZeros_0f7a4_71 : decode cJ6_numberOfLeadingZeros_0f7a4 71 = .ok (.iushr, 1) := by decide +kernel
theorem dJ6_numberOfLeadingZeros_0f7a4_72 : decode cJ6_numberOfLeadingZeros_0f7a4 72 = .ok (.istore_n 0, 1) := by decide +kernel
theorem dJ6_numberOfLeadingZeros_0f7a4_73 : decode cJ6_numberOfLeadingZeros_0f7a4 73 = .ok (.iload_n 1, 1) := by decide +kernel
theorem dJ6_numberOfLeadingZeros_0f7a4_74 : decode cJ6_numberOfLeadingZeros_0f7a4 74 = .ok (.iload_n 0, 1) := by decide +kernel
theorem dJ6_numberOfLeadingZeros_0f7a4_75 : decode cJ6_numberOfLeadingZeros_0f7a4 75 = .ok (.iconst 1, 1) := by decide +kernel
theorem dJ6_numberOfLeadingZeros_0f7a4_76 : decode cJ6_numberOfLeadingZeros_0f7a4 76 = .ok (.iushr, 1) := by decide +kernel
theorem dJ6_numberOfLeadingZeros_0f7a4_77 : decode cJ6_numberOfLeadingZeros_0f7a4 77 = .ok (.isub, 1) := by decide +kernel
theorem dJ6_numberOfLeadingZeros_0f7a4_78 : decode cJ6_numberOfLeadingZeros_0f7a4 78 = .ok (.ireturn, 1) := by decide +kernel
theorem dJ6_bitCount_0f7a4_0 : decode cJ6_bitCount_0f7a4 0 = .ok (.iload_n 0, 1) := by decide +kernel
theorem dJ6_bitCount_0f7a4_1 : decode cJ6_bitCount_0f7a4 1 = .ok (.iload_n 0, 1) := by decide +kernel
theorem dJ6_bitCount_0f7a4_2 : decode cJ6_bitCount_0f7a4 2 = .ok (.iconst 1, 1) := by decide +kernel
theorem dJ6_bitCount_0f7a4_3 : decode cJ6_bitCount_0f7a4 3 = .ok (.iushr, 1) := by decide +kernel
theorem dJ6_bitCount_0f7a4_4 : decode cJ6_bitCount_0f7a4 4 = .ok (.ldc_w 265, 3) := by decide +kernel
theorem dJ6_bitCount_0f7a4_7 : decode cJ6_bitCount_0f7a4 7 = .ok (.iand, 1) := by decide +kernel
theorem dJ6_bitCount_0f7a4_8 : decode cJ6_bitCount_0f7a4 8 = .ok (.isub, 1) := by decide +kernel
theorem dJ6_bitCount_0f7a4_9 : decode cJ6_bitCount_0f7a4 9 = .ok (.istore_n 0, 1) := by decide +kernel
theorem dJ6_bitCount_0f7a4_10 : decode cJ6_bitCount_0f7a4 10 = .ok (.iload_n 0, 1) := by decide +kernel
theorem dJ6_bitCount_0f7a4_11 : decode cJ6_bitCount_0f7a4 11 = .ok (.ldc_w 266, 3) := by decide +kernel
theorem dJ6_bitCount_0f7a4_14 : decode cJ6_bitCount_0f7a4 14 = .ok (.iand, 1) := by decide +kernel
theorem dJ6_bitCount_0f7a4_15 : decode cJ6_bitCount_0f7a4 15 = .ok (.iload_n 0, 1) := by decide +kernel
theorem dJ6_bitCount_0f7a4_16 : decode cJ6_bitCount_0f7a4 16 = .ok (.iconst 2, 1) := by decide +kernel
theorem dJ6_bitCount_0f7a4_17 : decode cJ6_bitCount_0f7a4 17 = .ok (.iushr, 1) := by decide +kernel
theorem dJ6_bitCount_0f7a4_18 : decode cJ6_bitCount_0f7a4 18 = .ok (.ldc_w 266, 3) := by decide +kernel
theorem dJ6_bitCount_0f7a4_21 : decode cJ6_bitCount_0f7a4 21 = .ok (.iand, 1) := by decide +kernel
theorem dJ6_bitCount_0f7a4_22 : decode cJ6_bitCount_0f7a4 22 = .ok (.iadd, 1) := by decide +kernel
theorem dJ6_bitCount_0f7a4_23 : decode cJ6_bitCount_0f7a4 23 = .ok (.istore_n 0, 1) := by decide +kernel
theorem dJ6_bitCount_0f7a4_24 : decode cJ6_bitCount_0f7a4 24 = .ok (.iload_n 0, 1) := by decide +kernel
theorem dJ6_bitCount_0f7a4_25 : decode cJ6_bitCount_0f7a4 25 = .ok (.iload_n 0, 1) := by decide +kernel
theorem dJ6_bitCount_0f7a4_26 : decode cJ6_bitCount_0f7a4 26 = .ok (.iconst 4, 1) := by decide +kernel
theorem dJ6_bitCount_0f7a4_27 : decode cJ6_bitCount_0f7a4 27 = .ok (.iushr, 1) := by decide +kernel
theorem dJ6_bitCount_0f7a4_28 : decode cJ6_bitCount_0f7a4 28 = .ok (.iadd, 1) := by decide +kernel
theorem dJ6_bitCount_0f7a4_29 : decode cJ6_bitCount_0f7a4 29 = .ok (.ldc_w 267, 3) := by decide +kernel
theorem dJ6_bitCount_0f7a4_32 : decode cJ6_bitCount_0f7a4 32 = .ok (.iand, 1) := by decide +kernel
theorem dJ6_bitCount_0f7a4_33 : decode cJ6_bitCount_0f7a4 33 = .ok (.istore_n 0, 1) := by decide +kernel
theorem dJ6_bitCount_0f7a4_34 : decode cJ6_bitCount_0f7a4 34 = .ok (.iload_n 0, 1) := by decide +kernel
theorem dJ6_bitCount_0f7a4_35 : decode cJ6_bitCount_0f7a4 35 = .ok (.iload_n 0, 1) := by decide +kernel
theorem dJ6_bitCount_0f7a4_36 : decode cJ6_bitCount_0f7a4 36 = .ok (.bipush 8, 2) := by decide +kernel
theorem dJ6_bitCount_0f7a4_38 : decode cJ6_bitCount_0f7a4 38 = .ok (.iushr, 1) := by decide +kernel
theorem dJ6_bitCount_0f7a4_39 : decode cJ6_bitCount_0f7a4 39 = .ok (.iadd, 1) := by decide +kernel
theorem dJ6_bitCount_0f7a4_40 : decode cJ6_bitCount_0f7a4 40 = .ok (.istore_n 0, 1) := by decide +kernel
theorem dJ6_bitCount_0f7a4_41 : decode cJ6_bitCount_0f7a4 41 = .ok (.iload_n 0, 1) := by decide +kernel
theorem dJ6_bitCount_0f7a4_42 : decode cJ6_bitCount_0f7a4 42 = .ok (.iload_n 0, 1) := by decide +kernel
theorem dJ6_bitCount_0f7a4_43 : decode cJ6_bitCount_0f7a4 43 = .ok (.bipush 16, 2) := by decide +kernel
theorem dJ6_bitCount_0f7a4_45 : decode cJ6_bitCount_0f7a4 45 = .ok (.iushr, 1) := by decide +kernel
theorem dJ6_bitCount_0f7a4_46 : decode cJ6_bitCount_0f7a4 46 = .ok (.iadd, 1) := by decide +kernel
theorem dJ6_bitCount_0f7a4_47 : decode cJ6_bitCount_0f7a4 47 = .ok (.istore_n 0, 1) := by decide +kernel
theorem dJ6_bitCount_0f7a4_48 : decode cJ6_bitCount_0f7a4 48 = .ok (.iload_n 0, 1) := by decide +kernel
theorem dJ6_bitCount_0f7a4_49 : decode cJ6_bitCount_0f7a4 49 = .ok (.bipush 63, 2) := by decide +kernel
theorem dJ6_bitCount_0f7a4_51 : decode cJ6_bitCount_0f7a4 51 = .ok (.iand, 1) := by decide +kernel
theorem dJ6_bitCount_0f7a4_52 : decode cJ6_bitCount_0f7a4 52 = .ok (.ireturn, 1) := by decide +kernel
theorem dJ13_numberOfLeadingZeros_95d88_0 : decode cJ13_numberOfLeadingZeros_95d88 0 = .ok (.lload_n 0, 1) := by decide +kernel
theorem dJ13_numberOfLeadingZeros_95d88_1 : decode cJ13_numberOfLeadingZeros_95d88 1 = .ok (.bipush 32, 2) := by decide +kernel
theorem dJ13_numberOfLeadingZeros_95d88_3 : decode cJ13_numberOfLeadingZeros_95d88 3 = .ok (.lushr, 1) := by decide +kernel
theorem dJ13_numberOfLeadingZeros_95d88_4 : decode cJ13_numberOfLeadingZeros_95d88 4 = .ok (.l2i, 1) := by decide +kernel
theorem dJ13_numberOfLeadingZeros_95d88_5 : decode cJ13_numberOfLeadingZeros_95d88 5 = .ok (.istore_n 2, 1) := by decide +kernel
theorem dJ13_numberOfLeadingZeros_95d88_6 : decode cJ13_numberOfLeadingZeros_95d88 6 = .ok (.iload_n 2, 1) := by decide +kernel
theorem dJ13_numberOfLeadingZeros_95d88_7 : decode cJ13_numberOfLeadingZeros_95d88 7 = .ok (.ifCond .ne 14, 3) := by decide +kernel
theorem dJ13_numberOfLeadingZeros_95d88_10 : decode cJ13_numberOfLeadingZeros_95d88 10 = .ok (.bipush 32, 2) := by decide +kernel
theorem dJ13_numberOfLeadingZeros_95d88_12 : decode cJ13_numberOfLeadingZeros_95d88 12 = .ok (.lload_n 0, 1) := by decide +kernel
theorem dJ13_numberOfLeadingZeros_95d88_13 : decode cJ13_numberOfLeadingZeros_95d88 13 = .ok (.l2i, 1) := by decide +kernel
theorem dJ13_numberOfLeadingZeros_95d88_14 : decode cJ13_numberOfLeadingZeros_95d88 14 = .ok (.invokestatic 308, 3) := by decide +kernel
theorem dJ13_numberOfLeadingZeros_95d88_17 : decode cJ13_numberOfLeadingZeros_95d88 17 = .ok (.iadd, 1) := by decide +kernel
theorem dJ13_numberOfLeadingZeros_95d88_18 : decode cJ13_numberOfLeadingZeros_95d88 18 = .ok (.goto 7, 3) := by decide +kernel
theorem dJ13_numberOfLeadingZeros_95d88_21 : decode cJ13_numberOfLeadingZeros_95d88 21 = .ok (.iload_n 2, 1) := by decide +kernel
theorem dJ13_numberOfLeadingZeros_95d88_22 : decode cJ13_numberOfLeadingZeros_95d88 22 = .ok (.invokestatic 308, 3) := by decide +kernel
theorem dJ13_numberOfLeadingZeros_95d88_25 : decode cJ13_numberOfLeadingZeros_95d88 25 = .ok (.ireturn, 1) := by decide +kernel
theorem dJ9_max_7cf53_0 : decode cJ9_max_7cf53 0 = .ok (.iload_n 0, 1) := by decide +kernel
theorem dJ9_max_7cf53_1 : decode cJ9_max_7cf53 1 = .ok (.iload_n 1, 1) := by decide +kernel
theorem dJ9_max_7cf53_2 : decode cJ9_max_7cf53 2 = .ok (.if_icmp .lt 7, 3) := by decide +kernel
theorem dJ9_max_7cf53_5 : decode cJ9_max_7cf53 5 = .ok (.iload_n 0, 1) := by decide +kernel
theorem dJ9_max_7cf53_6 : decode cJ9_max_7cf53 6 = .ok (.goto 4, 3) := by decide +kernel
theorem dJ9_max_7cf53_9 : decode cJ9_max_7cf53 9 = .ok (.iload_n 1, 1) := by decide +kernel
theorem dJ9_max_7cf53_10 : decode cJ9_max_7cf53 10 = .ok (.ireturn, 1) := by decide +kernel
theorem dJ9_max_f86c9_0 : decode cJ9_max_f86c9 0 = .ok (.lload_n 0, 1) := by decide +kernel
theorem dJ9_max_f86c9_1 : decode cJ9_max_f86c9 1 = .ok (.lload_n 2, 1) := by decide +kernel
theorem dJ9_max_f86c9_2 : decode cJ9_max_f86c9 2 = .ok (.lcmp, 1) := by decide +kernel
theorem dJ9_max_f86c9_3 : decode cJ9_max_f86c9 3 = .ok (.ifCond .lt 7, 3) := by decide +kernel
theorem dJ9_max_f86c9_6 : decode cJ9_max_f86c9 6 = .ok (.lload_n 0, 1) := by decide +kernel
theorem dJ9_max_f86c9_7 : decode cJ9_max_f86c9 7 = .ok (.goto 4, 3) := by decide +kernel
theorem dJ9_max_f86c9_10 : decode cJ9_max_f86c9 10 = .ok (.lload_n 2, 1) := by decide +kernel
theorem dJ9_max_f86c9_11 : decode cJ9_max_f86c9 11 = .ok (.lreturn, 1) := by decide +kernel
theorem dJ9_min_7cf53_0 : decode cJ9_min_7cf53 0 = .ok (.iload_n 0, 1) := by decide +kernel
theorem dJ9_min_7cf53_1 : decode cJ9_min_7cf53 1 = .ok (.iload_n 1, 1) := by decide +kernel
theorem dJ9_min_7cf53_2 : decode cJ9_min_7cf53 2 = .ok (.if_icmp .gt 7, 3) := by decide +kernel
theorem dJ9_min_7cf53_5 : decode cJ9_min_7cf53 5 = .ok (.iload_n 0, 1) := by decide +kernel
theorem dJ9_min_7cf53_6 : decode cJ9_min_7cf53 6 = .ok (.goto 4, 3) := by decide +kernel
theorem dJ9_min_7cf53_9 : decode cJ9_min_7cf53 9 = .ok (.iload_n 1, 1) := by decide +kernel
theorem dJ9_min_7cf53_10 : decode cJ9_min_7cf53 10 = .ok (.ireturn, 1) := by decide +kernel
theorem dJ9_min_f86c9_0 : decode cJ9_min_f86c9 0 = .ok (.lload_n 0, 1) := by decide +kernel
theorem dJ9_min_f86c9_1 : decode cJ9_min_f86c9 1 = .ok (.lload_n 2, 1) := by decide +kernel
theorem dJ9_min_f86c9_2 : decode cJ9_min_f86c9 2 = .ok (.lcmp, 1) := by decide +kernel
theorem dJ9_min_f86c9_3 : decode cJ9_min_f86c9 3 = .ok (.ifCond .gt 7, 3) := by decide +kernel
theorem dJ9_min_f86c9_6 : decode cJ9_min_f86c9 6 = .ok (.lload_n 0, 1) := by decide +kernel
theorem dJ9_min_f86c9_7 : decode cJ9_min_f86c9 7 = .ok (.goto 4, 3) := by decide +kernel
theorem dJ9_min_f86c9_10 : decode cJ9_min_f86c9 10 = .ok (.lload_n 2, 1) := by decide +kernel
theorem dJ9_min_f86c9_11 : decode cJ9_min_f86c9 11 = .ok (.lreturn, 1) := by decide +kernel
theorem dJ0_length_8abf5_0 : decode cJ0_length_8abf5 0 = .ok (.aload_n 0, 1) := by decide +kernel
theorem dJ0_length_8abf5_1 : decode cJ0_length_8abf5 1 = .ok (.getfield 9, 3) := by decide +kernel
theorem dJ0_length_8abf5_4 : decode cJ0_length_8abf5 4 = .ok (.arraylength, 1) := by decide +kernel
theorem dJ0_length_8abf5_5 : decode cJ0_length_8abf5 5 = .ok (.aload_n 0, 1) := by decide +kernel
theorem dJ0_length_8abf5_6 : decode cJ0_length_8abf5 6 = .ok (.invokevirtual 335, 3) := by decide +kernel
theorem dJ0_length_8abf5_9 : decode cJ0_length_8abf5 9 = .ok (.ishr, 1) := by decide +kernel
theorem dJ0_length_8abf5_10 : decode cJ0_length_8abf5 10 = .ok (.ireturn, 1) := by decide +kernel
theorem dJ0_charAt_5068e_0 : decode cJ0_charAt_5068e 0 = .ok (.aload_n 0, 1) := by decide +kernel
theorem dJ0_charAt_5068e_1 : decode cJ0_charAt_5068e 1 = .ok (.invokevirtual 492, 3) := by decide +kernel
theorem dJ0_charAt_5068e_4 : decode cJ0_charAt_5068e 4 = .ok (.ifCond .eq 12, 3) := by decide +kernel
theorem dJ0_charAt_5068e_7 : decode cJ0_charAt_5068e 7 = .ok (.aload_n 0, 1) := by decide +kernel
theorem dJ0_charAt_5068e_8 : decode cJ0_charAt_5068e 8 = .ok (.getfield 9, 3) := by decide +kernel
theorem dJ0_charAt_5068e_11 : decode cJ0_charAt_5068e 11 = .ok (.iload_n 1, 1) := by decide +kernel
theorem dJ0_charAt_5068e_12 : decode cJ0_charAt_5068e 12 = .ok (.invokestatic 495, 3) := by decide +kernel
theorem dJ0_charAt_5068e_15 : decode cJ0_charAt_5068e 15 = .ok (.ireturn, 1) := by decide +kernel
theorem dJ0_charAt_5068e_16 : decode cJ0_charAt_5068e 16 = .ok (.aload_n 0, 1) := by decide +kernel
theorem dJ0_charAt_5068e_17 : decode cJ0_charAt_5068e 17 = .ok (.getfield 9, 3) := by decide +kernel
theorem dJ0_charAt_5068e_20 : decode cJ0_charAt_5068e 20 = .ok (.iload_n 1, 1) := by decide +kernel
theorem dJ0_charAt_5068e_21 : decode cJ0_charAt_5068e 21 = .ok (.invokestatic 498, 3) := by decide +kernel
theorem dJ0_charAt_5068e_24 : decode cJ0_charAt_5068e 24 = .ok (.ireturn, 1) := by decide +kernel
theorem dJ0_coder_7d493_0 : decode cJ0_coder_7d493 0 = .ok (.getstatic 38, 3) := by decide +kernel
theorem dJ0_coder_7d493_3 : decode cJ0_coder_7d493 3 = .ok (.ifCond .eq 10, 3) := by decide +kernel
theorem dJ0_coder_7d493_6 : decode cJ0_coder_7d493 6 = .ok (.aload_n 0, 1) := by decide +kernel
theorem dJ0_coder_7d493_7 : decode cJ0_coder_7d493 7 = .ok (.getfield 15, 3) := by decide +kernel
theorem dJ0_coder_7d493_10 : decode cJ0_coder_7d493 10 = .ok (.goto 4, 3) := by decide +kernel
theorem dJ0_coder_7d493_13 : decode cJ0_coder_7d493 13 = .ok (.iconst 1, 1) := by decide +kernel
theorem dJ0_coder_7d493_14 : decode cJ0_coder_7d493 14 = .ok (.ireturn, 1) := by decide +kernel
theorem dJ0_isLatin1_aae02_0 : decode cJ0_isLatin1_aae02 0 = .ok (.getstatic 38, 3) := by decide +kernel
theorem dJ0_isLatin1_aae02_3 : decode cJ0_isLatin1_aae02 3 = .ok (.ifCond .eq 14, 3) := by decide +kernel
theorem dJ0_isLatin1_aae02_6 : decode cJ0_isLatin1_aae02 6 = .ok (.aload_n 0, 1) := by decide +kernel
theorem dJ0_isLatin1_aae02_7 : decode cJ0_isLatin1_aae02 7 = .ok (.getfield 15, 3) := by decide +kernel
theorem dJ0_isLatin1_aae02_10 : decode cJ0_isLatin1_aae02 10 = .ok (.ifCond .ne 7, 3) := by decide +kernel
theorem dJ0_isLatin1_aae02_13 : decode cJ0_isLatin1_aae02 13 = .ok (.iconst 1, 1) := by decide +kernel
theorem dJ0_isLatin1_aae02_14 : decode cJ0_isLatin1_aae02 14 = .ok (.goto 4, 3) := by decide +kernel
theorem dJ0_isLatin1_aae02_17 : decode cJ0_isLatin1_aae02 17 = .ok (.iconst 0, 1) := by decide +kernel
theorem dJ0_isLatin1_aae02_18 : decode cJ0_isLatin1_aae02 18 = .ok (.ireturn, 1) := by decide +kernel
theorem dJ0_checkIndex_df160_0 : decode cJ0_checkIndex_df160 0 = .ok (.iload_n 0, 1) := by decide +kernel
theorem dJ0_checkIndex_df160_1 : decode cJ0_checkIndex_df160 1 = .ok (.iload_n 1, 1) := by decide +kernel
theorem dJ0_checkIndex_df160_2 : decode cJ0_checkIndex_df160 2 = .ok (.getstatic 1053, 3) := by decide +kernel
theorem dJ0_checkIndex_df160_5 : decode cJ0_checkIndex_df160 5 = .ok (.invokestatic 1059, 3) := by decide +kernel
theorem dJ0_checkIndex_df160_8 : decode cJ0_checkIndex_df160 8 = .ok (.pop, 1) := by decide +kernel
theorem dJ0_checkIndex_df160_9 : decode cJ0_checkIndex_df160 9 = .ok (.return_, 1) := by decide +kernel
theorem dJ1_charAt_3b067_0 : decode cJ1_charAt_3b067 0 = .ok (.iload_n 1, 1) := by decide +kernel
theorem dJ1_charAt_3b067_1 : decode cJ1_charAt_3b067 1 = .ok (.aload_n 0, 1) := by decide +kernel
theorem dJ1_charAt_3b067_2 : decode cJ1_charAt_3b067 2 = .ok (.arraylength, 1) := by decide +kernel
theorem dJ1_charAt_3b067_3 : decode cJ1_charAt_3b067 3 = .ok (.invokestatic 9, 3) := by decide +kernel
theorem dJ1_charAt_3b067_6 : decode cJ1_charAt_3b067 6 = .ok (.aload_n 0, 1) := by decide +kernel
theorem dJ1_charAt_3b067_7 : decode cJ1_charAt_3b067 7 = .ok (.iload_n 1, 1) := by decide +kernel
theorem dJ1_charAt_3b067_8 : decode cJ1_charAt_3b067 8 = .ok (.baload, 1) := by decide +kernel
theorem dJ1_charAt_3b067_9 : decode cJ1_charAt_3b067 9 = .ok (.sipush 255, 3) := by decide +kernel
theorem dJ1_charAt_3b067_12 : decode cJ1_charAt_3b067 12 = .ok (.iand, 1) := by decide +kernel
theorem dJ1_charAt_3b067_13 : decode cJ1_charAt_3b067 13 = .ok (.i2c, 1) := by decide +kernel
theorem dJ1_charAt_3b067_14 : decode cJ1_charAt_3b067 14 = .ok (.ireturn, 1) := by decide +kernel
theorem dJ2_getChar_3b067_0 : decode cJ2_getChar_3b067 0 = .ok (.getstatic 44, 3) := by decide +kernel
theorem dJ2_getChar_3b067_3 : decode cJ2_getChar_3b067 3 = .ok (.ifCond .ne 25, 3) := by decide +kernel
theorem dJ2_getChar_3b067_6 : decode cJ2_getChar_3b067 6 = .ok (.iload_n 1, 1) := by decide +kernel
theorem dJ2_getChar_3b067_7 : decode cJ2_getChar_3b067 7 = .ok (.ifCond .lt 11, 3) := by decide +kernel
theorem dJ2_getChar_3b067_10 : decode cJ2_getChar_3b067 10 = .ok (.iload_n 1, 1) := by decide +kernel
theorem dJ2_getChar_3b067_11 : decode cJ2_getChar_3b067 11 = .ok (.aload_n 0, 1) := by decide +kernel
theorem dJ2_getChar_3b067_12 : decode cJ2_getChar_3b067 12 = .ok (.invokestatic 48, 3) := by decide +kernel
theorem dJ2_getChar_3b067_15 : decode cJ2_getChar_3b067 15 = .ok (.if_icmp .lt 13, 3) := by decide +kernel
theorem dJ2_getChar_3b067_18 : decode cJ2_getChar_3b067 18 = .ok (.new 52, 3) := by decide +kernel
theorem dJ2_getChar_3b067_21 : decode cJ2_getChar_3b067 21 = .ok (.dup, 1) := by decide +kernel
theorem dJ2_getChar_3b067_22 : decode cJ2_getChar_3b067 22 = .ok (.ldc 54, 2) := by decide +kernel
theorem dJ2_getChar_3b067_24 : decode cJ2_getChar_3b067 24 = .ok (.invokespecial 56, 3) := by decide +kernel
theorem dJ2_getChar_3b067_27 : decode cJ2_getChar_3b067 27 = .ok (.athrow, 1) := by decide +kernel
theorem dJ2_getChar_3b067_28 : decode cJ2_getChar_3b067 28 = .ok (.iload_n 1, 1) := by decide +kernel
theorem dJ2_getChar_3b067_29 : decode cJ2_getChar_3b067 29 = .ok (.iconst 1, 1) := by decide +kernel
theorem dJ2_getChar_3b067_30 : decode cJ2_getChar_3b067 30 = .ok (.ishl, 1) := by decide +kernel
theorem dJ2_getChar_3b067_31 : decode cJ2_getChar_3b067 31 = .ok (.istore_n 1, 1) := by decide +kernel
theorem dJ2_getChar_3b067_32 : decode cJ2_getChar_3b067 32 = .ok (.aload_n 0, 1) := by decide +kernel
theorem dJ2_getChar_3b067_33 : decode cJ2_getChar_3b067 33 = .ok (.iload_n 1, 1) := by decide +kernel
theorem dJ2_getChar_3b067_34 : decode cJ2_getChar_3b067 34 = .ok (.iinc 1 1, 3) := by decide +kernel
theorem dJ2_getChar_3b067_37 : decode cJ2_getChar_3b067 37 = .ok (.baload, 1) := by decide +kernel
theorem dJ2_getChar_3b067_38 : decode cJ2_getChar_3b067 38 = .ok (.sipush 255, 3) := by decide +kernel
theorem dJ2_getChar_3b067_41 : decode cJ2_getChar_3b067 41 = .ok (.iand, 1) := by decide +kernel
theorem dJ2_getChar_3b067_42 : decode cJ2_getChar_3b067 42 = .ok (.getstatic 59, 3) := by decide +kernel
theorem dJ2_getChar_3b067_45 : decode cJ2_getChar_3b067 45 = .ok (.ishl, 1) := by decide +kernel
theorem dJ2_getChar_3b067_46 : decode cJ2_getChar_3b067 46 = .ok (.aload_n 0, 1) := by decide +kernel
theorem dJ2_getChar_3b067_47 : decode cJ2_getChar_3b067 47 = .ok (.iload_n 1, 1) := by decide +kernel
theorem dJ2_getChar_3b067_48 : decode cJ2_getChar_3b067 48 = .ok (.baload, 1) := by decide +kernel
theorem dJ2_getChar_3b067_49 : decode cJ2_getChar_3b067 49 = .ok (.sipush 255, 3) := by decide +kernel
theorem dJ2_getChar_3b067_52 : decode cJ2_getChar_3b067 52 = .ok (.iand, 1) := by decide +kernel
theorem dJ2_getChar_3b067_53 : decode cJ2_getChar_3b067 53 = .ok (.getstatic 63, 3) := by decide +kernel
theorem dJ2_getChar_3b067_56 : decode cJ2_getChar_3b067 56 = .ok (.ishl, 1) := by decide +kernel
theorem dJ2_getChar_3b067_57 : decode cJ2_getChar_3b067 57 = .ok (.ior, 1) := by decide +kernel
theorem dJ2_getChar_3b067_58 : decode cJ2_getChar_3b067 58 = .ok (.i2c, 1) := by decide +kernel
theorem dJ2_getChar_3b067_59 : decode cJ2_getChar_3b067 59 = .ok (.ireturn, 1) := by decide +kernel
theorem dJ2_length_9d52b_0 : decode cJ2_length_9d52b 0 = .ok (.aload_n 0, 1) := by decide +kernel
theorem dJ2_length_9d52b_1 : decode cJ2_length_9d52b 1 = .ok (.arraylength, 1) := by decide +kernel
theorem dJ2_length_9d52b_2 : decode cJ2_length_9d52b 2 = .ok (.iconst 1, 1) := by decide +kernel
theorem dJ2_length_9d52b_3 : decode cJ2_length_9d52b 3 = .ok (.ishr, 1) := by decide +kernel
theorem dJ2_length_9d52b_4 : decode cJ2_length_9d52b 4 = .ok (.ireturn, 1) := by decide +kernel
theorem dJ2_charAt_3b067_0 : decode cJ2_charAt_3b067 0 = .ok (.iload_n 1, 1) := by decide +kernel
theorem dJ2_charAt_3b067_1 : decode cJ2_charAt_3b067 1 = .ok (.aload_n 0, 1) := by decide +kernel
theorem dJ2_charAt_3b067_2 : decode cJ2_charAt_3b067 2 = .ok (.invokestatic 67, 3) := by decide +kernel
theorem dJ2_charAt_3b067_5 : decode cJ2_charAt_3b067 5 = .ok (.aload_n 0, 1) := by decide +kernel
theorem dJ2_charAt_3b067_6 : decode cJ2_charAt_3b067 6 = .ok (.iload_n 1, 1) := by decide +kernel
theorem dJ2_charAt_3b067_7 : decode cJ2_charAt_3b067 7 = .ok (.invokestatic 71, 3) := by decide +kernel
theorem dJ2_charAt_3b067_10 : decode cJ2_charAt_3b067 10 = .ok (.ireturn, 1) := by decide +kernel
theorem dJ2_checkIndex_2214a_0 : decode cJ2_checkIndex_2214a 0 = .ok (.iload_n 0, 1) := by decide +kernel
theorem dJ2_checkIndex_2214a_1 : decode cJ2_checkIndex_2214a 1 = .ok (.aload_n 1, 1) := by decide +kernel
theorem dJ2_checkIndex_2214a_2 : decode cJ2_checkIndex_2214a 2 = .ok (.invokestatic 48, 3) := by decide +kernel
theorem dJ2_checkIndex_2214a_5 : decode cJ2_checkIndex_2214a 5 = .ok (.invokestatic 414, 3) := by decide +kernel
theorem dJ2_checkIndex_2214a_8 : decode cJ2_checkIndex_2214a 8 = .ok (.return_, 1) := by decide +kernel
theorem dJ7_fill_53178_0 : decode cJ7_fill_53178 0 = .ok (.iconst 0, 1) := by decide +kernel
theorem dJ7_fill_53178_1 : decode cJ7_fill_53178 1 = .ok (.istore_n 2, 1) := by decide +kernel
theorem dJ7_fill_53178_2 : decode cJ7_fill_53178 2 = .ok (.aload_n 0, 1) := by decide +kernel
theorem dJ7_fill_53178_3 : decode cJ7_fill_53178 3 = .ok (.arraylength, 1) := by decide +kernel
theorem dJ7_fill_53178_4 : decode cJ7_fill_53178 4 = .ok (.istore_n 3, 1) := by decide +kernel
theorem dJ7_fill_53178_5 : decode cJ7_fill_53178 5 = .ok (.iload_n 2, 1) := by decide +kernel
theorem dJ7_fill_53178_6 : decode cJ7_fill_53178 6 = .ok (.iload_n 3, 1) := by decide +kernel
theorem dJ7_fill_53178_7 : decode cJ7_fill_53178 7 = .ok (.if_icmp .ge 13, 3) := by decide +kernel
theorem dJ7_fill_53178_10 : decode cJ7_fill_53178 10 = .ok (.aload_n 0, 1) := by decide +kernel
theorem dJ7_fill_53178_11 : decode cJ7_fill_53178 11 = .ok (.iload_n 2, 1) := by decide +kernel
theorem dJ7_fill_53178_12 : decode cJ7_fill_53178 12 = .ok (.iload_n 1, 1) := by decide +kernel
theorem dJ7_fill_53178_13 : decode cJ7_fill_53178 13 = .ok (.iastore, 1) := by decide +kernel
theorem dJ7_fill_53178_14 : decode cJ7_fill_53178 14 = .ok (.iinc 2 1, 3) := by decide +kernel
theorem dJ7_fill_53178_17 : decode cJ7_fill_53178 17 = .ok (.goto (-12), 3) := by decide +kernel
theorem dJ7_fill_53178_20 : decode cJ7_fill_53178 20 = .ok (.return_, 1) := by decide +kernel
theorem dJ3_checkIndex_8e157_0 : decode cJ3_checkIndex_8e157 0 = .ok (.iload_n 0, 1) := by decide +kernel
theorem dJ3_checkIndex_8e157_1 : decode cJ3_checkIndex_8e157 1 = .ok (.ifCond .lt 8, 3) := by decide +kernel
theorem dJ3_checkIndex_8e157_4 : decode cJ3_checkIndex_8e157 4 = .ok (.iload_n 0, 1) := by decide +kernel
theorem dJ3_checkIndex_8e157_5 : decode cJ3_checkIndex_8e157 5 = .ok (.iload_n 1, 1) := by decide +kernel
theorem dJ3_checkIndex_8e157_6 : decode cJ3_checkIndex_8e157 6 = .ok (.if_icmp .lt 10, 3) := by decide +kernel
theorem dJ3_checkIndex_8e157_9 : decode cJ3_checkIndex_8e157 9 = .ok (.aload_n 2, 1) := by decide +kernel
theorem dJ3_checkIndex_8e157_10 : decode cJ3_checkIndex_8e157 10 = .ok (.iload_n 0, 1) := by decide +kernel
theorem dJ3_checkIndex_8e157_11 : decode cJ3_checkIndex_8e157 11 = .ok (.iload_n 1, 1) := by decide +kernel
theorem dJ3_checkIndex_8e157_12 : decode cJ3_checkIndex_8e157 12 = .ok (.invokestatic 95, 3) := by decide +kernel
theorem dJ3_checkIndex_8e157_15 : decode cJ3_checkIndex_8e157 15 = .ok (.athrow, 1) := by decide +kernel
theorem dJ3_checkIndex_8e157_16 : decode cJ3_checkIndex_8e157 16 = .ok (.iload_n 0, 1) := by decide +kernel
theorem dJ3_checkIndex_8e157_17 : decode cJ3_checkIndex_8e157 17 = .ok (.ireturn, 1) := by decide +kernel
