theorem d_ThumbCoreModel_comeBack_29 : decode b_ThumbCoreModel_comeBack 29 = .ok (.iadd, 1) := by decide +kernel
theorem d_ThumbCoreModel_comeBack_30 : decode b_ThumbCoreModel_comeBack 30 = .ok (.iconst 4, 1) := by decide +kernel
theorem d_ThumbCoreModel_comeBack_31 : decode b_ThumbCoreModel_comeBack 31 = .ok (.invokevirtual 37, 3) := by decide +kernel
theorem d_ThumbCoreModel_comeBack_34 : decode b_ThumbCoreModel_comeBack 34 = .ok (.ifCond .ne 7, 3) := by decide +kernel
theorem d_ThumbCoreModel_comeBack_37 : decode b_ThumbCoreModel_comeBack 37 = .ok (.iconst 1, 1) := by decide +kernel
theorem d_ThumbCoreModel_comeBack_38 : decode b_ThumbCoreModel_comeBack 38 = .ok (.goto 4, 3) := by decide +kernel
theorem d_ThumbCoreModel_comeBack_41 : decode b_ThumbCoreModel_comeBack 41 = .ok (.iconst 0, 1) := by decide +kernel
theorem d_ThumbCoreModel_comeBack_42 : decode b_ThumbCoreModel_comeBack 42 = .ok (.putfield 41, 3) := by decide +kernel
theorem d_ThumbCoreModel_comeBack_45 : decode b_ThumbCoreModel_comeBack 45 = .ok (.iinc 3 1, 3) := by decide +kernel
theorem d_ThumbCoreModel_comeBack_48 : decode b_ThumbCoreModel_comeBack 48 = .ok (.goto (-38), 3) := by decide +kernel
theorem d_ThumbCoreModel_comeBack_51 : decode b_ThumbCoreModel_comeBack 51 = .ok (.aload_n 0, 1) := by decide +kernel
theorem d_ThumbCoreModel_comeBack_52 : decode b_ThumbCoreModel_comeBack 52 = .ok (.getfield 41, 3) := by decide +kernel
theorem d_ThumbCoreModel_comeBack_55 : decode b_ThumbCoreModel_comeBack 55 = .ok (.ifCond .eq 7, 3) := by decide +kernel
theorem d_ThumbCoreModel_comeBack_58 : decode b_ThumbCoreModel_comeBack 58 = .ok (.iconst 0, 1) := by decide +kernel
theorem d_ThumbCoreModel_comeBack_59 : decode b_ThumbCoreModel_comeBack 59 = .ok (.goto 12, 3) := by decide +kernel
theorem d_ThumbCoreModel_comeBack_62 : decode b_ThumbCoreModel_comeBack 62 = .ok (.aload_n 0, 1) := by decide +kernel
theorem d_ThumbCoreModel_comeBack_63 : decode b_ThumbCoreModel_comeBack 63 = .ok (.iload_n 2, 1) := by decide +kernel
theorem d_ThumbCoreModel_comeBack_64 : decode b_ThumbCoreModel_comeBack 64 = .ok (.bipush 28, 2) := by decide +kernel
theorem d_ThumbCoreModel_comeBack_66 : decode b_ThumbCoreModel_comeBack 66 = .ok (.iadd, 1) := by decide +kernel
theorem d_ThumbCoreModel_comeBack_67 : decode b_ThumbCoreModel_comeBack 67 = .ok (.iconst 4, 1) := by decide +kernel
theorem d_ThumbCoreModel_comeBack_68 : decode b_ThumbCoreModel_comeBack 68 = .ok (.invokevirtual 45, 3) := by decide +kernel
theorem d_ThumbCoreModel_comeBack_71 : decode b_ThumbCoreModel_comeBack 71 = .ok (.istore_n 3, 1) := by decide +kernel
theorem d_ThumbCoreModel_comeBack_72 : decode b_ThumbCoreModel_comeBack 72 = .ok (.iload_n 3, 1) := by decide +kernel
theorem d_ThumbCoreModel_comeBack_73 : decode b_ThumbCoreModel_comeBack 73 = .ok (.bipush 63, 2) := by decide +kernel
theorem d_ThumbCoreModel_comeBack_75 : decode b_ThumbCoreModel_comeBack 75 = .ok (.iand, 1) := by decide +kernel
theorem d_ThumbCoreModel_comeBack_76 : decode b_ThumbCoreModel_comeBack 76 = .ok (.istore 4, 2) := by decide +kernel
theorem d_ThumbCoreModel_comeBack_78 : decode b_ThumbCoreModel_comeBack 78 = .ok (.iload_n 1, 1) := by decide +kernel
theorem d_ThumbCoreModel_comeBack_79 : decode b_ThumbCoreModel_comeBack 79 = .ok (.bipush (-7), 2) := by decide +kernel
theorem d_ThumbCoreModel_comeBack_81 : decode b_ThumbCoreModel_comeBack 81 = .ok (.if_icmp .ne 24, 3) := by decide +kernel
theorem d_ThumbCoreModel_comeBack_84 : decode b_ThumbCoreModel_comeBack 84 = .ok (.iload 4, 2) := by decide +kernel
theorem d_ThumbCoreModel_comeBack_86 : decode b_ThumbCoreModel_comeBack 86 = .ok (.ifCond .ne 15, 3) := by decide +kernel
theorem d_ThumbCoreModel_comeBack_89 : decode b_ThumbCoreModel_comeBack 89 = .ok (.aload_n 0, 1) := by decide +kernel
theorem d_ThumbCoreModel_comeBack_90 : decode b_ThumbCoreModel_comeBack 90 = .ok (.invokevirtual 104, 3) := by decide +kernel
theorem d_ThumbCoreModel_comeBack_93 : decode b_ThumbCoreModel_comeBack 93 = .ok (.iconst 1, 1) := by decide +kernel
theorem d_ThumbCoreModel_comeBack_94 : decode b_ThumbCoreModel_comeBack 94 = .ok (.if_icmp .ne 7, 3) := by decide +kernel
theorem d_ThumbCoreModel_comeBack_97 : decode b_ThumbCoreModel_comeBack 97 = .ok (.iconst 1, 1) := by decide +kernel
theorem d_ThumbCoreModel_comeBack_98 : decode b_ThumbCoreModel_comeBack 98 = .ok (.goto 51, 3) := by decide +kernel
theorem d_ThumbCoreModel_comeBack_101 : decode b_ThumbCoreModel_comeBack 101 = .ok (.iconst 0, 1) := by decide +kernel
theorem d_ThumbCoreModel_comeBack_102 : decode b_ThumbCoreModel_comeBack 102 = .ok (.goto 47, 3) := by decide +kernel
theorem d_ThumbCoreModel_comeBack_105 : decode b_ThumbCoreModel_comeBack 105 = .ok (.iload 4, 2) := by decide +kernel
theorem d_ThumbCoreModel_comeBack_107 : decode b_ThumbCoreModel_comeBack 107 = .ok (.bipush 16, 2) := by decide +kernel
theorem d_ThumbCoreModel_comeBack_109 : decode b_ThumbCoreModel_comeBack 109 = .ok (.if_icmp .ge 39, 3) := by decide +kernel
theorem d_ThumbCoreModel_comeBack_112 : decode b_ThumbCoreModel_comeBack 112 = .ok (.iload 4, 2) := by decide +kernel
theorem d_ThumbCoreModel_comeBack_114 : decode b_ThumbCoreModel_comeBack 114 = .ok (.aload_n 0, 1) := by decide +kernel
theorem d_ThumbCoreModel_comeBack_115 : decode b_ThumbCoreModel_comeBack 115 = .ok (.getfield 71, 3) := by decide +kernel
theorem d_ThumbCoreModel_comeBack_118 : decode b_ThumbCoreModel_comeBack 118 = .ok (.if_icmp .eq 30, 3) := by decide +kernel
theorem d_ThumbCoreModel_comeBack_121 : decode b_ThumbCoreModel_comeBack 121 = .ok (.iload 4, 2) := by decide +kernel
theorem d_ThumbCoreModel_comeBack_123 : decode b_ThumbCoreModel_comeBack 123 = .ok (.ifCond .le 25, 3) := by decide +kernel
theorem d_ThumbCoreModel_comeBack_126 : decode b_ThumbCoreModel_comeBack 126 = .ok (.aload_n 0, 1) := by decide +kernel
theorem d_ThumbCoreModel_comeBack_127 : decode b_ThumbCoreModel_comeBack 127 = .ok (.getfield 24, 3) := by decide +kernel
theorem d_ThumbCoreModel_comeBack_130 : decode b_ThumbCoreModel_comeBack 130 = .ok (.iload 4, 2) := by decide +kernel
theorem d_ThumbCoreModel_comeBack_132 : decode b_ThumbCoreModel_comeBack 132 = .ok (.baload, 1) := by decide +kernel
theorem d_ThumbCoreModel_comeBack_133 : decode b_ThumbCoreModel_comeBack 133 = .ok (.ifCond .eq 15, 3) := by decide +kernel
theorem d_ThumbCoreModel_comeBack_136 : decode b_ThumbCoreModel_comeBack 136 = .ok (.aload_n 0, 1) := by decide +kernel
theorem d_ThumbCoreModel_comeBack_137 : decode b_ThumbCoreModel_comeBack 137 = .ok (.invokevirtual 104, 3) := by decide +kernel
theorem d_ThumbCoreModel_comeBack_140 : decode b_ThumbCoreModel_comeBack 140 = .ok (.iconst 1, 1) := by decide +kernel
theorem d_ThumbCoreModel_comeBack_141 : decode b_ThumbCoreModel_comeBack 141 = .ok (.if_icmp .le 7, 3) := by decide +kernel
theorem d_ThumbCoreModel_comeBack_144 : decode b_ThumbCoreModel_comeBack 144 = .ok (.iconst 1, 1) := by decide +kernel
theorem d_ThumbCoreModel_comeBack_145 : decode b_ThumbCoreModel_comeBack 145 = .ok (.goto 4, 3) := by decide +kernel
theorem d_ThumbCoreModel_comeBack_148 : decode b_ThumbCoreModel_comeBack 148 = .ok (.iconst 0, 1) := by decide +kernel
theorem d_ThumbCoreModel_comeBack_149 : decode b_ThumbCoreModel_comeBack 149 = .ok (.istore 5, 2) := by decide +kernel
theorem d_ThumbCoreModel_comeBack_151 : decode b_ThumbCoreModel_comeBack 151 = .ok (.aload_n 0, 1) := by decide +kernel
theorem d_ThumbCoreModel_comeBack_152 : decode b_ThumbCoreModel_comeBack 152 = .ok (.aload_n 0, 1) := by decide +kernel
theorem d_ThumbCoreModel_comeBack_153 : decode b_ThumbCoreModel_comeBack 153 = .ok (.getfield 41, 3) := by decide +kernel
theorem d_ThumbCoreModel_comeBack_156 : decode b_ThumbCoreModel_comeBack 156 = .ok (.ifCond .ne 8, 3) := by decide +kernel
theorem d_ThumbCoreModel_comeBack_159 : decode b_ThumbCoreModel_comeBack 159 = .ok (.iload 5, 2) := by decide +kernel
theorem d_ThumbCoreModel_comeBack_161 : decode b_ThumbCoreModel_comeBack 161 = .ok (.ifCond .ne 7, 3) := by decide +kernel
theorem d_ThumbCoreModel_comeBack_164 : decode b_ThumbCoreModel_comeBack 164 = .ok (.iconst 1, 1) := by decide +kernel
theorem d_ThumbCoreModel_comeBack_165 : decode b_ThumbCoreModel_comeBack 165 = .ok (.goto 4, 3) := by decide +kernel
theorem d_ThumbCoreModel_comeBack_168 : decode b_ThumbCoreModel_comeBack 168 = .ok (.iconst 0, 1) := by decide +kernel
theorem d_ThumbCoreModel_comeBack_169 : decode b_ThumbCoreModel_comeBack 169 = .ok (.putfield 41, 3) := by decide +kernel
theorem d_ThumbCoreModel_comeBack_172 : decode b_ThumbCoreModel_comeBack 172 = .ok (.aload_n 0, 1) := by decide +kernel
theorem d_ThumbCoreModel_comeBack_173 : decode b_ThumbCoreModel_comeBack 173 = .ok (.getfield 41, 3) := by decide +kernel
theorem d_ThumbCoreModel_comeBack_176 : decode b_ThumbCoreModel_comeBack 176 = .ok (.ifCond .eq 4, 3) := by decide +kernel
theorem d_ThumbCoreModel_comeBack_179 : decode b_ThumbCoreModel_comeBack 179 = .ok (.return_, 1) := by decide +kernel
theorem d_ThumbCoreModel_comeBack_180 : decode b_ThumbCoreModel_comeBack 180 = .ok (.iconst 0, 1) := by decide +kernel
theorem d_ThumbCoreModel_comeBack_181 : decode b_ThumbCoreModel_comeBack 181 = .ok (.istore 6, 2) := by decide +kernel
theorem d_ThumbCoreModel_comeBack_183 : decode b_ThumbCoreModel_comeBack 183 = .ok (.iload 6, 2) := by decide +kernel
theorem d_ThumbCoreModel_comeBack_185 : decode b_ThumbCoreModel_comeBack 185 = .ok (.iconst 4, 1) := by decide +kernel
theorem d_ThumbCoreModel_comeBack_186 : decode b_ThumbCoreModel_comeBack 186 = .ok (.if_icmp .ge 27, 3) := by decide +kernel
theorem d_ThumbCoreModel_comeBack_189 : decode b_ThumbCoreModel_comeBack 189 = .ok (.aload_n 0, 1) := by decide +kernel
theorem d_ThumbCoreModel_comeBack_190 : decode b_ThumbCoreModel_comeBack 190 = .ok (.getfield 13, 3) := by decide +kernel
theorem d_ThumbCoreModel_comeBack_193 : decode b_ThumbCoreModel_comeBack 193 = .ok (.iload 6, 2) := by decide +kernel
theorem d_ThumbCoreModel_comeBack_195 : decode b_ThumbCoreModel_comeBack 195 = .ok (.aload_n 0, 1) := by decide +kernel
theorem d_ThumbCoreModel_comeBack_196 : decode b_ThumbCoreModel_comeBack 196 = .ok (.iload_n 2, 1) := by decide +kernel
theorem d_ThumbCoreModel_comeBack_197 : decode b_ThumbCoreModel_comeBack 197 = .ok (.iconst 4, 1) := by decide +kernel
theorem d_ThumbCoreModel_comeBack_198 : decode b_ThumbCoreModel_comeBack 198 = .ok (.iload 6, 2) := by decide +kernel
theorem d_ThumbCoreModel_comeBack_200 : decode b_ThumbCoreModel_comeBack 200 = .ok (.imul, 1) := by decide +kernel
theorem d_ThumbCoreModel_comeBack_201 : decode b_ThumbCoreModel_comeBack 201 = .ok (.iadd, 1) := by decide +kernel
theorem d_ThumbCoreModel_comeBack_202 : decode b_ThumbCoreModel_comeBack 202 = .ok (.iconst 4, 1) := by decide +kernel
theorem d_ThumbCoreModel_comeBack_203 : decode b_ThumbCoreModel_comeBack 203 = .ok (.invokevirtual 45, 3) := by decide +kernel
theorem d_ThumbCoreModel_comeBack_206 : decode b_ThumbCoreModel_comeBack 206 = .ok (.iastore, 1) := by decide +kernel
theorem d_ThumbCoreModel_comeBack_207 : decode b_ThumbCoreModel_comeBack 207 = .ok (.iinc 6 1, 3) := by decide +kernel
theorem d_ThumbCoreModel_comeBack_210 : decode b_ThumbCoreModel_comeBack 210 = .ok (.goto (-27), 3) := by decide +kernel
theorem d_ThumbCoreModel_comeBack_213 : decode b_ThumbCoreModel_comeBack 213 = .ok (.aload_n 0, 1) := by decide +kernel
theorem d_ThumbCoreModel_comeBack_214 : decode b_ThumbCoreModel_comeBack 214 = .ok (.getfield 13, 3) := by decide +kernel
theorem d_ThumbCoreModel_comeBack_217 : decode b_ThumbCoreModel_comeBack 217 = .ok (.bipush 12, 2) := by decide +kernel
theorem d_ThumbCoreModel_comeBack_219 : decode b_ThumbCoreModel_comeBack 219 = .ok (.aload_n 0, 1) := by decide +kernel
theorem d_ThumbCoreModel_comeBack_220 : decode b_ThumbCoreModel_comeBack 220 = .ok (.iload_n 2, 1) := by decide +kernel
theorem d_ThumbCoreModel_comeBack_221 : decode b_ThumbCoreModel_comeBack 221 = .ok (.bipush 16, 2) := by decide +kernel
theorem d_ThumbCoreModel_comeBack_223 : decode b_ThumbCoreModel_comeBack 223 = .ok (.iadd, 1) := by decide +kernel
theorem d_ThumbCoreModel_comeBack_224 : decode b_ThumbCoreModel_comeBack 224 = .ok (.iconst 4, 1) := by decide +kernel
theorem d_ThumbCoreModel_comeBack_225 : decode b_ThumbCoreModel_comeBack 225 = .ok (.invokevirtual 45, 3) := by decide +kernel
theorem d_ThumbCoreModel_comeBack_228 : decode b_ThumbCoreModel_comeBack 228 = .ok (.iastore, 1) := by decide +kernel
theorem d_ThumbCoreModel_comeBack_229 : decode b_ThumbCoreModel_comeBack 229 = .ok (.aload_n 0, 1) := by decide +kernel
theorem d_ThumbCoreModel_comeBack_230 : decode b_ThumbCoreModel_comeBack 230 = .ok (.getfield 13, 3) := by decide +kernel
theorem d_ThumbCoreModel_comeBack_233 : decode b_ThumbCoreModel_comeBack 233 = .ok (.bipush 14, 2) := by decide +kernel
theorem d_ThumbCoreModel_comeBack_235 : decode b_ThumbCoreModel_comeBack 235 = .ok (.aload_n 0, 1) := by decide +kernel
theorem d_ThumbCoreModel_comeBack_236 : decode b_ThumbCoreModel_comeBack 236 = .ok (.iload_n 2, 1) := by decide +kernel
theorem d_ThumbCoreModel_comeBack_237 : decode b_ThumbCoreModel_comeBack 237 = .ok (.bipush 20, 2) := by decide +kernel
theorem d_ThumbCoreModel_comeBack_239 : decode b_ThumbCoreModel_comeBack 239 = .ok (.iadd, 1) := by decide +kernel
theorem d_ThumbCoreModel_comeBack_240 : decode b_ThumbCoreModel_comeBack 240 = .ok (.iconst 4, 1) := by decide +kernel
theorem d_ThumbCoreModel_comeBack_241 : decode b_ThumbCoreModel_comeBack 241 = .ok (.invokevirtual 45, 3) := by decide +kernel
theorem d_ThumbCoreModel_comeBack_244 : decode b_ThumbCoreModel_comeBack 244 = .ok (.iastore, 1) := by decide +kernel
theorem d_ThumbCoreModel_comeBack_245 : decode b_ThumbCoreModel_comeBack 245 = .ok (.aload_n 0, 1) := by decide +kernel
theorem d_ThumbCoreModel_comeBack_246 : decode b_ThumbCoreModel_comeBack 246 = .ok (.aload_n 0, 1) := by decide +kernel
theorem d_ThumbCoreModel_comeBack_247 : decode b_ThumbCoreModel_comeBack 247 = .ok (.iload_n 2, 1) := by decide +kernel
theorem d_ThumbCoreModel_comeBack_248 : decode b_ThumbCoreModel_comeBack 248 = .ok (.bipush 24, 2) := by decide +kernel
theorem d_ThumbCoreModel_comeBack_250 : decode b_ThumbCoreModel_comeBack 250 = .ok (.iadd, 1) := by decide +kernel
theorem d_ThumbCoreModel_comeBack_251 : decode b_ThumbCoreModel_comeBack 251 = .ok (.iconst 4, 1) := by decide +kernel
theorem d_ThumbCoreModel_comeBack_252 : decode b_ThumbCoreModel_comeBack 252 = .ok (.invokevirtual 45, 3) := by decide +kernel
theorem d_ThumbCoreModel_comeBack_255 : decode b_ThumbCoreModel_comeBack 255 = .ok (.bipush (-2), 2) := by decide +kernel
theorem d_ThumbCoreModel_comeBack_257 : decode b_ThumbCoreModel_comeBack 257 = .ok (.iand, 1) := by decide +kernel
theorem d_ThumbCoreModel_comeBack_258 : decode b_ThumbCoreModel_comeBack 258 = .ok (.putfield 115, 3) := by decide +kernel
theorem d_ThumbCoreModel_comeBack_261 : decode b_ThumbCoreModel_comeBack 261 = .ok (.aload_n 0, 1) := by decide +kernel
theorem d_ThumbCoreModel_comeBack_262 : decode b_ThumbCoreModel_comeBack 262 = .ok (.iload_n 3, 1) := by decide +kernel
theorem d_ThumbCoreModel_comeBack_263 : decode b_ThumbCoreModel_comeBack 263 = .ok (.bipush 28, 2) := by decide +kernel
theorem d_ThumbCoreModel_comeBack_265 : decode b_ThumbCoreModel_comeBack 265 = .ok (.ishr, 1) := by decide +kernel
theorem d_ThumbCoreModel_comeBack_266 : decode b_ThumbCoreModel_comeBack 266 = .ok (.bipush 15, 2) := by decide +kernel
theorem d_ThumbCoreModel_comeBack_268 : decode b_ThumbCoreModel_comeBack 268 = .ok (.iand, 1) := by decide +kernel
theorem d_ThumbCoreModel_comeBack_269 : decode b_ThumbCoreModel_comeBack 269 = .ok (.invokevirtual 49, 3) := by decide +kernel
theorem d_ThumbCoreModel_comeBack_272 : decode b_ThumbCoreModel_comeBack 272 = .ok (.aload_n 0, 1) := by decide +kernel
theorem d_ThumbCoreModel_comeBack_273 : decode b_ThumbCoreModel_comeBack 273 = .ok (.getfield 24, 3) := by decide +kernel
theorem d_ThumbCoreModel_comeBack_276 : decode b_ThumbCoreModel_comeBack 276 = .ok (.aload_n 0, 1) := by decide +kernel
theorem d_ThumbCoreModel_comeBack_277 : decode b_ThumbCoreModel_comeBack 277 = .ok (.getfield 71, 3) := by decide +kernel
theorem d_ThumbCoreModel_comeBack_280 : decode b_ThumbCoreModel_comeBack 280 = .ok (.iconst 0, 1) := by decide +kernel
theorem d_ThumbCoreModel_comeBack_281 : decode b_ThumbCoreModel_comeBack 281 = .ok (.bastore, 1) := by decide +kernel
theorem d_ThumbCoreModel_comeBack_282 : decode b_ThumbCoreModel_comeBack 282 = .ok (.aload_n 0, 1) := by decide +kernel
theorem d_ThumbCoreModel_comeBack_283 : decode b_ThumbCoreModel_comeBack 283 = .ok (.iload 4, 2) := by decide +kernel
theorem d_ThumbCoreModel_comeBack_285 : decode b_ThumbCoreModel_comeBack 285 = .ok (.putfield 71, 3) := by decide +kernel
theorem d_ThumbCoreModel_comeBack_288 : decode b_ThumbCoreModel_comeBack 288 = .ok (.aload_n 0, 1) := by decide +kernel
theorem d_ThumbCoreModel_comeBack_289 : decode b_ThumbCoreModel_comeBack 289 = .ok (.getfield 13, 3) := by decide +kernel
theorem d_ThumbCoreModel_comeBack_292 : decode b_ThumbCoreModel_comeBack 292 = .ok (.bipush 13, 2) := by decide +kernel
theorem d_ThumbCoreModel_comeBack_294 : decode b_ThumbCoreModel_comeBack 294 = .ok (.iload_n 2, 1) := by decide +kernel
theorem d_ThumbCoreModel_comeBack_295 : decode b_ThumbCoreModel_comeBack 295 = .ok (.iload_n 3, 1) := by decide +kernel
theorem d_ThumbCoreModel_comeBack_296 : decode b_ThumbCoreModel_comeBack 296 = .ok (.sipush 512, 3) := by decide +kernel
theorem d_ThumbCoreModel_comeBack_299 : decode b_ThumbCoreModel_comeBack 299 = .ok (.iand, 1) := by decide +kernel
theorem d_ThumbCoreModel_comeBack_300 : decode b_ThumbCoreModel_comeBack 300 = .ok (.ifCond .eq 8, 3) := by decide +kernel
theorem d_ThumbCoreModel_comeBack_303 : decode b_ThumbCoreModel_comeBack 303 = .ok (.bipush 36, 2) := by decide +kernel
theorem d_ThumbCoreModel_comeBack_305 : decode b_ThumbCoreModel_comeBack 305 = .ok (.goto 5, 3) := by decide +kernel
theorem d_ThumbCoreModel_comeBack_308 : decode b_ThumbCoreModel_comeBack 308 = .ok (.bipush 32, 2) := by decide +kernel
theorem d_ThumbCoreModel_comeBack_310 : decode b_ThumbCoreModel_comeBack 310 = .ok (.iadd, 1) := by decide +kernel
theorem d_ThumbCoreModel_comeBack_311 : decode b_ThumbCoreModel_comeBack 311 = .ok (.iastore, 1) := by decide +kernel
theorem d_ThumbCoreModel_comeBack_312 : decode b_ThumbCoreModel_comeBack 312 = .ok (.return_, 1) := by decide +kernel
theorem d_ThumbCoreModel_returns_0 : decode b_ThumbCoreModel_returns 0 = .ok (.aload_n 0, 1) := by decide +kernel
theorem d_ThumbCoreModel_returns_1 : decode b_ThumbCoreModel_returns 1 = .ok (.invokevirtual 104, 3) := by decide +kernel
theorem d_ThumbCoreModel_returns_4 : decode b_ThumbCoreModel_returns 4 = .ok (.ifCond .le 19, 3) := by decide +kernel
theorem d_ThumbCoreModel_returns_7 : decode b_ThumbCoreModel_returns 7 = .ok (.iload_n 1, 1) := by decide +kernel
theorem d_ThumbCoreModel_returns_8 : decode b_ThumbCoreModel_returns 8 = .ok (.bipush (-7), 2) := by decide +kernel
theorem d_ThumbCoreModel_returns_10 : decode b_ThumbCoreModel_returns 10 = .ok (.if_icmp .eq 9, 3) := by decide +kernel
theorem d_ThumbCoreModel_returns_13 : decode b_ThumbCoreModel_returns 13 = .ok (.iload_n 1, 1) := by decide +kernel
theorem d_ThumbCoreModel_returns_14 : decode b_ThumbCoreModel_returns 14 = .ok (.bipush (-15), 2) := by decide +kernel
theorem d_ThumbCoreModel_returns_16 : decode b_ThumbCoreModel_returns 16 = .ok (.if_icmp .ne 7, 3) := by decide +kernel
theorem d_ThumbCoreModel_returns_19 : decode b_ThumbCoreModel_returns 19 = .ok (.iconst 1, 1) := by decide +kernel
theorem d_ThumbCoreModel_returns_20 : decode b_ThumbCoreModel_returns 20 = .ok (.goto 4, 3) := by decide +kernel
theorem d_ThumbCoreModel_returns_23 : decode b_ThumbCoreModel_returns 23 = .ok (.iconst 0, 1) := by decide +kernel
theorem d_ThumbCoreModel_returns_24 : decode b_ThumbCoreModel_returns 24 = .ok (.ireturn, 1) := by decide +kernel
theorem d_ThumbCoreModel_goTo_0 : decode b_ThumbCoreModel_goTo 0 = .ok (.aload_n 0, 1) := by decide +kernel
theorem d_ThumbCoreModel_goTo_1 : decode b_ThumbCoreModel_goTo 1 = .ok (.iload_n 1, 1) := by decide +kernel
theorem d_ThumbCoreModel_goTo_2 : decode b_ThumbCoreModel_goTo 2 = .ok (.invokevirtual 118, 3) := by decide +kernel
theorem d_ThumbCoreModel_goTo_5 : decode b_ThumbCoreModel_goTo 5 = .ok (.ifCond .eq 11, 3) := by decide +kernel
theorem d_ThumbCoreModel_goTo_8 : decode b_ThumbCoreModel_goTo 8 = .ok (.aload_n 0, 1) := by decide +kernel
theorem d_ThumbCoreModel_goTo_9 : decode b_ThumbCoreModel_goTo 9 = .ok (.iload_n 1, 1) := by decide +kernel
theorem d_ThumbCoreModel_goTo_10 : decode b_ThumbCoreModel_goTo 10 = .ok (.invokevirtual 122, 3) := by decide +kernel
theorem d_ThumbCoreModel_goTo_13 : decode b_ThumbCoreModel_goTo 13 = .ok (.goto 24, 3) := by decide +kernel
theorem d_ThumbCoreModel_goTo_16 : decode b_ThumbCoreModel_goTo 16 = .ok (.iload_n 1, 1) := by decide +kernel
theorem d_ThumbCoreModel_goTo_17 : decode b_ThumbCoreModel_goTo 17 = .ok (.iconst 1, 1) := by decide +kernel
theorem d_ThumbCoreModel_goTo_18 : decode b_ThumbCoreModel_goTo 18 = .ok (.iand, 1) := by decide +kernel
theorem d_ThumbCoreModel_goTo_19 : decode b_ThumbCoreModel_goTo 19 = .ok (.ifCond .ne 11, 3) := by decide +kernel
theorem d_ThumbCoreModel_goTo_22 : decode b_ThumbCoreModel_goTo 22 = .ok (.aload_n 0, 1) := by decide +kernel
theorem d_ThumbCoreModel_goTo_23 : decode b_ThumbCoreModel_goTo 23 = .ok (.iconst 1, 1) := by decide +kernel
theorem d_ThumbCoreModel_goTo_24 : decode b_ThumbCoreModel_goTo 24 = .ok (.putfield 41, 3) := by decide +kernel
theorem d_ThumbCoreModel_goTo_27 : decode b_ThumbCoreModel_goTo 27 = .ok (.goto 10, 3) := by decide +kernel
theorem d_ThumbCoreModel_goTo_30 : decode b_ThumbCoreModel_goTo 30 = .ok (.aload_n 0, 1) := by decide +kernel
theorem d_ThumbCoreModel_goTo_31 : decode b_ThumbCoreModel_goTo 31 = .ok (.iload_n 1, 1) := by decide +kernel
theorem d_ThumbCoreModel_goTo_32 : decode b_ThumbCoreModel_goTo 32 = .ok (.iconst 1, 1) := by decide +kernel
theorem d_ThumbCoreModel_goTo_33 : decode b_ThumbCoreModel_goTo 33 = .ok (.isub, 1) := by decide +kernel
theorem d_ThumbCoreModel_goTo_34 : decode b_ThumbCoreModel_goTo 34 = .ok (.putfield 115, 3) := by decide +kernel
theorem d_ThumbCoreModel_goTo_37 : decode b_ThumbCoreModel_goTo 37 = .ok (.return_, 1) := by decide +kernel
theorem d_ThumbCoreModel_moved_0 : decode b_ThumbCoreModel_moved 0 = .ok (.iload_n 3, 1) := by decide +kernel
theorem d_ThumbCoreModel_moved_1 : decode b_ThumbCoreModel_moved 1 = .ok (.ifCond .ne 9, 3) := by decide +kernel
theorem d_ThumbCoreModel_moved_4 : decode b_ThumbCoreModel_moved 4 = .ok (.aload_n 0, 1) := by decide +kernel
theorem d_ThumbCoreModel_moved_5 : decode b_ThumbCoreModel_moved 5 = .ok (.iload_n 2, 1) := by decide +kernel
theorem d_ThumbCoreModel_moved_6 : decode b_ThumbCoreModel_moved 6 = .ok (.invokevirtual 93, 3) := by decide +kernel
theorem d_ThumbCoreModel_moved_9 : decode b_ThumbCoreModel_moved 9 = .ok (.ireturn, 1) := by decide +kernel
theorem d_ThumbCoreModel_moved_10 : decode b_ThumbCoreModel_moved 10 = .ok (.iload_n 1, 1) := by decide +kernel
theorem d_ThumbCoreModel_moved_11 : decode b_ThumbCoreModel_moved 11 = .ok (.iconst 2, 1) := by decide +kernel
theorem d_ThumbCoreModel_moved_12 : decode b_ThumbCoreModel_moved 12 = .ok (.if_icmp .ne 8, 3) := by decide +kernel
theorem d_ThumbCoreModel_moved_15 : decode b_ThumbCoreModel_moved 15 = .ok (.iload_n 2, 1) := by decide +kernel
theorem d_ThumbCoreModel_moved_16 : decode b_ThumbCoreModel_moved 16 = .ok (.i2l, 1) := by decide +kernel
theorem d_ThumbCoreModel_moved_17 : decode b_ThumbCoreModel_moved 17 = .ok (.goto 9, 3) := by decide +kernel
theorem d_ThumbCoreModel_moved_20 : decode b_ThumbCoreModel_moved 20 = .ok (.iload_n 2, 1) := by decide +kernel
theorem d_ThumbCoreModel_moved_21 : decode b_ThumbCoreModel_moved 21 = .ok (.i2l, 1) := by decide +kernel
theorem d_ThumbCoreModel_moved_22 : decode b_ThumbCoreModel_moved 22 = .ok (.ldc2_w 91, 3) := by decide +kernel
theorem d_ThumbCoreModel_moved_25 : decode b_ThumbCoreModel_moved 25 = .ok (.land, 1) := by decide +kernel
theorem d_ThumbCoreModel_moved_26 : decode b_ThumbCoreModel_moved 26 = .ok (.lstore 4, 2) := by decide +kernel
theorem d_ThumbCoreModel_moved_28 : decode b_ThumbCoreModel_moved 28 = .ok (.iload_n 3, 1) := by decide +kernel
theorem d_ThumbCoreModel_moved_29 : decode b_ThumbCoreModel_moved 29 = .ok (.bipush 40, 2) := by decide +kernel
theorem d_ThumbCoreModel_moved_31 : decode b_ThumbCoreModel_moved 31 = .ok (.if_icmp .le 8, 3) := by decide +kernel
theorem d_ThumbCoreModel_moved_34 : decode b_ThumbCoreModel_moved 34 = .ok (.bipush 40, 2) := by decide +kernel
theorem d_ThumbCoreModel_moved_36 : decode b_ThumbCoreModel_moved 36 = .ok (.goto 4, 3) := by decide +kernel
theorem d_ThumbCoreModel_moved_39 : decode b_ThumbCoreModel_moved 39 = .ok (.iload_n 3, 1) := by decide +kernel
theorem d_ThumbCoreModel_moved_40 : decode b_ThumbCoreModel_moved 40 = .ok (.istore 6, 2) := by decide +kernel
theorem d_ThumbCoreModel_moved_42 : decode b_ThumbCoreModel_moved 42 = .ok (.iload_n 1, 1) := by decide +kernel
theorem d_ThumbCoreModel_moved_43 : decode b_ThumbCoreModel_moved 43 = .ok (.ifCond .ne 45, 3) := by decide +kernel
theorem d_ThumbCoreModel_moved_46 : decode b_ThumbCoreModel_moved 46 = .ok (.lload 4, 2) := by decide +kernel
theorem d_ThumbCoreModel_moved_48 : decode b_ThumbCoreModel_moved 48 = .ok (.iload 6, 2) := by decide +kernel
theorem d_ThumbCoreModel_moved_50 : decode b_ThumbCoreModel_moved 50 = .ok (.lshl, 1) := by decide +kernel
theorem d_ThumbCoreModel_moved_51 : decode b_ThumbCoreModel_moved 51 = .ok (.lstore 7, 2) := by decide +kernel
theorem d_ThumbCoreModel_moved_53 : decode b_ThumbCoreModel_moved 53 = .ok (.aload_n 0, 1) := by decide +kernel
theorem d_ThumbCoreModel_moved_54 : decode b_ThumbCoreModel_moved 54 = .ok (.iload_n 3, 1) := by decide +kernel
theorem d_ThumbCoreModel_moved_55 : decode b_ThumbCoreModel_moved 55 = .ok (.bipush 32, 2) := by decide +kernel
theorem d_ThumbCoreModel_moved_57 : decode b_ThumbCoreModel_moved 57 = .ok (.if_icmp .gt 19, 3) := by decide +kernel
theorem d_ThumbCoreModel_moved_60 : decode b_ThumbCoreModel_moved 60 = .ok (.lload 7, 2) := by decide +kernel
theorem d_ThumbCoreModel_moved_62 : decode b_ThumbCoreModel_moved 62 = .ok (.bipush 32, 2) := by decide +kernel
theorem d_ThumbCoreModel_moved_64 : decode b_ThumbCoreModel_moved 64 = .ok (.lshr, 1) := by decide +kernel
theorem d_ThumbCoreModel_moved_65 : decode b_ThumbCoreModel_moved 65 = .ok (.lconst 1, 1) := by decide +kernel
theorem d_ThumbCoreModel_moved_66 : decode b_ThumbCoreModel_moved 66 = .ok (.land, 1) := by decide +kernel
theorem d_ThumbCoreModel_moved_67 : decode b_ThumbCoreModel_moved 67 = .ok (.lconst 1, 1) := by decide +kernel
theorem d_ThumbCoreModel_moved_68 : decode b_ThumbCoreModel_moved 68 = .ok (.lcmp, 1) := by decide +kernel
theorem d_ThumbCoreModel_moved_69 : decode b_ThumbCoreModel_moved 69 = .ok (.ifCond .ne 7, 3) := by decide +kernel
theorem d_ThumbCoreModel_moved_72 : decode b_ThumbCoreModel_moved 72 = .ok (.iconst 1, 1) := by decide +kernel
theorem d_ThumbCoreModel_moved_73 : decode b_ThumbCoreModel_moved 73 = .ok (.goto 4, 3) := by decide +kernel
theorem d_ThumbCoreModel_moved_76 : decode b_ThumbCoreModel_moved 76 = .ok (.iconst 0, 1) := by decide +kernel
theorem d_ThumbCoreModel_moved_77 : decode b_ThumbCoreModel_moved 77 = .ok (.putfield 80, 3) := by decide +kernel
theorem d_ThumbCoreModel_moved_80 : decode b_ThumbCoreModel_moved 80 = .ok (.aload_n 0, 1) := by decide +kernel
theorem d_ThumbCoreModel_moved_81 : decode b_ThumbCoreModel_moved 81 = .ok (.lload 7, 2) := by decide +kernel
theorem d_ThumbCoreModel_moved_83 : decode b_ThumbCoreModel_moved 83 = .ok (.l2i, 1) := by decide +kernel
theorem d_ThumbCoreModel_moved_84 : decode b_ThumbCoreModel_moved 84 = .ok (.invokevirtual 93, 3) := by decide +kernel
theorem d_ThumbCoreModel_moved_87 : decode b_ThumbCoreModel_moved 87 = .ok (.ireturn, 1) := by decide +kernel
theorem d_ThumbCoreModel_moved_88 : decode b_ThumbCoreModel_moved 88 = .ok (.aload_n 0, 1) := by decide +kernel
theorem d_ThumbCoreModel_moved_89 : decode b_ThumbCoreModel_moved 89 = .ok (.lload 4, 2) := by decide +kernel
theorem d_ThumbCoreModel_moved_91 : decode b_ThumbCoreModel_moved 91 = .ok (.iload 6, 2) := by decide +kernel
theorem d_ThumbCoreModel_moved_93 : decode b_ThumbCoreModel_moved 93 = .ok (.iconst 1, 1) := by decide +kernel
theorem d_ThumbCoreModel_moved_94 : decode b_ThumbCoreModel_moved 94 = .ok (.isub, 1) := by decide +kernel
theorem d_ThumbCoreModel_moved_95 : decode b_ThumbCoreModel_moved 95 = .ok (.lshr, 1) := by decide +kernel
theorem d_ThumbCoreModel_moved_96 : decode b_ThumbCoreModel_moved 96 = .ok (.lconst 1, 1) := by decide +kernel
theorem d_ThumbCoreModel_moved_97 : decode b_ThumbCoreModel_moved 97 = .ok (.land, 1) := by decide +kernel
theorem d_ThumbCoreModel_moved_98 : decode b_ThumbCoreModel_moved 98 = .ok (.lconst 1, 1) := by decide +kernel
theorem d_ThumbCoreModel_moved_99 : decode b_ThumbCoreModel_moved 99 = .ok (.lcmp, 1) := by decide +kernel
theorem d_ThumbCoreModel_moved_100 : decode b_ThumbCoreModel_moved 100 = .ok (.ifCond .ne 7, 3) := by decide +kernel
theorem d_ThumbCoreModel_moved_103 : decode b_ThumbCoreModel_moved 103 = .ok (.iconst 1, 1) := by decide +kernel
theorem d_ThumbCoreModel_moved_104 : decode b_ThumbCoreModel_moved 104 = .ok (.goto 4, 3) := by decide +kernel
theorem d_ThumbCoreModel_moved_107 : decode b_ThumbCoreModel_moved 107 = .ok (.iconst 0, 1) := by decide +kernel
theorem d_ThumbCoreModel_moved_108 : decode b_ThumbCoreModel_moved 108 = .ok (.putfield 80, 3) := by decide +kernel
theorem d_ThumbCoreModel_moved_111 : decode b_ThumbCoreModel_moved 111 = .ok (.aload_n 0, 1) := by decide +kernel
theorem d_ThumbCoreModel_moved_112 : decode b_ThumbCoreModel_moved 112 = .ok (.lload 4, 2) := by decide +kernel
theorem d_ThumbCoreModel_moved_114 : decode b_ThumbCoreModel_moved 114 = .ok (.iload 6, 2) := by decide +kernel
theorem d_ThumbCoreModel_moved_116 : decode b_ThumbCoreModel_moved 116 = .ok (.lshr, 1) := by decide +kernel
theorem d_ThumbCoreModel_moved_117 : decode b_ThumbCoreModel_moved 117 = .ok (.l2i, 1) := by decide +kernel
theorem d_ThumbCoreModel_moved_118 : decode b_ThumbCoreModel_moved 118 = .ok (.invokevirtual 93, 3) := by decide +kernel
theorem d_ThumbCoreModel_moved_121 : decode b_ThumbCoreModel_moved 121 = .ok (.ireturn, 1) := by decide +kernel
theorem d_ThumbCoreModel_field_0 : decode b_ThumbCoreModel_field 0 = .ok (.aload_n 0, 1) := by decide +kernel
theorem d_ThumbCoreModel_field_1 : decode b_ThumbCoreModel_field 1 = .ok (.getfield 125, 3) := by decide +kernel
theorem d_ThumbCoreModel_field_4 : decode b_ThumbCoreModel_field 4 = .ok (.iload_n 1, 1) := by decide +kernel
theorem d_ThumbCoreModel_field_5 : decode b_ThumbCoreModel_field 5 = .ok (.ishr, 1) := by decide +kernel
theorem d_ThumbCoreModel_field_6 : decode b_ThumbCoreModel_field 6 = .ok (.bipush 7, 2) := by decide +kernel
theorem d_ThumbCoreModel_field_8 : decode b_ThumbCoreModel_field 8 = .ok (.iand, 1) := by decide +kernel
theorem d_ThumbCoreModel_field_9 : decode b_ThumbCoreModel_field 9 = .ok (.ireturn, 1) := by decide +kernel
theorem d_ThumbCoreModel_threes_0 : decode b_ThumbCoreModel_threes 0 = .ok (.aload_n 0, 1) := by decide +kernel
theorem d_ThumbCoreModel_threes_1 : decode b_ThumbCoreModel_threes 1 = .ok (.getfield 13, 3) := by decide +kernel
theorem d_ThumbCoreModel_threes_4 : decode b_ThumbCoreModel_threes 4 = .ok (.aload_n 0, 1) := by decide +kernel
theorem d_ThumbCoreModel_threes_5 : decode b_ThumbCoreModel_threes 5 = .ok (.iconst 3, 1) := by decide +kernel
theorem d_ThumbCoreModel_threes_6 : decode b_ThumbCoreModel_threes 6 = .ok (.invokevirtual 128, 3) := by decide +kernel
theorem d_ThumbCoreModel_threes_9 : decode b_ThumbCoreModel_threes 9 = .ok (.iaload, 1) := by decide +kernel
theorem d_ThumbCoreModel_threes_10 : decode b_ThumbCoreModel_threes 10 = .ok (.istore_n 1, 1) := by decide +kernel
theorem d_ThumbCoreModel_threes_11 : decode b_ThumbCoreModel_threes 11 = .ok (.aload_n 0, 1) := by decide +kernel
theorem d_ThumbCoreModel_threes_12 : decode b_ThumbCoreModel_threes 12 = .ok (.bipush 6, 2) := by decide +kernel
theorem d_ThumbCoreModel_threes_14 : decode b_ThumbCoreModel_threes 14 = .ok (.invokevirtual 128, 3) := by decide +kernel
theorem d_ThumbCoreModel_threes_17 : decode b_ThumbCoreModel_threes 17 = .ok (.istore_n 2, 1) := by decide +kernel
theorem d_ThumbCoreModel_threes_18 : decode b_ThumbCoreModel_threes 18 = .ok (.aload_n 0, 1) := by decide +kernel
theorem d_ThumbCoreModel_threes_19 : decode b_ThumbCoreModel_threes 19 = .ok (.getfield 125, 3) := by decide +kernel
theorem d_ThumbCoreModel_threes_22 : decode b_ThumbCoreModel_threes 22 = .ok (.bipush 9, 2) := by decide +kernel
theorem d_ThumbCoreModel_threes_24 : decode b_ThumbCoreModel_threes 24 = .ok (.ishr, 1) := by decide +kernel
theorem d_ThumbCoreModel_threes_25 : decode b_ThumbCoreModel_threes 25 = .ok (.iconst 3, 1) := by decide +kernel
theorem d_ThumbCoreModel_threes_26 : decode b_ThumbCoreModel_threes 26 = .ok (.iand, 1) := by decide +kernel
theorem d_ThumbCoreModel_threes_27 : decode b_ThumbCoreModel_threes 27 = .ok (.istore_n 3, 1) := by decide +kernel
theorem d_ThumbCoreModel_threes_28 : decode b_ThumbCoreModel_threes 28 = .ok (.iload_n 3, 1) := by decide +kernel
theorem d_ThumbCoreModel_threes_29 : decode b_ThumbCoreModel_threes 29 = .ok (.iconst 2, 1) := by decide +kernel
theorem d_ThumbCoreModel_threes_30 : decode b_ThumbCoreModel_threes 30 = .ok (.if_icmp .ge 12, 3) := by decide +kernel
theorem d_ThumbCoreModel_threes_33 : decode b_ThumbCoreModel_threes 33 = .ok (.aload_n 0, 1) := by decide +kernel
theorem d_ThumbCoreModel_threes_34 : decode b_ThumbCoreModel_threes 34 = .ok (.getfield 13, 3) := by decide +kernel
theorem d_ThumbCoreModel_threes_37 : decode b_ThumbCoreModel_threes 37 = .ok (.iload_n 2, 1) := by decide +kernel
theorem d_ThumbCoreModel_threes_38 : decode b_ThumbCoreModel_threes 38 = .ok (.iaload, 1) := by decide +kernel
theorem d_ThumbCoreModel_threes_39 : decode b_ThumbCoreModel_threes 39 = .ok (.goto 4, 3) := by decide +kernel
theorem d_ThumbCoreModel_threes_42 : decode b_ThumbCoreModel_threes 42 = .ok (.iload_n 2, 1) := by decide +kernel
theorem d_ThumbCoreModel_threes_43 : decode b_ThumbCoreModel_threes 43 = .ok (.istore 4, 2) := by decide +kernel
theorem d_ThumbCoreModel_threes_45 : decode b_ThumbCoreModel_threes 45 = .ok (.aload_n 0, 1) := by decide +kernel
theorem d_ThumbCoreModel_threes_46 : decode b_ThumbCoreModel_threes 46 = .ok (.getfield 13, 3) := by decide +kernel
theorem d_ThumbCoreModel_threes_49 : decode b_ThumbCoreModel_threes 49 = .ok (.aload_n 0, 1) := by decide +kernel
theorem d_ThumbCoreModel_threes_50 : decode b_ThumbCoreModel_threes 50 = .ok (.iconst 0, 1) := by decide +kernel
theorem d_ThumbCoreModel_threes_51 : decode b_ThumbCoreModel_threes 51 = .ok (.invokevirtual 128, 3) := by decide +kernel
theorem d_ThumbCoreModel_threes_54 : decode b_ThumbCoreModel_threes 54 = .ok (.iload_n 3, 1) := by decide +kernel
theorem d_ThumbCoreModel_threes_55 : decode b_ThumbCoreModel_threes 55 = .ok (.iconst 2, 1) := by decide +kernel
theorem d_ThumbCoreModel_threes_56 : decode b_ThumbCoreModel_threes 56 = .ok (.irem, 1) := by decide +kernel
theorem d_ThumbCoreModel_threes_57 : decode b_ThumbCoreModel_threes 57 = .ok (.ifCond .ne 14, 3) := by decide +kernel
theorem d_ThumbCoreModel_threes_60 : decode b_ThumbCoreModel_threes 60 = .ok (.aload_n 0, 1) := by decide +kernel
theorem d_ThumbCoreModel_threes_61 : decode b_ThumbCoreModel_threes 61 = .ok (.iload_n 1, 1) := by decide +kernel
theorem d_ThumbCoreModel_threes_62 : decode b_ThumbCoreModel_threes 62 = .ok (.iload 4, 2) := by decide +kernel
theorem d_ThumbCoreModel_threes_64 : decode b_ThumbCoreModel_threes 64 = .ok (.iconst 0, 1) := by decide +kernel
theorem d_ThumbCoreModel_threes_65 : decode b_ThumbCoreModel_threes 65 = .ok (.invokevirtual 131, 3) := by decide +kernel
theorem d_ThumbCoreModel_threes_68 : decode b_ThumbCoreModel_threes 68 = .ok (.goto 13, 3) := by decide +kernel
theorem d_ThumbCoreModel_threes_71 : decode b_ThumbCoreModel_threes 71 = .ok (.aload_n 0, 1) := by decide +kernel
theorem d_ThumbCoreModel_threes_72 : decode b_ThumbCoreModel_threes 72 = .ok (.iload_n 1, 1) := by decide +kernel
theorem d_ThumbCoreModel_threes_73 : decode b_ThumbCoreModel_threes 73 = .ok (.iload 4, 2) := by decide +kernel
theorem d_ThumbCoreModel_threes_75 : decode b_ThumbCoreModel_threes 75 = .ok (.iconst (-1), 1) := by decide +kernel
theorem d_ThumbCoreModel_threes_76 : decode b_ThumbCoreModel_threes 76 = .ok (.ixor, 1) := by decide +kernel
theorem d_ThumbCoreModel_threes_77 : decode b_ThumbCoreModel_threes 77 = .ok (.iconst 1, 1) := by decide +kernel
theorem d_ThumbCoreModel_threes_78 : decode b_ThumbCoreModel_threes 78 = .ok (.invokevirtual 131, 3) := by decide +kernel
theorem d_ThumbCoreModel_threes_81 : decode b_ThumbCoreModel_threes 81 = .ok (.iastore, 1) := by decide +kernel
theorem d_ThumbCoreModel_threes_82 : decode b_ThumbCoreModel_threes 82 = .ok (.return_, 1) := by decide +kernel
theorem d_ThumbCoreModel_bytes_0 : decode b_ThumbCoreModel_bytes 0 = .ok (.aload_n 0, 1) := by decide +kernel
theorem d_ThumbCoreModel_bytes_1 : decode b_ThumbCoreModel_bytes 1 = .ok (.bipush 8, 2) := by decide +kernel
theorem d_ThumbCoreModel_bytes_3 : decode b_ThumbCoreModel_bytes 3 = .ok (.invokevirtual 128, 3) := by decide +kernel
theorem d_ThumbCoreModel_bytes_6 : decode b_ThumbCoreModel_bytes 6 = .ok (.istore_n 2, 1) := by decide +kernel
theorem d_ThumbCoreModel_bytes_7 : decode b_ThumbCoreModel_bytes 7 = .ok (.aload_n 0, 1) := by decide +kernel
theorem d_ThumbCoreModel_bytes_8 : decode b_ThumbCoreModel_bytes 8 = .ok (.getfield 125, 3) := by decide +kernel
theorem d_ThumbCoreModel_bytes_11 : decode b_ThumbCoreModel_bytes 11 = .ok (.sipush 255, 3) := by decide +kernel
theorem d_ThumbCoreModel_bytes_14 : decode b_ThumbCoreModel_bytes 14 = .ok (.iand, 1) := by decide +kernel
theorem d_ThumbCoreModel_bytes_15 : decode b_ThumbCoreModel_bytes 15 = .ok (.istore_n 3, 1) := by decide +kernel
theorem d_ThumbCoreModel_bytes_16 : decode b_ThumbCoreModel_bytes 16 = .ok (.iload_n 1, 1) := by decide +kernel
theorem d_ThumbCoreModel_bytes_17 : decode b_ThumbCoreModel_bytes 17 = .ok (.iconst 4, 1) := by decide +kernel
theorem d_ThumbCoreModel_bytes_18 : decode b_ThumbCoreModel_bytes 18 = .ok (.if_icmp .ne 17, 3) := by decide +kernel
theorem d_ThumbCoreModel_bytes_21 : decode b_ThumbCoreModel_bytes 21 = .ok (.aload_n 0, 1) := by decide +kernel
theorem d_ThumbCoreModel_bytes_22 : decode b_ThumbCoreModel_bytes 22 = .ok (.getfield 13, 3) := by decide +kernel
theorem d_ThumbCoreModel_bytes_25 : decode b_ThumbCoreModel_bytes 25 = .ok (.iload_n 2, 1) := by decide +kernel
theorem d_ThumbCoreModel_bytes_26 : decode b_ThumbCoreModel_bytes 26 = .ok (.aload_n 0, 1) := by decide +kernel
theorem d_ThumbCoreModel_bytes_27 : decode b_ThumbCoreModel_bytes 27 = .ok (.iload_n 3, 1) := by decide +kernel
theorem d_ThumbCoreModel_bytes_28 : decode b_ThumbCoreModel_bytes 28 = .ok (.invokevirtual 93, 3) := by decide +kernel
theorem d_ThumbCoreModel_bytes_31 : decode b_ThumbCoreModel_bytes 31 = .ok (.iastore, 1) := by decide +kernel
theorem d_ThumbCoreModel_bytes_32 : decode b_ThumbCoreModel_bytes 32 = .ok (.goto 68, 3) := by decide +kernel
theorem d_ThumbCoreModel_bytes_35 : decode b_ThumbCoreModel_bytes 35 = .ok (.iload_n 1, 1) := by decide +kernel
theorem d_ThumbCoreModel_bytes_36 : decode b_ThumbCoreModel_bytes 36 = .ok (.iconst 5, 1) := by decide +kernel
theorem d_ThumbCoreModel_bytes_37 : decode b_ThumbCoreModel_bytes 37 = .ok (.if_icmp .ne 22, 3) := by decide +kernel
theorem d_ThumbCoreModel_bytes_40 : decode b_ThumbCoreModel_bytes 40 = .ok (.aload_n 0, 1) := by decide +kernel
theorem d_ThumbCoreModel_bytes_41 : decode b_ThumbCoreModel_bytes 41 = .ok (.aload_n 0, 1) := by decide +kernel
theorem d_ThumbCoreModel_bytes_42 : decode b_ThumbCoreModel_bytes 42 = .ok (.getfield 13, 3) := by decide +kernel
theorem d_ThumbCoreModel_bytes_45 : decode b_ThumbCoreModel_bytes 45 = .ok (.iload_n 2, 1) := by decide +kernel
theorem d_ThumbCoreModel_bytes_46 : decode b_ThumbCoreModel_bytes 46 = .ok (.iaload, 1) := by decide +kernel
theorem d_ThumbCoreModel_bytes_47 : decode b_ThumbCoreModel_bytes 47 = .ok (.iload_n 3, 1) := by decide +kernel
theorem d_ThumbCoreModel_bytes_48 : decode b_ThumbCoreModel_bytes 48 = .ok (.iconst (-1), 1) := by decide +kernel
theorem d_ThumbCoreModel_bytes_49 : decode b_ThumbCoreModel_bytes 49 = .ok (.ixor, 1) := by decide +kernel
theorem d_ThumbCoreModel_bytes_50 : decode b_ThumbCoreModel_bytes 50 = .ok (.iconst 1, 1) := by decide +kernel
theorem d_ThumbCoreModel_bytes_51 : decode b_ThumbCoreModel_bytes 51 = .ok (.invokevirtual 131, 3) := by decide +kernel
theorem d_ThumbCoreModel_bytes_54 : decode b_ThumbCoreModel_bytes 54 = .ok (.istore 4, 2) := by decide +kernel
theorem d_ThumbCoreModel_bytes_56 : decode b_ThumbCoreModel_bytes 56 = .ok (.goto 44, 3) := by decide +kernel
theorem d_ThumbCoreModel_bytes_59 : decode b_ThumbCoreModel_bytes 59 = .ok (.aload_n 0, 1) := by decide +kernel
theorem d_ThumbCoreModel_bytes_60 : decode b_ThumbCoreModel_bytes 60 = .ok (.getfield 13, 3) := by decide +kernel
theorem d_ThumbCoreModel_bytes_63 : decode b_ThumbCoreModel_bytes 63 = .ok (.iload_n 2, 1) := by decide +kernel
theorem d_ThumbCoreModel_bytes_64 : decode b_ThumbCoreModel_bytes 64 = .ok (.iload_n 1, 1) := by decide +kernel
theorem d_ThumbCoreModel_bytes_65 : decode b_ThumbCoreModel_bytes 65 = .ok (.bipush 6, 2) := by decide +kernel
theorem d_ThumbCoreModel_bytes_67 : decode b_ThumbCoreModel_bytes 67 = .ok (.if_icmp .ne 18, 3) := by decide +kernel
theorem d_ThumbCoreModel_bytes_70 : decode b_ThumbCoreModel_bytes 70 = .ok (.aload_n 0, 1) := by decide +kernel
theorem d_ThumbCoreModel_bytes_71 : decode b_ThumbCoreModel_bytes 71 = .ok (.aload_n 0, 1) := by decide +kernel
theorem d_ThumbCoreModel_bytes_72 : decode b_ThumbCoreModel_bytes 72 = .ok (.getfield 13, 3) := by decide +kernel
theorem d_ThumbCoreModel_bytes_75 : decode b_ThumbCoreModel_bytes 75 = .ok (.iload_n 2, 1) := by decide +kernel
theorem d_ThumbCoreModel_bytes_76 : decode b_ThumbCoreModel_bytes 76 = .ok (.iaload, 1) := by decide +kernel
theorem d_ThumbCoreModel_bytes_77 : decode b_ThumbCoreModel_bytes 77 = .ok (.iload_n 3, 1) := by decide +kernel
theorem d_ThumbCoreModel_bytes_78 : decode b_ThumbCoreModel_bytes 78 = .ok (.iconst 0, 1) := by decide +kernel
theorem d_ThumbCoreModel_bytes_79 : decode b_ThumbCoreModel_bytes 79 = .ok (.invokevirtual 131, 3) := by decide +kernel
theorem d_ThumbCoreModel_bytes_82 : decode b_ThumbCoreModel_bytes 82 = .ok (.goto 17, 3) := by decide +kernel
theorem d_ThumbCoreModel_bytes_85 : decode b_ThumbCoreModel_bytes 85 = .ok (.aload_n 0, 1) := by decide +kernel
theorem d_ThumbCoreModel_bytes_86 : decode b_ThumbCoreModel_bytes 86 = .ok (.aload_n 0, 1) := by decide +kernel
theorem d_ThumbCoreModel_bytes_87 : decode b_ThumbCoreModel_bytes 87 = .ok (.getfield 13, 3) := by decide +kernel
theorem d_ThumbCoreModel_bytes_90 : decode b_ThumbCoreModel_bytes 90 = .ok (.iload_n 2, 1) := by decide +kernel
theorem d_ThumbCoreModel_bytes_91 : decode b_ThumbCoreModel_bytes 91 = .ok (.iaload, 1) := by decide +kernel
theorem d_ThumbCoreModel_bytes_92 : decode b_ThumbCoreModel_bytes 92 = .ok (.iload_n 3, 1) := by decide +kernel
theorem d_ThumbCoreModel_bytes_93 : decode b_ThumbCoreModel_bytes 93 = .ok (.iconst (-1), 1) := by decide +kernel
theorem d_ThumbCoreModel_bytes_94 : decode b_ThumbCoreModel_bytes 94 = .ok (.ixor, 1) := by decide +kernel
theorem d_ThumbCoreModel_bytes_95 : decode b_ThumbCoreModel_bytes 95 = .ok (.iconst 1, 1) := by decide +kernel
theorem d_ThumbCoreModel_bytes_96 : decode b_ThumbCoreModel_bytes 96 = .ok (.invokevirtual 131, 3) := by decide +kernel
theorem d_ThumbCoreModel_bytes_99 : decode b_ThumbCoreModel_bytes 99 = .ok (.iastore, 1) := by decide +kernel
theorem d_ThumbCoreModel_bytes_100 : decode b_ThumbCoreModel_bytes 100 = .ok (.return_, 1) := by decide +kernel
theorem d_ThumbCoreModel_worked_0 : decode b_ThumbCoreModel_worked 0 = .ok (.aload_n 0, 1) := by decide +kernel
theorem d_ThumbCoreModel_worked_1 : decode b_ThumbCoreModel_worked 1 = .ok (.iconst 0, 1) := by decide +kernel
theorem d_ThumbCoreModel_worked_2 : decode b_ThumbCoreModel_worked 2 = .ok (.invokevirtual 128, 3) := by decide +kernel
theorem d_ThumbCoreModel_worked_5 : decode b_ThumbCoreModel_worked 5 = .ok (.istore_n 1, 1) := by decide +kernel
theorem d_ThumbCoreModel_worked_6 : decode b_ThumbCoreModel_worked 6 = .ok (.aload_n 0, 1) := by decide +kernel
theorem d_ThumbCoreModel_worked_7 : decode b_ThumbCoreModel_worked 7 = .ok (.getfield 13, 3) := by decide +kernel
theorem d_ThumbCoreModel_worked_10 : decode b_ThumbCoreModel_worked 10 = .ok (.iload_n 1, 1) := by decide +kernel
theorem d_ThumbCoreModel_worked_11 : decode b_ThumbCoreModel_worked 11 = .ok (.iaload, 1) := by decide +kernel
theorem d_ThumbCoreModel_worked_12 : decode b_ThumbCoreModel_worked 12 = .ok (.istore_n 2, 1) := by decide +kernel
theorem d_ThumbCoreModel_worked_13 : decode b_ThumbCoreModel_worked 13 = .ok (.aload_n 0, 1) := by decide +kernel
theorem d_ThumbCoreModel_worked_14 : decode b_ThumbCoreModel_worked 14 = .ok (.getfield 13, 3) := by decide +kernel
theorem d_ThumbCoreModel_worked_17 : decode b_ThumbCoreModel_worked 17 = .ok (.aload_n 0, 1) := by decide +kernel
theorem d_ThumbCoreModel_worked_18 : decode b_ThumbCoreModel_worked 18 = .ok (.iconst 3, 1) := by decide +kernel
theorem d_ThumbCoreModel_worked_19 : decode b_ThumbCoreModel_worked 19 = .ok (.invokevirtual 128, 3) := by decide +kernel
theorem d_ThumbCoreModel_worked_22 : decode b_ThumbCoreModel_worked 22 = .ok (.iaload, 1) := by decide +kernel
theorem d_ThumbCoreModel_worked_23 : decode b_ThumbCoreModel_worked 23 = .ok (.istore_n 3, 1) := by decide +kernel
theorem d_ThumbCoreModel_worked_24 : decode b_ThumbCoreModel_worked 24 = .ok (.aload_n 0, 1) := by decide +kernel
theorem d_ThumbCoreModel_worked_25 : decode b_ThumbCoreModel_worked 25 = .ok (.getfield 80, 3) := by decide +kernel
theorem d_ThumbCoreModel_worked_28 : decode b_ThumbCoreModel_worked 28 = .ok (.ifCond .eq 7, 3) := by decide +kernel
theorem d_ThumbCoreModel_worked_31 : decode b_ThumbCoreModel_worked 31 = .ok (.iconst 1, 1) := by decide +kernel
theorem d_ThumbCoreModel_worked_32 : decode b_ThumbCoreModel_worked 32 = .ok (.goto 4, 3) := by decide +kernel
theorem d_ThumbCoreModel_worked_35 : decode b_ThumbCoreModel_worked 35 = .ok (.iconst 0, 1) := by decide +kernel
theorem d_ThumbCoreModel_worked_36 : decode b_ThumbCoreModel_worked 36 = .ok (.istore 4, 2) := by decide +kernel
theorem d_ThumbCoreModel_worked_38 : decode b_ThumbCoreModel_worked 38 = .ok (.iload_n 3, 1) := by decide +kernel
theorem d_ThumbCoreModel_worked_39 : decode b_ThumbCoreModel_worked 39 = .ok (.sipush 255, 3) := by decide +kernel
theorem d_ThumbCoreModel_worked_42 : decode b_ThumbCoreModel_worked 42 = .ok (.iand, 1) := by decide +kernel
theorem d_ThumbCoreModel_worked_43 : decode b_ThumbCoreModel_worked 43 = .ok (.istore 5, 2) := by decide +kernel
theorem d_ThumbCoreModel_worked_45 : decode b_ThumbCoreModel_worked 45 = .ok (.aload_n 0, 1) := by decide +kernel
theorem d_ThumbCoreModel_worked_46 : decode b_ThumbCoreModel_worked 46 = .ok (.getfield 125, 3) := by decide +kernel
theorem d_ThumbCoreModel_worked_49 : decode b_ThumbCoreModel_worked 49 = .ok (.bipush 6, 2) := by decide +kernel
theorem d_ThumbCoreModel_worked_51 : decode b_ThumbCoreModel_worked 51 = .ok (.ishr, 1) := by decide +kernel
theorem d_ThumbCoreModel_worked_52 : decode b_ThumbCoreModel_worked 52 = .ok (.bipush 15, 2) := by decide +kernel
theorem d_ThumbCoreModel_worked_54 : decode b_ThumbCoreModel_worked 54 = .ok (.iand, 1) := by decide +kernel
theorem d_ThumbCoreModel_worked_55 : decode b_ThumbCoreModel_worked 55 = .ok (.tableswitch 356 0 14 #[73, 89, 105, 122, 139, 156, 173, 192, 253, 264, 282, 295, 306, 322, 338], 73) := by decide +kernel
theorem d_ThumbCoreModel_worked_128 : decode b_ThumbCoreModel_worked 128 = .ok (.aload_n 0, 1) := by decide +kernel
theorem d_ThumbCoreModel_worked_129 : decode b_ThumbCoreModel_worked 129 = .ok (.getfield 13, 3) := by decide +kernel
theorem d_ThumbCoreModel_worked_132 : decode b_ThumbCoreModel_worked 132 = .ok (.iload_n 1, 1) := by decide +kernel
theorem d_ThumbCoreModel_worked_133 : decode b_ThumbCoreModel_worked 133 = .ok (.aload_n 0, 1) := by decide +kernel
theorem d_ThumbCoreModel_worked_134 : decode b_ThumbCoreModel_worked 134 = .ok (.iload_n 2, 1) := by decide +kernel
theorem d_ThumbCoreModel_worked_135 : decode b_ThumbCoreModel_worked 135 = .ok (.iload_n 3, 1) := by decide +kernel
theorem d_ThumbCoreModel_worked_136 : decode b_ThumbCoreModel_worked 136 = .ok (.iand, 1) := by decide +kernel
theorem d_ThumbCoreModel_worked_137 : decode b_ThumbCoreModel_worked 137 = .ok (.invokevirtual 93, 3) := by decide +kernel
theorem d_ThumbCoreModel_worked_140 : decode b_ThumbCoreModel_worked 140 = .ok (.iastore, 1) := by decide +kernel
theorem d_ThumbCoreModel_worked_141 : decode b_ThumbCoreModel_worked 141 = .ok (.goto 283, 3) := by decide +kernel
theorem d_ThumbCoreModel_worked_144 : decode b_ThumbCoreModel_worked 144 = .ok (.aload_n 0, 1) := by decide +kernel
theorem d_ThumbCoreModel_worked_145 : decode b_ThumbCoreModel_worked 145 = .ok (.getfield 13, 3) := by decide +kernel
theorem d_ThumbCoreModel_worked_148 : decode b_ThumbCoreModel_worked 148 = .ok (.iload_n 1, 1) := by decide +kernel
theorem d_ThumbCoreModel_worked_149 : decode b_ThumbCoreModel_worked 149 = .ok (.aload_n 0, 1) := by decide +kernel
theorem d_ThumbCoreModel_worked_150 : decode b_ThumbCoreModel_worked 150 = .ok (.iload_n 2, 1) := by decide +kernel
theorem d_ThumbCoreModel_worked_151 : decode b_ThumbCoreModel_worked 151 = .ok (.iload_n 3, 1) := by decide +kernel
theorem d_ThumbCoreModel_worked_152 : decode b_ThumbCoreModel_worked 152 = .ok (.ixor, 1) := by decide +kernel
theorem d_ThumbCoreModel_worked_153 : decode b_ThumbCoreModel_worked 153 = .ok (.invokevirtual 93, 3) := by decide +kernel
theorem d_ThumbCoreModel_worked_156 : decode b_ThumbCoreModel_worked 156 = .ok (.iastore, 1) := by decide +kernel
theorem d_ThumbCoreModel_worked_157 : decode b_ThumbCoreModel_worked 157 = .ok (.goto 267, 3) := by decide +kernel
theorem d_ThumbCoreModel_worked_160 : decode b_ThumbCoreModel_worked 160 = .ok (.aload_n 0, 1) := by decide +kernel
theorem d_ThumbCoreModel_worked_161 : decode b_ThumbCoreModel_worked 161 = .ok (.getfield 13, 3) := by decide +kernel
theorem d_ThumbCoreModel_worked_164 : decode b_ThumbCoreModel_worked 164 = .ok (.iload_n 1, 1) := by decide +kernel
theorem d_ThumbCoreModel_worked_165 : decode b_ThumbCoreModel_worked 165 = .ok (.aload_n 0, 1) := by decide +kernel
theorem d_ThumbCoreModel_worked_166 : decode b_ThumbCoreModel_worked 166 = .ok (.iconst 0, 1) := by decide +kernel
theorem d_ThumbCoreModel_worked_167 : decode b_ThumbCoreModel_worked 167 = .ok (.iload_n 2, 1) := by decide +kernel
theorem d_ThumbCoreModel_worked_168 : decode b_ThumbCoreModel_worked 168 = .ok (.iload 5, 2) := by decide +kernel
theorem d_ThumbCoreModel_worked_170 : decode b_ThumbCoreModel_worked 170 = .ok (.invokevirtual 135, 3) := by decide +kernel
theorem d_ThumbCoreModel_worked_173 : decode b_ThumbCoreModel_worked 173 = .ok (.iastore, 1) := by decide +kernel
theorem d_ThumbCoreModel_worked_174 : decode b_ThumbCoreModel_worked 174 = .ok (.goto 250, 3) := by decide +kernel
theorem d_ThumbCoreModel_worked_177 : decode b_ThumbCoreModel_worked 177 = .ok (.aload_n 0, 1) := by decide +kernel
theorem d_ThumbCoreModel_worked_178 : decode b_ThumbCoreModel_worked 178 = .ok (.getfield 13, 3) := by decide +kernel
theorem d_ThumbCoreModel_worked_181 : decode b_ThumbCoreModel_worked 181 = .ok (.iload_n 1, 1) := by decide +kernel
theorem d_ThumbCoreModel_worked_182 : decode b_ThumbCoreModel_worked 182 = .ok (.aload_n 0, 1) := by decide +kernel
theorem d_ThumbCoreModel_worked_183 : decode b_ThumbCoreModel_worked 183 = .ok (.iconst 1, 1) := by decide +kernel
theorem d_ThumbCoreModel_worked_184 : decode b_ThumbCoreModel_worked 184 = .ok (.iload_n 2, 1) := by decide +kernel
theorem d_ThumbCoreModel_worked_185 : decode b_ThumbCoreModel_worked 185 = .ok (.iload 5, 2) := by decide +kernel
theorem d_ThumbCoreModel_worked_187 : decode b_ThumbCoreModel_worked 187 = .ok (.invokevirtual 135, 3) := by decide +kernel
theorem d_ThumbCoreModel_worked_190 : decode b_ThumbCoreModel_worked 190 = .ok (.iastore, 1) := by decide +kernel
theorem d_ThumbCoreModel_worked_191 : decode b_ThumbCoreModel_worked 191 = .ok (.goto 233, 3) := by decide +kernel
theorem d_ThumbCoreModel_worked_194 : decode b_ThumbCoreModel_worked 194 = .ok (.aload_n 0, 1) := by decide +kernel
theorem d_ThumbCoreModel_worked_195 : decode b_ThumbCoreModel_worked 195 = .ok (.getfield 13, 3) := by decide +kernel
theorem d_ThumbCoreModel_worked_198 : decode b_ThumbCoreModel_worked 198 = .ok (.iload_n 1, 1) := by decide +kernel
theorem d_ThumbCoreModel_worked_199 : decode b_ThumbCoreModel_worked 199 = .ok (.aload_n 0, 1) := by decide +kernel
theorem d_ThumbCoreModel_worked_200 : decode b_ThumbCoreModel_worked 200 = .ok (.iconst 2, 1) := by decide +kernel
theorem d_ThumbCoreModel_worked_201 : decode b_ThumbCoreModel_worked 201 = .ok (.iload_n 2, 1) := by decide +kernel
theorem d_ThumbCoreModel_worked_202 : decode b_ThumbCoreModel_worked 202 = .ok (.iload 5, 2) := by decide +kernel
theorem d_ThumbCoreModel_worked_204 : decode b_ThumbCoreModel_worked 204 = .ok (.invokevirtual 135, 3) := by decide +kernel
theorem d_ThumbCoreModel_worked_207 : decode b_ThumbCoreModel_worked 207 = .ok (.iastore, 1) := by decide +kernel
theorem d_ThumbCoreModel_worked_208 : decode b_ThumbCoreModel_worked 208 = .ok (.goto 216, 3) := by decide +kernel
theorem d_ThumbCoreModel_worked_211 : decode b_ThumbCoreModel_worked 211 = .ok (.aload_n 0, 1) := by decide +kernel
theorem d_ThumbCoreModel_worked_212 : decode b_ThumbCoreModel_worked 212 = .ok (.getfield 13, 3) := by decide +kernel
theorem d_ThumbCoreModel_worked_215 : decode b_ThumbCoreModel_worked 215 = .ok (.iload_n 1, 1) := by decide +kernel
theorem d_ThumbCoreModel_worked_216 : decode b_ThumbCoreModel_worked 216 = .ok (.aload_n 0, 1) := by decide +kernel
theorem d_ThumbCoreModel_worked_217 : decode b_ThumbCoreModel_worked 217 = .ok (.iload_n 2, 1) := by decide +kernel
theorem d_ThumbCoreModel_worked_218 : decode b_ThumbCoreModel_worked 218 = .ok (.iload_n 3, 1) := by decide +kernel
theorem d_ThumbCoreModel_worked_219 : decode b_ThumbCoreModel_worked 219 = .ok (.iload 4, 2) := by decide +kernel
theorem d_ThumbCoreModel_worked_221 : decode b_ThumbCoreModel_worked 221 = .ok (.invokevirtual 131, 3) := by decide +kernel
theorem d_ThumbCoreModel_worked_224 : decode b_ThumbCoreModel_worked 224 = .ok (.iastore, 1) := by decide +kernel
theorem d_ThumbCoreModel_worked_225 : decode b_ThumbCoreModel_worked 225 = .ok (.goto 199, 3) := by decide +kernel
theorem d_ThumbCoreModel_worked_228 : decode b_ThumbCoreModel_worked 228 = .ok (.aload_n 0, 1) := by decide +kernel
theorem d_ThumbCoreModel_worked_229 : decode b_ThumbCoreModel_worked 229 = .ok (.getfield 13, 3) := by decide +kernel
theorem d_ThumbCoreModel_worked_232 : decode b_ThumbCoreModel_worked 232 = .ok (.iload_n 1, 1) := by decide +kernel
theorem d_ThumbCoreModel_worked_233 : decode b_ThumbCoreModel_worked 233 = .ok (.aload_n 0, 1) := by decide +kernel
theorem d_ThumbCoreModel_worked_234 : decode b_ThumbCoreModel_worked 234 = .ok (.iload_n 2, 1) := by decide +kernel
theorem d_ThumbCoreModel_worked_235 : decode b_ThumbCoreModel_worked 235 = .ok (.iload_n 3, 1) := by decide +kernel
theorem d_ThumbCoreModel_worked_236 : decode b_ThumbCoreModel_worked 236 = .ok (.iconst (-1), 1) := by decide +kernel
theorem d_ThumbCoreModel_worked_237 : decode b_ThumbCoreModel_worked 237 = .ok (.ixor, 1) := by decide +kernel
theorem d_ThumbCoreModel_worked_238 : decode b_ThumbCoreModel_worked 238 = .ok (.iload 4, 2) := by decide +kernel
theorem d_ThumbCoreModel_worked_240 : decode b_ThumbCoreModel_worked 240 = .ok (.invokevirtual 131, 3) := by decide +kernel
theorem d_ThumbCoreModel_worked_243 : decode b_ThumbCoreModel_worked 243 = .ok (.iastore, 1) := by decide +kernel
theorem d_ThumbCoreModel_worked_244 : decode b_ThumbCoreModel_worked 244 = .ok (.goto 180, 3) := by decide +kernel
theorem d_ThumbCoreModel_worked_247 : decode b_ThumbCoreModel_worked 247 = .ok (.aload_n 0, 1) := by decide +kernel
theorem d_ThumbCoreModel_worked_248 : decode b_ThumbCoreModel_worked 248 = .ok (.getfield 13, 3) := by decide +kernel
theorem d_ThumbCoreModel_worked_251 : decode b_ThumbCoreModel_worked 251 = .ok (.iload_n 1, 1) := by decide +kernel
theorem d_ThumbCoreModel_worked_252 : decode b_ThumbCoreModel_worked 252 = .ok (.aload_n 0, 1) := by decide +kernel
theorem d_ThumbCoreModel_worked_253 : decode b_ThumbCoreModel_worked 253 = .ok (.iload_n 2, 1) := by decide +kernel
theorem d_ThumbCoreModel_worked_254 : decode b_ThumbCoreModel_worked 254 = .ok (.iload 5, 2) := by decide +kernel
theorem d_ThumbCoreModel_worked_256 : decode b_ThumbCoreModel_worked 256 = .ok (.bipush 31, 2) := by decide +kernel
theorem d_ThumbCoreModel_worked_258 : decode b_ThumbCoreModel_worked 258 = .ok (.iand, 1) := by decide +kernel
theorem d_ThumbCoreModel_worked_259 : decode b_ThumbCoreModel_worked 259 = .ok (.iushr, 1) := by decide +kernel
theorem d_ThumbCoreModel_worked_260 : decode b_ThumbCoreModel_worked 260 = .ok (.iload_n 2, 1) := by decide +kernel
theorem d_ThumbCoreModel_worked_261 : decode b_ThumbCoreModel_worked 261 = .ok (.bipush 32, 2) := by decide +kernel
theorem d_ThumbCoreModel_worked_263 : decode b_ThumbCoreModel_worked 263 = .ok (.iload 5, 2) := by decide +kernel
theorem d_ThumbCoreModel_worked_265 : decode b_ThumbCoreModel_worked 265 = .ok (.isub, 1) := by decide +kernel
theorem d_ThumbCoreModel_worked_266 : decode b_ThumbCoreModel_worked 266 = .ok (.bipush 31, 2) := by decide +kernel
theorem d_ThumbCoreModel_worked_268 : decode b_ThumbCoreModel_worked 268 = .ok (.iand, 1) := by decide +kernel
theorem d_ThumbCoreModel_worked_269 : decode b_ThumbCoreModel_worked 269 = .ok (.ishl, 1) := by decide +kernel
theorem d_ThumbCoreModel_worked_270 : decode b_ThumbCoreModel_worked 270 = .ok (.ior, 1) := by decide +kernel
theorem d_ThumbCoreModel_worked_271 : decode b_ThumbCoreModel_worked 271 = .ok (.invokevirtual 93, 3) := by decide +kernel
theorem d_ThumbCoreModel_worked_274 : decode b_ThumbCoreModel_worked 274 = .ok (.iastore, 1) := by decide +kernel
theorem d_ThumbCoreModel_worked_275 : decode b_ThumbCoreModel_worked 275 = .ok (.aload_n 0, 1) := by decide +kernel
theorem d_ThumbCoreModel_worked_276 : decode b_ThumbCoreModel_worked 276 = .ok (.iload 5, 2) := by decide +kernel
theorem d_ThumbCoreModel_worked_278 : decode b_ThumbCoreModel_worked 278 = .ok (.ifCond .ne 10, 3) := by decide +kernel
theorem d_ThumbCoreModel_worked_281 : decode b_ThumbCoreModel_worked 281 = .ok (.aload_n 0, 1) := by decide +kernel
theorem d_ThumbCoreModel_worked_282 : decode b_ThumbCoreModel_worked 282 = .ok (.getfield 80, 3) := by decide +kernel
theorem d_ThumbCoreModel_worked_285 : decode b_ThumbCoreModel_worked 285 = .ok (.goto 17, 3) := by decide +kernel
theorem d_ThumbCoreModel_worked_288 : decode b_ThumbCoreModel_worked 288 = .ok (.aload_n 0, 1) := by decide +kernel
theorem d_ThumbCoreModel_worked_289 : decode b_ThumbCoreModel_worked 289 = .ok (.getfield 13, 3) := by decide +kernel
theorem d_ThumbCoreModel_worked_292 : decode b_ThumbCoreModel_worked 292 = .ok (.iload_n 1, 1) := by decide +kernel
theorem d_ThumbCoreModel_worked_293 : decode b_ThumbCoreModel_worked 293 = .ok (.iaload, 1) := by decide +kernel
theorem d_ThumbCoreModel_worked_294 : decode b_ThumbCoreModel_worked 294 = .ok (.ifCond .ge 7, 3) := by decide +kernel
theorem d_ThumbCoreModel_worked_297 : decode b_ThumbCoreModel_worked 297 = .ok (.iconst 1, 1) := by decide +kernel
theorem d_ThumbCoreModel_worked_298 : decode b_ThumbCoreModel_worked 298 = .ok (.goto 4, 3) := by decide +kernel
theorem d_ThumbCoreModel_worked_301 : decode b_ThumbCoreModel_worked 301 = .ok (.iconst 0, 1) := by decide +kernel
theorem d_ThumbCoreModel_worked_302 : decode b_ThumbCoreModel_worked 302 = .ok (.putfield 80, 3) := by decide +kernel
theorem d_ThumbCoreModel_worked_305 : decode b_ThumbCoreModel_worked 305 = .ok (.goto 119, 3) := by decide +kernel
theorem d_ThumbCoreModel_worked_308 : decode b_ThumbCoreModel_worked 308 = .ok (.aload_n 0, 1) := by decide +kernel
theorem d_ThumbCoreModel_worked_309 : decode b_ThumbCoreModel_worked 309 = .ok (.iload_n 2, 1) := by decide +kernel
theorem d_ThumbCoreModel_worked_310 : decode b_ThumbCoreModel_worked 310 = .ok (.iload_n 3, 1) := by decide +kernel
theorem d_ThumbCoreModel_worked_311 : decode b_ThumbCoreModel_worked 311 = .ok (.iand, 1) := by decide +kernel
theorem d_ThumbCoreModel_worked_312 : decode b_ThumbCoreModel_worked 312 = .ok (.invokevirtual 93, 3) := by decide +kernel
theorem d_ThumbCoreModel_worked_315 : decode b_ThumbCoreModel_worked 315 = .ok (.istore_n 2, 1) := by decide +kernel
theorem d_ThumbCoreModel_worked_316 : decode b_ThumbCoreModel_worked 316 = .ok (.goto 108, 3) := by decide +kernel
theorem d_ThumbCoreModel_worked_319 : decode b_ThumbCoreModel_worked 319 = .ok (.aload_n 0, 1) := by decide +kernel
theorem d_ThumbCoreModel_worked_320 : decode b_ThumbCoreModel_worked 320 = .ok (.getfield 13, 3) := by decide +kernel
theorem d_ThumbCoreModel_worked_323 : decode b_ThumbCoreModel_worked 323 = .ok (.iload_n 1, 1) := by decide +kernel
theorem d_ThumbCoreModel_worked_324 : decode b_ThumbCoreModel_worked 324 = .ok (.aload_n 0, 1) := by decide +kernel
theorem d_ThumbCoreModel_worked_325 : decode b_ThumbCoreModel_worked 325 = .ok (.iload_n 3, 1) := by decide +kernel
theorem d_ThumbCoreModel_worked_326 : decode b_ThumbCoreModel_worked 326 = .ok (.iconst (-1), 1) := by decide +kernel
theorem d_ThumbCoreModel_worked_327 : decode b_ThumbCoreModel_worked 327 = .ok (.ixor, 1) := by decide +kernel
theorem d_ThumbCoreModel_worked_328 : decode b_ThumbCoreModel_worked 328 = .ok (.iconst 0, 1) := by decide +kernel
theorem d_ThumbCoreModel_worked_329 : decode b_ThumbCoreModel_worked 329 = .ok (.iconst 1, 1) := by decide +kernel
theorem d_ThumbCoreModel_worked_330 : decode b_ThumbCoreModel_worked 330 = .ok (.invokevirtual 131, 3) := by decide +kernel
theorem d_ThumbCoreModel_worked_333 : decode b_ThumbCoreModel_worked 333 = .ok (.iastore, 1) := by decide +kernel
theorem d_ThumbCoreModel_worked_334 : decode b_ThumbCoreModel_worked 334 = .ok (.goto 90, 3) := by decide +kernel
theorem d_ThumbCoreModel_worked_337 : decode b_ThumbCoreModel_worked 337 = .ok (.aload_n 0, 1) := by decide +kernel
theorem d_ThumbCoreModel_worked_338 : decode b_ThumbCoreModel_worked 338 = .ok (.iload_n 2, 1) := by decide +kernel
theorem d_ThumbCoreModel_worked_339 : decode b_ThumbCoreModel_worked 339 = .ok (.iload_n 3, 1) := by decide +kernel
theorem d_ThumbCoreModel_worked_340 : decode b_ThumbCoreModel_worked 340 = .ok (.iconst (-1), 1) := by decide +kernel
theorem d_ThumbCoreModel_worked_341 : decode b_ThumbCoreModel_worked 341 = .ok (.ixor, 1) := by decide +kernel
theorem d_ThumbCoreModel_worked_342 : decode b_ThumbCoreModel_worked 342 = .ok (.iconst 1, 1) := by decide +kernel
theorem d_ThumbCoreModel_worked_343 : decode b_ThumbCoreModel_worked 343 = .ok (.invokevirtual 131, 3) := by decide +kernel
theorem d_ThumbCoreModel_worked_346 : decode b_ThumbCoreModel_worked 346 = .ok (.istore_n 2, 1) := by decide +kernel
theorem d_ThumbCoreModel_worked_347 : decode b_ThumbCoreModel_worked 347 = .ok (.goto 77, 3) := by decide +kernel
theorem d_ThumbCoreModel_worked_350 : decode b_ThumbCoreModel_worked 350 = .ok (.aload_n 0, 1) := by decide +kernel
theorem d_ThumbCoreModel_worked_351 : decode b_ThumbCoreModel_worked 351 = .ok (.iload_n 2, 1) := by decide +kernel
theorem d_ThumbCoreModel_worked_352 : decode b_ThumbCoreModel_worked 352 = .ok (.iload_n 3, 1) := by decide +kernel
theorem d_ThumbCoreModel_worked_353 : decode b_ThumbCoreModel_worked 353 = .ok (.iconst 0, 1) := by decide +kernel
theorem d_ThumbCoreModel_worked_354 : decode b_ThumbCoreModel_worked 354 = .ok (.invokevirtual 131, 3) := by decide +kernel
theorem d_ThumbCoreModel_worked_357 : decode b_ThumbCoreModel_worked 357 = .ok (.istore_n 2, 1) := by decide +kernel
theorem d_ThumbCoreModel_worked_358 : decode b_ThumbCoreModel_worked 358 = .ok (.goto 66, 3) := by decide +kernel
theorem d_ThumbCoreModel_worked_361 : decode b_ThumbCoreModel_worked 361 = .ok (.aload_n 0, 1) := by decide +kernel
theorem d_ThumbCoreModel_worked_362 : decode b_ThumbCoreModel_worked 362 = .ok (.getfield 13, 3) := by decide +kernel
theorem d_ThumbCoreModel_worked_365 : decode b_ThumbCoreModel_worked 365 = .ok (.iload_n 1, 1) := by decide +kernel
theorem d_ThumbCoreModel_worked_366 : decode b_ThumbCoreModel_worked 366 = .ok (.aload_n 0, 1) := by decide +kernel
theorem d_ThumbCoreModel_worked_367 : decode b_ThumbCoreModel_worked 367 = .ok (.iload_n 2, 1) := by decide +kernel
theorem d_ThumbCoreModel_worked_368 : decode b_ThumbCoreModel_worked 368 = .ok (.iload_n 3, 1) := by decide +kernel
theorem d_ThumbCoreModel_worked_369 : decode b_ThumbCoreModel_worked 369 = .ok (.ior, 1) := by decide +kernel
theorem d_ThumbCoreModel_worked_370 : decode b_ThumbCoreModel_worked 370 = .ok (.invokevirtual 93, 3) := by decide +kernel
theorem d_ThumbCoreModel_worked_373 : decode b_ThumbCoreModel_worked 373 = .ok (.iastore, 1) := by decide +kernel
theorem d_ThumbCoreModel_worked_374 : decode b_ThumbCoreModel_worked 374 = .ok (.goto 50, 3) := by decide +kernel
theorem d_ThumbCoreModel_worked_377 : decode b_ThumbCoreModel_worked 377 = .ok (.aload_n 0, 1) := by decide +kernel
theorem d_ThumbCoreModel_worked_378 : decode b_ThumbCoreModel_worked 378 = .ok (.getfield 13, 3) := by decide +kernel
theorem d_ThumbCoreModel_worked_381 : decode b_ThumbCoreModel_worked 381 = .ok (.iload_n 1, 1) := by decide +kernel
theorem d_ThumbCoreModel_worked_382 : decode b_ThumbCoreModel_worked 382 = .ok (.aload_n 0, 1) := by decide +kernel
theorem d_ThumbCoreModel_worked_383 : decode b_ThumbCoreModel_worked 383 = .ok (.iload_n 2, 1) := by decide +kernel
theorem d_ThumbCoreModel_worked_384 : decode b_ThumbCoreModel_worked 384 = .ok (.iload_n 3, 1) := by decide +kernel
theorem d_ThumbCoreModel_worked_385 : decode b_ThumbCoreModel_worked 385 = .ok (.imul, 1) := by decide +kernel
theorem d_ThumbCoreModel_worked_386 : decode b_ThumbCoreModel_worked 386 = .ok (.invokevirtual 93, 3) := by decide +kernel
theorem d_ThumbCoreModel_worked_389 : decode b_ThumbCoreModel_worked 389 = .ok (.iastore, 1) := by decide +kernel
theorem d_ThumbCoreModel_worked_390 : decode b_ThumbCoreModel_worked 390 = .ok (.goto 34, 3) := by decide +kernel
theorem d_ThumbCoreModel_worked_393 : decode b_ThumbCoreModel_worked 393 = .ok (.aload_n 0, 1) := by decide +kernel
theorem d_ThumbCoreModel_worked_394 : decode b_ThumbCoreModel_worked 394 = .ok (.getfield 13, 3) := by decide +kernel
theorem d_ThumbCoreModel_worked_397 : decode b_ThumbCoreModel_worked 397 = .ok (.iload_n 1, 1) := by decide +kernel
theorem d_ThumbCoreModel_worked_398 : decode b_ThumbCoreModel_worked 398 = .ok (.aload_n 0, 1) := by decide +kernel
theorem d_ThumbCoreModel_worked_399 : decode b_ThumbCoreModel_worked 399 = .ok (.iload_n 2, 1) := by decide +kernel
theorem d_ThumbCoreModel_worked_400 : decode b_ThumbCoreModel_worked 400 = .ok (.iload_n 3, 1) := by decide +kernel
theorem d_ThumbCoreModel_worked_401 : decode b_ThumbCoreModel_worked 401 = .ok (.iconst (-1), 1) := by decide +kernel
theorem d_ThumbCoreModel_worked_402 : decode b_ThumbCoreModel_worked 402 = .ok (.ixor, 1) := by decide +kernel
theorem d_ThumbCoreModel_worked_403 : decode b_ThumbCoreModel_worked 403 = .ok (.iand, 1) := by decide +kernel
theorem d_ThumbCoreModel_worked_404 : decode b_ThumbCoreModel_worked 404 = .ok (.invokevirtual 93, 3) := by decide +kernel
theorem d_ThumbCoreModel_worked_407 : decode b_ThumbCoreModel_worked 407 = .ok (.iastore, 1) := by decide +kernel
theorem d_ThumbCoreModel_worked_408 : decode b_ThumbCoreModel_worked 408 = .ok (.goto 16, 3) := by decide +kernel
theorem d_ThumbCoreModel_worked_411 : decode b_ThumbCoreModel_worked 411 = .ok (.aload_n 0, 1) := by decide +kernel
theorem d_ThumbCoreModel_worked_412 : decode b_ThumbCoreModel_worked 412 = .ok (.getfield 13, 3) := by decide +kernel
theorem d_ThumbCoreModel_worked_415 : decode b_ThumbCoreModel_worked 415 = .ok (.iload_n 1, 1) := by decide +kernel
theorem d_ThumbCoreModel_worked_416 : decode b_ThumbCoreModel_worked 416 = .ok (.aload_n 0, 1) := by decide +kernel
theorem d_ThumbCoreModel_worked_417 : decode b_ThumbCoreModel_worked 417 = .ok (.iload_n 3, 1) := by decide +kernel
theorem d_ThumbCoreModel_worked_418 : decode b_ThumbCoreModel_worked 418 = .ok (.iconst (-1), 1) := by decide +kernel
theorem d_ThumbCoreModel_worked_419 : decode b_ThumbCoreModel_worked 419 = .ok (.ixor, 1) := by decide +kernel
theorem d_ThumbCoreModel_worked_420 : decode b_ThumbCoreModel_worked 420 = .ok (.invokevirtual 93, 3) := by decide +kernel
theorem d_ThumbCoreModel_worked_423 : decode b_ThumbCoreModel_worked 423 = .ok (.iastore, 1) := by decide +kernel
theorem d_ThumbCoreModel_worked_424 : decode b_ThumbCoreModel_worked 424 = .ok (.return_, 1) := by decide +kernel
theorem d_ThumbCoreModel_put_0 : decode b_ThumbCoreModel_put 0 = .ok (.iload_n 1, 1) := by decide +kernel
theorem d_ThumbCoreModel_put_1 : decode b_ThumbCoreModel_put 1 = .ok (.bipush 15, 2) := by decide +kernel
theorem d_ThumbCoreModel_put_3 : decode b_ThumbCoreModel_put 3 = .ok (.if_icmp .ne 14, 3) := by decide +kernel
theorem d_ThumbCoreModel_put_6 : decode b_ThumbCoreModel_put 6 = .ok (.aload_n 0, 1) := by decide +kernel
theorem d_ThumbCoreModel_put_7 : decode b_ThumbCoreModel_put 7 = .ok (.iload_n 2, 1) := by decide +kernel
theorem d_ThumbCoreModel_put_8 : decode b_ThumbCoreModel_put 8 = .ok (.bipush (-2), 2) := by decide +kernel
theorem d_ThumbCoreModel_put_10 : decode b_ThumbCoreModel_put 10 = .ok (.iand, 1) := by decide +kernel
theorem d_ThumbCoreModel_put_11 : decode b_ThumbCoreModel_put 11 = .ok (.putfield 115, 3) := by decide +kernel
theorem d_ThumbCoreModel_put_14 : decode b_ThumbCoreModel_put 14 = .ok (.goto 23, 3) := by decide +kernel
theorem d_ThumbCoreModel_put_17 : decode b_ThumbCoreModel_put 17 = .ok (.aload_n 0, 1) := by decide +kernel
theorem d_ThumbCoreModel_put_18 : decode b_ThumbCoreModel_put 18 = .ok (.getfield 13, 3) := by decide +kernel
theorem d_ThumbCoreModel_put_21 : decode b_ThumbCoreModel_put 21 = .ok (.iload_n 1, 1) := by decide +kernel
theorem d_ThumbCoreModel_put_22 : decode b_ThumbCoreModel_put 22 = .ok (.iload_n 1, 1) := by decide +kernel
theorem d_ThumbCoreModel_put_23 : decode b_ThumbCoreModel_put 23 = .ok (.bipush 13, 2) := by decide +kernel
theorem d_ThumbCoreModel_put_25 : decode b_ThumbCoreModel_put 25 = .ok (.if_icmp .ne 10, 3) := by decide +kernel
theorem d_ThumbCoreModel_put_28 : decode b_ThumbCoreModel_put 28 = .ok (.iload_n 2, 1) := by decide +kernel
theorem d_ThumbCoreModel_put_29 : decode b_ThumbCoreModel_put 29 = .ok (.bipush (-4), 2) := by decide +kernel
theorem d_ThumbCoreModel_put_31 : decode b_ThumbCoreModel_put 31 = .ok (.iand, 1) := by decide +kernel
theorem d_ThumbCoreModel_put_32 : decode b_ThumbCoreModel_put 32 = .ok (.goto 4, 3) := by decide +kernel
theorem d_ThumbCoreModel_put_35 : decode b_ThumbCoreModel_put 35 = .ok (.iload_n 2, 1) := by decide +kernel
theorem d_ThumbCoreModel_put_36 : decode b_ThumbCoreModel_put 36 = .ok (.iastore, 1) := by decide +kernel
theorem d_ThumbCoreModel_put_37 : decode b_ThumbCoreModel_put 37 = .ok (.return_, 1) := by decide +kernel
theorem d_ThumbCoreModel_wide_0 : decode b_ThumbCoreModel_wide 0 = .ok (.aload_n 0, 1) := by decide +kernel
theorem d_ThumbCoreModel_wide_1 : decode b_ThumbCoreModel_wide 1 = .ok (.iconst 0, 1) := by decide +kernel
theorem d_ThumbCoreModel_wide_2 : decode b_ThumbCoreModel_wide 2 = .ok (.invokevirtual 128, 3) := by decide +kernel
theorem d_ThumbCoreModel_wide_5 : decode b_ThumbCoreModel_wide 5 = .ok (.bipush 8, 2) := by decide +kernel
theorem d_ThumbCoreModel_wide_7 : decode b_ThumbCoreModel_wide 7 = .ok (.aload_n 0, 1) := by decide +kernel
theorem d_ThumbCoreModel_wide_8 : decode b_ThumbCoreModel_wide 8 = .ok (.getfield 125, 3) := by decide +kernel
theorem d_ThumbCoreModel_wide_11 : decode b_ThumbCoreModel_wide 11 = .ok (.bipush 7, 2) := by decide +kernel
theorem d_ThumbCoreModel_wide_13 : decode b_ThumbCoreModel_wide 13 = .ok (.ishr, 1) := by decide +kernel
theorem d_ThumbCoreModel_wide_14 : decode b_ThumbCoreModel_wide 14 = .ok (.iconst 1, 1) := by decide +kernel
theorem d_ThumbCoreModel_wide_15 : decode b_ThumbCoreModel_wide 15 = .ok (.iand, 1) := by decide +kernel
theorem d_ThumbCoreModel_wide_16 : decode b_ThumbCoreModel_wide 16 = .ok (.imul, 1) := by decide +kernel
theorem d_ThumbCoreModel_wide_17 : decode b_ThumbCoreModel_wide 17 = .ok (.iadd, 1) := by decide +kernel
theorem d_ThumbCoreModel_wide_18 : decode b_ThumbCoreModel_wide 18 = .ok (.istore_n 1, 1) := by decide +kernel
theorem d_ThumbCoreModel_wide_19 : decode b_ThumbCoreModel_wide 19 = .ok (.aload_n 0, 1) := by decide +kernel
theorem d_ThumbCoreModel_wide_20 : decode b_ThumbCoreModel_wide 20 = .ok (.getfield 125, 3) := by decide +kernel
theorem d_ThumbCoreModel_wide_23 : decode b_ThumbCoreModel_wide 23 = .ok (.iconst 3, 1) := by decide +kernel
theorem d_ThumbCoreModel_wide_24 : decode b_ThumbCoreModel_wide 24 = .ok (.ishr, 1) := by decide +kernel
theorem d_ThumbCoreModel_wide_25 : decode b_ThumbCoreModel_wide 25 = .ok (.bipush 15, 2) := by decide +kernel
theorem d_ThumbCoreModel_wide_27 : decode b_ThumbCoreModel_wide 27 = .ok (.iand, 1) := by decide +kernel
theorem d_ThumbCoreModel_wide_28 : decode b_ThumbCoreModel_wide 28 = .ok (.istore_n 2, 1) := by decide +kernel
theorem d_ThumbCoreModel_wide_29 : decode b_ThumbCoreModel_wide 29 = .ok (.iload_n 1, 1) := by decide +kernel
theorem d_ThumbCoreModel_wide_30 : decode b_ThumbCoreModel_wide 30 = .ok (.bipush 15, 2) := by decide +kernel
theorem d_ThumbCoreModel_wide_32 : decode b_ThumbCoreModel_wide 32 = .ok (.if_icmp .ne 15, 3) := by decide +kernel
theorem d_ThumbCoreModel_wide_35 : decode b_ThumbCoreModel_wide 35 = .ok (.aload_n 0, 1) := by decide +kernel
theorem d_ThumbCoreModel_wide_36 : decode b_ThumbCoreModel_wide 36 = .ok (.getfield 13, 3) := by decide +kernel
theorem d_ThumbCoreModel_wide_39 : decode b_ThumbCoreModel_wide 39 = .ok (.bipush 15, 2) := by decide +kernel
theorem d_ThumbCoreModel_wide_41 : decode b_ThumbCoreModel_wide 41 = .ok (.iaload, 1) := by decide +kernel
theorem d_ThumbCoreModel_wide_42 : decode b_ThumbCoreModel_wide 42 = .ok (.iconst 4, 1) := by decide +kernel
theorem d_ThumbCoreModel_wide_43 : decode b_ThumbCoreModel_wide 43 = .ok (.iadd, 1) := by decide +kernel
theorem d_ThumbCoreModel_wide_44 : decode b_ThumbCoreModel_wide 44 = .ok (.goto 9, 3) := by decide +kernel
theorem d_ThumbCoreModel_wide_47 : decode b_ThumbCoreModel_wide 47 = .ok (.aload_n 0, 1) := by decide +kernel
theorem d_ThumbCoreModel_wide_48 : decode b_ThumbCoreModel_wide 48 = .ok (.getfield 13, 3) := by decide +kernel
theorem d_ThumbCoreModel_wide_51 : decode b_ThumbCoreModel_wide 51 = .ok (.iload_n 1, 1) := by decide +kernel
theorem d_ThumbCoreModel_wide_52 : decode b_ThumbCoreModel_wide 52 = .ok (.iaload, 1) := by decide +kernel
theorem d_ThumbCoreModel_wide_53 : decode b_ThumbCoreModel_wide 53 = .ok (.istore_n 3, 1) := by decide +kernel
theorem d_ThumbCoreModel_wide_54 : decode b_ThumbCoreModel_wide 54 = .ok (.iload_n 2, 1) := by decide +kernel
theorem d_ThumbCoreModel_wide_55 : decode b_ThumbCoreModel_wide 55 = .ok (.bipush 15, 2) := by decide +kernel
theorem d_ThumbCoreModel_wide_57 : decode b_ThumbCoreModel_wide 57 = .ok (.if_icmp .ne 15, 3) := by decide +kernel
theorem d_ThumbCoreModel_wide_60 : decode b_ThumbCoreModel_wide 60 = .ok (.aload_n 0, 1) := by decide +kernel
theorem d_ThumbCoreModel_wide_61 : decode b_ThumbCoreModel_wide 61 = .ok (.getfield 13, 3) := by decide +kernel
theorem d_ThumbCoreModel_wide_64 : decode b_ThumbCoreModel_wide 64 = .ok (.bipush 15, 2) := by decide +kernel
theorem d_ThumbCoreModel_wide_66 : decode b_ThumbCoreModel_wide 66 = .ok (.iaload, 1) := by decide +kernel
theorem d_ThumbCoreModel_wide_67 : decode b_ThumbCoreModel_wide 67 = .ok (.iconst 4, 1) := by decide +kernel
theorem d_ThumbCoreModel_wide_68 : decode b_ThumbCoreModel_wide 68 = .ok (.iadd, 1) := by decide +kernel
theorem d_ThumbCoreModel_wide_69 : decode b_ThumbCoreModel_wide 69 = .ok (.goto 9, 3) := by decide +kernel
theorem d_ThumbCoreModel_wide_72 : decode b_ThumbCoreModel_wide 72 = .ok (.aload_n 0, 1) := by decide +kernel
theorem d_ThumbCoreModel_wide_73 : decode b_ThumbCoreModel_wide 73 = .ok (.getfield 13, 3) := by decide +kernel
theorem d_ThumbCoreModel_wide_76 : decode b_ThumbCoreModel_wide 76 = .ok (.iload_n 2, 1) := by decide +kernel
theorem d_ThumbCoreModel_wide_77 : decode b_ThumbCoreModel_wide 77 = .ok (.iaload, 1) := by decide +kernel
theorem d_ThumbCoreModel_wide_78 : decode b_ThumbCoreModel_wide 78 = .ok (.istore 4, 2) := by decide +kernel
theorem d_ThumbCoreModel_wide_80 : decode b_ThumbCoreModel_wide 80 = .ok (.aload_n 0, 1) := by decide +kernel
theorem d_ThumbCoreModel_wide_81 : decode b_ThumbCoreModel_wide 81 = .ok (.getfield 125, 3) := by decide +kernel
theorem d_ThumbCoreModel_wide_84 : decode b_ThumbCoreModel_wide 84 = .ok (.bipush 8, 2) := by decide +kernel
theorem d_ThumbCoreModel_wide_86 : decode b_ThumbCoreModel_wide 86 = .ok (.ishr, 1) := by decide +kernel
theorem d_ThumbCoreModel_wide_87 : decode b_ThumbCoreModel_wide 87 = .ok (.iconst 3, 1) := by decide +kernel
theorem d_ThumbCoreModel_wide_88 : decode b_ThumbCoreModel_wide 88 = .ok (.iand, 1) := by decide +kernel
theorem d_ThumbCoreModel_wide_89 : decode b_ThumbCoreModel_wide 89 = .ok (.istore 5, 2) := by decide +kernel
theorem d_ThumbCoreModel_wide_91 : decode b_ThumbCoreModel_wide 91 = .ok (.iload 5, 2) := by decide +kernel
theorem d_ThumbCoreModel_wide_93 : decode b_ThumbCoreModel_wide 93 = .ok (.ifCond .ne 15, 3) := by decide +kernel
theorem d_ThumbCoreModel_wide_96 : decode b_ThumbCoreModel_wide 96 = .ok (.aload_n 0, 1) := by decide +kernel
theorem d_ThumbCoreModel_wide_97 : decode b_ThumbCoreModel_wide 97 = .ok (.iload_n 1, 1) := by decide +kernel
theorem d_ThumbCoreModel_wide_98 : decode b_ThumbCoreModel_wide 98 = .ok (.iload_n 3, 1) := by decide +kernel
theorem d_ThumbCoreModel_wide_99 : decode b_ThumbCoreModel_wide 99 = .ok (.iload 4, 2) := by decide +kernel
theorem d_ThumbCoreModel_wide_101 : decode b_ThumbCoreModel_wide 101 = .ok (.iadd, 1) := by decide +kernel
theorem d_ThumbCoreModel_wide_102 : decode b_ThumbCoreModel_wide 102 = .ok (.invokevirtual 138, 3) := by decide +kernel
theorem d_ThumbCoreModel_wide_105 : decode b_ThumbCoreModel_wide 105 = .ok (.goto 162, 3) := by decide +kernel
theorem d_ThumbCoreModel_wide_108 : decode b_ThumbCoreModel_wide 108 = .ok (.iload 5, 2) := by decide +kernel
theorem d_ThumbCoreModel_wide_110 : decode b_ThumbCoreModel_wide 110 = .ok (.iconst 1, 1) := by decide +kernel
theorem d_ThumbCoreModel_wide_111 : decode b_ThumbCoreModel_wide 111 = .ok (.if_icmp .ne 50, 3) := by decide +kernel
theorem d_ThumbCoreModel_wide_114 : decode b_ThumbCoreModel_wide 114 = .ok (.aload_n 0, 1) := by decide +kernel
theorem d_ThumbCoreModel_wide_115 : decode b_ThumbCoreModel_wide 115 = .ok (.iload_n 1, 1) := by decide +kernel
theorem d_ThumbCoreModel_wide_116 : decode b_ThumbCoreModel_wide 116 = .ok (.bipush 8, 2) := by decide +kernel
theorem d_ThumbCoreModel_wide_118 : decode b_ThumbCoreModel_wide 118 = .ok (.if_icmp .ge 9, 3) := by decide +kernel
theorem d_ThumbCoreModel_wide_121 : decode b_ThumbCoreModel_wide 121 = .ok (.iload_n 2, 1) := by decide +kernel
theorem d_ThumbCoreModel_wide_122 : decode b_ThumbCoreModel_wide 122 = .ok (.bipush 8, 2) := by decide +kernel
theorem d_ThumbCoreModel_wide_124 : decode b_ThumbCoreModel_wide 124 = .ok (.if_icmp .lt 15, 3) := by decide +kernel
theorem d_ThumbCoreModel_wide_127 : decode b_ThumbCoreModel_wide 127 = .ok (.iload_n 1, 1) := by decide +kernel
