theorem d_cell_0 : decode b_ThumbCoreLaw_cell 0 = .ok (.iload_n 1, 1) := by decide +kernel
theorem d_cell_1 : decode b_ThumbCoreLaw_cell 1 = .ok (.aload_n 0, 1) := by decide +kernel
theorem d_cell_2 : decode b_ThumbCoreLaw_cell 2 = .ok (.arraylength, 1) := by decide +kernel
theorem d_cell_3 : decode b_ThumbCoreLaw_cell 3 = .ok (.if_icmp .ge 9, 3) := by decide +kernel
theorem d_cell_6 : decode b_ThumbCoreLaw_cell 6 = .ok (.aload_n 0, 1) := by decide +kernel
theorem d_cell_7 : decode b_ThumbCoreLaw_cell 7 = .ok (.iload_n 1, 1) := by decide +kernel
theorem d_cell_8 : decode b_ThumbCoreLaw_cell 8 = .ok (.iaload, 1) := by decide +kernel
theorem d_cell_9 : decode b_ThumbCoreLaw_cell 9 = .ok (.goto 4, 3) := by decide +kernel
theorem d_cell_12 : decode b_ThumbCoreLaw_cell 12 = .ok (.iconst 0, 1) := by decide +kernel
theorem d_cell_13 : decode b_ThumbCoreLaw_cell 13 = .ok (.ireturn, 1) := by decide +kernel
theorem d_law_0 : decode code 0 = .ok (.new 7, 3) := by decide +kernel
theorem d_law_3 : decode code 3 = .ok (.dup, 1) := by decide +kernel
theorem d_law_4 : decode code 4 = .ok (.aload_n 0, 1) := by decide +kernel
theorem d_law_5 : decode code 5 = .ok (.iconst 0, 1) := by decide +kernel
theorem d_law_6 : decode code 6 = .ok (.invokestatic 9, 3) := by decide +kernel
theorem d_law_9 : decode code 9 = .ok (.invokespecial 15, 3) := by decide +kernel
theorem d_law_12 : decode code 12 = .ok (.astore_n 1, 1) := by decide +kernel
theorem d_law_13 : decode code 13 = .ok (.new 18, 3) := by decide +kernel
theorem d_law_16 : decode code 16 = .ok (.dup, 1) := by decide +kernel
theorem d_law_17 : decode code 17 = .ok (.aload_n 0, 1) := by decide +kernel
theorem d_law_18 : decode code 18 = .ok (.iconst 0, 1) := by decide +kernel
theorem d_law_19 : decode code 19 = .ok (.invokestatic 9, 3) := by decide +kernel
theorem d_law_22 : decode code 22 = .ok (.invokespecial 20, 3) := by decide +kernel
theorem d_law_25 : decode code 25 = .ok (.astore_n 2, 1) := by decide +kernel
theorem d_law_26 : decode code 26 = .ok (.iconst 1, 1) := by decide +kernel
theorem d_law_27 : decode code 27 = .ok (.istore_n 3, 1) := by decide +kernel
theorem d_law_28 : decode code 28 = .ok (.iload_n 3, 1) := by decide +kernel
theorem d_law_29 : decode code 29 = .ok (.aload_n 0, 1) := by decide +kernel
theorem d_law_30 : decode code 30 = .ok (.arraylength, 1) := by decide +kernel
theorem d_law_31 : decode code 31 = .ok (.iconst 4, 1) := by decide +kernel
theorem d_law_32 : decode code 32 = .ok (.isub, 1) := by decide +kernel
theorem d_law_33 : decode code 33 = .ok (.if_icmp .gt 414, 3) := by decide +kernel
theorem d_law_36 : decode code 36 = .ok (.aload_n 0, 1) := by decide +kernel
theorem d_law_37 : decode code 37 = .ok (.iload_n 3, 1) := by decide +kernel
theorem d_law_38 : decode code 38 = .ok (.iaload, 1) := by decide +kernel
theorem d_law_39 : decode code 39 = .ok (.bipush 15, 2) := by decide +kernel
theorem d_law_41 : decode code 41 = .ok (.iand, 1) := by decide +kernel
theorem d_law_42 : decode code 42 = .ok (.tableswitch 399 0 12 #[66, 109, 132, 143, 156, 179, 202, 235, 248, 271, 294, 317, 350], 66) := by decide +kernel
theorem d_law_108 : decode code 108 = .ok (.aload_n 1, 1) := by decide +kernel
theorem d_law_109 : decode code 109 = .ok (.aload_n 0, 1) := by decide +kernel
theorem d_law_110 : decode code 110 = .ok (.iload_n 3, 1) := by decide +kernel
theorem d_law_111 : decode code 111 = .ok (.iconst 1, 1) := by decide +kernel
theorem d_law_112 : decode code 112 = .ok (.iadd, 1) := by decide +kernel
theorem d_law_113 : decode code 113 = .ok (.iaload, 1) := by decide +kernel
theorem d_law_114 : decode code 114 = .ok (.aload_n 0, 1) := by decide +kernel
theorem d_law_115 : decode code 115 = .ok (.iload_n 3, 1) := by decide +kernel
theorem d_law_116 : decode code 116 = .ok (.iconst 2, 1) := by decide +kernel
theorem d_law_117 : decode code 117 = .ok (.iadd, 1) := by decide +kernel
theorem d_law_118 : decode code 118 = .ok (.iaload, 1) := by decide +kernel
theorem d_law_119 : decode code 119 = .ok (.aload_n 0, 1) := by decide +kernel
theorem d_law_120 : decode code 120 = .ok (.iload_n 3, 1) := by decide +kernel
theorem d_law_121 : decode code 121 = .ok (.iconst 3, 1) := by decide +kernel
theorem d_law_122 : decode code 122 = .ok (.iadd, 1) := by decide +kernel
theorem d_law_123 : decode code 123 = .ok (.iaload, 1) := by decide +kernel
theorem d_law_124 : decode code 124 = .ok (.invokevirtual 21, 3) := by decide +kernel
theorem d_law_127 : decode code 127 = .ok (.aload_n 2, 1) := by decide +kernel
theorem d_law_128 : decode code 128 = .ok (.aload_n 0, 1) := by decide +kernel
theorem d_law_129 : decode code 129 = .ok (.iload_n 3, 1) := by decide +kernel
theorem d_law_130 : decode code 130 = .ok (.iconst 1, 1) := by decide +kernel
theorem d_law_131 : decode code 131 = .ok (.iadd, 1) := by decide +kernel
theorem d_law_132 : decode code 132 = .ok (.iaload, 1) := by decide +kernel
theorem d_law_133 : decode code 133 = .ok (.aload_n 0, 1) := by decide +kernel
theorem d_law_134 : decode code 134 = .ok (.iload_n 3, 1) := by decide +kernel
theorem d_law_135 : decode code 135 = .ok (.iconst 2, 1) := by decide +kernel
theorem d_law_136 : decode code 136 = .ok (.iadd, 1) := by decide +kernel
theorem d_law_137 : decode code 137 = .ok (.iaload, 1) := by decide +kernel
theorem d_law_138 : decode code 138 = .ok (.aload_n 0, 1) := by decide +kernel
theorem d_law_139 : decode code 139 = .ok (.iload_n 3, 1) := by decide +kernel
theorem d_law_140 : decode code 140 = .ok (.iconst 3, 1) := by decide +kernel
theorem d_law_141 : decode code 141 = .ok (.iadd, 1) := by decide +kernel
theorem d_law_142 : decode code 142 = .ok (.iaload, 1) := by decide +kernel
theorem d_law_143 : decode code 143 = .ok (.invokevirtual 25, 3) := by decide +kernel
theorem d_law_146 : decode code 146 = .ok (.if_icmp .eq 295, 3) := by decide +kernel
theorem d_law_149 : decode code 149 = .ok (.iconst 0, 1) := by decide +kernel
theorem d_law_150 : decode code 150 = .ok (.ireturn, 1) := by decide +kernel
theorem d_law_151 : decode code 151 = .ok (.aload_n 1, 1) := by decide +kernel
theorem d_law_152 : decode code 152 = .ok (.aload_n 0, 1) := by decide +kernel
theorem d_law_153 : decode code 153 = .ok (.iload_n 3, 1) := by decide +kernel
theorem d_law_154 : decode code 154 = .ok (.iconst 1, 1) := by decide +kernel
theorem d_law_155 : decode code 155 = .ok (.iadd, 1) := by decide +kernel
theorem d_law_156 : decode code 156 = .ok (.iaload, 1) := by decide +kernel
theorem d_law_157 : decode code 157 = .ok (.invokevirtual 26, 3) := by decide +kernel
theorem d_law_160 : decode code 160 = .ok (.aload_n 2, 1) := by decide +kernel
theorem d_law_161 : decode code 161 = .ok (.aload_n 0, 1) := by decide +kernel
theorem d_law_162 : decode code 162 = .ok (.iload_n 3, 1) := by decide +kernel
theorem d_law_163 : decode code 163 = .ok (.iconst 1, 1) := by decide +kernel
theorem d_law_164 : decode code 164 = .ok (.iadd, 1) := by decide +kernel
theorem d_law_165 : decode code 165 = .ok (.iaload, 1) := by decide +kernel
theorem d_law_166 : decode code 166 = .ok (.invokevirtual 30, 3) := by decide +kernel
theorem d_law_169 : decode code 169 = .ok (.if_icmp .eq 272, 3) := by decide +kernel
theorem d_law_172 : decode code 172 = .ok (.iconst 0, 1) := by decide +kernel
theorem d_law_173 : decode code 173 = .ok (.ireturn, 1) := by decide +kernel
theorem d_law_174 : decode code 174 = .ok (.aload_n 1, 1) := by decide +kernel
theorem d_law_175 : decode code 175 = .ok (.invokevirtual 31, 3) := by decide +kernel
theorem d_law_178 : decode code 178 = .ok (.aload_n 2, 1) := by decide +kernel
theorem d_law_179 : decode code 179 = .ok (.invokevirtual 34, 3) := by decide +kernel
theorem d_law_182 : decode code 182 = .ok (.goto 259, 3) := by decide +kernel
theorem d_law_185 : decode code 185 = .ok (.aload_n 1, 1) := by decide +kernel
theorem d_law_186 : decode code 186 = .ok (.invokevirtual 35, 3) := by decide +kernel
theorem d_law_189 : decode code 189 = .ok (.aload_n 2, 1) := by decide +kernel
theorem d_law_190 : decode code 190 = .ok (.invokevirtual 39, 3) := by decide +kernel
theorem d_law_193 : decode code 193 = .ok (.if_icmp .eq 248, 3) := by decide +kernel
theorem d_law_196 : decode code 196 = .ok (.iconst 0, 1) := by decide +kernel
theorem d_law_197 : decode code 197 = .ok (.ireturn, 1) := by decide +kernel
theorem d_law_198 : decode code 198 = .ok (.aload_n 1, 1) := by decide +kernel
theorem d_law_199 : decode code 199 = .ok (.aload_n 0, 1) := by decide +kernel
theorem d_law_200 : decode code 200 = .ok (.iload_n 3, 1) := by decide +kernel
theorem d_law_201 : decode code 201 = .ok (.iconst 1, 1) := by decide +kernel
theorem d_law_202 : decode code 202 = .ok (.iadd, 1) := by decide +kernel
theorem d_law_203 : decode code 203 = .ok (.iaload, 1) := by decide +kernel
theorem d_law_204 : decode code 204 = .ok (.invokevirtual 40, 3) := by decide +kernel
theorem d_law_207 : decode code 207 = .ok (.aload_n 2, 1) := by decide +kernel
theorem d_law_208 : decode code 208 = .ok (.aload_n 0, 1) := by decide +kernel
theorem d_law_209 : decode code 209 = .ok (.iload_n 3, 1) := by decide +kernel
theorem d_law_210 : decode code 210 = .ok (.iconst 1, 1) := by decide +kernel
theorem d_law_211 : decode code 211 = .ok (.iadd, 1) := by decide +kernel
theorem d_law_212 : decode code 212 = .ok (.iaload, 1) := by decide +kernel
theorem d_law_213 : decode code 213 = .ok (.invokevirtual 43, 3) := by decide +kernel
theorem d_law_216 : decode code 216 = .ok (.if_icmp .eq 225, 3) := by decide +kernel
theorem d_law_219 : decode code 219 = .ok (.iconst 0, 1) := by decide +kernel
theorem d_law_220 : decode code 220 = .ok (.ireturn, 1) := by decide +kernel
theorem d_law_221 : decode code 221 = .ok (.aload_n 1, 1) := by decide +kernel
theorem d_law_222 : decode code 222 = .ok (.aload_n 0, 1) := by decide +kernel
theorem d_law_223 : decode code 223 = .ok (.iload_n 3, 1) := by decide +kernel
theorem d_law_224 : decode code 224 = .ok (.iconst 1, 1) := by decide +kernel
theorem d_law_225 : decode code 225 = .ok (.iadd, 1) := by decide +kernel
theorem d_law_226 : decode code 226 = .ok (.iaload, 1) := by decide +kernel
theorem d_law_227 : decode code 227 = .ok (.invokevirtual 44, 3) := by decide +kernel
theorem d_law_230 : decode code 230 = .ok (.aload_n 2, 1) := by decide +kernel
theorem d_law_231 : decode code 231 = .ok (.aload_n 0, 1) := by decide +kernel
theorem d_law_232 : decode code 232 = .ok (.iload_n 3, 1) := by decide +kernel
theorem d_law_233 : decode code 233 = .ok (.iconst 1, 1) := by decide +kernel
theorem d_law_234 : decode code 234 = .ok (.iadd, 1) := by decide +kernel
theorem d_law_235 : decode code 235 = .ok (.iaload, 1) := by decide +kernel
theorem d_law_236 : decode code 236 = .ok (.invokevirtual 47, 3) := by decide +kernel
theorem d_law_239 : decode code 239 = .ok (.if_icmp .eq 202, 3) := by decide +kernel
theorem d_law_242 : decode code 242 = .ok (.iconst 0, 1) := by decide +kernel
theorem d_law_243 : decode code 243 = .ok (.ireturn, 1) := by decide +kernel
theorem d_law_244 : decode code 244 = .ok (.aload_n 1, 1) := by decide +kernel
theorem d_law_245 : decode code 245 = .ok (.aload_n 0, 1) := by decide +kernel
theorem d_law_246 : decode code 246 = .ok (.iload_n 3, 1) := by decide +kernel
theorem d_law_247 : decode code 247 = .ok (.iconst 1, 1) := by decide +kernel
theorem d_law_248 : decode code 248 = .ok (.iadd, 1) := by decide +kernel
theorem d_law_249 : decode code 249 = .ok (.iaload, 1) := by decide +kernel
theorem d_law_250 : decode code 250 = .ok (.aload_n 0, 1) := by decide +kernel
theorem d_law_251 : decode code 251 = .ok (.iload_n 3, 1) := by decide +kernel
theorem d_law_252 : decode code 252 = .ok (.iconst 2, 1) := by decide +kernel
theorem d_law_253 : decode code 253 = .ok (.iadd, 1) := by decide +kernel
theorem d_law_254 : decode code 254 = .ok (.iaload, 1) := by decide +kernel
theorem d_law_255 : decode code 255 = .ok (.invokevirtual 48, 3) := by decide +kernel
theorem d_law_258 : decode code 258 = .ok (.aload_n 2, 1) := by decide +kernel
theorem d_law_259 : decode code 259 = .ok (.aload_n 0, 1) := by decide +kernel
theorem d_law_260 : decode code 260 = .ok (.iload_n 3, 1) := by decide +kernel
theorem d_law_261 : decode code 261 = .ok (.iconst 1, 1) := by decide +kernel
theorem d_law_262 : decode code 262 = .ok (.iadd, 1) := by decide +kernel
theorem d_law_263 : decode code 263 = .ok (.iaload, 1) := by decide +kernel
theorem d_law_264 : decode code 264 = .ok (.aload_n 0, 1) := by decide +kernel
theorem d_law_265 : decode code 265 = .ok (.iload_n 3, 1) := by decide +kernel
theorem d_law_266 : decode code 266 = .ok (.iconst 2, 1) := by decide +kernel
theorem d_law_267 : decode code 267 = .ok (.iadd, 1) := by decide +kernel
theorem d_law_268 : decode code 268 = .ok (.iaload, 1) := by decide +kernel
theorem d_law_269 : decode code 269 = .ok (.invokevirtual 52, 3) := by decide +kernel
theorem d_law_272 : decode code 272 = .ok (.if_icmp .eq 169, 3) := by decide +kernel
theorem d_law_275 : decode code 275 = .ok (.iconst 0, 1) := by decide +kernel
theorem d_law_276 : decode code 276 = .ok (.ireturn, 1) := by decide +kernel
theorem d_law_277 : decode code 277 = .ok (.aload_n 1, 1) := by decide +kernel
theorem d_law_278 : decode code 278 = .ok (.invokevirtual 53, 3) := by decide +kernel
theorem d_law_281 : decode code 281 = .ok (.aload_n 2, 1) := by decide +kernel
theorem d_law_282 : decode code 282 = .ok (.invokevirtual 56, 3) := by decide +kernel
theorem d_law_285 : decode code 285 = .ok (.if_icmp .eq 156, 3) := by decide +kernel
theorem d_law_288 : decode code 288 = .ok (.iconst 0, 1) := by decide +kernel
theorem d_law_289 : decode code 289 = .ok (.ireturn, 1) := by decide +kernel
theorem d_law_290 : decode code 290 = .ok (.aload_n 1, 1) := by decide +kernel
theorem d_law_291 : decode code 291 = .ok (.aload_n 0, 1) := by decide +kernel
theorem d_law_292 : decode code 292 = .ok (.iload_n 3, 1) := by decide +kernel
theorem d_law_293 : decode code 293 = .ok (.iconst 1, 1) := by decide +kernel
theorem d_law_294 : decode code 294 = .ok (.iadd, 1) := by decide +kernel
theorem d_law_295 : decode code 295 = .ok (.iaload, 1) := by decide +kernel
theorem d_law_296 : decode code 296 = .ok (.invokevirtual 57, 3) := by decide +kernel
theorem d_law_299 : decode code 299 = .ok (.aload_n 2, 1) := by decide +kernel
theorem d_law_300 : decode code 300 = .ok (.aload_n 0, 1) := by decide +kernel
theorem d_law_301 : decode code 301 = .ok (.iload_n 3, 1) := by decide +kernel
theorem d_law_302 : decode code 302 = .ok (.iconst 1, 1) := by decide +kernel
theorem d_law_303 : decode code 303 = .ok (.iadd, 1) := by decide +kernel
theorem d_law_304 : decode code 304 = .ok (.iaload, 1) := by decide +kernel
theorem d_law_305 : decode code 305 = .ok (.invokevirtual 60, 3) := by decide +kernel
theorem d_law_308 : decode code 308 = .ok (.if_icmp .eq 133, 3) := by decide +kernel
theorem d_law_311 : decode code 311 = .ok (.iconst 0, 1) := by decide +kernel
theorem d_law_312 : decode code 312 = .ok (.ireturn, 1) := by decide +kernel
theorem d_law_313 : decode code 313 = .ok (.aload_n 1, 1) := by decide +kernel
theorem d_law_314 : decode code 314 = .ok (.aload_n 0, 1) := by decide +kernel
theorem d_law_315 : decode code 315 = .ok (.iload_n 3, 1) := by decide +kernel
theorem d_law_316 : decode code 316 = .ok (.iconst 1, 1) := by decide +kernel
theorem d_law_317 : decode code 317 = .ok (.iadd, 1) := by decide +kernel
theorem d_law_318 : decode code 318 = .ok (.iaload, 1) := by decide +kernel
theorem d_law_319 : decode code 319 = .ok (.invokevirtual 61, 3) := by decide +kernel
theorem d_law_322 : decode code 322 = .ok (.aload_n 2, 1) := by decide +kernel
theorem d_law_323 : decode code 323 = .ok (.aload_n 0, 1) := by decide +kernel
theorem d_law_324 : decode code 324 = .ok (.iload_n 3, 1) := by decide +kernel
theorem d_law_325 : decode code 325 = .ok (.iconst 1, 1) := by decide +kernel
theorem d_law_326 : decode code 326 = .ok (.iadd, 1) := by decide +kernel
theorem d_law_327 : decode code 327 = .ok (.iaload, 1) := by decide +kernel
theorem d_law_328 : decode code 328 = .ok (.invokevirtual 65, 3) := by decide +kernel
theorem d_law_331 : decode code 331 = .ok (.if_icmp .eq 110, 3) := by decide +kernel
theorem d_law_334 : decode code 334 = .ok (.iconst 0, 1) := by decide +kernel
theorem d_law_335 : decode code 335 = .ok (.ireturn, 1) := by decide +kernel
theorem d_law_336 : decode code 336 = .ok (.aload_n 1, 1) := by decide +kernel
theorem d_law_337 : decode code 337 = .ok (.aload_n 0, 1) := by decide +kernel
theorem d_law_338 : decode code 338 = .ok (.iload_n 3, 1) := by decide +kernel
theorem d_law_339 : decode code 339 = .ok (.iconst 1, 1) := by decide +kernel
theorem d_law_340 : decode code 340 = .ok (.iadd, 1) := by decide +kernel
theorem d_law_341 : decode code 341 = .ok (.iaload, 1) := by decide +kernel
theorem d_law_342 : decode code 342 = .ok (.invokevirtual 66, 3) := by decide +kernel
theorem d_law_345 : decode code 345 = .ok (.aload_n 2, 1) := by decide +kernel
theorem d_law_346 : decode code 346 = .ok (.aload_n 0, 1) := by decide +kernel
theorem d_law_347 : decode code 347 = .ok (.iload_n 3, 1) := by decide +kernel
theorem d_law_348 : decode code 348 = .ok (.iconst 1, 1) := by decide +kernel
theorem d_law_349 : decode code 349 = .ok (.iadd, 1) := by decide +kernel
theorem d_law_350 : decode code 350 = .ok (.iaload, 1) := by decide +kernel
theorem d_law_351 : decode code 351 = .ok (.invokevirtual 69, 3) := by decide +kernel
theorem d_law_354 : decode code 354 = .ok (.if_icmp .eq 87, 3) := by decide +kernel
theorem d_law_357 : decode code 357 = .ok (.iconst 0, 1) := by decide +kernel
theorem d_law_358 : decode code 358 = .ok (.ireturn, 1) := by decide +kernel
theorem d_law_359 : decode code 359 = .ok (.aload_n 1, 1) := by decide +kernel
theorem d_law_360 : decode code 360 = .ok (.aload_n 0, 1) := by decide +kernel
theorem d_law_361 : decode code 361 = .ok (.iload_n 3, 1) := by decide +kernel
theorem d_law_362 : decode code 362 = .ok (.iconst 1, 1) := by decide +kernel
theorem d_law_363 : decode code 363 = .ok (.iadd, 1) := by decide +kernel
theorem d_law_364 : decode code 364 = .ok (.iaload, 1) := by decide +kernel
theorem d_law_365 : decode code 365 = .ok (.aload_n 0, 1) := by decide +kernel
theorem d_law_366 : decode code 366 = .ok (.iload_n 3, 1) := by decide +kernel
theorem d_law_367 : decode code 367 = .ok (.iconst 2, 1) := by decide +kernel
theorem d_law_368 : decode code 368 = .ok (.iadd, 1) := by decide +kernel
theorem d_law_369 : decode code 369 = .ok (.iaload, 1) := by decide +kernel
theorem d_law_370 : decode code 370 = .ok (.invokevirtual 70, 3) := by decide +kernel
theorem d_law_373 : decode code 373 = .ok (.aload_n 2, 1) := by decide +kernel
theorem d_law_374 : decode code 374 = .ok (.aload_n 0, 1) := by decide +kernel
theorem d_law_375 : decode code 375 = .ok (.iload_n 3, 1) := by decide +kernel
theorem d_law_376 : decode code 376 = .ok (.iconst 1, 1) := by decide +kernel
theorem d_law_377 : decode code 377 = .ok (.iadd, 1) := by decide +kernel
theorem d_law_378 : decode code 378 = .ok (.iaload, 1) := by decide +kernel
theorem d_law_379 : decode code 379 = .ok (.aload_n 0, 1) := by decide +kernel
theorem d_law_380 : decode code 380 = .ok (.iload_n 3, 1) := by decide +kernel
theorem d_law_381 : decode code 381 = .ok (.iconst 2, 1) := by decide +kernel
theorem d_law_382 : decode code 382 = .ok (.iadd, 1) := by decide +kernel
theorem d_law_383 : decode code 383 = .ok (.iaload, 1) := by decide +kernel
theorem d_law_384 : decode code 384 = .ok (.invokevirtual 73, 3) := by decide +kernel
theorem d_law_387 : decode code 387 = .ok (.if_icmp .eq 54, 3) := by decide +kernel
theorem d_law_390 : decode code 390 = .ok (.iconst 0, 1) := by decide +kernel
theorem d_law_391 : decode code 391 = .ok (.ireturn, 1) := by decide +kernel
theorem d_law_392 : decode code 392 = .ok (.aload_n 1, 1) := by decide +kernel
theorem d_law_393 : decode code 393 = .ok (.aload_n 0, 1) := by decide +kernel
theorem d_law_394 : decode code 394 = .ok (.iload_n 3, 1) := by decide +kernel
theorem d_law_395 : decode code 395 = .ok (.iconst 1, 1) := by decide +kernel
theorem d_law_396 : decode code 396 = .ok (.iadd, 1) := by decide +kernel
theorem d_law_397 : decode code 397 = .ok (.iaload, 1) := by decide +kernel
theorem d_law_398 : decode code 398 = .ok (.aload_n 0, 1) := by decide +kernel
theorem d_law_399 : decode code 399 = .ok (.iload_n 3, 1) := by decide +kernel
theorem d_law_400 : decode code 400 = .ok (.iconst 2, 1) := by decide +kernel
theorem d_law_401 : decode code 401 = .ok (.iadd, 1) := by decide +kernel
theorem d_law_402 : decode code 402 = .ok (.iaload, 1) := by decide +kernel
theorem d_law_403 : decode code 403 = .ok (.ifCond .eq 7, 3) := by decide +kernel
theorem d_law_406 : decode code 406 = .ok (.iconst 1, 1) := by decide +kernel
theorem d_law_407 : decode code 407 = .ok (.goto 4, 3) := by decide +kernel
theorem d_law_410 : decode code 410 = .ok (.iconst 0, 1) := by decide +kernel
theorem d_law_411 : decode code 411 = .ok (.invokevirtual 74, 3) := by decide +kernel
theorem d_law_414 : decode code 414 = .ok (.aload_n 2, 1) := by decide +kernel
theorem d_law_415 : decode code 415 = .ok (.aload_n 0, 1) := by decide +kernel
theorem d_law_416 : decode code 416 = .ok (.iload_n 3, 1) := by decide +kernel
theorem d_law_417 : decode code 417 = .ok (.iconst 1, 1) := by decide +kernel
theorem d_law_418 : decode code 418 = .ok (.iadd, 1) := by decide +kernel
theorem d_law_419 : decode code 419 = .ok (.iaload, 1) := by decide +kernel
theorem d_law_420 : decode code 420 = .ok (.aload_n 0, 1) := by decide +kernel
theorem d_law_421 : decode code 421 = .ok (.iload_n 3, 1) := by decide +kernel
theorem d_law_422 : decode code 422 = .ok (.iconst 2, 1) := by decide +kernel
theorem d_law_423 : decode code 423 = .ok (.iadd, 1) := by decide +kernel
theorem d_law_424 : decode code 424 = .ok (.iaload, 1) := by decide +kernel
theorem d_law_425 : decode code 425 = .ok (.ifCond .eq 7, 3) := by decide +kernel
theorem d_law_428 : decode code 428 = .ok (.iconst 1, 1) := by decide +kernel
theorem d_law_429 : decode code 429 = .ok (.goto 4, 3) := by decide +kernel
theorem d_law_432 : decode code 432 = .ok (.iconst 0, 1) := by decide +kernel
theorem d_law_433 : decode code 433 = .ok (.invokevirtual 78, 3) := by decide +kernel
theorem d_law_436 : decode code 436 = .ok (.if_icmp .eq 5, 3) := by decide +kernel
theorem d_law_439 : decode code 439 = .ok (.iconst 0, 1) := by decide +kernel
theorem d_law_440 : decode code 440 = .ok (.ireturn, 1) := by decide +kernel
theorem d_law_441 : decode code 441 = .ok (.iinc 3 4, 3) := by decide +kernel
theorem d_law_444 : decode code 444 = .ok (.goto (-416), 3) := by decide +kernel
theorem d_law_447 : decode code 447 = .ok (.iconst 1, 1) := by decide +kernel
theorem d_law_448 : decode code 448 = .ok (.ireturn, 1) := by decide +kernel
/-- the script's first number, 0 without any -/
def first (L : Nat) (xs : Nat → Int32) : Int32 := if Int32.ofNat L ≤ 0 then 0 else xs (0 : Int32).toNatClampNeg
abbrev rm_cell : Room := { frames := 0, cells := 0, slots := 0, locals := 0 }
theorem lw_len {L : Nat} (h : L ≤ 2049) : (Int32.ofNat L).toInt = (L : Int) := nI_toInt (n := L) (by omega)
set_option maxHeartbeats 4000000 in
set_option maxRecDepth 100000 in
theorem c_cell (l : Launch) (b L : Nat) (xs : Nat → Int32) (hL : L ≤ 2049) : Met l y_ThumbCoreLaw_cell (.code y_ThumbCoreLaw_cell b_ThumbCoreLaw_cell 2 (some .int) :: tcb) rm_cell (va_Pc [.ref b, .int 0] (fun U => va_X b L xs U U.heap)) (QcRead (first L xs)) 0 0 (fun _ => False) := by
  refine Met.ofW (cc := b_ThumbCoreLaw_cell) (maxL := 2) (ret := (some .int)) (by decide) rfl ?_
  intro p e s m args below meth c s₁ B hml hv
  obtain ⟨rfl, hX⟩ := hv
  have hx := B.exec
  have hb := B.bytes
  have hbl : b < s.heap.size := by
    obtain ⟨scr, h1, _⟩ := hX
    exact (Array.getElem?_eq_some_iff.mp h1).1
  have hS : va_S (fun r : Nat => s.heap.size ≤ r) s.heap s.heap [] := va_S.rf
  have hl := lv_entry ([.ref b, .int 0]) (n := 2) (Nat.le_of_ble_eq_true rfl)
  rw [lg_entry_eq]
  generalize (lg_sl ([.ref b, .int 0]) ++ List.replicate (2 - (lg_sl ([.ref b, .int 0])).length) Slot.unset).toArray = ls at hl ⊢
  have hl : lv_has ls 2 [(0, .ref b), (1, .int 0)] := hl
  have J13 : ∀ v : Int32, v = first L xs → W p l e rm_cell s m ([.ref b, .int 0] : List Value).toArray below meth c s.heap [] 0 0 (MQ below (QcRead (first L xs)) ([.ref b, .int 0] : List Value).toArray s 0 0 (fun _ => False)) (F0 m 13 ls [.int v]) := by
    intro v hv
    subst hv
    exact W.iret hx hb B.returns (fun t ht hW => ⟨rfl, ht⟩) (fun q h => by cases h) d_cell_13 B.notSynchronized
  refine lv_iload_n hx hb d_cell_0 rfl (lv_at hl 1 rfl) ?_
  refine lv_aload_n hx hb d_cell_1 rfl (lv_at hl 0 rfl) ?_
  refine va_slen hx hb hX hbl (Nat.not_le.mpr hbl) hS d_cell_2 ?_
  refine lv_icmp_ge (tgt := 12) hx hb d_cell_3 (by decide) (fun g => ?_) (fun g => ?_)
  · refine lv_iconst (v := 0) hx hb d_cell_12 (by decide) ?_
    exact J13 0 (by unfold first; rw [if_pos g])
  · have hin : vp_in (0 : Int32) L := by
      have e0 : (0 : Int32).toInt = 0 := by decide
      rw [Int32.le_iff_toInt_le, lw_len hL, e0] at g
      exact vp_in_iff.mpr (by rw [e0]; omega)
    refine lv_aload_n hx hb d_cell_6 rfl (lv_at hl 0 rfl) ?_
    refine lv_iload_n hx hb d_cell_7 rfl (lv_at hl 1 rfl) ?_
    refine va_sld hx hb hX hbl (Nat.not_le.mpr hbl) hS hin d_cell_8 ?_
    refine lv_goto (tgt := 13) hx hb d_cell_9 (by decide) ?_
    exact J13 _ (by unfold first; rw [if_neg g])
theorem iv_set {r : Nat → Int32} (h : spOK r) (x y : Int32) : spOK (f_ThumbCore_set r x y).2 := by
  unfold f_ThumbCore_set
  refine iv_ite (P := fun t : Bool × (Nat → Int32) => spOK t.2) h (iv_ite (P := fun t : Bool × (Nat → Int32) => spOK t.2) ?_ h)
  show spOK (upd r x.toNatClampNeg (f_ThumbCore_fitting x y))
  by_cases g : x.toNatClampNeg = 13
  · have e := iv_cl13 g
    subst e
    exact sp_set (m4_and (by decide))
  · exact sp_upd h g
theorem iv_pend {p : Int32} (h : penOK p) (x : Int32) : penOK (f_ThumbCore_pend p x).2 := by
  have key : ∀ e : Nat, (e = 2 ∨ e = 14 ∨ e = 15) → penOK (p ||| o_ishl 1 (nI e)) := by
    intro e he j h2 h14 h15
    rw [x_set p (by omega)]
    unfold va_up
    rw [if_neg (by omega)]
    exact h j h2 h14 h15
  unfold f_ThumbCore_pend
  refine iv_itc (P := fun t : Bool × Int32 => penOK t.2) ?_ (fun _ => iv_itc (P := fun t : Bool × Int32 => penOK t.2) ?_ (fun _ => iv_itc (P := fun t : Bool × Int32 => penOK t.2) ?_ (fun _ => h)))
  · intro e
    subst e
    exact key 2 (Or.inl rfl)
  · intro e
    subst e
    exact key 14 (Or.inr (Or.inl rfl))
  · intro e
    subst e
    exact key 15 (Or.inr (Or.inr rfl))
theorem in_0 : vp_in (0 : Int32) 16 := vp_in_iff.mpr (by decide)
theorem pen_0 : penOK 0 := fun j _ _ _ => b_0 j
theorem act_0 : actOK 0 := fun j _ _ _ _ _ => b_0 j
theorem iv_reset2 (w : Nat → Int32) (n z c v : Bool) (p a cu : Int32) (mk : Bool) (co rl : Int32) (on : Bool) : ∀ (f : Nat) (as lk : Bool) (r : Nat → Int32) (k : Int32), tc_lp k 13 f → (fun t : Bool × Bool × (Nat → Int32) × Bool × Bool × Bool × Bool × Int32 × Int32 × Int32 × Bool × Int32 × Int32 × Bool => ivS t.2.2.1 t.2.2.2.2.2.2.2.1 t.2.2.2.2.2.2.2.2.1 t.2.2.2.2.2.2.2.2.2.1) (k_ThumbCore_reset_2 w f as lk r n z c v p a cu mk co rl on k) := by
  intro f
  induction f with
  | zero =>
    intro as lk r k h
    exact (tc_lp0 h).elim
  | succ f ih =>
    intro as lk r k h
    rw [k_ThumbCore_reset_2]
    by_cases g : 13 ≤ k
    · rw [if_pos g, bd_eq, bd_eq]
      exact ⟨sp15 (sp14 (sp_set (m4_and (by decide))) _) _, pen_0, act_0, in_0⟩
    · rw [if_neg g]
      exact ih _ _ _ _ (tc_lpS h (tc_gge g (by decide)) (by decide))
theorem iv_reset (w : Nat → Int32) (as lk : Bool) (r : Nat → Int32) (n z c v : Bool) (p a cu : Int32) (mk : Bool) (co rl : Int32) (on : Bool) : (fun t : Bool × Bool × (Nat → Int32) × Bool × Bool × Bool × Bool × Int32 × Int32 × Int32 × Bool × Int32 × Int32 × Bool => ivS t.2.2.1 t.2.2.2.2.2.2.2.1 t.2.2.2.2.2.2.2.2.1 t.2.2.2.2.2.2.2.2.2.1) (f_ThumbCore_reset w as lk r n z c v p a cu mk co rl on) := by
  unfold f_ThumbCore_reset
  exact iv_reset2 w n z c v p a cu mk co rl on 14 as lk r 0 (tc_lpE 13)
theorem lw_byt0 : byt (fun _ => 0) = fun _ => 0 := by
  funext j
  unfold byt
  have hj : j % 4 = 0 ∨ j % 4 = 1 ∨ j % 4 = 2 ∨ j % 4 = 3 := by omega
  show (o_ishr 0 (nI (8 * (j % 4)))).toInt8.toInt32 = 0
  rcases hj with h | h | h | h <;> rw [h] <;> decide
theorem lw_bt0 : bt 0 = fun _ => false := by
  funext j
  exact b_0 j
theorem lw_rsm0 (x : Int32) : rsm0 x = (fun t : Bool × Bool × (Nat → Int32) × Bool × Bool × Bool × Bool × Int32 × Int32 × Int32 × Bool × Int32 × Int32 × Bool => (t.2.2.2.1, t.2.2.2.2.1, t.2.2.2.2.2.1, t.2.2.2.2.2.2.1, false, t.2.2.2.2.2.2.2.2.2.2.1, t.1, t.2.1, t.2.2.2.2.2.2.2.2.2.2.2.2.2, t.2.2.2.2.2.2.2.2.2.2.2.1, t.2.2.2.2.2.2.2.2.2.2.2.2.1, t.2.2.2.2.2.2.2.2.2.1, t.2.2.1, bt t.2.2.2.2.2.2.2.1, bt t.2.2.2.2.2.2.2.2.1)) rs0 := by
  have h := p_reset (tsz_mem x) (fun _ => 0) (fun _ => 0) false false false false false false false false false 0 0 0 0 0 pen_0 act_0
  rw [lw_byt0, lw_bt0] at h
  exact h

/-- what stays the same over the law's loop -/
def lwC (p : Program) (s : State) (m : MethodId) (c : Code) (b L : Nat) (xs : Nat → Int32) (D : va_G) (cI cB cZ : ClassId) (tL : Nat) (q : Int32) (nw : Nat) : Prop :=
  p.tables.exec = Jvm.exec ∧ c.code = code ∧ c.maxLocals = 4 ∧ s.vm.findClass "ThumbCoreLaw" = some m.cls ∧ (∀ w ∈ tcb, w.before #[Value.ref b] s = true) ∧ va_X b L xs s s.heap ∧ b < s.heap.size ∧ va_K D tcl (tys cI cB cZ) s ∧ tc_NN s ∧ (va_Z "ThumbCore" "LAID" "[I" (.ref tL) (fun r : Nat => s.heap.size ≤ r) s s.heap ∧ va_T .int tL 6 (fun j => .int (laid j)) (fun r : Nat => s.heap.size ≤ r) s s.heap) ∧ tc_mem q nw
/-- what is left to do behind a call: from 441 on, with the two in step -/
def lwJ (p : Program) (l : Launch) (e : Env) (s : State) (m : MethodId) (below : List Frame) (meth : Method) (c : Code) (Q : State → Prop) (b : Nat) (D : va_G) (cI cB cZ : ClassId) (a1 a2 a3 a4 a5 a6 a7 a8 b1 b2 b3 b4 b5 b6 b7 : Nat) (q : Int32) (nw : Nat) (i : Int32) : Prop := ∀ (H : Heap) (locs : List Loc) (ls : Array Slot) (c_asleep : Bool) (c_locked : Bool) (c_next : Int32) (c_memory_words : Nat → Int32) (c_registers : Nat → Int32) (c_flags_negative : Bool) (c_flags_zero : Bool) (c_flags_carry : Bool) (c_flags_overflow : Bool) (c_exceptions_pending : Int32) (c_exceptions_active : Int32) (c_exceptions_current : Int32) (c_exceptions_masked : Bool) (c_exceptions_priorities : Nat → Int32) (c_counter_number : Int32) (c_counter_reload : Int32) (c_counter_on : Bool) (kf : Int32) (bad : Bool) (hh : Int32) (af : Int32) (en : Bool) (kp : Nat → Int32), va_P D tcl (wd_ThumbCore cI cB cZ a1 a2 a3 a4 a5 a6 a7 a8 q nw c_asleep c_locked c_next c_memory_words c_registers c_flags_negative c_flags_zero c_flags_carry c_flags_overflow c_exceptions_pending c_exceptions_active c_exceptions_current c_exceptions_masked c_exceptions_priorities c_counter_number c_counter_reload c_counter_on ++ wd_ThumbCoreModel cI cB cZ b1 b2 b3 b4 b5 b6 b7 q c_flags_negative c_flags_zero c_flags_carry c_flags_overflow kf bad hh af en c_exceptions_masked c_asleep c_locked c_counter_on c_counter_number c_counter_reload c_exceptions_current (byt c_memory_words) c_registers kp (bt c_exceptions_pending) (bt c_exceptions_active) c_exceptions_priorities) H → va_D (fun r : Nat => s.heap.size ≤ r) (wd_ThumbCore cI cB cZ a1 a2 a3 a4 a5 a6 a7 a8 q nw c_asleep c_locked c_next c_memory_words c_registers c_flags_negative c_flags_zero c_flags_carry c_flags_overflow c_exceptions_pending c_exceptions_active c_exceptions_current c_exceptions_masked c_exceptions_priorities c_counter_number c_counter_reload c_counter_on ++ wd_ThumbCoreModel cI cB cZ b1 b2 b3 b4 b5 b6 b7 q c_flags_negative c_flags_zero c_flags_carry c_flags_overflow kf bad hh af en c_exceptions_masked c_asleep c_locked c_counter_on c_counter_number c_counter_reload c_exceptions_current (byt c_memory_words) c_registers kp (bt c_exceptions_pending) (bt c_exceptions_active) c_exceptions_priorities) → va_S (fun r : Nat => s.heap.size ≤ r) s.heap H locs → lv_has ls 4 [(0, .ref b), (1, .ref a1), (2, .ref b1), (3, .int i)] → ivS c_registers c_exceptions_pending c_exceptions_active c_exceptions_current → W p l e room_1 s m #[Value.ref b] below meth c H locs 15 2717 Q (F0 m 441 ls [])
