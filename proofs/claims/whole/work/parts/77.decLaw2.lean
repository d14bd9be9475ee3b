theorem d_Law_law_0 : decode b_Law_law 0 = .ok (.new 8, 3) := by decide +kernel
theorem d_Law_law_3 : decode b_Law_law 3 = .ok (.dup, 1) := by decide +kernel
theorem d_Law_law_4 : decode b_Law_law 4 = .ok (.aload_n 0, 1) := by decide +kernel
theorem d_Law_law_5 : decode b_Law_law 5 = .ok (.iconst 0, 1) := by decide +kernel
theorem d_Law_law_6 : decode b_Law_law 6 = .ok (.invokestatic 65, 3) := by decide +kernel
theorem d_Law_law_9 : decode b_Law_law 9 = .ok (.invokespecial 71, 3) := by decide +kernel
theorem d_Law_law_12 : decode b_Law_law 12 = .ok (.astore_n 1, 1) := by decide +kernel
theorem d_Law_law_13 : decode b_Law_law 13 = .ok (.new 74, 3) := by decide +kernel
theorem d_Law_law_16 : decode b_Law_law 16 = .ok (.dup, 1) := by decide +kernel
theorem d_Law_law_17 : decode b_Law_law 17 = .ok (.aload_n 0, 1) := by decide +kernel
theorem d_Law_law_18 : decode b_Law_law 18 = .ok (.iconst 0, 1) := by decide +kernel
theorem d_Law_law_19 : decode b_Law_law 19 = .ok (.invokestatic 65, 3) := by decide +kernel
theorem d_Law_law_22 : decode b_Law_law 22 = .ok (.invokespecial 76, 3) := by decide +kernel
theorem d_Law_law_25 : decode b_Law_law 25 = .ok (.astore_n 2, 1) := by decide +kernel
theorem d_Law_law_26 : decode b_Law_law 26 = .ok (.iconst 1, 1) := by decide +kernel
theorem d_Law_law_27 : decode b_Law_law 27 = .ok (.newarray .long, 2) := by decide +kernel
theorem d_Law_law_29 : decode b_Law_law 29 = .ok (.astore_n 3, 1) := by decide +kernel
theorem d_Law_law_30 : decode b_Law_law 30 = .ok (.iconst 1, 1) := by decide +kernel
theorem d_Law_law_31 : decode b_Law_law 31 = .ok (.istore 4, 2) := by decide +kernel
theorem d_Law_law_33 : decode b_Law_law 33 = .ok (.iload 4, 2) := by decide +kernel
theorem d_Law_law_35 : decode b_Law_law 35 = .ok (.aload_n 0, 1) := by decide +kernel
theorem d_Law_law_36 : decode b_Law_law 36 = .ok (.arraylength, 1) := by decide +kernel
theorem d_Law_law_37 : decode b_Law_law 37 = .ok (.bipush 6, 2) := by decide +kernel
theorem d_Law_law_39 : decode b_Law_law 39 = .ok (.isub, 1) := by decide +kernel
theorem d_Law_law_40 : decode b_Law_law 40 = .ok (.if_icmp .gt 1233, 3) := by decide +kernel
theorem d_Law_law_43 : decode b_Law_law 43 = .ok (.aload_n 0, 1) := by decide +kernel
theorem d_Law_law_44 : decode b_Law_law 44 = .ok (.iload 4, 2) := by decide +kernel
theorem d_Law_law_46 : decode b_Law_law 46 = .ok (.iaload, 1) := by decide +kernel
theorem d_Law_law_47 : decode b_Law_law 47 = .ok (.bipush 31, 2) := by decide +kernel
theorem d_Law_law_49 : decode b_Law_law 49 = .ok (.iand, 1) := by decide +kernel
theorem d_Law_law_50 : decode b_Law_law 50 = .ok (.tableswitch 1217 0 16 #[82, 157, 220, 364, 439, 558, 633, 724, 799, 812, 868, 924, 992, 1047, 1115, 1190, 1203], 82) := by decide +kernel
theorem d_Law_law_132 : decode b_Law_law 132 = .ok (.aload_n 1, 1) := by decide +kernel
theorem d_Law_law_133 : decode b_Law_law 133 = .ok (.aload_n 0, 1) := by decide +kernel
theorem d_Law_law_134 : decode b_Law_law 134 = .ok (.iload 4, 2) := by decide +kernel
theorem d_Law_law_136 : decode b_Law_law 136 = .ok (.iconst 1, 1) := by decide +kernel
theorem d_Law_law_137 : decode b_Law_law 137 = .ok (.iadd, 1) := by decide +kernel
theorem d_Law_law_138 : decode b_Law_law 138 = .ok (.iaload, 1) := by decide +kernel
theorem d_Law_law_139 : decode b_Law_law 139 = .ok (.aload_n 0, 1) := by decide +kernel
theorem d_Law_law_140 : decode b_Law_law 140 = .ok (.iload 4, 2) := by decide +kernel
theorem d_Law_law_142 : decode b_Law_law 142 = .ok (.iconst 2, 1) := by decide +kernel
theorem d_Law_law_143 : decode b_Law_law 143 = .ok (.iadd, 1) := by decide +kernel
theorem d_Law_law_144 : decode b_Law_law 144 = .ok (.iaload, 1) := by decide +kernel
theorem d_Law_law_145 : decode b_Law_law 145 = .ok (.aload_n 3, 1) := by decide +kernel
theorem d_Law_law_146 : decode b_Law_law 146 = .ok (.invokestatic 77, 3) := by decide +kernel
theorem d_Law_law_149 : decode b_Law_law 149 = .ok (.istore 5, 2) := by decide +kernel
theorem d_Law_law_151 : decode b_Law_law 151 = .ok (.aload_n 2, 1) := by decide +kernel
theorem d_Law_law_152 : decode b_Law_law 152 = .ok (.aload_n 0, 1) := by decide +kernel
theorem d_Law_law_153 : decode b_Law_law 153 = .ok (.iload 4, 2) := by decide +kernel
theorem d_Law_law_155 : decode b_Law_law 155 = .ok (.iconst 1, 1) := by decide +kernel
theorem d_Law_law_156 : decode b_Law_law 156 = .ok (.iadd, 1) := by decide +kernel
theorem d_Law_law_157 : decode b_Law_law 157 = .ok (.iaload, 1) := by decide +kernel
theorem d_Law_law_158 : decode b_Law_law 158 = .ok (.aload_n 0, 1) := by decide +kernel
theorem d_Law_law_159 : decode b_Law_law 159 = .ok (.iload 4, 2) := by decide +kernel
theorem d_Law_law_161 : decode b_Law_law 161 = .ok (.iconst 2, 1) := by decide +kernel
theorem d_Law_law_162 : decode b_Law_law 162 = .ok (.iadd, 1) := by decide +kernel
theorem d_Law_law_163 : decode b_Law_law 163 = .ok (.iaload, 1) := by decide +kernel
theorem d_Law_law_164 : decode b_Law_law 164 = .ok (.invokevirtual 80, 3) := by decide +kernel
theorem d_Law_law_167 : decode b_Law_law 167 = .ok (.istore 6, 2) := by decide +kernel
theorem d_Law_law_169 : decode b_Law_law 169 = .ok (.aload_n 2, 1) := by decide +kernel
theorem d_Law_law_170 : decode b_Law_law 170 = .ok (.invokevirtual 81, 3) := by decide +kernel
theorem d_Law_law_173 : decode b_Law_law 173 = .ok (.iload 5, 2) := by decide +kernel
theorem d_Law_law_175 : decode b_Law_law 175 = .ok (.if_icmp .eq 5, 3) := by decide +kernel
theorem d_Law_law_178 : decode b_Law_law 178 = .ok (.iconst 0, 1) := by decide +kernel
theorem d_Law_law_179 : decode b_Law_law 179 = .ok (.ireturn, 1) := by decide +kernel
theorem d_Law_law_180 : decode b_Law_law 180 = .ok (.iload 5, 2) := by decide +kernel
theorem d_Law_law_182 : decode b_Law_law 182 = .ok (.ifCond .ne 22, 3) := by decide +kernel
theorem d_Law_law_185 : decode b_Law_law 185 = .ok (.aload_n 3, 1) := by decide +kernel
theorem d_Law_law_186 : decode b_Law_law 186 = .ok (.iconst 0, 1) := by decide +kernel
theorem d_Law_law_187 : decode b_Law_law 187 = .ok (.laload, 1) := by decide +kernel
theorem d_Law_law_188 : decode b_Law_law 188 = .ok (.iload 6, 2) := by decide +kernel
theorem d_Law_law_190 : decode b_Law_law 190 = .ok (.ifCond .eq 7, 3) := by decide +kernel
theorem d_Law_law_193 : decode b_Law_law 193 = .ok (.lconst 1, 1) := by decide +kernel
theorem d_Law_law_194 : decode b_Law_law 194 = .ok (.goto 4, 3) := by decide +kernel
theorem d_Law_law_197 : decode b_Law_law 197 = .ok (.lconst 0, 1) := by decide +kernel
theorem d_Law_law_198 : decode b_Law_law 198 = .ok (.lcmp, 1) := by decide +kernel
theorem d_Law_law_199 : decode b_Law_law 199 = .ok (.ifCond .eq 5, 3) := by decide +kernel
theorem d_Law_law_202 : decode b_Law_law 202 = .ok (.iconst 0, 1) := by decide +kernel
theorem d_Law_law_203 : decode b_Law_law 203 = .ok (.ireturn, 1) := by decide +kernel
theorem d_Law_law_204 : decode b_Law_law 204 = .ok (.goto 1063, 3) := by decide +kernel
theorem d_Law_law_207 : decode b_Law_law 207 = .ok (.aload_n 1, 1) := by decide +kernel
theorem d_Law_law_208 : decode b_Law_law 208 = .ok (.aload_n 0, 1) := by decide +kernel
theorem d_Law_law_209 : decode b_Law_law 209 = .ok (.iload 4, 2) := by decide +kernel
theorem d_Law_law_211 : decode b_Law_law 211 = .ok (.iconst 1, 1) := by decide +kernel
theorem d_Law_law_212 : decode b_Law_law 212 = .ok (.iadd, 1) := by decide +kernel
theorem d_Law_law_213 : decode b_Law_law 213 = .ok (.iaload, 1) := by decide +kernel
theorem d_Law_law_214 : decode b_Law_law 214 = .ok (.aload_n 3, 1) := by decide +kernel
theorem d_Law_law_215 : decode b_Law_law 215 = .ok (.invokestatic 85, 3) := by decide +kernel
theorem d_Law_law_218 : decode b_Law_law 218 = .ok (.istore 5, 2) := by decide +kernel
theorem d_Law_law_220 : decode b_Law_law 220 = .ok (.aload_n 2, 1) := by decide +kernel
theorem d_Law_law_221 : decode b_Law_law 221 = .ok (.aload_n 0, 1) := by decide +kernel
theorem d_Law_law_222 : decode b_Law_law 222 = .ok (.iload 4, 2) := by decide +kernel
theorem d_Law_law_224 : decode b_Law_law 224 = .ok (.iconst 1, 1) := by decide +kernel
theorem d_Law_law_225 : decode b_Law_law 225 = .ok (.iadd, 1) := by decide +kernel
theorem d_Law_law_226 : decode b_Law_law 226 = .ok (.iaload, 1) := by decide +kernel
theorem d_Law_law_227 : decode b_Law_law 227 = .ok (.invokevirtual 88, 3) := by decide +kernel
theorem d_Law_law_230 : decode b_Law_law 230 = .ok (.istore 6, 2) := by decide +kernel
theorem d_Law_law_232 : decode b_Law_law 232 = .ok (.aload_n 2, 1) := by decide +kernel
theorem d_Law_law_233 : decode b_Law_law 233 = .ok (.invokevirtual 81, 3) := by decide +kernel
theorem d_Law_law_236 : decode b_Law_law 236 = .ok (.iload 5, 2) := by decide +kernel
theorem d_Law_law_238 : decode b_Law_law 238 = .ok (.if_icmp .eq 5, 3) := by decide +kernel
theorem d_Law_law_241 : decode b_Law_law 241 = .ok (.iconst 0, 1) := by decide +kernel
theorem d_Law_law_242 : decode b_Law_law 242 = .ok (.ireturn, 1) := by decide +kernel
theorem d_Law_law_243 : decode b_Law_law 243 = .ok (.iload 5, 2) := by decide +kernel
theorem d_Law_law_245 : decode b_Law_law 245 = .ok (.ifCond .ne 22, 3) := by decide +kernel
theorem d_Law_law_248 : decode b_Law_law 248 = .ok (.aload_n 3, 1) := by decide +kernel
theorem d_Law_law_249 : decode b_Law_law 249 = .ok (.iconst 0, 1) := by decide +kernel
theorem d_Law_law_250 : decode b_Law_law 250 = .ok (.laload, 1) := by decide +kernel
theorem d_Law_law_251 : decode b_Law_law 251 = .ok (.iload 6, 2) := by decide +kernel
theorem d_Law_law_253 : decode b_Law_law 253 = .ok (.ifCond .eq 7, 3) := by decide +kernel
theorem d_Law_law_256 : decode b_Law_law 256 = .ok (.lconst 1, 1) := by decide +kernel
theorem d_Law_law_257 : decode b_Law_law 257 = .ok (.goto 4, 3) := by decide +kernel
theorem d_Law_law_260 : decode b_Law_law 260 = .ok (.lconst 0, 1) := by decide +kernel
theorem d_Law_law_261 : decode b_Law_law 261 = .ok (.lcmp, 1) := by decide +kernel
theorem d_Law_law_262 : decode b_Law_law 262 = .ok (.ifCond .eq 5, 3) := by decide +kernel
theorem d_Law_law_265 : decode b_Law_law 265 = .ok (.iconst 0, 1) := by decide +kernel
theorem d_Law_law_266 : decode b_Law_law 266 = .ok (.ireturn, 1) := by decide +kernel
theorem d_Law_law_267 : decode b_Law_law 267 = .ok (.goto 1000, 3) := by decide +kernel
theorem d_Law_law_270 : decode b_Law_law 270 = .ok (.aload_n 1, 1) := by decide +kernel
theorem d_Law_law_271 : decode b_Law_law 271 = .ok (.aload_n 0, 1) := by decide +kernel
theorem d_Law_law_272 : decode b_Law_law 272 = .ok (.iload 4, 2) := by decide +kernel
theorem d_Law_law_274 : decode b_Law_law 274 = .ok (.iconst 1, 1) := by decide +kernel
theorem d_Law_law_275 : decode b_Law_law 275 = .ok (.iadd, 1) := by decide +kernel
theorem d_Law_law_276 : decode b_Law_law 276 = .ok (.iaload, 1) := by decide +kernel
theorem d_Law_law_277 : decode b_Law_law 277 = .ok (.aload_n 0, 1) := by decide +kernel
theorem d_Law_law_278 : decode b_Law_law 278 = .ok (.iload 4, 2) := by decide +kernel
theorem d_Law_law_280 : decode b_Law_law 280 = .ok (.iconst 2, 1) := by decide +kernel
theorem d_Law_law_281 : decode b_Law_law 281 = .ok (.iadd, 1) := by decide +kernel
theorem d_Law_law_282 : decode b_Law_law 282 = .ok (.iaload, 1) := by decide +kernel
theorem d_Law_law_283 : decode b_Law_law 283 = .ok (.i2l, 1) := by decide +kernel
theorem d_Law_law_284 : decode b_Law_law 284 = .ok (.bipush 32, 2) := by decide +kernel
theorem d_Law_law_286 : decode b_Law_law 286 = .ok (.lshl, 1) := by decide +kernel
theorem d_Law_law_287 : decode b_Law_law 287 = .ok (.aload_n 0, 1) := by decide +kernel
theorem d_Law_law_288 : decode b_Law_law 288 = .ok (.iload 4, 2) := by decide +kernel
theorem d_Law_law_290 : decode b_Law_law 290 = .ok (.iconst 3, 1) := by decide +kernel
theorem d_Law_law_291 : decode b_Law_law 291 = .ok (.iadd, 1) := by decide +kernel
theorem d_Law_law_292 : decode b_Law_law 292 = .ok (.iaload, 1) := by decide +kernel
theorem d_Law_law_293 : decode b_Law_law 293 = .ok (.i2l, 1) := by decide +kernel
theorem d_Law_law_294 : decode b_Law_law 294 = .ok (.ldc2_w 89, 3) := by decide +kernel
theorem d_Law_law_297 : decode b_Law_law 297 = .ok (.land, 1) := by decide +kernel
theorem d_Law_law_298 : decode b_Law_law 298 = .ok (.lor, 1) := by decide +kernel
theorem d_Law_law_299 : decode b_Law_law 299 = .ok (.aload_n 0, 1) := by decide +kernel
theorem d_Law_law_300 : decode b_Law_law 300 = .ok (.iload 4, 2) := by decide +kernel
theorem d_Law_law_302 : decode b_Law_law 302 = .ok (.iconst 4, 1) := by decide +kernel
theorem d_Law_law_303 : decode b_Law_law 303 = .ok (.iadd, 1) := by decide +kernel
theorem d_Law_law_304 : decode b_Law_law 304 = .ok (.iaload, 1) := by decide +kernel
theorem d_Law_law_305 : decode b_Law_law 305 = .ok (.i2l, 1) := by decide +kernel
theorem d_Law_law_306 : decode b_Law_law 306 = .ok (.bipush 32, 2) := by decide +kernel
theorem d_Law_law_308 : decode b_Law_law 308 = .ok (.lshl, 1) := by decide +kernel
theorem d_Law_law_309 : decode b_Law_law 309 = .ok (.aload_n 0, 1) := by decide +kernel
theorem d_Law_law_310 : decode b_Law_law 310 = .ok (.iload 4, 2) := by decide +kernel
theorem d_Law_law_312 : decode b_Law_law 312 = .ok (.iconst 5, 1) := by decide +kernel
theorem d_Law_law_313 : decode b_Law_law 313 = .ok (.iadd, 1) := by decide +kernel
theorem d_Law_law_314 : decode b_Law_law 314 = .ok (.iaload, 1) := by decide +kernel
theorem d_Law_law_315 : decode b_Law_law 315 = .ok (.i2l, 1) := by decide +kernel
theorem d_Law_law_316 : decode b_Law_law 316 = .ok (.ldc2_w 89, 3) := by decide +kernel
theorem d_Law_law_319 : decode b_Law_law 319 = .ok (.land, 1) := by decide +kernel
theorem d_Law_law_320 : decode b_Law_law 320 = .ok (.lor, 1) := by decide +kernel
theorem d_Law_law_321 : decode b_Law_law 321 = .ok (.aload_n 3, 1) := by decide +kernel
theorem d_Law_law_322 : decode b_Law_law 322 = .ok (.invokestatic 91, 3) := by decide +kernel
theorem d_Law_law_325 : decode b_Law_law 325 = .ok (.istore 5, 2) := by decide +kernel
theorem d_Law_law_327 : decode b_Law_law 327 = .ok (.aload_n 2, 1) := by decide +kernel
theorem d_Law_law_328 : decode b_Law_law 328 = .ok (.aload_n 0, 1) := by decide +kernel
theorem d_Law_law_329 : decode b_Law_law 329 = .ok (.iload 4, 2) := by decide +kernel
theorem d_Law_law_331 : decode b_Law_law 331 = .ok (.iconst 1, 1) := by decide +kernel
theorem d_Law_law_332 : decode b_Law_law 332 = .ok (.iadd, 1) := by decide +kernel
theorem d_Law_law_333 : decode b_Law_law 333 = .ok (.iaload, 1) := by decide +kernel
theorem d_Law_law_334 : decode b_Law_law 334 = .ok (.aload_n 0, 1) := by decide +kernel
theorem d_Law_law_335 : decode b_Law_law 335 = .ok (.iload 4, 2) := by decide +kernel
theorem d_Law_law_337 : decode b_Law_law 337 = .ok (.iconst 2, 1) := by decide +kernel
theorem d_Law_law_338 : decode b_Law_law 338 = .ok (.iadd, 1) := by decide +kernel
theorem d_Law_law_339 : decode b_Law_law 339 = .ok (.iaload, 1) := by decide +kernel
theorem d_Law_law_340 : decode b_Law_law 340 = .ok (.i2l, 1) := by decide +kernel
theorem d_Law_law_341 : decode b_Law_law 341 = .ok (.bipush 32, 2) := by decide +kernel
theorem d_Law_law_343 : decode b_Law_law 343 = .ok (.lshl, 1) := by decide +kernel
theorem d_Law_law_344 : decode b_Law_law 344 = .ok (.aload_n 0, 1) := by decide +kernel
theorem d_Law_law_345 : decode b_Law_law 345 = .ok (.iload 4, 2) := by decide +kernel
theorem d_Law_law_347 : decode b_Law_law 347 = .ok (.iconst 3, 1) := by decide +kernel
theorem d_Law_law_348 : decode b_Law_law 348 = .ok (.iadd, 1) := by decide +kernel
theorem d_Law_law_349 : decode b_Law_law 349 = .ok (.iaload, 1) := by decide +kernel
theorem d_Law_law_350 : decode b_Law_law 350 = .ok (.i2l, 1) := by decide +kernel
theorem d_Law_law_351 : decode b_Law_law 351 = .ok (.ldc2_w 89, 3) := by decide +kernel
theorem d_Law_law_354 : decode b_Law_law 354 = .ok (.land, 1) := by decide +kernel
theorem d_Law_law_355 : decode b_Law_law 355 = .ok (.lor, 1) := by decide +kernel
theorem d_Law_law_356 : decode b_Law_law 356 = .ok (.aload_n 0, 1) := by decide +kernel
theorem d_Law_law_357 : decode b_Law_law 357 = .ok (.iload 4, 2) := by decide +kernel
theorem d_Law_law_359 : decode b_Law_law 359 = .ok (.iconst 4, 1) := by decide +kernel
theorem d_Law_law_360 : decode b_Law_law 360 = .ok (.iadd, 1) := by decide +kernel
theorem d_Law_law_361 : decode b_Law_law 361 = .ok (.iaload, 1) := by decide +kernel
theorem d_Law_law_362 : decode b_Law_law 362 = .ok (.i2l, 1) := by decide +kernel
theorem d_Law_law_363 : decode b_Law_law 363 = .ok (.bipush 32, 2) := by decide +kernel
theorem d_Law_law_365 : decode b_Law_law 365 = .ok (.lshl, 1) := by decide +kernel
theorem d_Law_law_366 : decode b_Law_law 366 = .ok (.aload_n 0, 1) := by decide +kernel
theorem d_Law_law_367 : decode b_Law_law 367 = .ok (.iload 4, 2) := by decide +kernel
theorem d_Law_law_369 : decode b_Law_law 369 = .ok (.iconst 5, 1) := by decide +kernel
theorem d_Law_law_370 : decode b_Law_law 370 = .ok (.iadd, 1) := by decide +kernel
theorem d_Law_law_371 : decode b_Law_law 371 = .ok (.iaload, 1) := by decide +kernel
theorem d_Law_law_372 : decode b_Law_law 372 = .ok (.i2l, 1) := by decide +kernel
theorem d_Law_law_373 : decode b_Law_law 373 = .ok (.ldc2_w 89, 3) := by decide +kernel
theorem d_Law_law_376 : decode b_Law_law 376 = .ok (.land, 1) := by decide +kernel
theorem d_Law_law_377 : decode b_Law_law 377 = .ok (.lor, 1) := by decide +kernel
theorem d_Law_law_378 : decode b_Law_law 378 = .ok (.invokevirtual 94, 3) := by decide +kernel
theorem d_Law_law_381 : decode b_Law_law 381 = .ok (.istore 6, 2) := by decide +kernel
theorem d_Law_law_383 : decode b_Law_law 383 = .ok (.aload_n 2, 1) := by decide +kernel
theorem d_Law_law_384 : decode b_Law_law 384 = .ok (.invokevirtual 81, 3) := by decide +kernel
theorem d_Law_law_387 : decode b_Law_law 387 = .ok (.iload 5, 2) := by decide +kernel
theorem d_Law_law_389 : decode b_Law_law 389 = .ok (.if_icmp .eq 5, 3) := by decide +kernel
theorem d_Law_law_392 : decode b_Law_law 392 = .ok (.iconst 0, 1) := by decide +kernel
theorem d_Law_law_393 : decode b_Law_law 393 = .ok (.ireturn, 1) := by decide +kernel
theorem d_Law_law_394 : decode b_Law_law 394 = .ok (.iload 5, 2) := by decide +kernel
theorem d_Law_law_396 : decode b_Law_law 396 = .ok (.ifCond .ne 15, 3) := by decide +kernel
theorem d_Law_law_399 : decode b_Law_law 399 = .ok (.aload_n 3, 1) := by decide +kernel
theorem d_Law_law_400 : decode b_Law_law 400 = .ok (.iconst 0, 1) := by decide +kernel
theorem d_Law_law_401 : decode b_Law_law 401 = .ok (.laload, 1) := by decide +kernel
theorem d_Law_law_402 : decode b_Law_law 402 = .ok (.iload 6, 2) := by decide +kernel
theorem d_Law_law_404 : decode b_Law_law 404 = .ok (.i2l, 1) := by decide +kernel
theorem d_Law_law_405 : decode b_Law_law 405 = .ok (.lcmp, 1) := by decide +kernel
theorem d_Law_law_406 : decode b_Law_law 406 = .ok (.ifCond .eq 5, 3) := by decide +kernel
theorem d_Law_law_409 : decode b_Law_law 409 = .ok (.iconst 0, 1) := by decide +kernel
theorem d_Law_law_410 : decode b_Law_law 410 = .ok (.ireturn, 1) := by decide +kernel
theorem d_Law_law_411 : decode b_Law_law 411 = .ok (.goto 856, 3) := by decide +kernel
theorem d_Law_law_414 : decode b_Law_law 414 = .ok (.aload_n 1, 1) := by decide +kernel
theorem d_Law_law_415 : decode b_Law_law 415 = .ok (.aload_n 0, 1) := by decide +kernel
theorem d_Law_law_416 : decode b_Law_law 416 = .ok (.iload 4, 2) := by decide +kernel
theorem d_Law_law_418 : decode b_Law_law 418 = .ok (.iconst 1, 1) := by decide +kernel
theorem d_Law_law_419 : decode b_Law_law 419 = .ok (.iadd, 1) := by decide +kernel
theorem d_Law_law_420 : decode b_Law_law 420 = .ok (.iaload, 1) := by decide +kernel
theorem d_Law_law_421 : decode b_Law_law 421 = .ok (.aload_n 0, 1) := by decide +kernel
theorem d_Law_law_422 : decode b_Law_law 422 = .ok (.iload 4, 2) := by decide +kernel
theorem d_Law_law_424 : decode b_Law_law 424 = .ok (.iconst 2, 1) := by decide +kernel
theorem d_Law_law_425 : decode b_Law_law 425 = .ok (.iadd, 1) := by decide +kernel
theorem d_Law_law_426 : decode b_Law_law 426 = .ok (.iaload, 1) := by decide +kernel
theorem d_Law_law_427 : decode b_Law_law 427 = .ok (.aload_n 3, 1) := by decide +kernel
theorem d_Law_law_428 : decode b_Law_law 428 = .ok (.invokestatic 95, 3) := by decide +kernel
theorem d_Law_law_431 : decode b_Law_law 431 = .ok (.istore 5, 2) := by decide +kernel
theorem d_Law_law_433 : decode b_Law_law 433 = .ok (.aload_n 2, 1) := by decide +kernel
theorem d_Law_law_434 : decode b_Law_law 434 = .ok (.aload_n 0, 1) := by decide +kernel
theorem d_Law_law_435 : decode b_Law_law 435 = .ok (.iload 4, 2) := by decide +kernel
theorem d_Law_law_437 : decode b_Law_law 437 = .ok (.iconst 1, 1) := by decide +kernel
theorem d_Law_law_438 : decode b_Law_law 438 = .ok (.iadd, 1) := by decide +kernel
theorem d_Law_law_439 : decode b_Law_law 439 = .ok (.iaload, 1) := by decide +kernel
theorem d_Law_law_440 : decode b_Law_law 440 = .ok (.aload_n 0, 1) := by decide +kernel
theorem d_Law_law_441 : decode b_Law_law 441 = .ok (.iload 4, 2) := by decide +kernel
theorem d_Law_law_443 : decode b_Law_law 443 = .ok (.iconst 2, 1) := by decide +kernel
theorem d_Law_law_444 : decode b_Law_law 444 = .ok (.iadd, 1) := by decide +kernel
theorem d_Law_law_445 : decode b_Law_law 445 = .ok (.iaload, 1) := by decide +kernel
theorem d_Law_law_446 : decode b_Law_law 446 = .ok (.invokevirtual 97, 3) := by decide +kernel
theorem d_Law_law_449 : decode b_Law_law 449 = .ok (.istore 6, 2) := by decide +kernel
theorem d_Law_law_451 : decode b_Law_law 451 = .ok (.aload_n 2, 1) := by decide +kernel
theorem d_Law_law_452 : decode b_Law_law 452 = .ok (.invokevirtual 81, 3) := by decide +kernel
theorem d_Law_law_455 : decode b_Law_law 455 = .ok (.iload 5, 2) := by decide +kernel
theorem d_Law_law_457 : decode b_Law_law 457 = .ok (.if_icmp .eq 5, 3) := by decide +kernel
theorem d_Law_law_460 : decode b_Law_law 460 = .ok (.iconst 0, 1) := by decide +kernel
theorem d_Law_law_461 : decode b_Law_law 461 = .ok (.ireturn, 1) := by decide +kernel
theorem d_Law_law_462 : decode b_Law_law 462 = .ok (.iload 5, 2) := by decide +kernel
theorem d_Law_law_464 : decode b_Law_law 464 = .ok (.ifCond .ne 22, 3) := by decide +kernel
theorem d_Law_law_467 : decode b_Law_law 467 = .ok (.aload_n 3, 1) := by decide +kernel
theorem d_Law_law_468 : decode b_Law_law 468 = .ok (.iconst 0, 1) := by decide +kernel
theorem d_Law_law_469 : decode b_Law_law 469 = .ok (.laload, 1) := by decide +kernel
theorem d_Law_law_470 : decode b_Law_law 470 = .ok (.iload 6, 2) := by decide +kernel
theorem d_Law_law_472 : decode b_Law_law 472 = .ok (.ifCond .eq 7, 3) := by decide +kernel
theorem d_Law_law_475 : decode b_Law_law 475 = .ok (.lconst 1, 1) := by decide +kernel
theorem d_Law_law_476 : decode b_Law_law 476 = .ok (.goto 4, 3) := by decide +kernel
theorem d_Law_law_479 : decode b_Law_law 479 = .ok (.lconst 0, 1) := by decide +kernel
theorem d_Law_law_480 : decode b_Law_law 480 = .ok (.lcmp, 1) := by decide +kernel
theorem d_Law_law_481 : decode b_Law_law 481 = .ok (.ifCond .eq 5, 3) := by decide +kernel
theorem d_Law_law_484 : decode b_Law_law 484 = .ok (.iconst 0, 1) := by decide +kernel
theorem d_Law_law_485 : decode b_Law_law 485 = .ok (.ireturn, 1) := by decide +kernel
theorem d_Law_law_486 : decode b_Law_law 486 = .ok (.goto 781, 3) := by decide +kernel
theorem d_Law_law_489 : decode b_Law_law 489 = .ok (.aload_n 1, 1) := by decide +kernel
theorem d_Law_law_490 : decode b_Law_law 490 = .ok (.aload_n 0, 1) := by decide +kernel
theorem d_Law_law_491 : decode b_Law_law 491 = .ok (.iload 4, 2) := by decide +kernel
theorem d_Law_law_493 : decode b_Law_law 493 = .ok (.iconst 1, 1) := by decide +kernel
theorem d_Law_law_494 : decode b_Law_law 494 = .ok (.iadd, 1) := by decide +kernel
theorem d_Law_law_495 : decode b_Law_law 495 = .ok (.iaload, 1) := by decide +kernel
theorem d_Law_law_496 : decode b_Law_law 496 = .ok (.aload_n 0, 1) := by decide +kernel
theorem d_Law_law_497 : decode b_Law_law 497 = .ok (.iload 4, 2) := by decide +kernel
theorem d_Law_law_499 : decode b_Law_law 499 = .ok (.iconst 2, 1) := by decide +kernel
theorem d_Law_law_500 : decode b_Law_law 500 = .ok (.iadd, 1) := by decide +kernel
theorem d_Law_law_501 : decode b_Law_law 501 = .ok (.iaload, 1) := by decide +kernel
theorem d_Law_law_502 : decode b_Law_law 502 = .ok (.aload_n 0, 1) := by decide +kernel
theorem d_Law_law_503 : decode b_Law_law 503 = .ok (.iload 4, 2) := by decide +kernel
theorem d_Law_law_505 : decode b_Law_law 505 = .ok (.iconst 3, 1) := by decide +kernel
theorem d_Law_law_506 : decode b_Law_law 506 = .ok (.iadd, 1) := by decide +kernel
theorem d_Law_law_507 : decode b_Law_law 507 = .ok (.iaload, 1) := by decide +kernel
theorem d_Law_law_508 : decode b_Law_law 508 = .ok (.i2l, 1) := by decide +kernel
theorem d_Law_law_509 : decode b_Law_law 509 = .ok (.bipush 32, 2) := by decide +kernel
theorem d_Law_law_511 : decode b_Law_law 511 = .ok (.lshl, 1) := by decide +kernel
theorem d_Law_law_512 : decode b_Law_law 512 = .ok (.aload_n 0, 1) := by decide +kernel
theorem d_Law_law_513 : decode b_Law_law 513 = .ok (.iload 4, 2) := by decide +kernel
theorem d_Law_law_515 : decode b_Law_law 515 = .ok (.iconst 4, 1) := by decide +kernel
theorem d_Law_law_516 : decode b_Law_law 516 = .ok (.iadd, 1) := by decide +kernel
theorem d_Law_law_517 : decode b_Law_law 517 = .ok (.iaload, 1) := by decide +kernel
theorem d_Law_law_518 : decode b_Law_law 518 = .ok (.i2l, 1) := by decide +kernel
theorem d_Law_law_519 : decode b_Law_law 519 = .ok (.ldc2_w 89, 3) := by decide +kernel
theorem d_Law_law_522 : decode b_Law_law 522 = .ok (.land, 1) := by decide +kernel
theorem d_Law_law_523 : decode b_Law_law 523 = .ok (.lor, 1) := by decide +kernel
theorem d_Law_law_524 : decode b_Law_law 524 = .ok (.aload_n 3, 1) := by decide +kernel
theorem d_Law_law_525 : decode b_Law_law 525 = .ok (.invokestatic 98, 3) := by decide +kernel
theorem d_Law_law_528 : decode b_Law_law 528 = .ok (.istore 5, 2) := by decide +kernel
theorem d_Law_law_530 : decode b_Law_law 530 = .ok (.aload_n 2, 1) := by decide +kernel
theorem d_Law_law_531 : decode b_Law_law 531 = .ok (.aload_n 0, 1) := by decide +kernel
theorem d_Law_law_532 : decode b_Law_law 532 = .ok (.iload 4, 2) := by decide +kernel
theorem d_Law_law_534 : decode b_Law_law 534 = .ok (.iconst 1, 1) := by decide +kernel
theorem d_Law_law_535 : decode b_Law_law 535 = .ok (.iadd, 1) := by decide +kernel
theorem d_Law_law_536 : decode b_Law_law 536 = .ok (.iaload, 1) := by decide +kernel
theorem d_Law_law_537 : decode b_Law_law 537 = .ok (.aload_n 0, 1) := by decide +kernel
theorem d_Law_law_538 : decode b_Law_law 538 = .ok (.iload 4, 2) := by decide +kernel
theorem d_Law_law_540 : decode b_Law_law 540 = .ok (.iconst 2, 1) := by decide +kernel
theorem d_Law_law_541 : decode b_Law_law 541 = .ok (.iadd, 1) := by decide +kernel
theorem d_Law_law_542 : decode b_Law_law 542 = .ok (.iaload, 1) := by decide +kernel
theorem d_Law_law_543 : decode b_Law_law 543 = .ok (.aload_n 0, 1) := by decide +kernel
theorem d_Law_law_544 : decode b_Law_law 544 = .ok (.iload 4, 2) := by decide +kernel
theorem d_Law_law_546 : decode b_Law_law 546 = .ok (.iconst 3, 1) := by decide +kernel
theorem d_Law_law_547 : decode b_Law_law 547 = .ok (.iadd, 1) := by decide +kernel
theorem d_Law_law_548 : decode b_Law_law 548 = .ok (.iaload, 1) := by decide +kernel
theorem d_Law_law_549 : decode b_Law_law 549 = .ok (.i2l, 1) := by decide +kernel
theorem d_Law_law_550 : decode b_Law_law 550 = .ok (.bipush 32, 2) := by decide +kernel
theorem d_Law_law_552 : decode b_Law_law 552 = .ok (.lshl, 1) := by decide +kernel
theorem d_Law_law_553 : decode b_Law_law 553 = .ok (.aload_n 0, 1) := by decide +kernel
theorem d_Law_law_554 : decode b_Law_law 554 = .ok (.iload 4, 2) := by decide +kernel
theorem d_Law_law_556 : decode b_Law_law 556 = .ok (.iconst 4, 1) := by decide +kernel
theorem d_Law_law_557 : decode b_Law_law 557 = .ok (.iadd, 1) := by decide +kernel
theorem d_Law_law_558 : decode b_Law_law 558 = .ok (.iaload, 1) := by decide +kernel
theorem d_Law_law_559 : decode b_Law_law 559 = .ok (.i2l, 1) := by decide +kernel
theorem d_Law_law_560 : decode b_Law_law 560 = .ok (.ldc2_w 89, 3) := by decide +kernel
theorem d_Law_law_563 : decode b_Law_law 563 = .ok (.land, 1) := by decide +kernel
theorem d_Law_law_564 : decode b_Law_law 564 = .ok (.lor, 1) := by decide +kernel
theorem d_Law_law_565 : decode b_Law_law 565 = .ok (.invokevirtual 101, 3) := by decide +kernel
theorem d_Law_law_568 : decode b_Law_law 568 = .ok (.istore 6, 2) := by decide +kernel
theorem d_Law_law_570 : decode b_Law_law 570 = .ok (.aload_n 2, 1) := by decide +kernel
theorem d_Law_law_571 : decode b_Law_law 571 = .ok (.invokevirtual 81, 3) := by decide +kernel
theorem d_Law_law_574 : decode b_Law_law 574 = .ok (.iload 5, 2) := by decide +kernel
theorem d_Law_law_576 : decode b_Law_law 576 = .ok (.if_icmp .eq 5, 3) := by decide +kernel
theorem d_Law_law_579 : decode b_Law_law 579 = .ok (.iconst 0, 1) := by decide +kernel
theorem d_Law_law_580 : decode b_Law_law 580 = .ok (.ireturn, 1) := by decide +kernel
theorem d_Law_law_581 : decode b_Law_law 581 = .ok (.iload 5, 2) := by decide +kernel
theorem d_Law_law_583 : decode b_Law_law 583 = .ok (.ifCond .ne 22, 3) := by decide +kernel
theorem d_Law_law_586 : decode b_Law_law 586 = .ok (.aload_n 3, 1) := by decide +kernel
theorem d_Law_law_587 : decode b_Law_law 587 = .ok (.iconst 0, 1) := by decide +kernel
theorem d_Law_law_588 : decode b_Law_law 588 = .ok (.laload, 1) := by decide +kernel
theorem d_Law_law_589 : decode b_Law_law 589 = .ok (.iload 6, 2) := by decide +kernel
theorem d_Law_law_591 : decode b_Law_law 591 = .ok (.ifCond .eq 7, 3) := by decide +kernel
theorem d_Law_law_594 : decode b_Law_law 594 = .ok (.lconst 1, 1) := by decide +kernel
theorem d_Law_law_595 : decode b_Law_law 595 = .ok (.goto 4, 3) := by decide +kernel
theorem d_Law_law_598 : decode b_Law_law 598 = .ok (.lconst 0, 1) := by decide +kernel
theorem d_Law_law_599 : decode b_Law_law 599 = .ok (.lcmp, 1) := by decide +kernel
theorem d_Law_law_600 : decode b_Law_law 600 = .ok (.ifCond .eq 5, 3) := by decide +kernel
theorem d_Law_law_603 : decode b_Law_law 603 = .ok (.iconst 0, 1) := by decide +kernel
theorem d_Law_law_604 : decode b_Law_law 604 = .ok (.ireturn, 1) := by decide +kernel
theorem d_Law_law_605 : decode b_Law_law 605 = .ok (.goto 662, 3) := by decide +kernel
theorem d_Law_law_608 : decode b_Law_law 608 = .ok (.aload_n 1, 1) := by decide +kernel
theorem d_Law_law_609 : decode b_Law_law 609 = .ok (.aload_n 0, 1) := by decide +kernel
theorem d_Law_law_610 : decode b_Law_law 610 = .ok (.iload 4, 2) := by decide +kernel
theorem d_Law_law_612 : decode b_Law_law 612 = .ok (.iconst 1, 1) := by decide +kernel
theorem d_Law_law_613 : decode b_Law_law 613 = .ok (.iadd, 1) := by decide +kernel
theorem d_Law_law_614 : decode b_Law_law 614 = .ok (.iaload, 1) := by decide +kernel
theorem d_Law_law_615 : decode b_Law_law 615 = .ok (.aload_n 0, 1) := by decide +kernel
theorem d_Law_law_616 : decode b_Law_law 616 = .ok (.iload 4, 2) := by decide +kernel
theorem d_Law_law_618 : decode b_Law_law 618 = .ok (.iconst 2, 1) := by decide +kernel
theorem d_Law_law_619 : decode b_Law_law 619 = .ok (.iadd, 1) := by decide +kernel
theorem d_Law_law_620 : decode b_Law_law 620 = .ok (.iaload, 1) := by decide +kernel
theorem d_Law_law_621 : decode b_Law_law 621 = .ok (.aload_n 3, 1) := by decide +kernel
theorem d_Law_law_622 : decode b_Law_law 622 = .ok (.invokestatic 102, 3) := by decide +kernel
theorem d_Law_law_625 : decode b_Law_law 625 = .ok (.istore 5, 2) := by decide +kernel
theorem d_Law_law_627 : decode b_Law_law 627 = .ok (.aload_n 2, 1) := by decide +kernel
theorem d_Law_law_628 : decode b_Law_law 628 = .ok (.aload_n 0, 1) := by decide +kernel
theorem d_Law_law_629 : decode b_Law_law 629 = .ok (.iload 4, 2) := by decide +kernel
theorem d_Law_law_631 : decode b_Law_law 631 = .ok (.iconst 1, 1) := by decide +kernel
theorem d_Law_law_632 : decode b_Law_law 632 = .ok (.iadd, 1) := by decide +kernel
theorem d_Law_law_633 : decode b_Law_law 633 = .ok (.iaload, 1) := by decide +kernel
theorem d_Law_law_634 : decode b_Law_law 634 = .ok (.aload_n 0, 1) := by decide +kernel
theorem d_Law_law_635 : decode b_Law_law 635 = .ok (.iload 4, 2) := by decide +kernel
theorem d_Law_law_637 : decode b_Law_law 637 = .ok (.iconst 2, 1) := by decide +kernel
theorem d_Law_law_638 : decode b_Law_law 638 = .ok (.iadd, 1) := by decide +kernel
theorem d_Law_law_639 : decode b_Law_law 639 = .ok (.iaload, 1) := by decide +kernel
theorem d_Law_law_640 : decode b_Law_law 640 = .ok (.invokevirtual 104, 3) := by decide +kernel
theorem d_Law_law_643 : decode b_Law_law 643 = .ok (.istore 6, 2) := by decide +kernel
theorem d_Law_law_645 : decode b_Law_law 645 = .ok (.aload_n 2, 1) := by decide +kernel
theorem d_Law_law_646 : decode b_Law_law 646 = .ok (.invokevirtual 81, 3) := by decide +kernel
theorem d_Law_law_649 : decode b_Law_law 649 = .ok (.iload 5, 2) := by decide +kernel
theorem d_Law_law_651 : decode b_Law_law 651 = .ok (.if_icmp .eq 5, 3) := by decide +kernel
theorem d_Law_law_654 : decode b_Law_law 654 = .ok (.iconst 0, 1) := by decide +kernel
theorem d_Law_law_655 : decode b_Law_law 655 = .ok (.ireturn, 1) := by decide +kernel
theorem d_Law_law_656 : decode b_Law_law 656 = .ok (.iload 5, 2) := by decide +kernel
theorem d_Law_law_658 : decode b_Law_law 658 = .ok (.ifCond .ne 22, 3) := by decide +kernel
theorem d_Law_law_661 : decode b_Law_law 661 = .ok (.aload_n 3, 1) := by decide +kernel
theorem d_Law_law_662 : decode b_Law_law 662 = .ok (.iconst 0, 1) := by decide +kernel
theorem d_Law_law_663 : decode b_Law_law 663 = .ok (.laload, 1) := by decide +kernel
theorem d_Law_law_664 : decode b_Law_law 664 = .ok (.iload 6, 2) := by decide +kernel
theorem d_Law_law_666 : decode b_Law_law 666 = .ok (.ifCond .eq 7, 3) := by decide +kernel
theorem d_Law_law_669 : decode b_Law_law 669 = .ok (.lconst 1, 1) := by decide +kernel
theorem d_Law_law_670 : decode b_Law_law 670 = .ok (.goto 4, 3) := by decide +kernel
theorem d_Law_law_673 : decode b_Law_law 673 = .ok (.lconst 0, 1) := by decide +kernel
theorem d_Law_law_674 : decode b_Law_law 674 = .ok (.lcmp, 1) := by decide +kernel
theorem d_Law_law_675 : decode b_Law_law 675 = .ok (.ifCond .eq 5, 3) := by decide +kernel
theorem d_Law_law_678 : decode b_Law_law 678 = .ok (.iconst 0, 1) := by decide +kernel
theorem d_Law_law_679 : decode b_Law_law 679 = .ok (.ireturn, 1) := by decide +kernel
theorem d_Law_law_680 : decode b_Law_law 680 = .ok (.goto 587, 3) := by decide +kernel
theorem d_Law_law_683 : decode b_Law_law 683 = .ok (.aload_n 1, 1) := by decide +kernel
theorem d_Law_law_684 : decode b_Law_law 684 = .ok (.aload_n 0, 1) := by decide +kernel
theorem d_Law_law_685 : decode b_Law_law 685 = .ok (.iload 4, 2) := by decide +kernel
theorem d_Law_law_687 : decode b_Law_law 687 = .ok (.iconst 1, 1) := by decide +kernel
theorem d_Law_law_688 : decode b_Law_law 688 = .ok (.iadd, 1) := by decide +kernel
theorem d_Law_law_689 : decode b_Law_law 689 = .ok (.iaload, 1) := by decide +kernel
theorem d_Law_law_690 : decode b_Law_law 690 = .ok (.aload_n 0, 1) := by decide +kernel
theorem d_Law_law_691 : decode b_Law_law 691 = .ok (.iload 4, 2) := by decide +kernel
theorem d_Law_law_693 : decode b_Law_law 693 = .ok (.iconst 2, 1) := by decide +kernel
theorem d_Law_law_694 : decode b_Law_law 694 = .ok (.iadd, 1) := by decide +kernel
theorem d_Law_law_695 : decode b_Law_law 695 = .ok (.iaload, 1) := by decide +kernel
theorem d_Law_law_696 : decode b_Law_law 696 = .ok (.ifCond .eq 7, 3) := by decide +kernel
theorem d_Law_law_699 : decode b_Law_law 699 = .ok (.iconst 1, 1) := by decide +kernel
theorem d_Law_law_700 : decode b_Law_law 700 = .ok (.goto 4, 3) := by decide +kernel
theorem d_Law_law_703 : decode b_Law_law 703 = .ok (.iconst 0, 1) := by decide +kernel
theorem d_Law_law_704 : decode b_Law_law 704 = .ok (.aload_n 3, 1) := by decide +kernel
theorem d_Law_law_705 : decode b_Law_law 705 = .ok (.invokestatic 105, 3) := by decide +kernel
theorem d_Law_law_708 : decode b_Law_law 708 = .ok (.istore 5, 2) := by decide +kernel
theorem d_Law_law_710 : decode b_Law_law 710 = .ok (.aload_n 2, 1) := by decide +kernel
theorem d_Law_law_711 : decode b_Law_law 711 = .ok (.aload_n 0, 1) := by decide +kernel
theorem d_Law_law_712 : decode b_Law_law 712 = .ok (.iload 4, 2) := by decide +kernel
theorem d_Law_law_714 : decode b_Law_law 714 = .ok (.iconst 1, 1) := by decide +kernel
theorem d_Law_law_715 : decode b_Law_law 715 = .ok (.iadd, 1) := by decide +kernel
theorem d_Law_law_716 : decode b_Law_law 716 = .ok (.iaload, 1) := by decide +kernel
theorem d_Law_law_717 : decode b_Law_law 717 = .ok (.aload_n 0, 1) := by decide +kernel
theorem d_Law_law_718 : decode b_Law_law 718 = .ok (.iload 4, 2) := by decide +kernel
theorem d_Law_law_720 : decode b_Law_law 720 = .ok (.iconst 2, 1) := by decide +kernel
theorem d_Law_law_721 : decode b_Law_law 721 = .ok (.iadd, 1) := by decide +kernel
theorem d_Law_law_722 : decode b_Law_law 722 = .ok (.iaload, 1) := by decide +kernel
theorem d_Law_law_723 : decode b_Law_law 723 = .ok (.ifCond .eq 7, 3) := by decide +kernel
theorem d_Law_law_726 : decode b_Law_law 726 = .ok (.iconst 1, 1) := by decide +kernel
theorem d_Law_law_727 : decode b_Law_law 727 = .ok (.goto 4, 3) := by decide +kernel
theorem d_Law_law_730 : decode b_Law_law 730 = .ok (.iconst 0, 1) := by decide +kernel
theorem d_Law_law_731 : decode b_Law_law 731 = .ok (.invokevirtual 108, 3) := by decide +kernel
theorem d_Law_law_734 : decode b_Law_law 734 = .ok (.istore 6, 2) := by decide +kernel
theorem d_Law_law_736 : decode b_Law_law 736 = .ok (.aload_n 2, 1) := by decide +kernel
theorem d_Law_law_737 : decode b_Law_law 737 = .ok (.invokevirtual 81, 3) := by decide +kernel
theorem d_Law_law_740 : decode b_Law_law 740 = .ok (.iload 5, 2) := by decide +kernel
theorem d_Law_law_742 : decode b_Law_law 742 = .ok (.if_icmp .eq 5, 3) := by decide +kernel
theorem d_Law_law_745 : decode b_Law_law 745 = .ok (.iconst 0, 1) := by decide +kernel
theorem d_Law_law_746 : decode b_Law_law 746 = .ok (.ireturn, 1) := by decide +kernel
theorem d_Law_law_747 : decode b_Law_law 747 = .ok (.iload 5, 2) := by decide +kernel
theorem d_Law_law_749 : decode b_Law_law 749 = .ok (.ifCond .ne 22, 3) := by decide +kernel
theorem d_Law_law_752 : decode b_Law_law 752 = .ok (.aload_n 3, 1) := by decide +kernel
theorem d_Law_law_753 : decode b_Law_law 753 = .ok (.iconst 0, 1) := by decide +kernel
theorem d_Law_law_754 : decode b_Law_law 754 = .ok (.laload, 1) := by decide +kernel
theorem d_Law_law_755 : decode b_Law_law 755 = .ok (.iload 6, 2) := by decide +kernel
theorem d_Law_law_757 : decode b_Law_law 757 = .ok (.ifCond .eq 7, 3) := by decide +kernel
theorem d_Law_law_760 : decode b_Law_law 760 = .ok (.lconst 1, 1) := by decide +kernel
theorem d_Law_law_761 : decode b_Law_law 761 = .ok (.goto 4, 3) := by decide +kernel
theorem d_Law_law_764 : decode b_Law_law 764 = .ok (.lconst 0, 1) := by decide +kernel
theorem d_Law_law_765 : decode b_Law_law 765 = .ok (.lcmp, 1) := by decide +kernel
theorem d_Law_law_766 : decode b_Law_law 766 = .ok (.ifCond .eq 5, 3) := by decide +kernel
theorem d_Law_law_769 : decode b_Law_law 769 = .ok (.iconst 0, 1) := by decide +kernel
theorem d_Law_law_770 : decode b_Law_law 770 = .ok (.ireturn, 1) := by decide +kernel
theorem d_Law_law_771 : decode b_Law_law 771 = .ok (.goto 496, 3) := by decide +kernel
theorem d_Law_law_774 : decode b_Law_law 774 = .ok (.aload_n 1, 1) := by decide +kernel
theorem d_Law_law_775 : decode b_Law_law 775 = .ok (.aload_n 0, 1) := by decide +kernel
theorem d_Law_law_776 : decode b_Law_law 776 = .ok (.iload 4, 2) := by decide +kernel
theorem d_Law_law_778 : decode b_Law_law 778 = .ok (.iconst 1, 1) := by decide +kernel
theorem d_Law_law_779 : decode b_Law_law 779 = .ok (.iadd, 1) := by decide +kernel
theorem d_Law_law_780 : decode b_Law_law 780 = .ok (.iaload, 1) := by decide +kernel
theorem d_Law_law_781 : decode b_Law_law 781 = .ok (.aload_n 0, 1) := by decide +kernel
theorem d_Law_law_782 : decode b_Law_law 782 = .ok (.iload 4, 2) := by decide +kernel
theorem d_Law_law_784 : decode b_Law_law 784 = .ok (.iconst 2, 1) := by decide +kernel
theorem d_Law_law_785 : decode b_Law_law 785 = .ok (.iadd, 1) := by decide +kernel
theorem d_Law_law_786 : decode b_Law_law 786 = .ok (.iaload, 1) := by decide +kernel
theorem d_Law_law_787 : decode b_Law_law 787 = .ok (.aload_n 3, 1) := by decide +kernel
theorem d_Law_law_788 : decode b_Law_law 788 = .ok (.invokestatic 109, 3) := by decide +kernel
theorem d_Law_law_791 : decode b_Law_law 791 = .ok (.istore 5, 2) := by decide +kernel
theorem d_Law_law_793 : decode b_Law_law 793 = .ok (.aload_n 2, 1) := by decide +kernel
theorem d_Law_law_794 : decode b_Law_law 794 = .ok (.aload_n 0, 1) := by decide +kernel
theorem d_Law_law_795 : decode b_Law_law 795 = .ok (.iload 4, 2) := by decide +kernel
theorem d_Law_law_797 : decode b_Law_law 797 = .ok (.iconst 1, 1) := by decide +kernel
theorem d_Law_law_798 : decode b_Law_law 798 = .ok (.iadd, 1) := by decide +kernel
theorem d_Law_law_799 : decode b_Law_law 799 = .ok (.iaload, 1) := by decide +kernel
theorem d_Law_law_800 : decode b_Law_law 800 = .ok (.aload_n 0, 1) := by decide +kernel
theorem d_Law_law_801 : decode b_Law_law 801 = .ok (.iload 4, 2) := by decide +kernel
theorem d_Law_law_803 : decode b_Law_law 803 = .ok (.iconst 2, 1) := by decide +kernel
theorem d_Law_law_804 : decode b_Law_law 804 = .ok (.iadd, 1) := by decide +kernel
theorem d_Law_law_805 : decode b_Law_law 805 = .ok (.iaload, 1) := by decide +kernel
theorem d_Law_law_806 : decode b_Law_law 806 = .ok (.invokevirtual 111, 3) := by decide +kernel
theorem d_Law_law_809 : decode b_Law_law 809 = .ok (.istore 6, 2) := by decide +kernel
theorem d_Law_law_811 : decode b_Law_law 811 = .ok (.aload_n 2, 1) := by decide +kernel
theorem d_Law_law_812 : decode b_Law_law 812 = .ok (.invokevirtual 81, 3) := by decide +kernel
theorem d_Law_law_815 : decode b_Law_law 815 = .ok (.iload 5, 2) := by decide +kernel
theorem d_Law_law_817 : decode b_Law_law 817 = .ok (.if_icmp .eq 5, 3) := by decide +kernel
theorem d_Law_law_820 : decode b_Law_law 820 = .ok (.iconst 0, 1) := by decide +kernel
theorem d_Law_law_821 : decode b_Law_law 821 = .ok (.ireturn, 1) := by decide +kernel
theorem d_Law_law_822 : decode b_Law_law 822 = .ok (.iload 5, 2) := by decide +kernel
theorem d_Law_law_824 : decode b_Law_law 824 = .ok (.ifCond .ne 22, 3) := by decide +kernel
theorem d_Law_law_827 : decode b_Law_law 827 = .ok (.aload_n 3, 1) := by decide +kernel
theorem d_Law_law_828 : decode b_Law_law 828 = .ok (.iconst 0, 1) := by decide +kernel
theorem d_Law_law_829 : decode b_Law_law 829 = .ok (.laload, 1) := by decide +kernel
theorem d_Law_law_830 : decode b_Law_law 830 = .ok (.iload 6, 2) := by decide +kernel
theorem d_Law_law_832 : decode b_Law_law 832 = .ok (.ifCond .eq 7, 3) := by decide +kernel
theorem d_Law_law_835 : decode b_Law_law 835 = .ok (.lconst 1, 1) := by decide +kernel
theorem d_Law_law_836 : decode b_Law_law 836 = .ok (.goto 4, 3) := by decide +kernel
theorem d_Law_law_839 : decode b_Law_law 839 = .ok (.lconst 0, 1) := by decide +kernel
theorem d_Law_law_840 : decode b_Law_law 840 = .ok (.lcmp, 1) := by decide +kernel
theorem d_Law_law_841 : decode b_Law_law 841 = .ok (.ifCond .eq 5, 3) := by decide +kernel
theorem d_Law_law_844 : decode b_Law_law 844 = .ok (.iconst 0, 1) := by decide +kernel
theorem d_Law_law_845 : decode b_Law_law 845 = .ok (.ireturn, 1) := by decide +kernel
theorem d_Law_law_846 : decode b_Law_law 846 = .ok (.goto 421, 3) := by decide +kernel
theorem d_Law_law_849 : decode b_Law_law 849 = .ok (.aload_n 1, 1) := by decide +kernel
theorem d_Law_law_850 : decode b_Law_law 850 = .ok (.invokevirtual 112, 3) := by decide +kernel
theorem d_Law_law_853 : decode b_Law_law 853 = .ok (.aload_n 2, 1) := by decide +kernel
theorem d_Law_law_854 : decode b_Law_law 854 = .ok (.invokevirtual 115, 3) := by decide +kernel
theorem d_Law_law_857 : decode b_Law_law 857 = .ok (.if_icmp .eq 410, 3) := by decide +kernel
theorem d_Law_law_860 : decode b_Law_law 860 = .ok (.iconst 0, 1) := by decide +kernel
theorem d_Law_law_861 : decode b_Law_law 861 = .ok (.ireturn, 1) := by decide +kernel
theorem d_Law_law_862 : decode b_Law_law 862 = .ok (.aload_n 1, 1) := by decide +kernel
theorem d_Law_law_863 : decode b_Law_law 863 = .ok (.aload_n 0, 1) := by decide +kernel
theorem d_Law_law_864 : decode b_Law_law 864 = .ok (.iload 4, 2) := by decide +kernel
theorem d_Law_law_866 : decode b_Law_law 866 = .ok (.iconst 1, 1) := by decide +kernel
theorem d_Law_law_867 : decode b_Law_law 867 = .ok (.iadd, 1) := by decide +kernel
theorem d_Law_law_868 : decode b_Law_law 868 = .ok (.iaload, 1) := by decide +kernel
theorem d_Law_law_869 : decode b_Law_law 869 = .ok (.aload_n 3, 1) := by decide +kernel
theorem d_Law_law_870 : decode b_Law_law 870 = .ok (.invokestatic 116, 3) := by decide +kernel
theorem d_Law_law_873 : decode b_Law_law 873 = .ok (.istore 5, 2) := by decide +kernel
theorem d_Law_law_875 : decode b_Law_law 875 = .ok (.aload_n 2, 1) := by decide +kernel
theorem d_Law_law_876 : decode b_Law_law 876 = .ok (.aload_n 0, 1) := by decide +kernel
theorem d_Law_law_877 : decode b_Law_law 877 = .ok (.iload 4, 2) := by decide +kernel
theorem d_Law_law_879 : decode b_Law_law 879 = .ok (.iconst 1, 1) := by decide +kernel
theorem d_Law_law_880 : decode b_Law_law 880 = .ok (.iadd, 1) := by decide +kernel
theorem d_Law_law_881 : decode b_Law_law 881 = .ok (.iaload, 1) := by decide +kernel
theorem d_Law_law_882 : decode b_Law_law 882 = .ok (.invokevirtual 118, 3) := by decide +kernel
theorem d_Law_law_885 : decode b_Law_law 885 = .ok (.istore 6, 2) := by decide +kernel
theorem d_Law_law_887 : decode b_Law_law 887 = .ok (.aload_n 2, 1) := by decide +kernel
theorem d_Law_law_888 : decode b_Law_law 888 = .ok (.invokevirtual 81, 3) := by decide +kernel
theorem d_Law_law_891 : decode b_Law_law 891 = .ok (.iload 5, 2) := by decide +kernel
theorem d_Law_law_893 : decode b_Law_law 893 = .ok (.if_icmp .eq 5, 3) := by decide +kernel
theorem d_Law_law_896 : decode b_Law_law 896 = .ok (.iconst 0, 1) := by decide +kernel
theorem d_Law_law_897 : decode b_Law_law 897 = .ok (.ireturn, 1) := by decide +kernel
theorem d_Law_law_898 : decode b_Law_law 898 = .ok (.iload 5, 2) := by decide +kernel
theorem d_Law_law_900 : decode b_Law_law 900 = .ok (.ifCond .ne 15, 3) := by decide +kernel
theorem d_Law_law_903 : decode b_Law_law 903 = .ok (.aload_n 3, 1) := by decide +kernel
theorem d_Law_law_904 : decode b_Law_law 904 = .ok (.iconst 0, 1) := by decide +kernel
theorem d_Law_law_905 : decode b_Law_law 905 = .ok (.laload, 1) := by decide +kernel
theorem d_Law_law_906 : decode b_Law_law 906 = .ok (.iload 6, 2) := by decide +kernel
theorem d_Law_law_908 : decode b_Law_law 908 = .ok (.i2l, 1) := by decide +kernel
theorem d_Law_law_909 : decode b_Law_law 909 = .ok (.lcmp, 1) := by decide +kernel
theorem d_Law_law_910 : decode b_Law_law 910 = .ok (.ifCond .eq 5, 3) := by decide +kernel
theorem d_Law_law_913 : decode b_Law_law 913 = .ok (.iconst 0, 1) := by decide +kernel
theorem d_Law_law_914 : decode b_Law_law 914 = .ok (.ireturn, 1) := by decide +kernel
theorem d_Law_law_915 : decode b_Law_law 915 = .ok (.goto 352, 3) := by decide +kernel
theorem d_Law_law_918 : decode b_Law_law 918 = .ok (.aload_n 1, 1) := by decide +kernel
theorem d_Law_law_919 : decode b_Law_law 919 = .ok (.aload_n 0, 1) := by decide +kernel
theorem d_Law_law_920 : decode b_Law_law 920 = .ok (.iload 4, 2) := by decide +kernel
theorem d_Law_law_922 : decode b_Law_law 922 = .ok (.iconst 1, 1) := by decide +kernel
theorem d_Law_law_923 : decode b_Law_law 923 = .ok (.iadd, 1) := by decide +kernel
theorem d_Law_law_924 : decode b_Law_law 924 = .ok (.iaload, 1) := by decide +kernel
theorem d_Law_law_925 : decode b_Law_law 925 = .ok (.aload_n 3, 1) := by decide +kernel
theorem d_Law_law_926 : decode b_Law_law 926 = .ok (.invokestatic 119, 3) := by decide +kernel
theorem d_Law_law_929 : decode b_Law_law 929 = .ok (.istore 5, 2) := by decide +kernel
theorem d_Law_law_931 : decode b_Law_law 931 = .ok (.aload_n 2, 1) := by decide +kernel
theorem d_Law_law_932 : decode b_Law_law 932 = .ok (.aload_n 0, 1) := by decide +kernel
theorem d_Law_law_933 : decode b_Law_law 933 = .ok (.iload 4, 2) := by decide +kernel
theorem d_Law_law_935 : decode b_Law_law 935 = .ok (.iconst 1, 1) := by decide +kernel
theorem d_Law_law_936 : decode b_Law_law 936 = .ok (.iadd, 1) := by decide +kernel
theorem d_Law_law_937 : decode b_Law_law 937 = .ok (.iaload, 1) := by decide +kernel
theorem d_Law_law_938 : decode b_Law_law 938 = .ok (.invokevirtual 121, 3) := by decide +kernel
theorem d_Law_law_941 : decode b_Law_law 941 = .ok (.istore 6, 2) := by decide +kernel
theorem d_Law_law_943 : decode b_Law_law 943 = .ok (.aload_n 2, 1) := by decide +kernel
theorem d_Law_law_944 : decode b_Law_law 944 = .ok (.invokevirtual 81, 3) := by decide +kernel
theorem d_Law_law_947 : decode b_Law_law 947 = .ok (.iload 5, 2) := by decide +kernel
theorem d_Law_law_949 : decode b_Law_law 949 = .ok (.if_icmp .eq 5, 3) := by decide +kernel
theorem d_Law_law_952 : decode b_Law_law 952 = .ok (.iconst 0, 1) := by decide +kernel
theorem d_Law_law_953 : decode b_Law_law 953 = .ok (.ireturn, 1) := by decide +kernel
theorem d_Law_law_954 : decode b_Law_law 954 = .ok (.iload 5, 2) := by decide +kernel
theorem d_Law_law_956 : decode b_Law_law 956 = .ok (.ifCond .ne 15, 3) := by decide +kernel
theorem d_Law_law_959 : decode b_Law_law 959 = .ok (.aload_n 3, 1) := by decide +kernel
theorem d_Law_law_960 : decode b_Law_law 960 = .ok (.iconst 0, 1) := by decide +kernel
theorem d_Law_law_961 : decode b_Law_law 961 = .ok (.laload, 1) := by decide +kernel
theorem d_Law_law_962 : decode b_Law_law 962 = .ok (.iload 6, 2) := by decide +kernel
theorem d_Law_law_964 : decode b_Law_law 964 = .ok (.i2l, 1) := by decide +kernel
theorem d_Law_law_965 : decode b_Law_law 965 = .ok (.lcmp, 1) := by decide +kernel
theorem d_Law_law_966 : decode b_Law_law 966 = .ok (.ifCond .eq 5, 3) := by decide +kernel
theorem d_Law_law_969 : decode b_Law_law 969 = .ok (.iconst 0, 1) := by decide +kernel
theorem d_Law_law_970 : decode b_Law_law 970 = .ok (.ireturn, 1) := by decide +kernel
theorem d_Law_law_971 : decode b_Law_law 971 = .ok (.goto 296, 3) := by decide +kernel
theorem d_Law_law_974 : decode b_Law_law 974 = .ok (.aload_n 1, 1) := by decide +kernel
theorem d_Law_law_975 : decode b_Law_law 975 = .ok (.aload_n 0, 1) := by decide +kernel
theorem d_Law_law_976 : decode b_Law_law 976 = .ok (.iload 4, 2) := by decide +kernel
theorem d_Law_law_978 : decode b_Law_law 978 = .ok (.iconst 1, 1) := by decide +kernel
theorem d_Law_law_979 : decode b_Law_law 979 = .ok (.iadd, 1) := by decide +kernel
theorem d_Law_law_980 : decode b_Law_law 980 = .ok (.iaload, 1) := by decide +kernel
theorem d_Law_law_981 : decode b_Law_law 981 = .ok (.aload_n 0, 1) := by decide +kernel
theorem d_Law_law_982 : decode b_Law_law 982 = .ok (.iload 4, 2) := by decide +kernel
theorem d_Law_law_984 : decode b_Law_law 984 = .ok (.iconst 2, 1) := by decide +kernel
theorem d_Law_law_985 : decode b_Law_law 985 = .ok (.iadd, 1) := by decide +kernel
theorem d_Law_law_986 : decode b_Law_law 986 = .ok (.iaload, 1) := by decide +kernel
theorem d_Law_law_987 : decode b_Law_law 987 = .ok (.aload_n 3, 1) := by decide +kernel
theorem d_Law_law_988 : decode b_Law_law 988 = .ok (.invokestatic 122, 3) := by decide +kernel
theorem d_Law_law_991 : decode b_Law_law 991 = .ok (.istore 5, 2) := by decide +kernel
theorem d_Law_law_993 : decode b_Law_law 993 = .ok (.aload_n 2, 1) := by decide +kernel
theorem d_Law_law_994 : decode b_Law_law 994 = .ok (.aload_n 0, 1) := by decide +kernel
theorem d_Law_law_995 : decode b_Law_law 995 = .ok (.iload 4, 2) := by decide +kernel
theorem d_Law_law_997 : decode b_Law_law 997 = .ok (.iconst 1, 1) := by decide +kernel
theorem d_Law_law_998 : decode b_Law_law 998 = .ok (.iadd, 1) := by decide +kernel
theorem d_Law_law_999 : decode b_Law_law 999 = .ok (.iaload, 1) := by decide +kernel
theorem d_Law_law_1000 : decode b_Law_law 1000 = .ok (.aload_n 0, 1) := by decide +kernel
theorem d_Law_law_1001 : decode b_Law_law 1001 = .ok (.iload 4, 2) := by decide +kernel
theorem d_Law_law_1003 : decode b_Law_law 1003 = .ok (.iconst 2, 1) := by decide +kernel
theorem d_Law_law_1004 : decode b_Law_law 1004 = .ok (.iadd, 1) := by decide +kernel
theorem d_Law_law_1005 : decode b_Law_law 1005 = .ok (.iaload, 1) := by decide +kernel
theorem d_Law_law_1006 : decode b_Law_law 1006 = .ok (.invokevirtual 124, 3) := by decide +kernel
theorem d_Law_law_1009 : decode b_Law_law 1009 = .ok (.istore 6, 2) := by decide +kernel
theorem d_Law_law_1011 : decode b_Law_law 1011 = .ok (.aload_n 2, 1) := by decide +kernel
theorem d_Law_law_1012 : decode b_Law_law 1012 = .ok (.invokevirtual 81, 3) := by decide +kernel
theorem d_Law_law_1015 : decode b_Law_law 1015 = .ok (.iload 5, 2) := by decide +kernel
theorem d_Law_law_1017 : decode b_Law_law 1017 = .ok (.if_icmp .eq 5, 3) := by decide +kernel
theorem d_Law_law_1020 : decode b_Law_law 1020 = .ok (.iconst 0, 1) := by decide +kernel
theorem d_Law_law_1021 : decode b_Law_law 1021 = .ok (.ireturn, 1) := by decide +kernel
theorem d_Law_law_1022 : decode b_Law_law 1022 = .ok (.iload 5, 2) := by decide +kernel
theorem d_Law_law_1024 : decode b_Law_law 1024 = .ok (.ifCond .ne 15, 3) := by decide +kernel
theorem d_Law_law_1027 : decode b_Law_law 1027 = .ok (.aload_n 3, 1) := by decide +kernel
theorem d_Law_law_1028 : decode b_Law_law 1028 = .ok (.iconst 0, 1) := by decide +kernel
theorem d_Law_law_1029 : decode b_Law_law 1029 = .ok (.laload, 1) := by decide +kernel
theorem d_Law_law_1030 : decode b_Law_law 1030 = .ok (.iload 6, 2) := by decide +kernel
theorem d_Law_law_1032 : decode b_Law_law 1032 = .ok (.i2l, 1) := by decide +kernel
theorem d_Law_law_1033 : decode b_Law_law 1033 = .ok (.lcmp, 1) := by decide +kernel
theorem d_Law_law_1034 : decode b_Law_law 1034 = .ok (.ifCond .eq 5, 3) := by decide +kernel
theorem d_Law_law_1037 : decode b_Law_law 1037 = .ok (.iconst 0, 1) := by decide +kernel
theorem d_Law_law_1038 : decode b_Law_law 1038 = .ok (.ireturn, 1) := by decide +kernel
theorem d_Law_law_1039 : decode b_Law_law 1039 = .ok (.goto 228, 3) := by decide +kernel
theorem d_Law_law_1042 : decode b_Law_law 1042 = .ok (.aload_n 1, 1) := by decide +kernel
theorem d_Law_law_1043 : decode b_Law_law 1043 = .ok (.aload_n 0, 1) := by decide +kernel
theorem d_Law_law_1044 : decode b_Law_law 1044 = .ok (.iload 4, 2) := by decide +kernel
theorem d_Law_law_1046 : decode b_Law_law 1046 = .ok (.iconst 1, 1) := by decide +kernel
theorem d_Law_law_1047 : decode b_Law_law 1047 = .ok (.iadd, 1) := by decide +kernel
theorem d_Law_law_1048 : decode b_Law_law 1048 = .ok (.iaload, 1) := by decide +kernel
theorem d_Law_law_1049 : decode b_Law_law 1049 = .ok (.aload_n 3, 1) := by decide +kernel
theorem d_Law_law_1050 : decode b_Law_law 1050 = .ok (.invokestatic 125, 3) := by decide +kernel
theorem d_Law_law_1053 : decode b_Law_law 1053 = .ok (.istore 5, 2) := by decide +kernel
theorem d_Law_law_1055 : decode b_Law_law 1055 = .ok (.aload_n 2, 1) := by decide +kernel
theorem d_Law_law_1056 : decode b_Law_law 1056 = .ok (.aload_n 0, 1) := by decide +kernel
theorem d_Law_law_1057 : decode b_Law_law 1057 = .ok (.iload 4, 2) := by decide +kernel
theorem d_Law_law_1059 : decode b_Law_law 1059 = .ok (.iconst 1, 1) := by decide +kernel
theorem d_Law_law_1060 : decode b_Law_law 1060 = .ok (.iadd, 1) := by decide +kernel
theorem d_Law_law_1061 : decode b_Law_law 1061 = .ok (.iaload, 1) := by decide +kernel
theorem d_Law_law_1062 : decode b_Law_law 1062 = .ok (.invokevirtual 127, 3) := by decide +kernel
theorem d_Law_law_1065 : decode b_Law_law 1065 = .ok (.lstore 6, 2) := by decide +kernel
theorem d_Law_law_1067 : decode b_Law_law 1067 = .ok (.aload_n 2, 1) := by decide +kernel
theorem d_Law_law_1068 : decode b_Law_law 1068 = .ok (.invokevirtual 81, 3) := by decide +kernel
theorem d_Law_law_1071 : decode b_Law_law 1071 = .ok (.iload 5, 2) := by decide +kernel
theorem d_Law_law_1073 : decode b_Law_law 1073 = .ok (.if_icmp .eq 5, 3) := by decide +kernel
theorem d_Law_law_1076 : decode b_Law_law 1076 = .ok (.iconst 0, 1) := by decide +kernel
theorem d_Law_law_1077 : decode b_Law_law 1077 = .ok (.ireturn, 1) := by decide +kernel
theorem d_Law_law_1078 : decode b_Law_law 1078 = .ok (.iload 5, 2) := by decide +kernel
theorem d_Law_law_1080 : decode b_Law_law 1080 = .ok (.ifCond .ne 14, 3) := by decide +kernel
theorem d_Law_law_1083 : decode b_Law_law 1083 = .ok (.aload_n 3, 1) := by decide +kernel
theorem d_Law_law_1084 : decode b_Law_law 1084 = .ok (.iconst 0, 1) := by decide +kernel
theorem d_Law_law_1085 : decode b_Law_law 1085 = .ok (.laload, 1) := by decide +kernel
theorem d_Law_law_1086 : decode b_Law_law 1086 = .ok (.lload 6, 2) := by decide +kernel
theorem d_Law_law_1088 : decode b_Law_law 1088 = .ok (.lcmp, 1) := by decide +kernel
theorem d_Law_law_1089 : decode b_Law_law 1089 = .ok (.ifCond .eq 5, 3) := by decide +kernel
theorem d_Law_law_1092 : decode b_Law_law 1092 = .ok (.iconst 0, 1) := by decide +kernel
theorem d_Law_law_1093 : decode b_Law_law 1093 = .ok (.ireturn, 1) := by decide +kernel
theorem d_Law_law_1094 : decode b_Law_law 1094 = .ok (.goto 173, 3) := by decide +kernel
theorem d_Law_law_1097 : decode b_Law_law 1097 = .ok (.aload_n 1, 1) := by decide +kernel
theorem d_Law_law_1098 : decode b_Law_law 1098 = .ok (.aload_n 0, 1) := by decide +kernel
theorem d_Law_law_1099 : decode b_Law_law 1099 = .ok (.iload 4, 2) := by decide +kernel
theorem d_Law_law_1101 : decode b_Law_law 1101 = .ok (.iconst 1, 1) := by decide +kernel
theorem d_Law_law_1102 : decode b_Law_law 1102 = .ok (.iadd, 1) := by decide +kernel
theorem d_Law_law_1103 : decode b_Law_law 1103 = .ok (.iaload, 1) := by decide +kernel
theorem d_Law_law_1104 : decode b_Law_law 1104 = .ok (.aload_n 0, 1) := by decide +kernel
theorem d_Law_law_1105 : decode b_Law_law 1105 = .ok (.iload 4, 2) := by decide +kernel
theorem d_Law_law_1107 : decode b_Law_law 1107 = .ok (.iconst 2, 1) := by decide +kernel
theorem d_Law_law_1108 : decode b_Law_law 1108 = .ok (.iadd, 1) := by decide +kernel
theorem d_Law_law_1109 : decode b_Law_law 1109 = .ok (.iaload, 1) := by decide +kernel
theorem d_Law_law_1110 : decode b_Law_law 1110 = .ok (.aload_n 3, 1) := by decide +kernel
theorem d_Law_law_1111 : decode b_Law_law 1111 = .ok (.invokestatic 128, 3) := by decide +kernel
theorem d_Law_law_1114 : decode b_Law_law 1114 = .ok (.istore 5, 2) := by decide +kernel
theorem d_Law_law_1116 : decode b_Law_law 1116 = .ok (.aload_n 2, 1) := by decide +kernel
theorem d_Law_law_1117 : decode b_Law_law 1117 = .ok (.aload_n 0, 1) := by decide +kernel
theorem d_Law_law_1118 : decode b_Law_law 1118 = .ok (.iload 4, 2) := by decide +kernel
theorem d_Law_law_1120 : decode b_Law_law 1120 = .ok (.iconst 1, 1) := by decide +kernel
theorem d_Law_law_1121 : decode b_Law_law 1121 = .ok (.iadd, 1) := by decide +kernel
theorem d_Law_law_1122 : decode b_Law_law 1122 = .ok (.iaload, 1) := by decide +kernel
theorem d_Law_law_1123 : decode b_Law_law 1123 = .ok (.aload_n 0, 1) := by decide +kernel
theorem d_Law_law_1124 : decode b_Law_law 1124 = .ok (.iload 4, 2) := by decide +kernel
theorem d_Law_law_1126 : decode b_Law_law 1126 = .ok (.iconst 2, 1) := by decide +kernel
theorem d_Law_law_1127 : decode b_Law_law 1127 = .ok (.iadd, 1) := by decide +kernel
theorem d_Law_law_1128 : decode b_Law_law 1128 = .ok (.iaload, 1) := by decide +kernel
theorem d_Law_law_1129 : decode b_Law_law 1129 = .ok (.invokevirtual 130, 3) := by decide +kernel
theorem d_Law_law_1132 : decode b_Law_law 1132 = .ok (.istore 6, 2) := by decide +kernel
theorem d_Law_law_1134 : decode b_Law_law 1134 = .ok (.aload_n 2, 1) := by decide +kernel
theorem d_Law_law_1135 : decode b_Law_law 1135 = .ok (.invokevirtual 81, 3) := by decide +kernel
theorem d_Law_law_1138 : decode b_Law_law 1138 = .ok (.iload 5, 2) := by decide +kernel
theorem d_Law_law_1140 : decode b_Law_law 1140 = .ok (.if_icmp .eq 5, 3) := by decide +kernel
theorem d_Law_law_1143 : decode b_Law_law 1143 = .ok (.iconst 0, 1) := by decide +kernel
theorem d_Law_law_1144 : decode b_Law_law 1144 = .ok (.ireturn, 1) := by decide +kernel
theorem d_Law_law_1145 : decode b_Law_law 1145 = .ok (.iload 5, 2) := by decide +kernel
theorem d_Law_law_1147 : decode b_Law_law 1147 = .ok (.ifCond .ne 15, 3) := by decide +kernel
theorem d_Law_law_1150 : decode b_Law_law 1150 = .ok (.aload_n 3, 1) := by decide +kernel
theorem d_Law_law_1151 : decode b_Law_law 1151 = .ok (.iconst 0, 1) := by decide +kernel
theorem d_Law_law_1152 : decode b_Law_law 1152 = .ok (.laload, 1) := by decide +kernel
theorem d_Law_law_1153 : decode b_Law_law 1153 = .ok (.iload 6, 2) := by decide +kernel
theorem d_Law_law_1155 : decode b_Law_law 1155 = .ok (.i2l, 1) := by decide +kernel
theorem d_Law_law_1156 : decode b_Law_law 1156 = .ok (.lcmp, 1) := by decide +kernel
theorem d_Law_law_1157 : decode b_Law_law 1157 = .ok (.ifCond .eq 5, 3) := by decide +kernel
theorem d_Law_law_1160 : decode b_Law_law 1160 = .ok (.iconst 0, 1) := by decide +kernel
theorem d_Law_law_1161 : decode b_Law_law 1161 = .ok (.ireturn, 1) := by decide +kernel
theorem d_Law_law_1162 : decode b_Law_law 1162 = .ok (.goto 105, 3) := by decide +kernel
theorem d_Law_law_1165 : decode b_Law_law 1165 = .ok (.aload_n 1, 1) := by decide +kernel
theorem d_Law_law_1166 : decode b_Law_law 1166 = .ok (.aload_n 0, 1) := by decide +kernel
theorem d_Law_law_1167 : decode b_Law_law 1167 = .ok (.iload 4, 2) := by decide +kernel
theorem d_Law_law_1169 : decode b_Law_law 1169 = .ok (.iconst 1, 1) := by decide +kernel
theorem d_Law_law_1170 : decode b_Law_law 1170 = .ok (.iadd, 1) := by decide +kernel
theorem d_Law_law_1171 : decode b_Law_law 1171 = .ok (.iaload, 1) := by decide +kernel
theorem d_Law_law_1172 : decode b_Law_law 1172 = .ok (.aload_n 0, 1) := by decide +kernel
theorem d_Law_law_1173 : decode b_Law_law 1173 = .ok (.iload 4, 2) := by decide +kernel
theorem d_Law_law_1175 : decode b_Law_law 1175 = .ok (.iconst 2, 1) := by decide +kernel
theorem d_Law_law_1176 : decode b_Law_law 1176 = .ok (.iadd, 1) := by decide +kernel
theorem d_Law_law_1177 : decode b_Law_law 1177 = .ok (.iaload, 1) := by decide +kernel
theorem d_Law_law_1178 : decode b_Law_law 1178 = .ok (.aload_n 3, 1) := by decide +kernel
theorem d_Law_law_1179 : decode b_Law_law 1179 = .ok (.invokestatic 131, 3) := by decide +kernel
theorem d_Law_law_1182 : decode b_Law_law 1182 = .ok (.istore 5, 2) := by decide +kernel
theorem d_Law_law_1184 : decode b_Law_law 1184 = .ok (.aload_n 2, 1) := by decide +kernel
theorem d_Law_law_1185 : decode b_Law_law 1185 = .ok (.aload_n 0, 1) := by decide +kernel
theorem d_Law_law_1186 : decode b_Law_law 1186 = .ok (.iload 4, 2) := by decide +kernel
theorem d_Law_law_1188 : decode b_Law_law 1188 = .ok (.iconst 1, 1) := by decide +kernel
theorem d_Law_law_1189 : decode b_Law_law 1189 = .ok (.iadd, 1) := by decide +kernel
theorem d_Law_law_1190 : decode b_Law_law 1190 = .ok (.iaload, 1) := by decide +kernel
theorem d_Law_law_1191 : decode b_Law_law 1191 = .ok (.aload_n 0, 1) := by decide +kernel
theorem d_Law_law_1192 : decode b_Law_law 1192 = .ok (.iload 4, 2) := by decide +kernel
theorem d_Law_law_1194 : decode b_Law_law 1194 = .ok (.iconst 2, 1) := by decide +kernel
theorem d_Law_law_1195 : decode b_Law_law 1195 = .ok (.iadd, 1) := by decide +kernel
theorem d_Law_law_1196 : decode b_Law_law 1196 = .ok (.iaload, 1) := by decide +kernel
theorem d_Law_law_1197 : decode b_Law_law 1197 = .ok (.invokevirtual 133, 3) := by decide +kernel
theorem d_Law_law_1200 : decode b_Law_law 1200 = .ok (.istore 6, 2) := by decide +kernel
theorem d_Law_law_1202 : decode b_Law_law 1202 = .ok (.aload_n 2, 1) := by decide +kernel
theorem d_Law_law_1203 : decode b_Law_law 1203 = .ok (.invokevirtual 81, 3) := by decide +kernel
theorem d_Law_law_1206 : decode b_Law_law 1206 = .ok (.iload 5, 2) := by decide +kernel
theorem d_Law_law_1208 : decode b_Law_law 1208 = .ok (.if_icmp .eq 5, 3) := by decide +kernel
theorem d_Law_law_1211 : decode b_Law_law 1211 = .ok (.iconst 0, 1) := by decide +kernel
theorem d_Law_law_1212 : decode b_Law_law 1212 = .ok (.ireturn, 1) := by decide +kernel
theorem d_Law_law_1213 : decode b_Law_law 1213 = .ok (.iload 5, 2) := by decide +kernel
theorem d_Law_law_1215 : decode b_Law_law 1215 = .ok (.ifCond .ne 22, 3) := by decide +kernel
theorem d_Law_law_1218 : decode b_Law_law 1218 = .ok (.aload_n 3, 1) := by decide +kernel
theorem d_Law_law_1219 : decode b_Law_law 1219 = .ok (.iconst 0, 1) := by decide +kernel
theorem d_Law_law_1220 : decode b_Law_law 1220 = .ok (.laload, 1) := by decide +kernel
theorem d_Law_law_1221 : decode b_Law_law 1221 = .ok (.iload 6, 2) := by decide +kernel
theorem d_Law_law_1223 : decode b_Law_law 1223 = .ok (.ifCond .eq 7, 3) := by decide +kernel
theorem d_Law_law_1226 : decode b_Law_law 1226 = .ok (.lconst 1, 1) := by decide +kernel
theorem d_Law_law_1227 : decode b_Law_law 1227 = .ok (.goto 4, 3) := by decide +kernel
theorem d_Law_law_1230 : decode b_Law_law 1230 = .ok (.lconst 0, 1) := by decide +kernel
theorem d_Law_law_1231 : decode b_Law_law 1231 = .ok (.lcmp, 1) := by decide +kernel
theorem d_Law_law_1232 : decode b_Law_law 1232 = .ok (.ifCond .eq 5, 3) := by decide +kernel
theorem d_Law_law_1235 : decode b_Law_law 1235 = .ok (.iconst 0, 1) := by decide +kernel
theorem d_Law_law_1236 : decode b_Law_law 1236 = .ok (.ireturn, 1) := by decide +kernel
theorem d_Law_law_1237 : decode b_Law_law 1237 = .ok (.goto 30, 3) := by decide +kernel
theorem d_Law_law_1240 : decode b_Law_law 1240 = .ok (.aload_n 1, 1) := by decide +kernel
theorem d_Law_law_1241 : decode b_Law_law 1241 = .ok (.invokevirtual 134, 3) := by decide +kernel
theorem d_Law_law_1244 : decode b_Law_law 1244 = .ok (.aload_n 2, 1) := by decide +kernel
theorem d_Law_law_1245 : decode b_Law_law 1245 = .ok (.invokevirtual 137, 3) := by decide +kernel
theorem d_Law_law_1248 : decode b_Law_law 1248 = .ok (.if_icmp .eq 19, 3) := by decide +kernel
theorem d_Law_law_1251 : decode b_Law_law 1251 = .ok (.iconst 0, 1) := by decide +kernel
theorem d_Law_law_1252 : decode b_Law_law 1252 = .ok (.ireturn, 1) := by decide +kernel
theorem d_Law_law_1253 : decode b_Law_law 1253 = .ok (.aload_n 1, 1) := by decide +kernel
theorem d_Law_law_1254 : decode b_Law_law 1254 = .ok (.invokevirtual 138, 3) := by decide +kernel
theorem d_Law_law_1257 : decode b_Law_law 1257 = .ok (.aload_n 2, 1) := by decide +kernel
theorem d_Law_law_1258 : decode b_Law_law 1258 = .ok (.invokevirtual 142, 3) := by decide +kernel
theorem d_Law_law_1261 : decode b_Law_law 1261 = .ok (.lcmp, 1) := by decide +kernel
theorem d_Law_law_1262 : decode b_Law_law 1262 = .ok (.ifCond .eq 5, 3) := by decide +kernel
theorem d_Law_law_1265 : decode b_Law_law 1265 = .ok (.iconst 0, 1) := by decide +kernel
theorem d_Law_law_1266 : decode b_Law_law 1266 = .ok (.ireturn, 1) := by decide +kernel
theorem d_Law_law_1267 : decode b_Law_law 1267 = .ok (.iinc 4 6, 3) := by decide +kernel
theorem d_Law_law_1270 : decode b_Law_law 1270 = .ok (.goto (-1237), 3) := by decide +kernel
theorem d_Law_law_1273 : decode b_Law_law 1273 = .ok (.iconst 1, 1) := by decide +kernel
theorem d_Law_law_1274 : decode b_Law_law 1274 = .ok (.ireturn, 1) := by decide +kernel
