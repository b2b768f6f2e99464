theorem d_L_law_0 : decode b_L_law 0 = .ok (.new 8, 3) := by decide +kernel
theorem d_L_law_3 : decode b_L_law 3 = .ok (.dup, 1) := by decide +kernel
theorem d_L_law_4 : decode b_L_law 4 = .ok (.invokespecial 92, 3) := by decide +kernel
theorem d_L_law_7 : decode b_L_law 7 = .ok (.astore_n 1, 1) := by decide +kernel
theorem d_L_law_8 : decode b_L_law 8 = .ok (.new 93, 3) := by decide +kernel
theorem d_L_law_11 : decode b_L_law 11 = .ok (.dup, 1) := by decide +kernel
theorem d_L_law_12 : decode b_L_law 12 = .ok (.invokespecial 95, 3) := by decide +kernel
theorem d_L_law_15 : decode b_L_law 15 = .ok (.astore_n 2, 1) := by decide +kernel
theorem d_L_law_16 : decode b_L_law 16 = .ok (.iconst 1, 1) := by decide +kernel
theorem d_L_law_17 : decode b_L_law 17 = .ok (.newarray .long, 2) := by decide +kernel
theorem d_L_law_19 : decode b_L_law 19 = .ok (.astore_n 3, 1) := by decide +kernel
theorem d_L_law_20 : decode b_L_law 20 = .ok (.iconst 0, 1) := by decide +kernel
theorem d_L_law_21 : decode b_L_law 21 = .ok (.istore 4, 2) := by decide +kernel
theorem d_L_law_23 : decode b_L_law 23 = .ok (.iload 4, 2) := by decide +kernel
theorem d_L_law_25 : decode b_L_law 25 = .ok (.aload_n 0, 1) := by decide +kernel
theorem d_L_law_26 : decode b_L_law 26 = .ok (.arraylength, 1) := by decide +kernel
theorem d_L_law_27 : decode b_L_law 27 = .ok (.bipush 6, 2) := by decide +kernel
theorem d_L_law_29 : decode b_L_law 29 = .ok (.isub, 1) := by decide +kernel
theorem d_L_law_30 : decode b_L_law 30 = .ok (.if_icmp .gt 1744, 3) := by decide +kernel
theorem d_L_law_33 : decode b_L_law 33 = .ok (.aload_n 0, 1) := by decide +kernel
theorem d_L_law_34 : decode b_L_law 34 = .ok (.iload 4, 2) := by decide +kernel
theorem d_L_law_36 : decode b_L_law 36 = .ok (.iaload, 1) := by decide +kernel
theorem d_L_law_37 : decode b_L_law 37 = .ok (.bipush 31, 2) := by decide +kernel
theorem d_L_law_39 : decode b_L_law 39 = .ok (.iand, 1) := by decide +kernel
theorem d_L_law_40 : decode b_L_law 40 = .ok (.tableswitch 1728 0 22 #[108, 152, 220, 300, 404, 484, 564, 632, 704, 717, 785, 853, 945, 1013, 1105, 1173, 1233, 1301, 1388, 1480, 1548, 1616, 1672], 108) := by decide +kernel
theorem d_L_law_148 : decode b_L_law 148 = .ok (.aload_n 1, 1) := by decide +kernel
theorem d_L_law_149 : decode b_L_law 149 = .ok (.aload_n 3, 1) := by decide +kernel
theorem d_L_law_150 : decode b_L_law 150 = .ok (.invokestatic 96, 3) := by decide +kernel
theorem d_L_law_153 : decode b_L_law 153 = .ok (.istore 5, 2) := by decide +kernel
theorem d_L_law_155 : decode b_L_law 155 = .ok (.aload_n 2, 1) := by decide +kernel
theorem d_L_law_156 : decode b_L_law 156 = .ok (.invokevirtual 101, 3) := by decide +kernel
theorem d_L_law_159 : decode b_L_law 159 = .ok (.istore 6, 2) := by decide +kernel
theorem d_L_law_161 : decode b_L_law 161 = .ok (.aload_n 2, 1) := by decide +kernel
theorem d_L_law_162 : decode b_L_law 162 = .ok (.invokevirtual 102, 3) := by decide +kernel
theorem d_L_law_165 : decode b_L_law 165 = .ok (.iload 5, 2) := by decide +kernel
theorem d_L_law_167 : decode b_L_law 167 = .ok (.if_icmp .eq 5, 3) := by decide +kernel
theorem d_L_law_170 : decode b_L_law 170 = .ok (.iconst 0, 1) := by decide +kernel
theorem d_L_law_171 : decode b_L_law 171 = .ok (.ireturn, 1) := by decide +kernel
theorem d_L_law_172 : decode b_L_law 172 = .ok (.iload 5, 2) := by decide +kernel
theorem d_L_law_174 : decode b_L_law 174 = .ok (.ifCond .ne 15, 3) := by decide +kernel
theorem d_L_law_177 : decode b_L_law 177 = .ok (.aload_n 3, 1) := by decide +kernel
theorem d_L_law_178 : decode b_L_law 178 = .ok (.iconst 0, 1) := by decide +kernel
theorem d_L_law_179 : decode b_L_law 179 = .ok (.laload, 1) := by decide +kernel
theorem d_L_law_180 : decode b_L_law 180 = .ok (.iload 6, 2) := by decide +kernel
theorem d_L_law_182 : decode b_L_law 182 = .ok (.i2l, 1) := by decide +kernel
theorem d_L_law_183 : decode b_L_law 183 = .ok (.lcmp, 1) := by decide +kernel
theorem d_L_law_184 : decode b_L_law 184 = .ok (.ifCond .eq 5, 3) := by decide +kernel
theorem d_L_law_187 : decode b_L_law 187 = .ok (.iconst 0, 1) := by decide +kernel
theorem d_L_law_188 : decode b_L_law 188 = .ok (.ireturn, 1) := by decide +kernel
theorem d_L_law_189 : decode b_L_law 189 = .ok (.goto 1579, 3) := by decide +kernel
theorem d_L_law_192 : decode b_L_law 192 = .ok (.aload_n 1, 1) := by decide +kernel
theorem d_L_law_193 : decode b_L_law 193 = .ok (.aload_n 0, 1) := by decide +kernel
theorem d_L_law_194 : decode b_L_law 194 = .ok (.iload 4, 2) := by decide +kernel
theorem d_L_law_196 : decode b_L_law 196 = .ok (.iconst 1, 1) := by decide +kernel
theorem d_L_law_197 : decode b_L_law 197 = .ok (.iadd, 1) := by decide +kernel
theorem d_L_law_198 : decode b_L_law 198 = .ok (.iaload, 1) := by decide +kernel
theorem d_L_law_199 : decode b_L_law 199 = .ok (.aload_n 0, 1) := by decide +kernel
theorem d_L_law_200 : decode b_L_law 200 = .ok (.iload 4, 2) := by decide +kernel
theorem d_L_law_202 : decode b_L_law 202 = .ok (.iconst 2, 1) := by decide +kernel
theorem d_L_law_203 : decode b_L_law 203 = .ok (.iadd, 1) := by decide +kernel
theorem d_L_law_204 : decode b_L_law 204 = .ok (.iaload, 1) := by decide +kernel
theorem d_L_law_205 : decode b_L_law 205 = .ok (.aload_n 3, 1) := by decide +kernel
theorem d_L_law_206 : decode b_L_law 206 = .ok (.invokestatic 105, 3) := by decide +kernel
theorem d_L_law_209 : decode b_L_law 209 = .ok (.istore 5, 2) := by decide +kernel
theorem d_L_law_211 : decode b_L_law 211 = .ok (.aload_n 2, 1) := by decide +kernel
theorem d_L_law_212 : decode b_L_law 212 = .ok (.aload_n 0, 1) := by decide +kernel
theorem d_L_law_213 : decode b_L_law 213 = .ok (.iload 4, 2) := by decide +kernel
theorem d_L_law_215 : decode b_L_law 215 = .ok (.iconst 1, 1) := by decide +kernel
theorem d_L_law_216 : decode b_L_law 216 = .ok (.iadd, 1) := by decide +kernel
theorem d_L_law_217 : decode b_L_law 217 = .ok (.iaload, 1) := by decide +kernel
theorem d_L_law_218 : decode b_L_law 218 = .ok (.aload_n 0, 1) := by decide +kernel
theorem d_L_law_219 : decode b_L_law 219 = .ok (.iload 4, 2) := by decide +kernel
theorem d_L_law_221 : decode b_L_law 221 = .ok (.iconst 2, 1) := by decide +kernel
theorem d_L_law_222 : decode b_L_law 222 = .ok (.iadd, 1) := by decide +kernel
theorem d_L_law_223 : decode b_L_law 223 = .ok (.iaload, 1) := by decide +kernel
theorem d_L_law_224 : decode b_L_law 224 = .ok (.invokevirtual 108, 3) := by decide +kernel
theorem d_L_law_227 : decode b_L_law 227 = .ok (.istore 6, 2) := by decide +kernel
theorem d_L_law_229 : decode b_L_law 229 = .ok (.aload_n 2, 1) := by decide +kernel
theorem d_L_law_230 : decode b_L_law 230 = .ok (.invokevirtual 102, 3) := by decide +kernel
theorem d_L_law_233 : decode b_L_law 233 = .ok (.iload 5, 2) := by decide +kernel
theorem d_L_law_235 : decode b_L_law 235 = .ok (.if_icmp .eq 5, 3) := by decide +kernel
theorem d_L_law_238 : decode b_L_law 238 = .ok (.iconst 0, 1) := by decide +kernel
theorem d_L_law_239 : decode b_L_law 239 = .ok (.ireturn, 1) := by decide +kernel
theorem d_L_law_240 : decode b_L_law 240 = .ok (.iload 5, 2) := by decide +kernel
theorem d_L_law_242 : decode b_L_law 242 = .ok (.ifCond .ne 15, 3) := by decide +kernel
theorem d_L_law_245 : decode b_L_law 245 = .ok (.aload_n 3, 1) := by decide +kernel
theorem d_L_law_246 : decode b_L_law 246 = .ok (.iconst 0, 1) := by decide +kernel
theorem d_L_law_247 : decode b_L_law 247 = .ok (.laload, 1) := by decide +kernel
theorem d_L_law_248 : decode b_L_law 248 = .ok (.iload 6, 2) := by decide +kernel
theorem d_L_law_250 : decode b_L_law 250 = .ok (.i2l, 1) := by decide +kernel
theorem d_L_law_251 : decode b_L_law 251 = .ok (.lcmp, 1) := by decide +kernel
theorem d_L_law_252 : decode b_L_law 252 = .ok (.ifCond .eq 5, 3) := by decide +kernel
theorem d_L_law_255 : decode b_L_law 255 = .ok (.iconst 0, 1) := by decide +kernel
theorem d_L_law_256 : decode b_L_law 256 = .ok (.ireturn, 1) := by decide +kernel
theorem d_L_law_257 : decode b_L_law 257 = .ok (.goto 1511, 3) := by decide +kernel
theorem d_L_law_260 : decode b_L_law 260 = .ok (.aload_n 1, 1) := by decide +kernel
theorem d_L_law_261 : decode b_L_law 261 = .ok (.aload_n 0, 1) := by decide +kernel
theorem d_L_law_262 : decode b_L_law 262 = .ok (.iload 4, 2) := by decide +kernel
theorem d_L_law_264 : decode b_L_law 264 = .ok (.iconst 1, 1) := by decide +kernel
theorem d_L_law_265 : decode b_L_law 265 = .ok (.iadd, 1) := by decide +kernel
theorem d_L_law_266 : decode b_L_law 266 = .ok (.iaload, 1) := by decide +kernel
theorem d_L_law_267 : decode b_L_law 267 = .ok (.aload_n 0, 1) := by decide +kernel
theorem d_L_law_268 : decode b_L_law 268 = .ok (.iload 4, 2) := by decide +kernel
theorem d_L_law_270 : decode b_L_law 270 = .ok (.iconst 2, 1) := by decide +kernel
theorem d_L_law_271 : decode b_L_law 271 = .ok (.iadd, 1) := by decide +kernel
theorem d_L_law_272 : decode b_L_law 272 = .ok (.iaload, 1) := by decide +kernel
theorem d_L_law_273 : decode b_L_law 273 = .ok (.aload_n 0, 1) := by decide +kernel
theorem d_L_law_274 : decode b_L_law 274 = .ok (.iload 4, 2) := by decide +kernel
theorem d_L_law_276 : decode b_L_law 276 = .ok (.iconst 3, 1) := by decide +kernel
theorem d_L_law_277 : decode b_L_law 277 = .ok (.iadd, 1) := by decide +kernel
theorem d_L_law_278 : decode b_L_law 278 = .ok (.iaload, 1) := by decide +kernel
theorem d_L_law_279 : decode b_L_law 279 = .ok (.aload_n 3, 1) := by decide +kernel
theorem d_L_law_280 : decode b_L_law 280 = .ok (.invokestatic 109, 3) := by decide +kernel
theorem d_L_law_283 : decode b_L_law 283 = .ok (.istore 5, 2) := by decide +kernel
theorem d_L_law_285 : decode b_L_law 285 = .ok (.aload_n 2, 1) := by decide +kernel
theorem d_L_law_286 : decode b_L_law 286 = .ok (.aload_n 0, 1) := by decide +kernel
theorem d_L_law_287 : decode b_L_law 287 = .ok (.iload 4, 2) := by decide +kernel
theorem d_L_law_289 : decode b_L_law 289 = .ok (.iconst 1, 1) := by decide +kernel
theorem d_L_law_290 : decode b_L_law 290 = .ok (.iadd, 1) := by decide +kernel
theorem d_L_law_291 : decode b_L_law 291 = .ok (.iaload, 1) := by decide +kernel
theorem d_L_law_292 : decode b_L_law 292 = .ok (.aload_n 0, 1) := by decide +kernel
theorem d_L_law_293 : decode b_L_law 293 = .ok (.iload 4, 2) := by decide +kernel
theorem d_L_law_295 : decode b_L_law 295 = .ok (.iconst 2, 1) := by decide +kernel
theorem d_L_law_296 : decode b_L_law 296 = .ok (.iadd, 1) := by decide +kernel
theorem d_L_law_297 : decode b_L_law 297 = .ok (.iaload, 1) := by decide +kernel
theorem d_L_law_298 : decode b_L_law 298 = .ok (.aload_n 0, 1) := by decide +kernel
theorem d_L_law_299 : decode b_L_law 299 = .ok (.iload 4, 2) := by decide +kernel
theorem d_L_law_301 : decode b_L_law 301 = .ok (.iconst 3, 1) := by decide +kernel
theorem d_L_law_302 : decode b_L_law 302 = .ok (.iadd, 1) := by decide +kernel
theorem d_L_law_303 : decode b_L_law 303 = .ok (.iaload, 1) := by decide +kernel
theorem d_L_law_304 : decode b_L_law 304 = .ok (.invokevirtual 112, 3) := by decide +kernel
theorem d_L_law_307 : decode b_L_law 307 = .ok (.istore 6, 2) := by decide +kernel
theorem d_L_law_309 : decode b_L_law 309 = .ok (.aload_n 2, 1) := by decide +kernel
theorem d_L_law_310 : decode b_L_law 310 = .ok (.invokevirtual 102, 3) := by decide +kernel
theorem d_L_law_313 : decode b_L_law 313 = .ok (.iload 5, 2) := by decide +kernel
theorem d_L_law_315 : decode b_L_law 315 = .ok (.if_icmp .eq 5, 3) := by decide +kernel
theorem d_L_law_318 : decode b_L_law 318 = .ok (.iconst 0, 1) := by decide +kernel
theorem d_L_law_319 : decode b_L_law 319 = .ok (.ireturn, 1) := by decide +kernel
theorem d_L_law_320 : decode b_L_law 320 = .ok (.iload 5, 2) := by decide +kernel
theorem d_L_law_322 : decode b_L_law 322 = .ok (.ifCond .ne 15, 3) := by decide +kernel
theorem d_L_law_325 : decode b_L_law 325 = .ok (.aload_n 3, 1) := by decide +kernel
theorem d_L_law_326 : decode b_L_law 326 = .ok (.iconst 0, 1) := by decide +kernel
theorem d_L_law_327 : decode b_L_law 327 = .ok (.laload, 1) := by decide +kernel
theorem d_L_law_328 : decode b_L_law 328 = .ok (.iload 6, 2) := by decide +kernel
theorem d_L_law_330 : decode b_L_law 330 = .ok (.i2l, 1) := by decide +kernel
theorem d_L_law_331 : decode b_L_law 331 = .ok (.lcmp, 1) := by decide +kernel
theorem d_L_law_332 : decode b_L_law 332 = .ok (.ifCond .eq 5, 3) := by decide +kernel
theorem d_L_law_335 : decode b_L_law 335 = .ok (.iconst 0, 1) := by decide +kernel
theorem d_L_law_336 : decode b_L_law 336 = .ok (.ireturn, 1) := by decide +kernel
theorem d_L_law_337 : decode b_L_law 337 = .ok (.goto 1431, 3) := by decide +kernel
theorem d_L_law_340 : decode b_L_law 340 = .ok (.aload_n 1, 1) := by decide +kernel
theorem d_L_law_341 : decode b_L_law 341 = .ok (.aload_n 0, 1) := by decide +kernel
theorem d_L_law_342 : decode b_L_law 342 = .ok (.iload 4, 2) := by decide +kernel
theorem d_L_law_344 : decode b_L_law 344 = .ok (.iconst 1, 1) := by decide +kernel
theorem d_L_law_345 : decode b_L_law 345 = .ok (.iadd, 1) := by decide +kernel
theorem d_L_law_346 : decode b_L_law 346 = .ok (.iaload, 1) := by decide +kernel
theorem d_L_law_347 : decode b_L_law 347 = .ok (.aload_n 0, 1) := by decide +kernel
theorem d_L_law_348 : decode b_L_law 348 = .ok (.iload 4, 2) := by decide +kernel
theorem d_L_law_350 : decode b_L_law 350 = .ok (.iconst 2, 1) := by decide +kernel
theorem d_L_law_351 : decode b_L_law 351 = .ok (.iadd, 1) := by decide +kernel
theorem d_L_law_352 : decode b_L_law 352 = .ok (.iaload, 1) := by decide +kernel
theorem d_L_law_353 : decode b_L_law 353 = .ok (.aload_n 0, 1) := by decide +kernel
theorem d_L_law_354 : decode b_L_law 354 = .ok (.iload 4, 2) := by decide +kernel
theorem d_L_law_356 : decode b_L_law 356 = .ok (.iconst 3, 1) := by decide +kernel
theorem d_L_law_357 : decode b_L_law 357 = .ok (.iadd, 1) := by decide +kernel
theorem d_L_law_358 : decode b_L_law 358 = .ok (.iaload, 1) := by decide +kernel
theorem d_L_law_359 : decode b_L_law 359 = .ok (.aload_n 0, 1) := by decide +kernel
theorem d_L_law_360 : decode b_L_law 360 = .ok (.iload 4, 2) := by decide +kernel
theorem d_L_law_362 : decode b_L_law 362 = .ok (.iconst 4, 1) := by decide +kernel
theorem d_L_law_363 : decode b_L_law 363 = .ok (.iadd, 1) := by decide +kernel
theorem d_L_law_364 : decode b_L_law 364 = .ok (.iaload, 1) := by decide +kernel
theorem d_L_law_365 : decode b_L_law 365 = .ok (.aload_n 0, 1) := by decide +kernel
theorem d_L_law_366 : decode b_L_law 366 = .ok (.iload 4, 2) := by decide +kernel
theorem d_L_law_368 : decode b_L_law 368 = .ok (.iconst 5, 1) := by decide +kernel
theorem d_L_law_369 : decode b_L_law 369 = .ok (.iadd, 1) := by decide +kernel
theorem d_L_law_370 : decode b_L_law 370 = .ok (.iaload, 1) := by decide +kernel
theorem d_L_law_371 : decode b_L_law 371 = .ok (.aload_n 3, 1) := by decide +kernel
theorem d_L_law_372 : decode b_L_law 372 = .ok (.invokestatic 113, 3) := by decide +kernel
theorem d_L_law_375 : decode b_L_law 375 = .ok (.istore 5, 2) := by decide +kernel
theorem d_L_law_377 : decode b_L_law 377 = .ok (.aload_n 2, 1) := by decide +kernel
theorem d_L_law_378 : decode b_L_law 378 = .ok (.aload_n 0, 1) := by decide +kernel
theorem d_L_law_379 : decode b_L_law 379 = .ok (.iload 4, 2) := by decide +kernel
theorem d_L_law_381 : decode b_L_law 381 = .ok (.iconst 1, 1) := by decide +kernel
theorem d_L_law_382 : decode b_L_law 382 = .ok (.iadd, 1) := by decide +kernel
theorem d_L_law_383 : decode b_L_law 383 = .ok (.iaload, 1) := by decide +kernel
theorem d_L_law_384 : decode b_L_law 384 = .ok (.aload_n 0, 1) := by decide +kernel
theorem d_L_law_385 : decode b_L_law 385 = .ok (.iload 4, 2) := by decide +kernel
theorem d_L_law_387 : decode b_L_law 387 = .ok (.iconst 2, 1) := by decide +kernel
theorem d_L_law_388 : decode b_L_law 388 = .ok (.iadd, 1) := by decide +kernel
theorem d_L_law_389 : decode b_L_law 389 = .ok (.iaload, 1) := by decide +kernel
theorem d_L_law_390 : decode b_L_law 390 = .ok (.aload_n 0, 1) := by decide +kernel
theorem d_L_law_391 : decode b_L_law 391 = .ok (.iload 4, 2) := by decide +kernel
theorem d_L_law_393 : decode b_L_law 393 = .ok (.iconst 3, 1) := by decide +kernel
theorem d_L_law_394 : decode b_L_law 394 = .ok (.iadd, 1) := by decide +kernel
theorem d_L_law_395 : decode b_L_law 395 = .ok (.iaload, 1) := by decide +kernel
theorem d_L_law_396 : decode b_L_law 396 = .ok (.aload_n 0, 1) := by decide +kernel
theorem d_L_law_397 : decode b_L_law 397 = .ok (.iload 4, 2) := by decide +kernel
theorem d_L_law_399 : decode b_L_law 399 = .ok (.iconst 4, 1) := by decide +kernel
theorem d_L_law_400 : decode b_L_law 400 = .ok (.iadd, 1) := by decide +kernel
theorem d_L_law_401 : decode b_L_law 401 = .ok (.iaload, 1) := by decide +kernel
theorem d_L_law_402 : decode b_L_law 402 = .ok (.aload_n 0, 1) := by decide +kernel
theorem d_L_law_403 : decode b_L_law 403 = .ok (.iload 4, 2) := by decide +kernel
theorem d_L_law_405 : decode b_L_law 405 = .ok (.iconst 5, 1) := by decide +kernel
theorem d_L_law_406 : decode b_L_law 406 = .ok (.iadd, 1) := by decide +kernel
theorem d_L_law_407 : decode b_L_law 407 = .ok (.iaload, 1) := by decide +kernel
theorem d_L_law_408 : decode b_L_law 408 = .ok (.invokevirtual 116, 3) := by decide +kernel
theorem d_L_law_411 : decode b_L_law 411 = .ok (.istore 6, 2) := by decide +kernel
theorem d_L_law_413 : decode b_L_law 413 = .ok (.aload_n 2, 1) := by decide +kernel
theorem d_L_law_414 : decode b_L_law 414 = .ok (.invokevirtual 102, 3) := by decide +kernel
theorem d_L_law_417 : decode b_L_law 417 = .ok (.iload 5, 2) := by decide +kernel
theorem d_L_law_419 : decode b_L_law 419 = .ok (.if_icmp .eq 5, 3) := by decide +kernel
theorem d_L_law_422 : decode b_L_law 422 = .ok (.iconst 0, 1) := by decide +kernel
theorem d_L_law_423 : decode b_L_law 423 = .ok (.ireturn, 1) := by decide +kernel
theorem d_L_law_424 : decode b_L_law 424 = .ok (.iload 5, 2) := by decide +kernel
theorem d_L_law_426 : decode b_L_law 426 = .ok (.ifCond .ne 15, 3) := by decide +kernel
theorem d_L_law_429 : decode b_L_law 429 = .ok (.aload_n 3, 1) := by decide +kernel
theorem d_L_law_430 : decode b_L_law 430 = .ok (.iconst 0, 1) := by decide +kernel
theorem d_L_law_431 : decode b_L_law 431 = .ok (.laload, 1) := by decide +kernel
theorem d_L_law_432 : decode b_L_law 432 = .ok (.iload 6, 2) := by decide +kernel
theorem d_L_law_434 : decode b_L_law 434 = .ok (.i2l, 1) := by decide +kernel
theorem d_L_law_435 : decode b_L_law 435 = .ok (.lcmp, 1) := by decide +kernel
theorem d_L_law_436 : decode b_L_law 436 = .ok (.ifCond .eq 5, 3) := by decide +kernel
theorem d_L_law_439 : decode b_L_law 439 = .ok (.iconst 0, 1) := by decide +kernel
theorem d_L_law_440 : decode b_L_law 440 = .ok (.ireturn, 1) := by decide +kernel
theorem d_L_law_441 : decode b_L_law 441 = .ok (.goto 1327, 3) := by decide +kernel
theorem d_L_law_444 : decode b_L_law 444 = .ok (.aload_n 1, 1) := by decide +kernel
theorem d_L_law_445 : decode b_L_law 445 = .ok (.aload_n 0, 1) := by decide +kernel
theorem d_L_law_446 : decode b_L_law 446 = .ok (.iload 4, 2) := by decide +kernel
theorem d_L_law_448 : decode b_L_law 448 = .ok (.iconst 1, 1) := by decide +kernel
theorem d_L_law_449 : decode b_L_law 449 = .ok (.iadd, 1) := by decide +kernel
theorem d_L_law_450 : decode b_L_law 450 = .ok (.iaload, 1) := by decide +kernel
theorem d_L_law_451 : decode b_L_law 451 = .ok (.aload_n 0, 1) := by decide +kernel
theorem d_L_law_452 : decode b_L_law 452 = .ok (.iload 4, 2) := by decide +kernel
theorem d_L_law_454 : decode b_L_law 454 = .ok (.iconst 2, 1) := by decide +kernel
theorem d_L_law_455 : decode b_L_law 455 = .ok (.iadd, 1) := by decide +kernel
theorem d_L_law_456 : decode b_L_law 456 = .ok (.iaload, 1) := by decide +kernel
theorem d_L_law_457 : decode b_L_law 457 = .ok (.aload_n 0, 1) := by decide +kernel
theorem d_L_law_458 : decode b_L_law 458 = .ok (.iload 4, 2) := by decide +kernel
theorem d_L_law_460 : decode b_L_law 460 = .ok (.iconst 3, 1) := by decide +kernel
theorem d_L_law_461 : decode b_L_law 461 = .ok (.iadd, 1) := by decide +kernel
theorem d_L_law_462 : decode b_L_law 462 = .ok (.iaload, 1) := by decide +kernel
theorem d_L_law_463 : decode b_L_law 463 = .ok (.aload_n 3, 1) := by decide +kernel
theorem d_L_law_464 : decode b_L_law 464 = .ok (.invokestatic 117, 3) := by decide +kernel
theorem d_L_law_467 : decode b_L_law 467 = .ok (.istore 5, 2) := by decide +kernel
theorem d_L_law_469 : decode b_L_law 469 = .ok (.aload_n 2, 1) := by decide +kernel
theorem d_L_law_470 : decode b_L_law 470 = .ok (.aload_n 0, 1) := by decide +kernel
theorem d_L_law_471 : decode b_L_law 471 = .ok (.iload 4, 2) := by decide +kernel
theorem d_L_law_473 : decode b_L_law 473 = .ok (.iconst 1, 1) := by decide +kernel
theorem d_L_law_474 : decode b_L_law 474 = .ok (.iadd, 1) := by decide +kernel
theorem d_L_law_475 : decode b_L_law 475 = .ok (.iaload, 1) := by decide +kernel
theorem d_L_law_476 : decode b_L_law 476 = .ok (.aload_n 0, 1) := by decide +kernel
theorem d_L_law_477 : decode b_L_law 477 = .ok (.iload 4, 2) := by decide +kernel
theorem d_L_law_479 : decode b_L_law 479 = .ok (.iconst 2, 1) := by decide +kernel
theorem d_L_law_480 : decode b_L_law 480 = .ok (.iadd, 1) := by decide +kernel
theorem d_L_law_481 : decode b_L_law 481 = .ok (.iaload, 1) := by decide +kernel
theorem d_L_law_482 : decode b_L_law 482 = .ok (.aload_n 0, 1) := by decide +kernel
theorem d_L_law_483 : decode b_L_law 483 = .ok (.iload 4, 2) := by decide +kernel
theorem d_L_law_485 : decode b_L_law 485 = .ok (.iconst 3, 1) := by decide +kernel
theorem d_L_law_486 : decode b_L_law 486 = .ok (.iadd, 1) := by decide +kernel
theorem d_L_law_487 : decode b_L_law 487 = .ok (.iaload, 1) := by decide +kernel
theorem d_L_law_488 : decode b_L_law 488 = .ok (.invokevirtual 119, 3) := by decide +kernel
theorem d_L_law_491 : decode b_L_law 491 = .ok (.istore 6, 2) := by decide +kernel
theorem d_L_law_493 : decode b_L_law 493 = .ok (.aload_n 2, 1) := by decide +kernel
theorem d_L_law_494 : decode b_L_law 494 = .ok (.invokevirtual 102, 3) := by decide +kernel
theorem d_L_law_497 : decode b_L_law 497 = .ok (.iload 5, 2) := by decide +kernel
theorem d_L_law_499 : decode b_L_law 499 = .ok (.if_icmp .eq 5, 3) := by decide +kernel
theorem d_L_law_502 : decode b_L_law 502 = .ok (.iconst 0, 1) := by decide +kernel
theorem d_L_law_503 : decode b_L_law 503 = .ok (.ireturn, 1) := by decide +kernel
theorem d_L_law_504 : decode b_L_law 504 = .ok (.iload 5, 2) := by decide +kernel
theorem d_L_law_506 : decode b_L_law 506 = .ok (.ifCond .ne 15, 3) := by decide +kernel
theorem d_L_law_509 : decode b_L_law 509 = .ok (.aload_n 3, 1) := by decide +kernel
theorem d_L_law_510 : decode b_L_law 510 = .ok (.iconst 0, 1) := by decide +kernel
theorem d_L_law_511 : decode b_L_law 511 = .ok (.laload, 1) := by decide +kernel
theorem d_L_law_512 : decode b_L_law 512 = .ok (.iload 6, 2) := by decide +kernel
theorem d_L_law_514 : decode b_L_law 514 = .ok (.i2l, 1) := by decide +kernel
theorem d_L_law_515 : decode b_L_law 515 = .ok (.lcmp, 1) := by decide +kernel
theorem d_L_law_516 : decode b_L_law 516 = .ok (.ifCond .eq 5, 3) := by decide +kernel
theorem d_L_law_519 : decode b_L_law 519 = .ok (.iconst 0, 1) := by decide +kernel
theorem d_L_law_520 : decode b_L_law 520 = .ok (.ireturn, 1) := by decide +kernel
theorem d_L_law_521 : decode b_L_law 521 = .ok (.goto 1247, 3) := by decide +kernel
theorem d_L_law_524 : decode b_L_law 524 = .ok (.aload_n 1, 1) := by decide +kernel
theorem d_L_law_525 : decode b_L_law 525 = .ok (.aload_n 0, 1) := by decide +kernel
theorem d_L_law_526 : decode b_L_law 526 = .ok (.iload 4, 2) := by decide +kernel
theorem d_L_law_528 : decode b_L_law 528 = .ok (.iconst 1, 1) := by decide +kernel
theorem d_L_law_529 : decode b_L_law 529 = .ok (.iadd, 1) := by decide +kernel
theorem d_L_law_530 : decode b_L_law 530 = .ok (.iaload, 1) := by decide +kernel
theorem d_L_law_531 : decode b_L_law 531 = .ok (.aload_n 0, 1) := by decide +kernel
theorem d_L_law_532 : decode b_L_law 532 = .ok (.iload 4, 2) := by decide +kernel
theorem d_L_law_534 : decode b_L_law 534 = .ok (.iconst 2, 1) := by decide +kernel
theorem d_L_law_535 : decode b_L_law 535 = .ok (.iadd, 1) := by decide +kernel
theorem d_L_law_536 : decode b_L_law 536 = .ok (.iaload, 1) := by decide +kernel
theorem d_L_law_537 : decode b_L_law 537 = .ok (.aload_n 0, 1) := by decide +kernel
theorem d_L_law_538 : decode b_L_law 538 = .ok (.iload 4, 2) := by decide +kernel
theorem d_L_law_540 : decode b_L_law 540 = .ok (.iconst 3, 1) := by decide +kernel
theorem d_L_law_541 : decode b_L_law 541 = .ok (.iadd, 1) := by decide +kernel
theorem d_L_law_542 : decode b_L_law 542 = .ok (.iaload, 1) := by decide +kernel
theorem d_L_law_543 : decode b_L_law 543 = .ok (.aload_n 3, 1) := by decide +kernel
theorem d_L_law_544 : decode b_L_law 544 = .ok (.invokestatic 120, 3) := by decide +kernel
theorem d_L_law_547 : decode b_L_law 547 = .ok (.istore 5, 2) := by decide +kernel
theorem d_L_law_549 : decode b_L_law 549 = .ok (.aload_n 2, 1) := by decide +kernel
