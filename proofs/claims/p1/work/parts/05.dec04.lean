theorem d_LittleMixLaw_law_186 : decode b_LittleMixLaw_law 186 = .ok (.aload_n 1, 1) := by decide +kernel
theorem d_LittleMixLaw_law_187 : decode b_LittleMixLaw_law 187 = .ok (.invokevirtual 23, 3) := by decide +kernel
theorem d_LittleMixLaw_law_190 : decode b_LittleMixLaw_law 190 = .ok (.aload_n 2, 1) := by decide +kernel
theorem d_LittleMixLaw_law_191 : decode b_LittleMixLaw_law 191 = .ok (.invokevirtual 27, 3) := by decide +kernel
theorem d_LittleMixLaw_law_194 : decode b_LittleMixLaw_law 194 = .ok (.if_icmp .eq 227, 3) := by decide +kernel
theorem d_LittleMixLaw_law_199 : decode b_LittleMixLaw_law 199 = .ok (.aload_n 1, 1) := by decide +kernel
theorem d_LittleMixLaw_law_200 : decode b_LittleMixLaw_law 200 = .ok (.aload_n 0, 1) := by decide +kernel
theorem d_LittleMixLaw_law_201 : decode b_LittleMixLaw_law 201 = .ok (.iload_n 3, 1) := by decide +kernel
theorem d_LittleMixLaw_law_202 : decode b_LittleMixLaw_law 202 = .ok (.iconst 1, 1) := by decide +kernel
theorem d_LittleMixLaw_law_203 : decode b_LittleMixLaw_law 203 = .ok (.iadd, 1) := by decide +kernel
theorem d_LittleMixLaw_law_204 : decode b_LittleMixLaw_law 204 = .ok (.iaload, 1) := by decide +kernel
theorem d_LittleMixLaw_law_205 : decode b_LittleMixLaw_law 205 = .ok (.invokevirtual 28, 3) := by decide +kernel
theorem d_LittleMixLaw_law_208 : decode b_LittleMixLaw_law 208 = .ok (.aload_n 2, 1) := by decide +kernel
theorem d_LittleMixLaw_law_209 : decode b_LittleMixLaw_law 209 = .ok (.aload_n 0, 1) := by decide +kernel
theorem d_LittleMixLaw_law_210 : decode b_LittleMixLaw_law 210 = .ok (.iload_n 3, 1) := by decide +kernel
theorem d_LittleMixLaw_law_211 : decode b_LittleMixLaw_law 211 = .ok (.iconst 1, 1) := by decide +kernel
theorem d_LittleMixLaw_law_212 : decode b_LittleMixLaw_law 212 = .ok (.iadd, 1) := by decide +kernel
theorem d_LittleMixLaw_law_213 : decode b_LittleMixLaw_law 213 = .ok (.iaload, 1) := by decide +kernel
theorem d_LittleMixLaw_law_214 : decode b_LittleMixLaw_law 214 = .ok (.invokevirtual 32, 3) := by decide +kernel
theorem d_LittleMixLaw_law_217 : decode b_LittleMixLaw_law 217 = .ok (.lcmp, 1) := by decide +kernel
theorem d_LittleMixLaw_law_218 : decode b_LittleMixLaw_law 218 = .ok (.ifCond .eq 203, 3) := by decide +kernel
theorem d_LittleMixLaw_law_223 : decode b_LittleMixLaw_law 223 = .ok (.aload_n 1, 1) := by decide +kernel
theorem d_LittleMixLaw_law_224 : decode b_LittleMixLaw_law 224 = .ok (.aload_n 0, 1) := by decide +kernel
theorem d_LittleMixLaw_law_225 : decode b_LittleMixLaw_law 225 = .ok (.iload_n 3, 1) := by decide +kernel
theorem d_LittleMixLaw_law_226 : decode b_LittleMixLaw_law 226 = .ok (.iconst 1, 1) := by decide +kernel
theorem d_LittleMixLaw_law_227 : decode b_LittleMixLaw_law 227 = .ok (.iadd, 1) := by decide +kernel
theorem d_LittleMixLaw_law_228 : decode b_LittleMixLaw_law 228 = .ok (.iaload, 1) := by decide +kernel
theorem d_LittleMixLaw_law_229 : decode b_LittleMixLaw_law 229 = .ok (.invokevirtual 33, 3) := by decide +kernel
theorem d_LittleMixLaw_law_232 : decode b_LittleMixLaw_law 232 = .ok (.aload_n 2, 1) := by decide +kernel
theorem d_LittleMixLaw_law_233 : decode b_LittleMixLaw_law 233 = .ok (.aload_n 0, 1) := by decide +kernel
theorem d_LittleMixLaw_law_234 : decode b_LittleMixLaw_law 234 = .ok (.iload_n 3, 1) := by decide +kernel
theorem d_LittleMixLaw_law_235 : decode b_LittleMixLaw_law 235 = .ok (.iconst 1, 1) := by decide +kernel
theorem d_LittleMixLaw_law_236 : decode b_LittleMixLaw_law 236 = .ok (.iadd, 1) := by decide +kernel
theorem d_LittleMixLaw_law_237 : decode b_LittleMixLaw_law 237 = .ok (.iaload, 1) := by decide +kernel
theorem d_LittleMixLaw_law_238 : decode b_LittleMixLaw_law 238 = .ok (.invokevirtual 36, 3) := by decide +kernel
theorem d_LittleMixLaw_law_241 : decode b_LittleMixLaw_law 241 = .ok (.if_icmp .eq 180, 3) := by decide +kernel
theorem d_LittleMixLaw_law_246 : decode b_LittleMixLaw_law 246 = .ok (.aload_n 1, 1) := by decide +kernel
theorem d_LittleMixLaw_law_247 : decode b_LittleMixLaw_law 247 = .ok (.aload_n 0, 1) := by decide +kernel
theorem d_LittleMixLaw_law_248 : decode b_LittleMixLaw_law 248 = .ok (.iload_n 3, 1) := by decide +kernel
theorem d_LittleMixLaw_law_249 : decode b_LittleMixLaw_law 249 = .ok (.iconst 1, 1) := by decide +kernel
theorem d_LittleMixLaw_law_250 : decode b_LittleMixLaw_law 250 = .ok (.iadd, 1) := by decide +kernel
theorem d_LittleMixLaw_law_251 : decode b_LittleMixLaw_law 251 = .ok (.iaload, 1) := by decide +kernel
theorem d_LittleMixLaw_law_252 : decode b_LittleMixLaw_law 252 = .ok (.aload_n 0, 1) := by decide +kernel
theorem d_LittleMixLaw_law_253 : decode b_LittleMixLaw_law 253 = .ok (.iload_n 3, 1) := by decide +kernel
theorem d_LittleMixLaw_law_254 : decode b_LittleMixLaw_law 254 = .ok (.iconst 2, 1) := by decide +kernel
theorem d_LittleMixLaw_law_255 : decode b_LittleMixLaw_law 255 = .ok (.iadd, 1) := by decide +kernel
theorem d_LittleMixLaw_law_256 : decode b_LittleMixLaw_law 256 = .ok (.iaload, 1) := by decide +kernel
theorem d_LittleMixLaw_law_257 : decode b_LittleMixLaw_law 257 = .ok (.aload_n 0, 1) := by decide +kernel
theorem d_LittleMixLaw_law_258 : decode b_LittleMixLaw_law 258 = .ok (.iload_n 3, 1) := by decide +kernel
theorem d_LittleMixLaw_law_259 : decode b_LittleMixLaw_law 259 = .ok (.iconst 3, 1) := by decide +kernel
theorem d_LittleMixLaw_law_260 : decode b_LittleMixLaw_law 260 = .ok (.iadd, 1) := by decide +kernel
theorem d_LittleMixLaw_law_261 : decode b_LittleMixLaw_law 261 = .ok (.iaload, 1) := by decide +kernel
theorem d_LittleMixLaw_law_262 : decode b_LittleMixLaw_law 262 = .ok (.invokevirtual 37, 3) := by decide +kernel
theorem d_LittleMixLaw_law_265 : decode b_LittleMixLaw_law 265 = .ok (.aload_n 2, 1) := by decide +kernel
theorem d_LittleMixLaw_law_266 : decode b_LittleMixLaw_law 266 = .ok (.aload_n 0, 1) := by decide +kernel
theorem d_LittleMixLaw_law_267 : decode b_LittleMixLaw_law 267 = .ok (.iload_n 3, 1) := by decide +kernel
theorem d_LittleMixLaw_law_268 : decode b_LittleMixLaw_law 268 = .ok (.iconst 1, 1) := by decide +kernel
theorem d_LittleMixLaw_law_269 : decode b_LittleMixLaw_law 269 = .ok (.iadd, 1) := by decide +kernel
theorem d_LittleMixLaw_law_270 : decode b_LittleMixLaw_law 270 = .ok (.iaload, 1) := by decide +kernel
theorem d_LittleMixLaw_law_271 : decode b_LittleMixLaw_law 271 = .ok (.aload_n 0, 1) := by decide +kernel
theorem d_LittleMixLaw_law_272 : decode b_LittleMixLaw_law 272 = .ok (.iload_n 3, 1) := by decide +kernel
theorem d_LittleMixLaw_law_273 : decode b_LittleMixLaw_law 273 = .ok (.iconst 2, 1) := by decide +kernel
theorem d_LittleMixLaw_law_274 : decode b_LittleMixLaw_law 274 = .ok (.iadd, 1) := by decide +kernel
theorem d_LittleMixLaw_law_275 : decode b_LittleMixLaw_law 275 = .ok (.iaload, 1) := by decide +kernel
theorem d_LittleMixLaw_law_276 : decode b_LittleMixLaw_law 276 = .ok (.aload_n 0, 1) := by decide +kernel
theorem d_LittleMixLaw_law_277 : decode b_LittleMixLaw_law 277 = .ok (.iload_n 3, 1) := by decide +kernel
theorem d_LittleMixLaw_law_278 : decode b_LittleMixLaw_law 278 = .ok (.iconst 3, 1) := by decide +kernel
theorem d_LittleMixLaw_law_279 : decode b_LittleMixLaw_law 279 = .ok (.iadd, 1) := by decide +kernel
theorem d_LittleMixLaw_law_280 : decode b_LittleMixLaw_law 280 = .ok (.iaload, 1) := by decide +kernel
theorem d_LittleMixLaw_law_281 : decode b_LittleMixLaw_law 281 = .ok (.invokevirtual 41, 3) := by decide +kernel
theorem d_LittleMixLaw_law_284 : decode b_LittleMixLaw_law 284 = .ok (.if_icmp .eq 137, 3) := by decide +kernel
theorem d_LittleMixLaw_law_289 : decode b_LittleMixLaw_law 289 = .ok (.aload_n 1, 1) := by decide +kernel
theorem d_LittleMixLaw_law_290 : decode b_LittleMixLaw_law 290 = .ok (.invokevirtual 42, 3) := by decide +kernel
theorem d_LittleMixLaw_law_293 : decode b_LittleMixLaw_law 293 = .ok (.aload_n 2, 1) := by decide +kernel
theorem d_LittleMixLaw_law_294 : decode b_LittleMixLaw_law 294 = .ok (.invokevirtual 45, 3) := by decide +kernel
theorem d_LittleMixLaw_law_297 : decode b_LittleMixLaw_law 297 = .ok (.goto 124, 3) := by decide +kernel
theorem d_LittleMixLaw_law_300 : decode b_LittleMixLaw_law 300 = .ok (.aload_n 1, 1) := by decide +kernel
theorem d_LittleMixLaw_law_301 : decode b_LittleMixLaw_law 301 = .ok (.aload_n 0, 1) := by decide +kernel
theorem d_LittleMixLaw_law_302 : decode b_LittleMixLaw_law 302 = .ok (.iload_n 3, 1) := by decide +kernel
theorem d_LittleMixLaw_law_303 : decode b_LittleMixLaw_law 303 = .ok (.iconst 1, 1) := by decide +kernel
theorem d_LittleMixLaw_law_304 : decode b_LittleMixLaw_law 304 = .ok (.iadd, 1) := by decide +kernel
theorem d_LittleMixLaw_law_305 : decode b_LittleMixLaw_law 305 = .ok (.iaload, 1) := by decide +kernel
theorem d_LittleMixLaw_law_306 : decode b_LittleMixLaw_law 306 = .ok (.invokevirtual 46, 3) := by decide +kernel
theorem d_LittleMixLaw_law_309 : decode b_LittleMixLaw_law 309 = .ok (.aload_n 2, 1) := by decide +kernel
theorem d_LittleMixLaw_law_310 : decode b_LittleMixLaw_law 310 = .ok (.aload_n 0, 1) := by decide +kernel
theorem d_LittleMixLaw_law_311 : decode b_LittleMixLaw_law 311 = .ok (.iload_n 3, 1) := by decide +kernel
theorem d_LittleMixLaw_law_312 : decode b_LittleMixLaw_law 312 = .ok (.iconst 1, 1) := by decide +kernel
theorem d_LittleMixLaw_law_313 : decode b_LittleMixLaw_law 313 = .ok (.iadd, 1) := by decide +kernel
theorem d_LittleMixLaw_law_314 : decode b_LittleMixLaw_law 314 = .ok (.iaload, 1) := by decide +kernel
theorem d_LittleMixLaw_law_315 : decode b_LittleMixLaw_law 315 = .ok (.invokevirtual 49, 3) := by decide +kernel
theorem d_LittleMixLaw_law_318 : decode b_LittleMixLaw_law 318 = .ok (.if_icmp .eq 103, 3) := by decide +kernel
theorem d_LittleMixLaw_law_323 : decode b_LittleMixLaw_law 323 = .ok (.aload_n 1, 1) := by decide +kernel
theorem d_LittleMixLaw_law_324 : decode b_LittleMixLaw_law 324 = .ok (.invokevirtual 50, 3) := by decide +kernel
theorem d_LittleMixLaw_law_327 : decode b_LittleMixLaw_law 327 = .ok (.aload_n 2, 1) := by decide +kernel
theorem d_LittleMixLaw_law_328 : decode b_LittleMixLaw_law 328 = .ok (.invokevirtual 53, 3) := by decide +kernel
theorem d_LittleMixLaw_law_331 : decode b_LittleMixLaw_law 331 = .ok (.if_icmp .eq 90, 3) := by decide +kernel
theorem d_LittleMixLaw_law_336 : decode b_LittleMixLaw_law 336 = .ok (.aload_n 1, 1) := by decide +kernel
theorem d_LittleMixLaw_law_337 : decode b_LittleMixLaw_law 337 = .ok (.aload_n 0, 1) := by decide +kernel
theorem d_LittleMixLaw_law_338 : decode b_LittleMixLaw_law 338 = .ok (.iload_n 3, 1) := by decide +kernel
theorem d_LittleMixLaw_law_339 : decode b_LittleMixLaw_law 339 = .ok (.iconst 1, 1) := by decide +kernel
theorem d_LittleMixLaw_law_340 : decode b_LittleMixLaw_law 340 = .ok (.iadd, 1) := by decide +kernel
theorem d_LittleMixLaw_law_341 : decode b_LittleMixLaw_law 341 = .ok (.iaload, 1) := by decide +kernel
theorem d_LittleMixLaw_law_342 : decode b_LittleMixLaw_law 342 = .ok (.invokevirtual 54, 3) := by decide +kernel
theorem d_LittleMixLaw_law_345 : decode b_LittleMixLaw_law 345 = .ok (.aload_n 2, 1) := by decide +kernel
theorem d_LittleMixLaw_law_346 : decode b_LittleMixLaw_law 346 = .ok (.aload_n 0, 1) := by decide +kernel
theorem d_LittleMixLaw_law_347 : decode b_LittleMixLaw_law 347 = .ok (.iload_n 3, 1) := by decide +kernel
theorem d_LittleMixLaw_law_348 : decode b_LittleMixLaw_law 348 = .ok (.iconst 1, 1) := by decide +kernel
theorem d_LittleMixLaw_law_349 : decode b_LittleMixLaw_law 349 = .ok (.iadd, 1) := by decide +kernel
theorem d_LittleMixLaw_law_350 : decode b_LittleMixLaw_law 350 = .ok (.iaload, 1) := by decide +kernel
theorem d_LittleMixLaw_law_351 : decode b_LittleMixLaw_law 351 = .ok (.invokevirtual 57, 3) := by decide +kernel
theorem d_LittleMixLaw_law_354 : decode b_LittleMixLaw_law 354 = .ok (.lcmp, 1) := by decide +kernel
theorem d_LittleMixLaw_law_355 : decode b_LittleMixLaw_law 355 = .ok (.ifCond .eq 66, 3) := by decide +kernel
theorem d_LittleMixLaw_law_360 : decode b_LittleMixLaw_law 360 = .ok (.aload_n 1, 1) := by decide +kernel
theorem d_LittleMixLaw_law_361 : decode b_LittleMixLaw_law 361 = .ok (.aload_n 0, 1) := by decide +kernel
theorem d_LittleMixLaw_law_362 : decode b_LittleMixLaw_law 362 = .ok (.iload_n 3, 1) := by decide +kernel
theorem d_LittleMixLaw_law_363 : decode b_LittleMixLaw_law 363 = .ok (.iconst 1, 1) := by decide +kernel
theorem d_LittleMixLaw_law_364 : decode b_LittleMixLaw_law 364 = .ok (.iadd, 1) := by decide +kernel
theorem d_LittleMixLaw_law_365 : decode b_LittleMixLaw_law 365 = .ok (.iaload, 1) := by decide +kernel
theorem d_LittleMixLaw_law_366 : decode b_LittleMixLaw_law 366 = .ok (.invokevirtual 58, 3) := by decide +kernel
theorem d_LittleMixLaw_law_369 : decode b_LittleMixLaw_law 369 = .ok (.aload_n 2, 1) := by decide +kernel
theorem d_LittleMixLaw_law_370 : decode b_LittleMixLaw_law 370 = .ok (.aload_n 0, 1) := by decide +kernel
theorem d_LittleMixLaw_law_371 : decode b_LittleMixLaw_law 371 = .ok (.iload_n 3, 1) := by decide +kernel
theorem d_LittleMixLaw_law_372 : decode b_LittleMixLaw_law 372 = .ok (.iconst 1, 1) := by decide +kernel
theorem d_LittleMixLaw_law_373 : decode b_LittleMixLaw_law 373 = .ok (.iadd, 1) := by decide +kernel
theorem d_LittleMixLaw_law_374 : decode b_LittleMixLaw_law 374 = .ok (.iaload, 1) := by decide +kernel
theorem d_LittleMixLaw_law_375 : decode b_LittleMixLaw_law 375 = .ok (.invokevirtual 61, 3) := by decide +kernel
theorem d_LittleMixLaw_law_378 : decode b_LittleMixLaw_law 378 = .ok (.lcmp, 1) := by decide +kernel
theorem d_LittleMixLaw_law_379 : decode b_LittleMixLaw_law 379 = .ok (.ifCond .eq 42, 3) := by decide +kernel
theorem d_LittleMixLaw_law_384 : decode b_LittleMixLaw_law 384 = .ok (.aload_n 1, 1) := by decide +kernel
theorem d_LittleMixLaw_law_385 : decode b_LittleMixLaw_law 385 = .ok (.invokevirtual 62, 3) := by decide +kernel
theorem d_LittleMixLaw_law_388 : decode b_LittleMixLaw_law 388 = .ok (.aload_n 2, 1) := by decide +kernel
theorem d_LittleMixLaw_law_389 : decode b_LittleMixLaw_law 389 = .ok (.invokevirtual 66, 3) := by decide +kernel
theorem d_LittleMixLaw_law_392 : decode b_LittleMixLaw_law 392 = .ok (.lcmp, 1) := by decide +kernel
theorem d_LittleMixLaw_law_393 : decode b_LittleMixLaw_law 393 = .ok (.ifCond .eq 28, 3) := by decide +kernel
theorem d_LittleMixLaw_law_398 : decode b_LittleMixLaw_law 398 = .ok (.aload_n 1, 1) := by decide +kernel
theorem d_LittleMixLaw_law_399 : decode b_LittleMixLaw_law 399 = .ok (.aload_n 0, 1) := by decide +kernel
theorem d_LittleMixLaw_law_400 : decode b_LittleMixLaw_law 400 = .ok (.iload_n 3, 1) := by decide +kernel
theorem d_LittleMixLaw_law_401 : decode b_LittleMixLaw_law 401 = .ok (.iconst 1, 1) := by decide +kernel
theorem d_LittleMixLaw_law_402 : decode b_LittleMixLaw_law 402 = .ok (.iadd, 1) := by decide +kernel
theorem d_LittleMixLaw_law_403 : decode b_LittleMixLaw_law 403 = .ok (.iaload, 1) := by decide +kernel
theorem d_LittleMixLaw_law_404 : decode b_LittleMixLaw_law 404 = .ok (.invokevirtual 67, 3) := by decide +kernel
theorem d_LittleMixLaw_law_407 : decode b_LittleMixLaw_law 407 = .ok (.aload_n 2, 1) := by decide +kernel
theorem d_LittleMixLaw_law_408 : decode b_LittleMixLaw_law 408 = .ok (.aload_n 0, 1) := by decide +kernel
theorem d_LittleMixLaw_law_409 : decode b_LittleMixLaw_law 409 = .ok (.iload_n 3, 1) := by decide +kernel
theorem d_LittleMixLaw_law_410 : decode b_LittleMixLaw_law 410 = .ok (.iconst 1, 1) := by decide +kernel
theorem d_LittleMixLaw_law_411 : decode b_LittleMixLaw_law 411 = .ok (.iadd, 1) := by decide +kernel
theorem d_LittleMixLaw_law_412 : decode b_LittleMixLaw_law 412 = .ok (.iaload, 1) := by decide +kernel
theorem d_LittleMixLaw_law_413 : decode b_LittleMixLaw_law 413 = .ok (.invokevirtual 70, 3) := by decide +kernel
theorem d_LittleMixLaw_law_416 : decode b_LittleMixLaw_law 416 = .ok (.if_icmp .eq 5, 3) := by decide +kernel
theorem d_LittleMixLaw_law_421 : decode b_LittleMixLaw_law 421 = .ok (.iinc 3 6, 3) := by decide +kernel
theorem d_LittleMixLaw_law_424 : decode b_LittleMixLaw_law 424 = .ok (.goto (-406), 3) := by decide +kernel
theorem d_LittleMixLaw_law_427 : decode b_LittleMixLaw_law 427 = .ok (.iconst 1, 1) := by decide +kernel
theorem d_LittleMixLaw_law_428 : decode b_LittleMixLaw_law 428 = .ok (.ireturn, 1) := by decide +kernel
theorem d_Mod_init_0 : decode b_Mod_init 0 = .ok (.aload_n 0, 1) := by decide +kernel
theorem d_Mod_init_1 : decode b_Mod_init 1 = .ok (.invokespecial 1, 3) := by decide +kernel
theorem d_Mod_init_4 : decode b_Mod_init 4 = .ok (.aload_n 0, 1) := by decide +kernel
theorem d_Mod_init_5 : decode b_Mod_init 5 = .ok (.sipush 1600, 3) := by decide +kernel
theorem d_Mod_init_8 : decode b_Mod_init 8 = .ok (.newarray .int, 2) := by decide +kernel
theorem d_Mod_init_10 : decode b_Mod_init 10 = .ok (.putfield 7, 3) := by decide +kernel
theorem d_Mod_init_13 : decode b_Mod_init 13 = .ok (.aload_n 0, 1) := by decide +kernel
theorem d_Mod_init_14 : decode b_Mod_init 14 = .ok (.sipush 1600, 3) := by decide +kernel
theorem d_Mod_init_17 : decode b_Mod_init 17 = .ok (.newarray .int, 2) := by decide +kernel
theorem d_Mod_init_19 : decode b_Mod_init 19 = .ok (.putfield 13, 3) := by decide +kernel
theorem d_Mod_init_22 : decode b_Mod_init 22 = .ok (.aload_n 0, 1) := by decide +kernel
theorem d_Mod_init_23 : decode b_Mod_init 23 = .ok (.iconst (-1), 1) := by decide +kernel
theorem d_Mod_init_24 : decode b_Mod_init 24 = .ok (.putfield 16, 3) := by decide +kernel
theorem d_Mod_init_27 : decode b_Mod_init 27 = .ok (.aload_n 0, 1) := by decide +kernel
theorem d_Mod_init_28 : decode b_Mod_init 28 = .ok (.bipush 41, 2) := by decide +kernel
theorem d_Mod_init_30 : decode b_Mod_init 30 = .ok (.newarray .int, 2) := by decide +kernel
theorem d_Mod_init_32 : decode b_Mod_init 32 = .ok (.putfield 20, 3) := by decide +kernel
theorem d_Mod_init_35 : decode b_Mod_init 35 = .ok (.aload_n 0, 1) := by decide +kernel
theorem d_Mod_init_36 : decode b_Mod_init 36 = .ok (.bipush 41, 2) := by decide +kernel
theorem d_Mod_init_38 : decode b_Mod_init 38 = .ok (.newarray .int, 2) := by decide +kernel
theorem d_Mod_init_40 : decode b_Mod_init 40 = .ok (.putfield 23, 3) := by decide +kernel
theorem d_Mod_init_43 : decode b_Mod_init 43 = .ok (.aload_n 0, 1) := by decide +kernel
theorem d_Mod_init_44 : decode b_Mod_init 44 = .ok (.bipush 41, 2) := by decide +kernel
theorem d_Mod_init_46 : decode b_Mod_init 46 = .ok (.newarray .long, 2) := by decide +kernel
theorem d_Mod_init_48 : decode b_Mod_init 48 = .ok (.putfield 26, 3) := by decide +kernel
theorem d_Mod_init_51 : decode b_Mod_init 51 = .ok (.aload_n 0, 1) := by decide +kernel
theorem d_Mod_init_52 : decode b_Mod_init 52 = .ok (.bipush 41, 2) := by decide +kernel
theorem d_Mod_init_54 : decode b_Mod_init 54 = .ok (.newarray .boolean, 2) := by decide +kernel
theorem d_Mod_init_56 : decode b_Mod_init 56 = .ok (.putfield 30, 3) := by decide +kernel
theorem d_Mod_init_59 : decode b_Mod_init 59 = .ok (.aload_n 0, 1) := by decide +kernel
theorem d_Mod_init_60 : decode b_Mod_init 60 = .ok (.bipush 40, 2) := by decide +kernel
theorem d_Mod_init_62 : decode b_Mod_init 62 = .ok (.newarray .long, 2) := by decide +kernel
theorem d_Mod_init_64 : decode b_Mod_init 64 = .ok (.putfield 34, 3) := by decide +kernel
theorem d_Mod_init_67 : decode b_Mod_init 67 = .ok (.aload_n 0, 1) := by decide +kernel
theorem d_Mod_init_68 : decode b_Mod_init 68 = .ok (.sipush 4096, 3) := by decide +kernel
theorem d_Mod_init_71 : decode b_Mod_init 71 = .ok (.newarray .int, 2) := by decide +kernel
theorem d_Mod_init_73 : decode b_Mod_init 73 = .ok (.putfield 37, 3) := by decide +kernel
theorem d_Mod_init_76 : decode b_Mod_init 76 = .ok (.aload_n 0, 1) := by decide +kernel
theorem d_Mod_init_77 : decode b_Mod_init 77 = .ok (.sipush 4096, 3) := by decide +kernel
theorem d_Mod_init_80 : decode b_Mod_init 80 = .ok (.newarray .int, 2) := by decide +kernel
theorem d_Mod_init_82 : decode b_Mod_init 82 = .ok (.putfield 40, 3) := by decide +kernel
theorem d_Mod_init_85 : decode b_Mod_init 85 = .ok (.aload_n 0, 1) := by decide +kernel
theorem d_Mod_init_86 : decode b_Mod_init 86 = .ok (.sipush 256, 3) := by decide +kernel
theorem d_Mod_init_89 : decode b_Mod_init 89 = .ok (.newarray .long, 2) := by decide +kernel
theorem d_Mod_init_91 : decode b_Mod_init 91 = .ok (.putfield 43, 3) := by decide +kernel
theorem d_Mod_init_94 : decode b_Mod_init 94 = .ok (.aload_n 0, 1) := by decide +kernel
theorem d_Mod_init_95 : decode b_Mod_init 95 = .ok (.bipush 32, 2) := by decide +kernel
theorem d_Mod_init_97 : decode b_Mod_init 97 = .ok (.newarray .long, 2) := by decide +kernel
theorem d_Mod_init_99 : decode b_Mod_init 99 = .ok (.putfield 46, 3) := by decide +kernel
theorem d_Mod_init_102 : decode b_Mod_init 102 = .ok (.aload_n 0, 1) := by decide +kernel
theorem d_Mod_init_103 : decode b_Mod_init 103 = .ok (.sipush 300, 3) := by decide +kernel
theorem d_Mod_init_106 : decode b_Mod_init 106 = .ok (.newarray .long, 2) := by decide +kernel
theorem d_Mod_init_108 : decode b_Mod_init 108 = .ok (.putfield 49, 3) := by decide +kernel
theorem d_Mod_init_111 : decode b_Mod_init 111 = .ok (.aload_n 0, 1) := by decide +kernel
theorem d_Mod_init_112 : decode b_Mod_init 112 = .ok (.sipush 600, 3) := by decide +kernel
theorem d_Mod_init_115 : decode b_Mod_init 115 = .ok (.newarray .long, 2) := by decide +kernel
theorem d_Mod_init_117 : decode b_Mod_init 117 = .ok (.putfield 52, 3) := by decide +kernel
theorem d_Mod_init_120 : decode b_Mod_init 120 = .ok (.aload_n 0, 1) := by decide +kernel
theorem d_Mod_init_121 : decode b_Mod_init 121 = .ok (.invokevirtual 55, 3) := by decide +kernel
theorem d_Mod_init_124 : decode b_Mod_init 124 = .ok (.return_, 1) := by decide +kernel
theorem d_Mod_assemble_0 : decode b_Mod_assemble 0 = .ok (.aload_n 0, 1) := by decide +kernel
theorem d_Mod_assemble_1 : decode b_Mod_assemble 1 = .ok (.iconst 0, 1) := by decide +kernel
theorem d_Mod_assemble_2 : decode b_Mod_assemble 2 = .ok (.putfield 58, 3) := by decide +kernel
theorem d_Mod_assemble_5 : decode b_Mod_assemble 5 = .ok (.iload_n 1, 1) := by decide +kernel
theorem d_Mod_assemble_6 : decode b_Mod_assemble 6 = .ok (.ifCond .lt 11, 3) := by decide +kernel
theorem d_Mod_assemble_9 : decode b_Mod_assemble 9 = .ok (.iload_n 1, 1) := by decide +kernel
theorem d_Mod_assemble_10 : decode b_Mod_assemble 10 = .ok (.aload_n 0, 1) := by decide +kernel
theorem d_Mod_assemble_11 : decode b_Mod_assemble 11 = .ok (.getfield 85, 3) := by decide +kernel
theorem d_Mod_assemble_14 : decode b_Mod_assemble 14 = .ok (.if_icmp .le 5, 3) := by decide +kernel
theorem d_Mod_assemble_17 : decode b_Mod_assemble 17 = .ok (.iconst (-1), 1) := by decide +kernel
theorem d_Mod_assemble_18 : decode b_Mod_assemble 18 = .ok (.ireturn, 1) := by decide +kernel
theorem d_Mod_assemble_19 : decode b_Mod_assemble 19 = .ok (.iconst 0, 1) := by decide +kernel
theorem d_Mod_assemble_20 : decode b_Mod_assemble 20 = .ok (.istore_n 2, 1) := by decide +kernel
theorem d_Mod_assemble_21 : decode b_Mod_assemble 21 = .ok (.iload_n 2, 1) := by decide +kernel
theorem d_Mod_assemble_22 : decode b_Mod_assemble 22 = .ok (.iload_n 1, 1) := by decide +kernel
theorem d_Mod_assemble_23 : decode b_Mod_assemble 23 = .ok (.if_icmp .ge 21, 3) := by decide +kernel
theorem d_Mod_assemble_44 : decode b_Mod_assemble 44 = .ok (.aload_n 0, 1) := by decide +kernel
theorem d_Mod_assemble_45 : decode b_Mod_assemble 45 = .ok (.iload_n 1, 1) := by decide +kernel
theorem d_Mod_assemble_46 : decode b_Mod_assemble 46 = .ok (.putfield 88, 3) := by decide +kernel
theorem d_Mod_assemble_49 : decode b_Mod_assemble 49 = .ok (.aload_n 0, 1) := by decide +kernel
theorem d_Mod_assemble_50 : decode b_Mod_assemble 50 = .ok (.iconst 0, 1) := by decide +kernel
theorem d_Mod_assemble_51 : decode b_Mod_assemble 51 = .ok (.putfield 85, 3) := by decide +kernel
theorem d_Mod_assemble_54 : decode b_Mod_assemble 54 = .ok (.aload_n 0, 1) := by decide +kernel
theorem d_Mod_assemble_55 : decode b_Mod_assemble 55 = .ok (.aload_n 0, 1) := by decide +kernel
theorem d_Mod_assemble_56 : decode b_Mod_assemble 56 = .ok (.invokevirtual 292, 3) := by decide +kernel
theorem d_Mod_assemble_59 : decode b_Mod_assemble 59 = .ok (.putfield 16, 3) := by decide +kernel
theorem d_Mod_assemble_62 : decode b_Mod_assemble 62 = .ok (.aload_n 0, 1) := by decide +kernel
theorem d_Mod_assemble_63 : decode b_Mod_assemble 63 = .ok (.getfield 16, 3) := by decide +kernel
theorem d_Mod_assemble_66 : decode b_Mod_assemble 66 = .ok (.iconst (-1), 1) := by decide +kernel
theorem d_Mod_assemble_67 : decode b_Mod_assemble 67 = .ok (.if_icmp .ne 11, 3) := by decide +kernel
theorem d_Mod_assemble_70 : decode b_Mod_assemble 70 = .ok (.aload_n 0, 1) := by decide +kernel
theorem d_Mod_assemble_71 : decode b_Mod_assemble 71 = .ok (.aload_n 0, 1) := by decide +kernel
theorem d_Mod_assemble_72 : decode b_Mod_assemble 72 = .ok (.invokevirtual 295, 3) := by decide +kernel
theorem d_Mod_assemble_75 : decode b_Mod_assemble 75 = .ok (.putfield 16, 3) := by decide +kernel
theorem d_Mod_assemble_78 : decode b_Mod_assemble 78 = .ok (.aload_n 0, 1) := by decide +kernel
theorem d_Mod_assemble_79 : decode b_Mod_assemble 79 = .ok (.getfield 16, 3) := by decide +kernel
theorem d_Mod_assemble_82 : decode b_Mod_assemble 82 = .ok (.iconst (-1), 1) := by decide +kernel
