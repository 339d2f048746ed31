theorem d_LittleMixLaw_law_231 : decode b_LittleMixLaw_law 231 = .ok (.pop, 1) := by decide +kernel
theorem d_LittleMixLaw_law_232 : decode b_LittleMixLaw_law 232 = .ok (.aload_n 2, 1) := by decide +kernel
theorem d_LittleMixLaw_law_233 : decode b_LittleMixLaw_law 233 = .ok (.aload_n 0, 1) := by decide +kernel
theorem d_LittleMixLaw_law_234 : decode b_LittleMixLaw_law 234 = .ok (.iload_n 3, 1) := by decide +kernel
theorem d_LittleMixLaw_law_235 : decode b_LittleMixLaw_law 235 = .ok (.iconst 1, 1) := by decide +kernel
theorem d_LittleMixLaw_law_236 : decode b_LittleMixLaw_law 236 = .ok (.iadd, 1) := by decide +kernel
theorem d_LittleMixLaw_law_237 : decode b_LittleMixLaw_law 237 = .ok (.iaload, 1) := by decide +kernel
theorem d_LittleMixLaw_law_238 : decode b_LittleMixLaw_law 238 = .ok (.invokevirtual 36, 3) := by decide +kernel
theorem d_LittleMixLaw_law_241 : decode b_LittleMixLaw_law 241 = .ok (.pop, 1) := by decide +kernel
theorem d_LittleMixLaw_law_242 : decode b_LittleMixLaw_law 242 = .ok (.goto 175, 3) := by decide +kernel
theorem d_LittleMixLaw_law_245 : decode b_LittleMixLaw_law 245 = .ok (.aload_n 1, 1) := by decide +kernel
theorem d_LittleMixLaw_law_246 : decode b_LittleMixLaw_law 246 = .ok (.aload_n 0, 1) := by decide +kernel
theorem d_LittleMixLaw_law_247 : decode b_LittleMixLaw_law 247 = .ok (.iload_n 3, 1) := by decide +kernel
theorem d_LittleMixLaw_law_248 : decode b_LittleMixLaw_law 248 = .ok (.iconst 1, 1) := by decide +kernel
theorem d_LittleMixLaw_law_249 : decode b_LittleMixLaw_law 249 = .ok (.iadd, 1) := by decide +kernel
theorem d_LittleMixLaw_law_250 : decode b_LittleMixLaw_law 250 = .ok (.iaload, 1) := by decide +kernel
theorem d_LittleMixLaw_law_251 : decode b_LittleMixLaw_law 251 = .ok (.aload_n 0, 1) := by decide +kernel
theorem d_LittleMixLaw_law_252 : decode b_LittleMixLaw_law 252 = .ok (.iload_n 3, 1) := by decide +kernel
theorem d_LittleMixLaw_law_253 : decode b_LittleMixLaw_law 253 = .ok (.iconst 2, 1) := by decide +kernel
theorem d_LittleMixLaw_law_254 : decode b_LittleMixLaw_law 254 = .ok (.iadd, 1) := by decide +kernel
theorem d_LittleMixLaw_law_255 : decode b_LittleMixLaw_law 255 = .ok (.iaload, 1) := by decide +kernel
theorem d_LittleMixLaw_law_256 : decode b_LittleMixLaw_law 256 = .ok (.aload_n 0, 1) := by decide +kernel
theorem d_LittleMixLaw_law_257 : decode b_LittleMixLaw_law 257 = .ok (.iload_n 3, 1) := by decide +kernel
theorem d_LittleMixLaw_law_258 : decode b_LittleMixLaw_law 258 = .ok (.iconst 3, 1) := by decide +kernel
theorem d_LittleMixLaw_law_259 : decode b_LittleMixLaw_law 259 = .ok (.iadd, 1) := by decide +kernel
theorem d_LittleMixLaw_law_260 : decode b_LittleMixLaw_law 260 = .ok (.iaload, 1) := by decide +kernel
theorem d_LittleMixLaw_law_261 : decode b_LittleMixLaw_law 261 = .ok (.invokevirtual 37, 3) := by decide +kernel
theorem d_LittleMixLaw_law_264 : decode b_LittleMixLaw_law 264 = .ok (.aload_n 2, 1) := by decide +kernel
theorem d_LittleMixLaw_law_265 : decode b_LittleMixLaw_law 265 = .ok (.aload_n 0, 1) := by decide +kernel
theorem d_LittleMixLaw_law_266 : decode b_LittleMixLaw_law 266 = .ok (.iload_n 3, 1) := by decide +kernel
theorem d_LittleMixLaw_law_267 : decode b_LittleMixLaw_law 267 = .ok (.iconst 1, 1) := by decide +kernel
theorem d_LittleMixLaw_law_268 : decode b_LittleMixLaw_law 268 = .ok (.iadd, 1) := by decide +kernel
theorem d_LittleMixLaw_law_269 : decode b_LittleMixLaw_law 269 = .ok (.iaload, 1) := by decide +kernel
theorem d_LittleMixLaw_law_270 : decode b_LittleMixLaw_law 270 = .ok (.aload_n 0, 1) := by decide +kernel
theorem d_LittleMixLaw_law_271 : decode b_LittleMixLaw_law 271 = .ok (.iload_n 3, 1) := by decide +kernel
theorem d_LittleMixLaw_law_272 : decode b_LittleMixLaw_law 272 = .ok (.iconst 2, 1) := by decide +kernel
theorem d_LittleMixLaw_law_273 : decode b_LittleMixLaw_law 273 = .ok (.iadd, 1) := by decide +kernel
theorem d_LittleMixLaw_law_274 : decode b_LittleMixLaw_law 274 = .ok (.iaload, 1) := by decide +kernel
theorem d_LittleMixLaw_law_275 : decode b_LittleMixLaw_law 275 = .ok (.aload_n 0, 1) := by decide +kernel
theorem d_LittleMixLaw_law_276 : decode b_LittleMixLaw_law 276 = .ok (.iload_n 3, 1) := by decide +kernel
theorem d_LittleMixLaw_law_277 : decode b_LittleMixLaw_law 277 = .ok (.iconst 3, 1) := by decide +kernel
theorem d_LittleMixLaw_law_278 : decode b_LittleMixLaw_law 278 = .ok (.iadd, 1) := by decide +kernel
theorem d_LittleMixLaw_law_279 : decode b_LittleMixLaw_law 279 = .ok (.iaload, 1) := by decide +kernel
theorem d_LittleMixLaw_law_280 : decode b_LittleMixLaw_law 280 = .ok (.invokevirtual 41, 3) := by decide +kernel
theorem d_LittleMixLaw_law_283 : decode b_LittleMixLaw_law 283 = .ok (.if_icmp .eq 134, 3) := by decide +kernel
theorem d_LittleMixLaw_law_288 : decode b_LittleMixLaw_law 288 = .ok (.aload_n 1, 1) := by decide +kernel
theorem d_LittleMixLaw_law_289 : decode b_LittleMixLaw_law 289 = .ok (.invokevirtual 42, 3) := by decide +kernel
theorem d_LittleMixLaw_law_292 : decode b_LittleMixLaw_law 292 = .ok (.aload_n 2, 1) := by decide +kernel
theorem d_LittleMixLaw_law_293 : decode b_LittleMixLaw_law 293 = .ok (.invokevirtual 45, 3) := by decide +kernel
theorem d_LittleMixLaw_law_296 : decode b_LittleMixLaw_law 296 = .ok (.goto 121, 3) := by decide +kernel
theorem d_LittleMixLaw_law_299 : decode b_LittleMixLaw_law 299 = .ok (.aload_n 1, 1) := by decide +kernel
theorem d_LittleMixLaw_law_300 : decode b_LittleMixLaw_law 300 = .ok (.aload_n 0, 1) := by decide +kernel
theorem d_LittleMixLaw_law_301 : decode b_LittleMixLaw_law 301 = .ok (.iload_n 3, 1) := by decide +kernel
theorem d_LittleMixLaw_law_302 : decode b_LittleMixLaw_law 302 = .ok (.iconst 1, 1) := by decide +kernel
theorem d_LittleMixLaw_law_303 : decode b_LittleMixLaw_law 303 = .ok (.iadd, 1) := by decide +kernel
theorem d_LittleMixLaw_law_304 : decode b_LittleMixLaw_law 304 = .ok (.iaload, 1) := by decide +kernel
theorem d_LittleMixLaw_law_305 : decode b_LittleMixLaw_law 305 = .ok (.invokevirtual 46, 3) := by decide +kernel
theorem d_LittleMixLaw_law_308 : decode b_LittleMixLaw_law 308 = .ok (.pop, 1) := by decide +kernel
theorem d_LittleMixLaw_law_309 : decode b_LittleMixLaw_law 309 = .ok (.aload_n 2, 1) := by decide +kernel
theorem d_LittleMixLaw_law_310 : decode b_LittleMixLaw_law 310 = .ok (.aload_n 0, 1) := by decide +kernel
theorem d_LittleMixLaw_law_311 : decode b_LittleMixLaw_law 311 = .ok (.iload_n 3, 1) := by decide +kernel
theorem d_LittleMixLaw_law_312 : decode b_LittleMixLaw_law 312 = .ok (.iconst 1, 1) := by decide +kernel
theorem d_LittleMixLaw_law_313 : decode b_LittleMixLaw_law 313 = .ok (.iadd, 1) := by decide +kernel
theorem d_LittleMixLaw_law_314 : decode b_LittleMixLaw_law 314 = .ok (.iaload, 1) := by decide +kernel
theorem d_LittleMixLaw_law_315 : decode b_LittleMixLaw_law 315 = .ok (.invokevirtual 49, 3) := by decide +kernel
theorem d_LittleMixLaw_law_318 : decode b_LittleMixLaw_law 318 = .ok (.pop, 1) := by decide +kernel
theorem d_LittleMixLaw_law_319 : decode b_LittleMixLaw_law 319 = .ok (.goto 98, 3) := by decide +kernel
theorem d_LittleMixLaw_law_322 : decode b_LittleMixLaw_law 322 = .ok (.aload_n 1, 1) := by decide +kernel
theorem d_LittleMixLaw_law_323 : decode b_LittleMixLaw_law 323 = .ok (.invokevirtual 50, 3) := by decide +kernel
theorem d_LittleMixLaw_law_326 : decode b_LittleMixLaw_law 326 = .ok (.pop, 1) := by decide +kernel
theorem d_LittleMixLaw_law_327 : decode b_LittleMixLaw_law 327 = .ok (.aload_n 2, 1) := by decide +kernel
theorem d_LittleMixLaw_law_328 : decode b_LittleMixLaw_law 328 = .ok (.invokevirtual 53, 3) := by decide +kernel
theorem d_LittleMixLaw_law_331 : decode b_LittleMixLaw_law 331 = .ok (.pop, 1) := by decide +kernel
theorem d_LittleMixLaw_law_332 : decode b_LittleMixLaw_law 332 = .ok (.goto 85, 3) := by decide +kernel
theorem d_LittleMixLaw_law_335 : decode b_LittleMixLaw_law 335 = .ok (.aload_n 1, 1) := by decide +kernel
theorem d_LittleMixLaw_law_336 : decode b_LittleMixLaw_law 336 = .ok (.aload_n 0, 1) := by decide +kernel
theorem d_LittleMixLaw_law_337 : decode b_LittleMixLaw_law 337 = .ok (.iload_n 3, 1) := by decide +kernel
theorem d_LittleMixLaw_law_338 : decode b_LittleMixLaw_law 338 = .ok (.iconst 1, 1) := by decide +kernel
theorem d_LittleMixLaw_law_339 : decode b_LittleMixLaw_law 339 = .ok (.iadd, 1) := by decide +kernel
theorem d_LittleMixLaw_law_340 : decode b_LittleMixLaw_law 340 = .ok (.iaload, 1) := by decide +kernel
theorem d_LittleMixLaw_law_341 : decode b_LittleMixLaw_law 341 = .ok (.invokevirtual 54, 3) := by decide +kernel
theorem d_LittleMixLaw_law_344 : decode b_LittleMixLaw_law 344 = .ok (.pop2, 1) := by decide +kernel
theorem d_LittleMixLaw_law_345 : decode b_LittleMixLaw_law 345 = .ok (.aload_n 2, 1) := by decide +kernel
theorem d_LittleMixLaw_law_346 : decode b_LittleMixLaw_law 346 = .ok (.aload_n 0, 1) := by decide +kernel
theorem d_LittleMixLaw_law_347 : decode b_LittleMixLaw_law 347 = .ok (.iload_n 3, 1) := by decide +kernel
theorem d_LittleMixLaw_law_348 : decode b_LittleMixLaw_law 348 = .ok (.iconst 1, 1) := by decide +kernel
theorem d_LittleMixLaw_law_349 : decode b_LittleMixLaw_law 349 = .ok (.iadd, 1) := by decide +kernel
theorem d_LittleMixLaw_law_350 : decode b_LittleMixLaw_law 350 = .ok (.iaload, 1) := by decide +kernel
theorem d_LittleMixLaw_law_351 : decode b_LittleMixLaw_law 351 = .ok (.invokevirtual 57, 3) := by decide +kernel
theorem d_LittleMixLaw_law_354 : decode b_LittleMixLaw_law 354 = .ok (.pop2, 1) := by decide +kernel
theorem d_LittleMixLaw_law_355 : decode b_LittleMixLaw_law 355 = .ok (.goto 62, 3) := by decide +kernel
theorem d_LittleMixLaw_law_358 : decode b_LittleMixLaw_law 358 = .ok (.aload_n 1, 1) := by decide +kernel
theorem d_LittleMixLaw_law_359 : decode b_LittleMixLaw_law 359 = .ok (.aload_n 0, 1) := by decide +kernel
theorem d_LittleMixLaw_law_360 : decode b_LittleMixLaw_law 360 = .ok (.iload_n 3, 1) := by decide +kernel
theorem d_LittleMixLaw_law_361 : decode b_LittleMixLaw_law 361 = .ok (.iconst 1, 1) := by decide +kernel
theorem d_LittleMixLaw_law_362 : decode b_LittleMixLaw_law 362 = .ok (.iadd, 1) := by decide +kernel
theorem d_LittleMixLaw_law_363 : decode b_LittleMixLaw_law 363 = .ok (.iaload, 1) := by decide +kernel
theorem d_LittleMixLaw_law_364 : decode b_LittleMixLaw_law 364 = .ok (.invokevirtual 58, 3) := by decide +kernel
theorem d_LittleMixLaw_law_367 : decode b_LittleMixLaw_law 367 = .ok (.pop2, 1) := by decide +kernel
theorem d_LittleMixLaw_law_368 : decode b_LittleMixLaw_law 368 = .ok (.aload_n 2, 1) := by decide +kernel
theorem d_LittleMixLaw_law_369 : decode b_LittleMixLaw_law 369 = .ok (.aload_n 0, 1) := by decide +kernel
theorem d_LittleMixLaw_law_370 : decode b_LittleMixLaw_law 370 = .ok (.iload_n 3, 1) := by decide +kernel
theorem d_LittleMixLaw_law_371 : decode b_LittleMixLaw_law 371 = .ok (.iconst 1, 1) := by decide +kernel
theorem d_LittleMixLaw_law_372 : decode b_LittleMixLaw_law 372 = .ok (.iadd, 1) := by decide +kernel
theorem d_LittleMixLaw_law_373 : decode b_LittleMixLaw_law 373 = .ok (.iaload, 1) := by decide +kernel
theorem d_LittleMixLaw_law_374 : decode b_LittleMixLaw_law 374 = .ok (.invokevirtual 61, 3) := by decide +kernel
theorem d_LittleMixLaw_law_377 : decode b_LittleMixLaw_law 377 = .ok (.pop2, 1) := by decide +kernel
theorem d_LittleMixLaw_law_378 : decode b_LittleMixLaw_law 378 = .ok (.goto 39, 3) := by decide +kernel
theorem d_LittleMixLaw_law_381 : decode b_LittleMixLaw_law 381 = .ok (.aload_n 1, 1) := by decide +kernel
theorem d_LittleMixLaw_law_382 : decode b_LittleMixLaw_law 382 = .ok (.invokevirtual 62, 3) := by decide +kernel
theorem d_LittleMixLaw_law_385 : decode b_LittleMixLaw_law 385 = .ok (.pop2, 1) := by decide +kernel
theorem d_LittleMixLaw_law_386 : decode b_LittleMixLaw_law 386 = .ok (.aload_n 2, 1) := by decide +kernel
theorem d_LittleMixLaw_law_387 : decode b_LittleMixLaw_law 387 = .ok (.invokevirtual 66, 3) := by decide +kernel
theorem d_LittleMixLaw_law_390 : decode b_LittleMixLaw_law 390 = .ok (.pop2, 1) := by decide +kernel
theorem d_LittleMixLaw_law_391 : decode b_LittleMixLaw_law 391 = .ok (.goto 26, 3) := by decide +kernel
theorem d_LittleMixLaw_law_394 : decode b_LittleMixLaw_law 394 = .ok (.aload_n 1, 1) := by decide +kernel
theorem d_LittleMixLaw_law_395 : decode b_LittleMixLaw_law 395 = .ok (.aload_n 0, 1) := by decide +kernel
theorem d_LittleMixLaw_law_396 : decode b_LittleMixLaw_law 396 = .ok (.iload_n 3, 1) := by decide +kernel
theorem d_LittleMixLaw_law_397 : decode b_LittleMixLaw_law 397 = .ok (.iconst 1, 1) := by decide +kernel
theorem d_LittleMixLaw_law_398 : decode b_LittleMixLaw_law 398 = .ok (.iadd, 1) := by decide +kernel
theorem d_LittleMixLaw_law_399 : decode b_LittleMixLaw_law 399 = .ok (.iaload, 1) := by decide +kernel
theorem d_LittleMixLaw_law_400 : decode b_LittleMixLaw_law 400 = .ok (.invokevirtual 67, 3) := by decide +kernel
theorem d_LittleMixLaw_law_403 : decode b_LittleMixLaw_law 403 = .ok (.pop, 1) := by decide +kernel
theorem d_LittleMixLaw_law_404 : decode b_LittleMixLaw_law 404 = .ok (.aload_n 2, 1) := by decide +kernel
theorem d_LittleMixLaw_law_405 : decode b_LittleMixLaw_law 405 = .ok (.aload_n 0, 1) := by decide +kernel
theorem d_LittleMixLaw_law_406 : decode b_LittleMixLaw_law 406 = .ok (.iload_n 3, 1) := by decide +kernel
theorem d_LittleMixLaw_law_407 : decode b_LittleMixLaw_law 407 = .ok (.iconst 1, 1) := by decide +kernel
theorem d_LittleMixLaw_law_408 : decode b_LittleMixLaw_law 408 = .ok (.iadd, 1) := by decide +kernel
theorem d_LittleMixLaw_law_409 : decode b_LittleMixLaw_law 409 = .ok (.iaload, 1) := by decide +kernel
theorem d_LittleMixLaw_law_410 : decode b_LittleMixLaw_law 410 = .ok (.invokevirtual 70, 3) := by decide +kernel
theorem d_LittleMixLaw_law_413 : decode b_LittleMixLaw_law 413 = .ok (.pop, 1) := by decide +kernel
theorem d_LittleMixLaw_law_414 : decode b_LittleMixLaw_law 414 = .ok (.goto 3, 3) := by decide +kernel
theorem d_LittleMixLaw_law_417 : decode b_LittleMixLaw_law 417 = .ok (.iinc 3 6, 3) := by decide +kernel
theorem d_LittleMixLaw_law_420 : decode b_LittleMixLaw_law 420 = .ok (.goto (-402), 3) := by decide +kernel
theorem d_LittleMixLaw_law_423 : decode b_LittleMixLaw_law 423 = .ok (.iconst 1, 1) := by decide +kernel
theorem d_LittleMixLaw_law_424 : decode b_LittleMixLaw_law 424 = .ok (.ireturn, 1) := by decide +kernel
