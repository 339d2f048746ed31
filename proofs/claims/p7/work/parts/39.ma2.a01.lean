theorem d_Mod_term_399 : decode b_Mod_term 399 = .ok (.goto 20, 3) := by decide +kernel
theorem d_Mod_term_402 : decode b_Mod_term 402 = .ok (.iload 7, 2) := by decide +kernel
theorem d_Mod_term_404 : decode b_Mod_term 404 = .ok (.iconst (-1), 1) := by decide +kernel
theorem d_Mod_term_405 : decode b_Mod_term 405 = .ok (.if_icmp .eq 14, 3) := by decide +kernel
theorem d_Mod_term_408 : decode b_Mod_term 408 = .ok (.aload_n 0, 1) := by decide +kernel
theorem d_Mod_term_409 : decode b_Mod_term 409 = .ok (.aload_n 0, 1) := by decide +kernel
theorem d_Mod_term_410 : decode b_Mod_term 410 = .ok (.getfield 26, 3) := by decide +kernel
theorem d_Mod_term_413 : decode b_Mod_term 413 = .ok (.iload 7, 2) := by decide +kernel
theorem d_Mod_term_415 : decode b_Mod_term 415 = .ok (.laload, 1) := by decide +kernel
theorem d_Mod_term_416 : decode b_Mod_term 416 = .ok (.putfield 136, 3) := by decide +kernel
theorem d_Mod_term_419 : decode b_Mod_term 419 = .ok (.aload_n 0, 1) := by decide +kernel
theorem d_Mod_term_420 : decode b_Mod_term 420 = .ok (.iload 6, 2) := by decide +kernel
theorem d_Mod_term_422 : decode b_Mod_term 422 = .ok (.iconst (-1), 1) := by decide +kernel
theorem d_Mod_term_423 : decode b_Mod_term 423 = .ok (.if_icmp .ne 23, 3) := by decide +kernel
theorem d_Mod_term_426 : decode b_Mod_term 426 = .ok (.iload 7, 2) := by decide +kernel
theorem d_Mod_term_428 : decode b_Mod_term 428 = .ok (.iconst (-1), 1) := by decide +kernel
theorem d_Mod_term_429 : decode b_Mod_term 429 = .ok (.if_icmp .eq 17, 3) := by decide +kernel
theorem d_Mod_term_432 : decode b_Mod_term 432 = .ok (.aload_n 0, 1) := by decide +kernel
theorem d_Mod_term_433 : decode b_Mod_term 433 = .ok (.getfield 30, 3) := by decide +kernel
theorem d_Mod_term_436 : decode b_Mod_term 436 = .ok (.iload 7, 2) := by decide +kernel
theorem d_Mod_term_438 : decode b_Mod_term 438 = .ok (.baload, 1) := by decide +kernel
theorem d_Mod_term_439 : decode b_Mod_term 439 = .ok (.ifCond .eq 7, 3) := by decide +kernel
theorem d_Mod_term_442 : decode b_Mod_term 442 = .ok (.iconst 1, 1) := by decide +kernel
theorem d_Mod_term_443 : decode b_Mod_term 443 = .ok (.goto 4, 3) := by decide +kernel
theorem d_Mod_term_446 : decode b_Mod_term 446 = .ok (.iconst 0, 1) := by decide +kernel
theorem d_Mod_term_447 : decode b_Mod_term 447 = .ok (.putfield 143, 3) := by decide +kernel
theorem d_Mod_term_450 : decode b_Mod_term 450 = .ok (.aload_n 0, 1) := by decide +kernel
theorem d_Mod_term_451 : decode b_Mod_term 451 = .ok (.aload_n 0, 1) := by decide +kernel
theorem d_Mod_term_452 : decode b_Mod_term 452 = .ok (.getfield 162, 3) := by decide +kernel
theorem d_Mod_term_455 : decode b_Mod_term 455 = .ok (.ifCond .eq 19, 3) := by decide +kernel
theorem d_Mod_term_458 : decode b_Mod_term 458 = .ok (.iload 6, 2) := by decide +kernel
theorem d_Mod_term_460 : decode b_Mod_term 460 = .ok (.iconst (-1), 1) := by decide +kernel
theorem d_Mod_term_461 : decode b_Mod_term 461 = .ok (.if_icmp .ne 9, 3) := by decide +kernel
theorem d_Mod_term_464 : decode b_Mod_term 464 = .ok (.iload 7, 2) := by decide +kernel
theorem d_Mod_term_466 : decode b_Mod_term 466 = .ok (.iconst (-1), 1) := by decide +kernel
theorem d_Mod_term_467 : decode b_Mod_term 467 = .ok (.if_icmp .eq 7, 3) := by decide +kernel
theorem d_Mod_term_470 : decode b_Mod_term 470 = .ok (.iconst 1, 1) := by decide +kernel
theorem d_Mod_term_471 : decode b_Mod_term 471 = .ok (.goto 4, 3) := by decide +kernel
theorem d_Mod_term_474 : decode b_Mod_term 474 = .ok (.iconst 0, 1) := by decide +kernel
theorem d_Mod_term_475 : decode b_Mod_term 475 = .ok (.putfield 162, 3) := by decide +kernel
theorem d_Mod_term_478 : decode b_Mod_term 478 = .ok (.iload 5, 2) := by decide +kernel
theorem d_Mod_term_480 : decode b_Mod_term 480 = .ok (.iload_n 1, 1) := by decide +kernel
theorem d_Mod_term_481 : decode b_Mod_term 481 = .ok (.bipush 12, 2) := by decide +kernel
theorem d_Mod_term_483 : decode b_Mod_term 483 = .ok (.iadd, 1) := by decide +kernel
theorem d_Mod_term_484 : decode b_Mod_term 484 = .ok (.if_icmp .le 7, 3) := by decide +kernel
theorem d_Mod_term_487 : decode b_Mod_term 487 = .ok (.iconst (-1), 1) := by decide +kernel
theorem d_Mod_term_488 : decode b_Mod_term 488 = .ok (.goto 5, 3) := by decide +kernel
theorem d_Mod_term_491 : decode b_Mod_term 491 = .ok (.iload 5, 2) := by decide +kernel
theorem d_Mod_term_493 : decode b_Mod_term 493 = .ok (.ireturn, 1) := by decide +kernel
