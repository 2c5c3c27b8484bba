theorem dL_holds_349 : decode cL_holds 349 = .ok (.istore 10, 2) := by decide +kernel
theorem dL_holds_351 : decode cL_holds 351 = .ok (.iload 5, 2) := by decide +kernel
theorem dL_holds_353 : decode cL_holds 353 = .ok (.iconst 1, 1) := by decide +kernel
theorem dL_holds_354 : decode cL_holds 354 = .ok (.iadd, 1) := by decide +kernel
theorem dL_holds_355 : decode cL_holds 355 = .ok (.aload_n 0, 1) := by decide +kernel
theorem dL_holds_356 : decode cL_holds 356 = .ok (.iconst 1, 1) := by decide +kernel
theorem dL_holds_357 : decode cL_holds 357 = .ok (.invokevirtual 9, 3) := by decide +kernel
theorem dL_holds_360 : decode cL_holds 360 = .ok (.if_icmp .ge 39, 3) := by decide +kernel
theorem dL_holds_363 : decode cL_holds 363 = .ok (.iload 10, 2) := by decide +kernel
theorem dL_holds_365 : decode cL_holds 365 = .ok (.aload_n 0, 1) := by decide +kernel
theorem dL_holds_366 : decode cL_holds 366 = .ok (.iload 5, 2) := by decide +kernel
theorem dL_holds_368 : decode cL_holds 368 = .ok (.iconst 1, 1) := by decide +kernel
theorem dL_holds_369 : decode cL_holds 369 = .ok (.iadd, 1) := by decide +kernel
theorem dL_holds_370 : decode cL_holds 370 = .ok (.iconst 4, 1) := by decide +kernel
theorem dL_holds_371 : decode cL_holds 371 = .ok (.invokevirtual 15, 3) := by decide +kernel
theorem dL_holds_374 : decode cL_holds 374 = .ok (.if_icmp .ge 25, 3) := by decide +kernel
theorem dL_holds_377 : decode cL_holds 377 = .ok (.iload 9, 2) := by decide +kernel
theorem dL_holds_379 : decode cL_holds 379 = .ok (.aload_n 0, 1) := by decide +kernel
theorem dL_holds_380 : decode cL_holds 380 = .ok (.iload 5, 2) := by decide +kernel
theorem dL_holds_382 : decode cL_holds 382 = .ok (.iconst 1, 1) := by decide +kernel
theorem dL_holds_383 : decode cL_holds 383 = .ok (.iadd, 1) := by decide +kernel
theorem dL_holds_384 : decode cL_holds 384 = .ok (.iload 10, 2) := by decide +kernel
theorem dL_holds_386 : decode cL_holds 386 = .ok (.iconst 3, 1) := by decide +kernel
theorem dL_holds_387 : decode cL_holds 387 = .ok (.invokevirtual 22, 3) := by decide +kernel
theorem dL_holds_390 : decode cL_holds 390 = .ok (.iadd, 1) := by decide +kernel
theorem dL_holds_391 : decode cL_holds 391 = .ok (.istore 9, 2) := by decide +kernel
theorem dL_holds_393 : decode cL_holds 393 = .ok (.iinc 10 1, 3) := by decide +kernel
theorem dL_holds_396 : decode cL_holds 396 = .ok (.goto (-45), 3) := by decide +kernel
theorem dL_holds_399 : decode cL_holds 399 = .ok (.iload 4, 2) := by decide +kernel
theorem dL_holds_401 : decode cL_holds 401 = .ok (.ifCond .eq 14, 3) := by decide +kernel
theorem dL_holds_404 : decode cL_holds 404 = .ok (.iload 9, 2) := by decide +kernel
theorem dL_holds_406 : decode cL_holds 406 = .ok (.iload 8, 2) := by decide +kernel
theorem dL_holds_408 : decode cL_holds 408 = .ok (.if_icmp .ne 7, 3) := by decide +kernel
theorem dL_holds_411 : decode cL_holds 411 = .ok (.iconst 1, 1) := by decide +kernel
theorem dL_holds_412 : decode cL_holds 412 = .ok (.goto 4, 3) := by decide +kernel
theorem dL_holds_415 : decode cL_holds 415 = .ok (.iconst 0, 1) := by decide +kernel
theorem dL_holds_416 : decode cL_holds 416 = .ok (.istore 4, 2) := by decide +kernel
theorem dL_holds_418 : decode cL_holds 418 = .ok (.iinc 5 1, 3) := by decide +kernel
theorem dL_holds_421 : decode cL_holds 421 = .ok (.goto (-409), 3) := by decide +kernel
theorem dL_holds_424 : decode cL_holds 424 = .ok (.iload 4, 2) := by decide +kernel
theorem dL_holds_426 : decode cL_holds 426 = .ok (.ifCond .eq 34, 3) := by decide +kernel
theorem dL_holds_429 : decode cL_holds 429 = .ok (.iload_n 1, 1) := by decide +kernel
theorem dL_holds_430 : decode cL_holds 430 = .ok (.aload_n 0, 1) := by decide +kernel
theorem dL_holds_431 : decode cL_holds 431 = .ok (.iconst 0, 1) := by decide +kernel
theorem dL_holds_432 : decode cL_holds 432 = .ok (.invokevirtual 9, 3) := by decide +kernel
theorem dL_holds_435 : decode cL_holds 435 = .ok (.if_icmp .ne 25, 3) := by decide +kernel
theorem dL_holds_438 : decode cL_holds 438 = .ok (.iload_n 2, 1) := by decide +kernel
theorem dL_holds_439 : decode cL_holds 439 = .ok (.aload_n 0, 1) := by decide +kernel
theorem dL_holds_440 : decode cL_holds 440 = .ok (.iconst 4, 1) := by decide +kernel
theorem dL_holds_441 : decode cL_holds 441 = .ok (.invokevirtual 9, 3) := by decide +kernel
theorem dL_holds_444 : decode cL_holds 444 = .ok (.if_icmp .ne 16, 3) := by decide +kernel
theorem dL_holds_447 : decode cL_holds 447 = .ok (.iload_n 3, 1) := by decide +kernel
theorem dL_holds_448 : decode cL_holds 448 = .ok (.aload_n 0, 1) := by decide +kernel
theorem dL_holds_449 : decode cL_holds 449 = .ok (.iconst 5, 1) := by decide +kernel
theorem dL_holds_450 : decode cL_holds 450 = .ok (.invokevirtual 9, 3) := by decide +kernel
theorem dL_holds_453 : decode cL_holds 453 = .ok (.if_icmp .ne 7, 3) := by decide +kernel
theorem dL_holds_456 : decode cL_holds 456 = .ok (.iconst 1, 1) := by decide +kernel
theorem dL_holds_457 : decode cL_holds 457 = .ok (.goto 4, 3) := by decide +kernel
theorem dL_holds_460 : decode cL_holds 460 = .ok (.iconst 0, 1) := by decide +kernel
theorem dL_holds_461 : decode cL_holds 461 = .ok (.ireturn, 1) := by decide +kernel
theorem dL_dams_0 : decode cL_dams 0 = .ok (.aload_n 0, 1) := by decide +kernel
theorem dL_dams_1 : decode cL_dams 1 = .ok (.invokevirtual 26, 3) := by decide +kernel
theorem dL_dams_4 : decode cL_dams 4 = .ok (.istore_n 2, 1) := by decide +kernel
theorem dL_dams_5 : decode cL_dams 5 = .ok (.aload_n 0, 1) := by decide +kernel
theorem dL_dams_6 : decode cL_dams 6 = .ok (.iload_n 1, 1) := by decide +kernel
theorem dL_dams_7 : decode cL_dams 7 = .ok (.iconst 0, 1) := by decide +kernel
theorem dL_dams_8 : decode cL_dams 8 = .ok (.invokevirtual 30, 3) := by decide +kernel
theorem dL_dams_11 : decode cL_dams 11 = .ok (.istore_n 3, 1) := by decide +kernel
theorem dL_dams_12 : decode cL_dams 12 = .ok (.iload_n 3, 1) := by decide +kernel
theorem dL_dams_13 : decode cL_dams 13 = .ok (.ifCond .lt 7, 3) := by decide +kernel
