theorem d_M_instruct_348 : decode b_M_instruct 348 = .ok (.iconst 1, 1) := by decide +kernel
theorem d_M_instruct_349 : decode b_M_instruct 349 = .ok (.iadd, 1) := by decide +kernel
theorem d_M_instruct_350 : decode b_M_instruct 350 = .ok (.iastore, 1) := by decide +kernel
theorem d_M_instruct_351 : decode b_M_instruct 351 = .ok (.iload 4, 2) := by decide +kernel
theorem d_M_instruct_353 : decode b_M_instruct 353 = .ok (.bipush 10, 2) := by decide +kernel
theorem d_M_instruct_355 : decode b_M_instruct 355 = .ok (.if_icmp .ne 15, 3) := by decide +kernel
theorem d_M_instruct_358 : decode b_M_instruct 358 = .ok (.aload_n 0, 1) := by decide +kernel
theorem d_M_instruct_359 : decode b_M_instruct 359 = .ok (.getfield 16, 3) := by decide +kernel
theorem d_M_instruct_362 : decode b_M_instruct 362 = .ok (.iload 5, 2) := by decide +kernel
theorem d_M_instruct_364 : decode b_M_instruct 364 = .ok (.aload_n 0, 1) := by decide +kernel
theorem d_M_instruct_365 : decode b_M_instruct 365 = .ok (.iload_n 2, 1) := by decide +kernel
theorem d_M_instruct_366 : decode b_M_instruct 366 = .ok (.invokevirtual 93, 3) := by decide +kernel
theorem d_M_instruct_369 : decode b_M_instruct 369 = .ok (.iastore, 1) := by decide +kernel
theorem d_M_instruct_370 : decode b_M_instruct 370 = .ok (.iload 4, 2) := by decide +kernel
theorem d_M_instruct_372 : decode b_M_instruct 372 = .ok (.bipush 11, 2) := by decide +kernel
theorem d_M_instruct_374 : decode b_M_instruct 374 = .ok (.if_icmp .ne 48, 3) := by decide +kernel
theorem d_M_instruct_377 : decode b_M_instruct 377 = .ok (.aload_n 0, 1) := by decide +kernel
theorem d_M_instruct_378 : decode b_M_instruct 378 = .ok (.getfield 16, 3) := by decide +kernel
theorem d_M_instruct_381 : decode b_M_instruct 381 = .ok (.iload_n 2, 1) := by decide +kernel
theorem d_M_instruct_382 : decode b_M_instruct 382 = .ok (.bipush 56, 2) := by decide +kernel
theorem d_M_instruct_384 : decode b_M_instruct 384 = .ok (.iadd, 1) := by decide +kernel
theorem d_M_instruct_385 : decode b_M_instruct 385 = .ok (.iconst 1, 1) := by decide +kernel
theorem d_M_instruct_386 : decode b_M_instruct 386 = .ok (.iastore, 1) := by decide +kernel
theorem d_M_instruct_387 : decode b_M_instruct 387 = .ok (.aload_n 0, 1) := by decide +kernel
theorem d_M_instruct_388 : decode b_M_instruct 388 = .ok (.getfield 16, 3) := by decide +kernel
theorem d_M_instruct_391 : decode b_M_instruct 391 = .ok (.iload_n 2, 1) := by decide +kernel
theorem d_M_instruct_392 : decode b_M_instruct 392 = .ok (.bipush 57, 2) := by decide +kernel
theorem d_M_instruct_394 : decode b_M_instruct 394 = .ok (.iadd, 1) := by decide +kernel
theorem d_M_instruct_395 : decode b_M_instruct 395 = .ok (.iload 7, 2) := by decide +kernel
theorem d_M_instruct_397 : decode b_M_instruct 397 = .ok (.bipush 7, 2) := by decide +kernel
theorem d_M_instruct_399 : decode b_M_instruct 399 = .ok (.iand, 1) := by decide +kernel
theorem d_M_instruct_400 : decode b_M_instruct 400 = .ok (.iastore, 1) := by decide +kernel
theorem d_M_instruct_401 : decode b_M_instruct 401 = .ok (.aload_n 0, 1) := by decide +kernel
theorem d_M_instruct_402 : decode b_M_instruct 402 = .ok (.getfield 16, 3) := by decide +kernel
theorem d_M_instruct_405 : decode b_M_instruct 405 = .ok (.iload_n 2, 1) := by decide +kernel
theorem d_M_instruct_406 : decode b_M_instruct 406 = .ok (.bipush 58, 2) := by decide +kernel
theorem d_M_instruct_408 : decode b_M_instruct 408 = .ok (.iadd, 1) := by decide +kernel
theorem d_M_instruct_409 : decode b_M_instruct 409 = .ok (.aload_n 0, 1) := by decide +kernel
theorem d_M_instruct_410 : decode b_M_instruct 410 = .ok (.getfield 16, 3) := by decide +kernel
theorem d_M_instruct_413 : decode b_M_instruct 413 = .ok (.iload 5, 2) := by decide +kernel
theorem d_M_instruct_415 : decode b_M_instruct 415 = .ok (.iaload, 1) := by decide +kernel
theorem d_M_instruct_416 : decode b_M_instruct 416 = .ok (.iastore, 1) := by decide +kernel
theorem d_M_instruct_417 : decode b_M_instruct 417 = .ok (.aload_n 0, 1) := by decide +kernel
theorem d_M_instruct_418 : decode b_M_instruct 418 = .ok (.iload_n 1, 1) := by decide +kernel
theorem d_M_instruct_419 : decode b_M_instruct 419 = .ok (.invokevirtual 97, 3) := by decide +kernel
theorem d_M_instruct_422 : decode b_M_instruct 422 = .ok (.iload 4, 2) := by decide +kernel
theorem d_M_instruct_424 : decode b_M_instruct 424 = .ok (.bipush 12, 2) := by decide +kernel
theorem d_M_instruct_426 : decode b_M_instruct 426 = .ok (.if_icmp .ne 20, 3) := by decide +kernel
theorem d_M_instruct_429 : decode b_M_instruct 429 = .ok (.aload_n 0, 1) := by decide +kernel
theorem d_M_instruct_430 : decode b_M_instruct 430 = .ok (.getfield 16, 3) := by decide +kernel
theorem d_M_instruct_433 : decode b_M_instruct 433 = .ok (.iload 5, 2) := by decide +kernel
theorem d_M_instruct_435 : decode b_M_instruct 435 = .ok (.aload_n 0, 1) := by decide +kernel
theorem d_M_instruct_436 : decode b_M_instruct 436 = .ok (.getfield 26, 3) := by decide +kernel
theorem d_M_instruct_439 : decode b_M_instruct 439 = .ok (.iload 7, 2) := by decide +kernel
theorem d_M_instruct_441 : decode b_M_instruct 441 = .ok (.bipush 7, 2) := by decide +kernel
theorem d_M_instruct_443 : decode b_M_instruct 443 = .ok (.iand, 1) := by decide +kernel
theorem d_M_instruct_444 : decode b_M_instruct 444 = .ok (.iaload, 1) := by decide +kernel
theorem d_M_instruct_445 : decode b_M_instruct 445 = .ok (.iastore, 1) := by decide +kernel
theorem d_M_instruct_446 : decode b_M_instruct 446 = .ok (.iload 4, 2) := by decide +kernel
theorem d_M_instruct_448 : decode b_M_instruct 448 = .ok (.bipush 13, 2) := by decide +kernel
theorem d_M_instruct_450 : decode b_M_instruct 450 = .ok (.if_icmp .ne 24, 3) := by decide +kernel
theorem d_M_instruct_453 : decode b_M_instruct 453 = .ok (.aload_n 0, 1) := by decide +kernel
theorem d_M_instruct_454 : decode b_M_instruct 454 = .ok (.getfield 16, 3) := by decide +kernel
theorem d_M_instruct_457 : decode b_M_instruct 457 = .ok (.iload_n 2, 1) := by decide +kernel
theorem d_M_instruct_458 : decode b_M_instruct 458 = .ok (.iconst 5, 1) := by decide +kernel
theorem d_M_instruct_459 : decode b_M_instruct 459 = .ok (.iadd, 1) := by decide +kernel
theorem d_M_instruct_460 : decode b_M_instruct 460 = .ok (.aload_n 0, 1) := by decide +kernel
theorem d_M_instruct_461 : decode b_M_instruct 461 = .ok (.getfield 16, 3) := by decide +kernel
theorem d_M_instruct_464 : decode b_M_instruct 464 = .ok (.iload 5, 2) := by decide +kernel
theorem d_M_instruct_466 : decode b_M_instruct 466 = .ok (.iaload, 1) := by decide +kernel
theorem d_M_instruct_467 : decode b_M_instruct 467 = .ok (.sipush 255, 3) := by decide +kernel
theorem d_M_instruct_470 : decode b_M_instruct 470 = .ok (.iand, 1) := by decide +kernel
theorem d_M_instruct_471 : decode b_M_instruct 471 = .ok (.iconst 1, 1) := by decide +kernel
theorem d_M_instruct_472 : decode b_M_instruct 472 = .ok (.iadd, 1) := by decide +kernel
theorem d_M_instruct_473 : decode b_M_instruct 473 = .ok (.iastore, 1) := by decide +kernel
theorem d_M_instruct_474 : decode b_M_instruct 474 = .ok (.aload_n 0, 1) := by decide +kernel
theorem d_M_instruct_475 : decode b_M_instruct 475 = .ok (.getfield 16, 3) := by decide +kernel
theorem d_M_instruct_478 : decode b_M_instruct 478 = .ok (.iload_n 2, 1) := by decide +kernel
theorem d_M_instruct_479 : decode b_M_instruct 479 = .ok (.bipush 59, 2) := by decide +kernel
theorem d_M_instruct_481 : decode b_M_instruct 481 = .ok (.iadd, 1) := by decide +kernel
theorem d_M_instruct_482 : decode b_M_instruct 482 = .ok (.dup2, 1) := by decide +kernel
theorem d_M_instruct_483 : decode b_M_instruct 483 = .ok (.iaload, 1) := by decide +kernel
theorem d_M_instruct_484 : decode b_M_instruct 484 = .ok (.iconst 1, 1) := by decide +kernel
theorem d_M_instruct_485 : decode b_M_instruct 485 = .ok (.iadd, 1) := by decide +kernel
theorem d_M_instruct_486 : decode b_M_instruct 486 = .ok (.iastore, 1) := by decide +kernel
theorem d_M_instruct_487 : decode b_M_instruct 487 = .ok (.aload_n 0, 1) := by decide +kernel
theorem d_M_instruct_488 : decode b_M_instruct 488 = .ok (.getfield 16, 3) := by decide +kernel
theorem d_M_instruct_491 : decode b_M_instruct 491 = .ok (.iload_n 2, 1) := by decide +kernel
theorem d_M_instruct_492 : decode b_M_instruct 492 = .ok (.iconst 4, 1) := by decide +kernel
theorem d_M_instruct_493 : decode b_M_instruct 493 = .ok (.iadd, 1) := by decide +kernel
theorem d_M_instruct_494 : decode b_M_instruct 494 = .ok (.iload 9, 2) := by decide +kernel
theorem d_M_instruct_496 : decode b_M_instruct 496 = .ok (.ifCond .eq 8, 3) := by decide +kernel
theorem d_M_instruct_499 : decode b_M_instruct 499 = .ok (.iload 7, 2) := by decide +kernel
theorem d_M_instruct_501 : decode b_M_instruct 501 = .ok (.goto 16, 3) := by decide +kernel
theorem d_M_instruct_504 : decode b_M_instruct 504 = .ok (.aload_n 0, 1) := by decide +kernel
theorem d_M_instruct_505 : decode b_M_instruct 505 = .ok (.getfield 16, 3) := by decide +kernel
theorem d_M_instruct_508 : decode b_M_instruct 508 = .ok (.iload_n 2, 1) := by decide +kernel
theorem d_M_instruct_509 : decode b_M_instruct 509 = .ok (.iconst 4, 1) := by decide +kernel
theorem d_M_instruct_510 : decode b_M_instruct 510 = .ok (.iadd, 1) := by decide +kernel
theorem d_M_instruct_511 : decode b_M_instruct 511 = .ok (.iaload, 1) := by decide +kernel
theorem d_M_instruct_512 : decode b_M_instruct 512 = .ok (.iconst 1, 1) := by decide +kernel
theorem d_M_instruct_513 : decode b_M_instruct 513 = .ok (.iadd, 1) := by decide +kernel
theorem d_M_instruct_514 : decode b_M_instruct 514 = .ok (.bipush 63, 2) := by decide +kernel
theorem d_M_instruct_516 : decode b_M_instruct 516 = .ok (.iand, 1) := by decide +kernel
theorem d_M_instruct_517 : decode b_M_instruct 517 = .ok (.iastore, 1) := by decide +kernel
theorem d_M_instruct_518 : decode b_M_instruct 518 = .ok (.aload_n 0, 1) := by decide +kernel
theorem d_M_instruct_519 : decode b_M_instruct 519 = .ok (.iload_n 2, 1) := by decide +kernel
theorem d_M_instruct_520 : decode b_M_instruct 520 = .ok (.invokevirtual 101, 3) := by decide +kernel
theorem d_M_instruct_523 : decode b_M_instruct 523 = .ok (.iconst 1, 1) := by decide +kernel
theorem d_M_instruct_524 : decode b_M_instruct 524 = .ok (.ireturn, 1) := by decide +kernel
theorem d_M_input_0 : decode b_M_input 0 = .ok (.iload_n 1, 1) := by decide +kernel
theorem d_M_input_1 : decode b_M_input 1 = .ok (.invokestatic 76, 3) := by decide +kernel
theorem d_M_input_4 : decode b_M_input 4 = .ok (.ifCond .ne 5, 3) := by decide +kernel
theorem d_M_input_7 : decode b_M_input 7 = .ok (.iconst (-1), 1) := by decide +kernel
theorem d_M_input_8 : decode b_M_input 8 = .ok (.ireturn, 1) := by decide +kernel
theorem d_M_input_9 : decode b_M_input 9 = .ok (.aload_n 0, 1) := by decide +kernel
theorem d_M_input_10 : decode b_M_input 10 = .ok (.iload_n 1, 1) := by decide +kernel
theorem d_M_input_11 : decode b_M_input 11 = .ok (.invokevirtual 104, 3) := by decide +kernel
theorem d_M_input_14 : decode b_M_input 14 = .ok (.ifCond .ne 6, 3) := by decide +kernel
theorem d_M_input_17 : decode b_M_input 17 = .ok (.bipush (-2), 2) := by decide +kernel
theorem d_M_input_19 : decode b_M_input 19 = .ok (.ireturn, 1) := by decide +kernel
theorem d_M_input_20 : decode b_M_input 20 = .ok (.bipush 60, 2) := by decide +kernel
theorem d_M_input_22 : decode b_M_input 22 = .ok (.iload_n 1, 1) := by decide +kernel
theorem d_M_input_23 : decode b_M_input 23 = .ok (.imul, 1) := by decide +kernel
theorem d_M_input_24 : decode b_M_input 24 = .ok (.istore_n 3, 1) := by decide +kernel
theorem d_M_input_25 : decode b_M_input 25 = .ok (.aload_n 0, 1) := by decide +kernel
theorem d_M_input_26 : decode b_M_input 26 = .ok (.getfield 16, 3) := by decide +kernel
theorem d_M_input_29 : decode b_M_input 29 = .ok (.iload_n 3, 1) := by decide +kernel
theorem d_M_input_30 : decode b_M_input 30 = .ok (.bipush 6, 2) := by decide +kernel
theorem d_M_input_32 : decode b_M_input 32 = .ok (.iadd, 1) := by decide +kernel
theorem d_M_input_33 : decode b_M_input 33 = .ok (.iaload, 1) := by decide +kernel
theorem d_M_input_34 : decode b_M_input 34 = .ok (.bipush 8, 2) := by decide +kernel
theorem d_M_input_36 : decode b_M_input 36 = .ok (.if_icmp .ne 6, 3) := by decide +kernel
theorem d_M_input_39 : decode b_M_input 39 = .ok (.bipush (-3), 2) := by decide +kernel
theorem d_M_input_41 : decode b_M_input 41 = .ok (.ireturn, 1) := by decide +kernel
theorem d_M_input_42 : decode b_M_input 42 = .ok (.aload_n 0, 1) := by decide +kernel
theorem d_M_input_43 : decode b_M_input 43 = .ok (.getfield 16, 3) := by decide +kernel
theorem d_M_input_46 : decode b_M_input 46 = .ok (.iload_n 3, 1) := by decide +kernel
theorem d_M_input_47 : decode b_M_input 47 = .ok (.bipush 7, 2) := by decide +kernel
theorem d_M_input_49 : decode b_M_input 49 = .ok (.iadd, 1) := by decide +kernel
theorem d_M_input_50 : decode b_M_input 50 = .ok (.aload_n 0, 1) := by decide +kernel
theorem d_M_input_51 : decode b_M_input 51 = .ok (.getfield 16, 3) := by decide +kernel
theorem d_M_input_54 : decode b_M_input 54 = .ok (.iload_n 3, 1) := by decide +kernel
theorem d_M_input_55 : decode b_M_input 55 = .ok (.bipush 6, 2) := by decide +kernel
theorem d_M_input_57 : decode b_M_input 57 = .ok (.iadd, 1) := by decide +kernel
theorem d_M_input_58 : decode b_M_input 58 = .ok (.iaload, 1) := by decide +kernel
theorem d_M_input_59 : decode b_M_input 59 = .ok (.iadd, 1) := by decide +kernel
theorem d_M_input_60 : decode b_M_input 60 = .ok (.iload_n 2, 1) := by decide +kernel
theorem d_M_input_61 : decode b_M_input 61 = .ok (.iastore, 1) := by decide +kernel
theorem d_M_input_62 : decode b_M_input 62 = .ok (.aload_n 0, 1) := by decide +kernel
theorem d_M_input_63 : decode b_M_input 63 = .ok (.getfield 16, 3) := by decide +kernel
theorem d_M_input_66 : decode b_M_input 66 = .ok (.iload_n 3, 1) := by decide +kernel
theorem d_M_input_67 : decode b_M_input 67 = .ok (.bipush 6, 2) := by decide +kernel
theorem d_M_input_69 : decode b_M_input 69 = .ok (.iadd, 1) := by decide +kernel
theorem d_M_input_70 : decode b_M_input 70 = .ok (.dup2, 1) := by decide +kernel
theorem d_M_input_71 : decode b_M_input 71 = .ok (.iaload, 1) := by decide +kernel
theorem d_M_input_72 : decode b_M_input 72 = .ok (.iconst 1, 1) := by decide +kernel
theorem d_M_input_73 : decode b_M_input 73 = .ok (.iadd, 1) := by decide +kernel
theorem d_M_input_74 : decode b_M_input 74 = .ok (.iastore, 1) := by decide +kernel
theorem d_M_input_75 : decode b_M_input 75 = .ok (.aload_n 0, 1) := by decide +kernel
theorem d_M_input_76 : decode b_M_input 76 = .ok (.getfield 16, 3) := by decide +kernel
theorem d_M_input_79 : decode b_M_input 79 = .ok (.iload_n 3, 1) := by decide +kernel
theorem d_M_input_80 : decode b_M_input 80 = .ok (.bipush 6, 2) := by decide +kernel
theorem d_M_input_82 : decode b_M_input 82 = .ok (.iadd, 1) := by decide +kernel
theorem d_M_input_83 : decode b_M_input 83 = .ok (.iaload, 1) := by decide +kernel
theorem d_M_input_84 : decode b_M_input 84 = .ok (.ireturn, 1) := by decide +kernel
theorem d_M_disk_0 : decode b_M_disk 0 = .ok (.iload_n 1, 1) := by decide +kernel
theorem d_M_disk_1 : decode b_M_disk 1 = .ok (.invokestatic 76, 3) := by decide +kernel
theorem d_M_disk_4 : decode b_M_disk 4 = .ok (.ifCond .ne 5, 3) := by decide +kernel
theorem d_M_disk_7 : decode b_M_disk 7 = .ok (.iconst (-1), 1) := by decide +kernel
theorem d_M_disk_8 : decode b_M_disk 8 = .ok (.ireturn, 1) := by decide +kernel
theorem d_M_disk_9 : decode b_M_disk 9 = .ok (.aload_n 0, 1) := by decide +kernel
theorem d_M_disk_10 : decode b_M_disk 10 = .ok (.getfield 19, 3) := by decide +kernel
theorem d_M_disk_13 : decode b_M_disk 13 = .ok (.iload_n 1, 1) := by decide +kernel
theorem d_M_disk_14 : decode b_M_disk 14 = .ok (.baload, 1) := by decide +kernel
theorem d_M_disk_15 : decode b_M_disk 15 = .ok (.ifCond .eq 28, 3) := by decide +kernel
theorem d_M_disk_18 : decode b_M_disk 18 = .ok (.aload_n 0, 1) := by decide +kernel
theorem d_M_disk_19 : decode b_M_disk 19 = .ok (.getfield 33, 3) := by decide +kernel
theorem d_M_disk_22 : decode b_M_disk 22 = .ok (.iload_n 1, 1) := by decide +kernel
theorem d_M_disk_23 : decode b_M_disk 23 = .ok (.baload, 1) := by decide +kernel
theorem d_M_disk_24 : decode b_M_disk 24 = .ok (.ifCond .eq 19, 3) := by decide +kernel
theorem d_M_disk_27 : decode b_M_disk 27 = .ok (.aload_n 0, 1) := by decide +kernel
theorem d_M_disk_28 : decode b_M_disk 28 = .ok (.getfield 23, 3) := by decide +kernel
theorem d_M_disk_31 : decode b_M_disk 31 = .ok (.iload_n 1, 1) := by decide +kernel
theorem d_M_disk_32 : decode b_M_disk 32 = .ok (.baload, 1) := by decide +kernel
theorem d_M_disk_33 : decode b_M_disk 33 = .ok (.ifCond .eq 13, 3) := by decide +kernel
theorem d_M_disk_36 : decode b_M_disk 36 = .ok (.aload_n 0, 1) := by decide +kernel
theorem d_M_disk_37 : decode b_M_disk 37 = .ok (.getfield 72, 3) := by decide +kernel
theorem d_M_disk_40 : decode b_M_disk 40 = .ok (.ifCond .eq 6, 3) := by decide +kernel
theorem d_M_disk_43 : decode b_M_disk 43 = .ok (.bipush (-2), 2) := by decide +kernel
theorem d_M_disk_45 : decode b_M_disk 45 = .ok (.ireturn, 1) := by decide +kernel
theorem d_M_disk_46 : decode b_M_disk 46 = .ok (.aload_n 0, 1) := by decide +kernel
theorem d_M_disk_47 : decode b_M_disk 47 = .ok (.getfield 33, 3) := by decide +kernel
theorem d_M_disk_50 : decode b_M_disk 50 = .ok (.iload_n 1, 1) := by decide +kernel
theorem d_M_disk_51 : decode b_M_disk 51 = .ok (.iconst 0, 1) := by decide +kernel
theorem d_M_disk_52 : decode b_M_disk 52 = .ok (.bastore, 1) := by decide +kernel
theorem d_M_disk_53 : decode b_M_disk 53 = .ok (.aload_n 0, 1) := by decide +kernel
theorem d_M_disk_54 : decode b_M_disk 54 = .ok (.getfield 42, 3) := by decide +kernel
theorem d_M_disk_57 : decode b_M_disk 57 = .ok (.iload_n 1, 1) := by decide +kernel
theorem d_M_disk_58 : decode b_M_disk 58 = .ok (.iaload, 1) := by decide +kernel
theorem d_M_disk_59 : decode b_M_disk 59 = .ok (.aload_n 0, 1) := by decide +kernel
theorem d_M_disk_60 : decode b_M_disk 60 = .ok (.getfield 83, 3) := by decide +kernel
theorem d_M_disk_63 : decode b_M_disk 63 = .ok (.if_icmp .eq 5, 3) := by decide +kernel
theorem d_M_disk_66 : decode b_M_disk 66 = .ok (.iconst 0, 1) := by decide +kernel
theorem d_M_disk_67 : decode b_M_disk 67 = .ok (.ireturn, 1) := by decide +kernel
theorem d_M_disk_68 : decode b_M_disk 68 = .ok (.aload_n 0, 1) := by decide +kernel
theorem d_M_disk_69 : decode b_M_disk 69 = .ok (.getfield 26, 3) := by decide +kernel
theorem d_M_disk_72 : decode b_M_disk 72 = .ok (.aload_n 0, 1) := by decide +kernel
theorem d_M_disk_73 : decode b_M_disk 73 = .ok (.getfield 36, 3) := by decide +kernel
theorem d_M_disk_76 : decode b_M_disk 76 = .ok (.iload_n 1, 1) := by decide +kernel
theorem d_M_disk_77 : decode b_M_disk 77 = .ok (.iaload, 1) := by decide +kernel
theorem d_M_disk_78 : decode b_M_disk 78 = .ok (.aload_n 0, 1) := by decide +kernel
theorem d_M_disk_79 : decode b_M_disk 79 = .ok (.getfield 39, 3) := by decide +kernel
theorem d_M_disk_82 : decode b_M_disk 82 = .ok (.iload_n 1, 1) := by decide +kernel
theorem d_M_disk_83 : decode b_M_disk 83 = .ok (.iaload, 1) := by decide +kernel
theorem d_M_disk_84 : decode b_M_disk 84 = .ok (.iastore, 1) := by decide +kernel
theorem d_M_disk_85 : decode b_M_disk 85 = .ok (.aload_n 0, 1) := by decide +kernel
theorem d_M_disk_86 : decode b_M_disk 86 = .ok (.getfield 23, 3) := by decide +kernel
theorem d_M_disk_89 : decode b_M_disk 89 = .ok (.iload_n 1, 1) := by decide +kernel
theorem d_M_disk_90 : decode b_M_disk 90 = .ok (.baload, 1) := by decide +kernel
theorem d_M_disk_91 : decode b_M_disk 91 = .ok (.ifCond .eq 16, 3) := by decide +kernel
theorem d_M_disk_94 : decode b_M_disk 94 = .ok (.aload_n 0, 1) := by decide +kernel
theorem d_M_disk_95 : decode b_M_disk 95 = .ok (.getfield 16, 3) := by decide +kernel
theorem d_M_disk_98 : decode b_M_disk 98 = .ok (.bipush 60, 2) := by decide +kernel
theorem d_M_disk_100 : decode b_M_disk 100 = .ok (.iload_n 1, 1) := by decide +kernel
theorem d_M_disk_101 : decode b_M_disk 101 = .ok (.imul, 1) := by decide +kernel
theorem d_M_disk_102 : decode b_M_disk 102 = .ok (.bipush 56, 2) := by decide +kernel
theorem d_M_disk_104 : decode b_M_disk 104 = .ok (.iadd, 1) := by decide +kernel
theorem d_M_disk_105 : decode b_M_disk 105 = .ok (.iconst 0, 1) := by decide +kernel
theorem d_M_disk_106 : decode b_M_disk 106 = .ok (.iastore, 1) := by decide +kernel
theorem d_M_disk_107 : decode b_M_disk 107 = .ok (.iconst 1, 1) := by decide +kernel
theorem d_M_disk_108 : decode b_M_disk 108 = .ok (.ireturn, 1) := by decide +kernel
theorem d_M_move_0 : decode b_M_move 0 = .ok (.aload_n 0, 1) := by decide +kernel
theorem d_M_move_1 : decode b_M_move 1 = .ok (.getfield 80, 3) := by decide +kernel
theorem d_M_move_4 : decode b_M_move 4 = .ok (.ifCond .ne 37, 3) := by decide +kernel
theorem d_M_move_7 : decode b_M_move 7 = .ok (.aload_n 0, 1) := by decide +kernel
theorem d_M_move_8 : decode b_M_move 8 = .ok (.getfield 29, 3) := by decide +kernel
theorem d_M_move_11 : decode b_M_move 11 = .ok (.bipush (-2), 2) := by decide +kernel
theorem d_M_move_13 : decode b_M_move 13 = .ok (.if_icmp .eq 28, 3) := by decide +kernel
theorem d_M_move_16 : decode b_M_move 16 = .ok (.aload_n 0, 1) := by decide +kernel
theorem d_M_move_17 : decode b_M_move 17 = .ok (.aload_n 0, 1) := by decide +kernel
theorem d_M_move_18 : decode b_M_move 18 = .ok (.getfield 29, 3) := by decide +kernel
theorem d_M_move_21 : decode b_M_move 21 = .ok (.invokevirtual 104, 3) := by decide +kernel
theorem d_M_move_24 : decode b_M_move 24 = .ok (.ifCond .eq 17, 3) := by decide +kernel
theorem d_M_move_27 : decode b_M_move 27 = .ok (.aload_n 0, 1) := by decide +kernel
theorem d_M_move_28 : decode b_M_move 28 = .ok (.getfield 19, 3) := by decide +kernel
theorem d_M_move_31 : decode b_M_move 31 = .ok (.iconst 1, 1) := by decide +kernel
theorem d_M_move_32 : decode b_M_move 32 = .ok (.aload_n 0, 1) := by decide +kernel
theorem d_M_move_33 : decode b_M_move 33 = .ok (.getfield 29, 3) := by decide +kernel
theorem d_M_move_36 : decode b_M_move 36 = .ok (.isub, 1) := by decide +kernel
theorem d_M_move_37 : decode b_M_move 37 = .ok (.baload, 1) := by decide +kernel
theorem d_M_move_38 : decode b_M_move 38 = .ok (.ifCond .ne 6, 3) := by decide +kernel
theorem d_M_move_41 : decode b_M_move 41 = .ok (.bipush (-2), 2) := by decide +kernel
theorem d_M_move_43 : decode b_M_move 43 = .ok (.ireturn, 1) := by decide +kernel
theorem d_M_move_44 : decode b_M_move 44 = .ok (.aload_n 0, 1) := by decide +kernel
theorem d_M_move_45 : decode b_M_move 45 = .ok (.iconst 1, 1) := by decide +kernel
theorem d_M_move_46 : decode b_M_move 46 = .ok (.putfield 80, 3) := by decide +kernel
theorem d_M_move_49 : decode b_M_move 49 = .ok (.aload_n 0, 1) := by decide +kernel
theorem d_M_move_50 : decode b_M_move 50 = .ok (.dup, 1) := by decide +kernel
theorem d_M_move_51 : decode b_M_move 51 = .ok (.getfield 116, 3) := by decide +kernel
theorem d_M_move_54 : decode b_M_move 54 = .ok (.iconst 1, 1) := by decide +kernel
theorem d_M_move_55 : decode b_M_move 55 = .ok (.iadd, 1) := by decide +kernel
theorem d_M_move_56 : decode b_M_move 56 = .ok (.putfield 116, 3) := by decide +kernel
theorem d_M_move_59 : decode b_M_move 59 = .ok (.aload_n 0, 1) := by decide +kernel
theorem d_M_move_60 : decode b_M_move 60 = .ok (.aload_n 0, 1) := by decide +kernel
theorem d_M_move_61 : decode b_M_move 61 = .ok (.getfield 29, 3) := by decide +kernel
theorem d_M_move_64 : decode b_M_move 64 = .ok (.putfield 86, 3) := by decide +kernel
theorem d_M_move_67 : decode b_M_move 67 = .ok (.aload_n 0, 1) := by decide +kernel
theorem d_M_move_68 : decode b_M_move 68 = .ok (.iconst 0, 1) := by decide +kernel
theorem d_M_move_69 : decode b_M_move 69 = .ok (.putfield 119, 3) := by decide +kernel
theorem d_M_move_72 : decode b_M_move 72 = .ok (.aload_n 0, 1) := by decide +kernel
theorem d_M_move_73 : decode b_M_move 73 = .ok (.bipush 7, 2) := by decide +kernel
theorem d_M_move_75 : decode b_M_move 75 = .ok (.putfield 122, 3) := by decide +kernel
theorem d_M_move_78 : decode b_M_move 78 = .ok (.aload_n 0, 1) := by decide +kernel
theorem d_M_move_79 : decode b_M_move 79 = .ok (.iconst 0, 1) := by decide +kernel
theorem d_M_move_80 : decode b_M_move 80 = .ok (.putfield 125, 3) := by decide +kernel
theorem d_M_move_83 : decode b_M_move 83 = .ok (.aload_n 0, 1) := by decide +kernel
theorem d_M_move_84 : decode b_M_move 84 = .ok (.iconst 1, 1) := by decide +kernel
theorem d_M_move_85 : decode b_M_move 85 = .ok (.putfield 110, 3) := by decide +kernel
theorem d_M_move_88 : decode b_M_move 88 = .ok (.aload_n 0, 1) := by decide +kernel
theorem d_M_move_89 : decode b_M_move 89 = .ok (.iconst 0, 1) := by decide +kernel
theorem d_M_move_90 : decode b_M_move 90 = .ok (.putfield 113, 3) := by decide +kernel
theorem d_M_move_93 : decode b_M_move 93 = .ok (.iconst 0, 1) := by decide +kernel
theorem d_M_move_94 : decode b_M_move 94 = .ok (.istore_n 1, 1) := by decide +kernel
theorem d_M_move_95 : decode b_M_move 95 = .ok (.iload_n 1, 1) := by decide +kernel
theorem d_M_move_96 : decode b_M_move 96 = .ok (.bipush 8, 2) := by decide +kernel
theorem d_M_move_98 : decode b_M_move 98 = .ok (.if_icmp .ge 23, 3) := by decide +kernel
theorem d_M_move_101 : decode b_M_move 101 = .ok (.aload_n 0, 1) := by decide +kernel
theorem d_M_move_102 : decode b_M_move 102 = .ok (.getfield 45, 3) := by decide +kernel
theorem d_M_move_105 : decode b_M_move 105 = .ok (.iload_n 1, 1) := by decide +kernel
theorem d_M_move_106 : decode b_M_move 106 = .ok (.iconst (-1), 1) := by decide +kernel
theorem d_M_move_107 : decode b_M_move 107 = .ok (.iastore, 1) := by decide +kernel
theorem d_M_move_108 : decode b_M_move 108 = .ok (.aload_n 0, 1) := by decide +kernel
theorem d_M_move_109 : decode b_M_move 109 = .ok (.getfield 51, 3) := by decide +kernel
theorem d_M_move_112 : decode b_M_move 112 = .ok (.iload_n 1, 1) := by decide +kernel
theorem d_M_move_113 : decode b_M_move 113 = .ok (.iconst 0, 1) := by decide +kernel
theorem d_M_move_114 : decode b_M_move 114 = .ok (.iastore, 1) := by decide +kernel
theorem d_M_move_115 : decode b_M_move 115 = .ok (.iinc 1 1, 3) := by decide +kernel
theorem d_M_move_118 : decode b_M_move 118 = .ok (.goto (-23), 3) := by decide +kernel
theorem d_M_move_121 : decode b_M_move 121 = .ok (.iconst 0, 1) := by decide +kernel
theorem d_M_move_122 : decode b_M_move 122 = .ok (.istore_n 1, 1) := by decide +kernel
theorem d_M_move_123 : decode b_M_move 123 = .ok (.iload_n 1, 1) := by decide +kernel
theorem d_M_move_124 : decode b_M_move 124 = .ok (.bipush 64, 2) := by decide +kernel
theorem d_M_move_126 : decode b_M_move 126 = .ok (.if_icmp .ge 16, 3) := by decide +kernel
theorem d_M_move_129 : decode b_M_move 129 = .ok (.aload_n 0, 1) := by decide +kernel
theorem d_M_move_130 : decode b_M_move 130 = .ok (.getfield 48, 3) := by decide +kernel
theorem d_M_move_133 : decode b_M_move 133 = .ok (.iload_n 1, 1) := by decide +kernel
theorem d_M_move_134 : decode b_M_move 134 = .ok (.iconst 0, 1) := by decide +kernel
theorem d_M_move_135 : decode b_M_move 135 = .ok (.iastore, 1) := by decide +kernel
theorem d_M_move_136 : decode b_M_move 136 = .ok (.iinc 1 1, 3) := by decide +kernel
theorem d_M_move_139 : decode b_M_move 139 = .ok (.goto (-16), 3) := by decide +kernel
theorem d_M_move_142 : decode b_M_move 142 = .ok (.aload_n 0, 1) := by decide +kernel
theorem d_M_move_143 : decode b_M_move 143 = .ok (.getfield 116, 3) := by decide +kernel
theorem d_M_move_146 : decode b_M_move 146 = .ok (.ireturn, 1) := by decide +kernel
theorem d_M_unknown_0 : decode b_M_unknown 0 = .ok (.iconst 0, 1) := by decide +kernel
theorem d_M_unknown_1 : decode b_M_unknown 1 = .ok (.istore_n 1, 1) := by decide +kernel
theorem d_M_unknown_2 : decode b_M_unknown 2 = .ok (.iconst 0, 1) := by decide +kernel
theorem d_M_unknown_3 : decode b_M_unknown 3 = .ok (.istore_n 2, 1) := by decide +kernel
theorem d_M_unknown_4 : decode b_M_unknown 4 = .ok (.iload_n 2, 1) := by decide +kernel
theorem d_M_unknown_5 : decode b_M_unknown 5 = .ok (.bipush 8, 2) := by decide +kernel
theorem d_M_unknown_7 : decode b_M_unknown 7 = .ok (.if_icmp .ge 28, 3) := by decide +kernel
theorem d_M_unknown_10 : decode b_M_unknown 10 = .ok (.iload_n 1, 1) := by decide +kernel
theorem d_M_unknown_11 : decode b_M_unknown 11 = .ok (.aload_n 0, 1) := by decide +kernel
theorem d_M_unknown_12 : decode b_M_unknown 12 = .ok (.getfield 45, 3) := by decide +kernel
theorem d_M_unknown_15 : decode b_M_unknown 15 = .ok (.iload_n 2, 1) := by decide +kernel
theorem d_M_unknown_16 : decode b_M_unknown 16 = .ok (.iaload, 1) := by decide +kernel
theorem d_M_unknown_17 : decode b_M_unknown 17 = .ok (.bipush (-2), 2) := by decide +kernel
theorem d_M_unknown_19 : decode b_M_unknown 19 = .ok (.if_icmp .ne 7, 3) := by decide +kernel
theorem d_M_unknown_22 : decode b_M_unknown 22 = .ok (.iconst 0, 1) := by decide +kernel
theorem d_M_unknown_23 : decode b_M_unknown 23 = .ok (.goto 4, 3) := by decide +kernel
theorem d_M_unknown_26 : decode b_M_unknown 26 = .ok (.iconst 1, 1) := by decide +kernel
theorem d_M_unknown_27 : decode b_M_unknown 27 = .ok (.iadd, 1) := by decide +kernel
theorem d_M_unknown_28 : decode b_M_unknown 28 = .ok (.istore_n 1, 1) := by decide +kernel
theorem d_M_unknown_29 : decode b_M_unknown 29 = .ok (.iinc 2 1, 3) := by decide +kernel
theorem d_M_unknown_32 : decode b_M_unknown 32 = .ok (.goto (-28), 3) := by decide +kernel
theorem d_M_unknown_35 : decode b_M_unknown 35 = .ok (.iload_n 1, 1) := by decide +kernel
theorem d_M_unknown_36 : decode b_M_unknown 36 = .ok (.ireturn, 1) := by decide +kernel
theorem d_M_due_0 : decode b_M_due 0 = .ok (.iconst 1, 1) := by decide +kernel
theorem d_M_due_1 : decode b_M_due 1 = .ok (.istore_n 1, 1) := by decide +kernel
theorem d_M_due_2 : decode b_M_due 2 = .ok (.iload_n 1, 1) := by decide +kernel
theorem d_M_due_3 : decode b_M_due 3 = .ok (.bipush 8, 2) := by decide +kernel
theorem d_M_due_5 : decode b_M_due 5 = .ok (.if_icmp .gt 37, 3) := by decide +kernel
theorem d_M_due_8 : decode b_M_due 8 = .ok (.aload_n 0, 1) := by decide +kernel
theorem d_M_due_9 : decode b_M_due 9 = .ok (.getfield 45, 3) := by decide +kernel
theorem d_M_due_12 : decode b_M_due 12 = .ok (.aload_n 0, 1) := by decide +kernel
theorem d_M_due_13 : decode b_M_due 13 = .ok (.getfield 122, 3) := by decide +kernel
theorem d_M_due_16 : decode b_M_due 16 = .ok (.iload_n 1, 1) := by decide +kernel
theorem d_M_due_17 : decode b_M_due 17 = .ok (.iadd, 1) := by decide +kernel
theorem d_M_due_18 : decode b_M_due 18 = .ok (.bipush 8, 2) := by decide +kernel
theorem d_M_due_20 : decode b_M_due 20 = .ok (.irem, 1) := by decide +kernel
theorem d_M_due_21 : decode b_M_due 21 = .ok (.iaload, 1) := by decide +kernel
theorem d_M_due_22 : decode b_M_due 22 = .ok (.iconst (-1), 1) := by decide +kernel
theorem d_M_due_23 : decode b_M_due 23 = .ok (.if_icmp .ne 13, 3) := by decide +kernel
theorem d_M_due_26 : decode b_M_due 26 = .ok (.aload_n 0, 1) := by decide +kernel
theorem d_M_due_27 : decode b_M_due 27 = .ok (.getfield 122, 3) := by decide +kernel
theorem d_M_due_30 : decode b_M_due 30 = .ok (.iload_n 1, 1) := by decide +kernel
theorem d_M_due_31 : decode b_M_due 31 = .ok (.iadd, 1) := by decide +kernel
theorem d_M_due_32 : decode b_M_due 32 = .ok (.bipush 8, 2) := by decide +kernel
theorem d_M_due_34 : decode b_M_due 34 = .ok (.irem, 1) := by decide +kernel
theorem d_M_due_35 : decode b_M_due 35 = .ok (.ireturn, 1) := by decide +kernel
theorem d_M_due_36 : decode b_M_due 36 = .ok (.iinc 1 1, 3) := by decide +kernel
theorem d_M_due_39 : decode b_M_due 39 = .ok (.goto (-37), 3) := by decide +kernel
theorem d_M_due_42 : decode b_M_due 42 = .ok (.iconst (-1), 1) := by decide +kernel
theorem d_M_due_43 : decode b_M_due 43 = .ok (.ireturn, 1) := by decide +kernel
theorem d_M_come_0 : decode b_M_come 0 = .ok (.aload_n 0, 1) := by decide +kernel
theorem d_M_come_1 : decode b_M_come 1 = .ok (.getfield 128, 3) := by decide +kernel
theorem d_M_come_4 : decode b_M_come 4 = .ok (.istore 5, 2) := by decide +kernel
theorem d_M_come_6 : decode b_M_come 6 = .ok (.aload_n 0, 1) := by decide +kernel
theorem d_M_come_7 : decode b_M_come 7 = .ok (.getfield 57, 3) := by decide +kernel
theorem d_M_come_10 : decode b_M_come 10 = .ok (.iload 5, 2) := by decide +kernel
theorem d_M_come_12 : decode b_M_come 12 = .ok (.iload_n 1, 1) := by decide +kernel
theorem d_M_come_13 : decode b_M_come 13 = .ok (.iastore, 1) := by decide +kernel
theorem d_M_come_14 : decode b_M_come 14 = .ok (.aload_n 0, 1) := by decide +kernel
theorem d_M_come_15 : decode b_M_come 15 = .ok (.getfield 60, 3) := by decide +kernel
theorem d_M_come_18 : decode b_M_come 18 = .ok (.iload 5, 2) := by decide +kernel
theorem d_M_come_20 : decode b_M_come 20 = .ok (.iload_n 2, 1) := by decide +kernel
theorem d_M_come_21 : decode b_M_come 21 = .ok (.iastore, 1) := by decide +kernel
theorem d_M_come_22 : decode b_M_come 22 = .ok (.aload_n 0, 1) := by decide +kernel
theorem d_M_come_23 : decode b_M_come 23 = .ok (.getfield 63, 3) := by decide +kernel
theorem d_M_come_26 : decode b_M_come 26 = .ok (.iload 5, 2) := by decide +kernel
theorem d_M_come_28 : decode b_M_come 28 = .ok (.iload_n 3, 1) := by decide +kernel
theorem d_M_come_29 : decode b_M_come 29 = .ok (.iastore, 1) := by decide +kernel
theorem d_M_come_30 : decode b_M_come 30 = .ok (.aload_n 0, 1) := by decide +kernel
theorem d_M_come_31 : decode b_M_come 31 = .ok (.getfield 66, 3) := by decide +kernel
theorem d_M_come_34 : decode b_M_come 34 = .ok (.iload 5, 2) := by decide +kernel
theorem d_M_come_36 : decode b_M_come 36 = .ok (.iload 4, 2) := by decide +kernel
theorem d_M_come_38 : decode b_M_come 38 = .ok (.iastore, 1) := by decide +kernel
theorem d_M_come_39 : decode b_M_come 39 = .ok (.aload_n 0, 1) := by decide +kernel
theorem d_M_come_40 : decode b_M_come 40 = .ok (.aload_n 0, 1) := by decide +kernel
theorem d_M_come_41 : decode b_M_come 41 = .ok (.getfield 128, 3) := by decide +kernel
theorem d_M_come_44 : decode b_M_come 44 = .ok (.bipush 8, 2) := by decide +kernel
theorem d_M_come_46 : decode b_M_come 46 = .ok (.if_icmp .ge 12, 3) := by decide +kernel
theorem d_M_come_49 : decode b_M_come 49 = .ok (.aload_n 0, 1) := by decide +kernel
theorem d_M_come_50 : decode b_M_come 50 = .ok (.getfield 128, 3) := by decide +kernel
theorem d_M_come_53 : decode b_M_come 53 = .ok (.iconst 1, 1) := by decide +kernel
theorem d_M_come_54 : decode b_M_come 54 = .ok (.iadd, 1) := by decide +kernel
theorem d_M_come_55 : decode b_M_come 55 = .ok (.goto 5, 3) := by decide +kernel
theorem d_M_come_58 : decode b_M_come 58 = .ok (.bipush 8, 2) := by decide +kernel
theorem d_M_come_60 : decode b_M_come 60 = .ok (.putfield 128, 3) := by decide +kernel
theorem d_M_come_63 : decode b_M_come 63 = .ok (.iload 5, 2) := by decide +kernel
theorem d_M_come_65 : decode b_M_come 65 = .ok (.ireturn, 1) := by decide +kernel
theorem d_M_sendPage_0 : decode b_M_sendPage 0 = .ok (.aload_n 0, 1) := by decide +kernel
theorem d_M_sendPage_1 : decode b_M_sendPage 1 = .ok (.dup, 1) := by decide +kernel
theorem d_M_sendPage_2 : decode b_M_sendPage 2 = .ok (.getfield 119, 3) := by decide +kernel
theorem d_M_sendPage_5 : decode b_M_sendPage 5 = .ok (.iconst 1, 1) := by decide +kernel
theorem d_M_sendPage_6 : decode b_M_sendPage 6 = .ok (.iadd, 1) := by decide +kernel
theorem d_M_sendPage_7 : decode b_M_sendPage 7 = .ok (.putfield 119, 3) := by decide +kernel
theorem d_M_sendPage_10 : decode b_M_sendPage 10 = .ok (.aload_n 0, 1) := by decide +kernel
theorem d_M_sendPage_11 : decode b_M_sendPage 11 = .ok (.getfield 45, 3) := by decide +kernel
theorem d_M_sendPage_14 : decode b_M_sendPage 14 = .ok (.iload_n 1, 1) := by decide +kernel
theorem d_M_sendPage_15 : decode b_M_sendPage 15 = .ok (.aload_n 0, 1) := by decide +kernel
theorem d_M_sendPage_16 : decode b_M_sendPage 16 = .ok (.getfield 119, 3) := by decide +kernel
theorem d_M_sendPage_19 : decode b_M_sendPage 19 = .ok (.iastore, 1) := by decide +kernel
theorem d_M_sendPage_20 : decode b_M_sendPage 20 = .ok (.aload_n 0, 1) := by decide +kernel
theorem d_M_sendPage_21 : decode b_M_sendPage 21 = .ok (.iload_n 1, 1) := by decide +kernel
theorem d_M_sendPage_22 : decode b_M_sendPage 22 = .ok (.putfield 122, 3) := by decide +kernel
theorem d_M_sendPage_25 : decode b_M_sendPage 25 = .ok (.aload_n 0, 1) := by decide +kernel
theorem d_M_sendPage_26 : decode b_M_sendPage 26 = .ok (.iconst 1, 1) := by decide +kernel
theorem d_M_sendPage_27 : decode b_M_sendPage 27 = .ok (.aload_n 0, 1) := by decide +kernel
theorem d_M_sendPage_28 : decode b_M_sendPage 28 = .ok (.getfield 116, 3) := by decide +kernel
theorem d_M_sendPage_31 : decode b_M_sendPage 31 = .ok (.iload_n 1, 1) := by decide +kernel
theorem d_M_sendPage_32 : decode b_M_sendPage 32 = .ok (.aload_n 0, 1) := by decide +kernel
theorem d_M_sendPage_33 : decode b_M_sendPage 33 = .ok (.getfield 119, 3) := by decide +kernel
theorem d_M_sendPage_36 : decode b_M_sendPage 36 = .ok (.invokevirtual 131, 3) := by decide +kernel
theorem d_M_sendPage_39 : decode b_M_sendPage 39 = .ok (.istore_n 2, 1) := by decide +kernel
theorem d_M_sendPage_40 : decode b_M_sendPage 40 = .ok (.iconst 0, 1) := by decide +kernel
theorem d_M_sendPage_41 : decode b_M_sendPage 41 = .ok (.istore_n 3, 1) := by decide +kernel
theorem d_M_sendPage_42 : decode b_M_sendPage 42 = .ok (.iload_n 3, 1) := by decide +kernel
theorem d_M_sendPage_43 : decode b_M_sendPage 43 = .ok (.bipush 8, 2) := by decide +kernel
theorem d_M_sendPage_45 : decode b_M_sendPage 45 = .ok (.if_icmp .ge 39, 3) := by decide +kernel
theorem d_M_sendPage_48 : decode b_M_sendPage 48 = .ok (.aload_n 0, 1) := by decide +kernel
theorem d_M_sendPage_49 : decode b_M_sendPage 49 = .ok (.getfield 69, 3) := by decide +kernel
theorem d_M_sendPage_52 : decode b_M_sendPage 52 = .ok (.bipush 60, 2) := by decide +kernel
theorem d_M_sendPage_54 : decode b_M_sendPage 54 = .ok (.iload_n 2, 1) := by decide +kernel
theorem d_M_sendPage_55 : decode b_M_sendPage 55 = .ok (.imul, 1) := by decide +kernel
theorem d_M_sendPage_56 : decode b_M_sendPage 56 = .ok (.iload_n 3, 1) := by decide +kernel
theorem d_M_sendPage_57 : decode b_M_sendPage 57 = .ok (.iadd, 1) := by decide +kernel
theorem d_M_sendPage_58 : decode b_M_sendPage 58 = .ok (.aload_n 0, 1) := by decide +kernel
theorem d_M_sendPage_59 : decode b_M_sendPage 59 = .ok (.getfield 13, 3) := by decide +kernel
theorem d_M_sendPage_62 : decode b_M_sendPage 62 = .ok (.bipush 64, 2) := by decide +kernel
theorem d_M_sendPage_64 : decode b_M_sendPage 64 = .ok (.aload_n 0, 1) := by decide +kernel
theorem d_M_sendPage_65 : decode b_M_sendPage 65 = .ok (.getfield 86, 3) := by decide +kernel
theorem d_M_sendPage_68 : decode b_M_sendPage 68 = .ok (.imul, 1) := by decide +kernel
theorem d_M_sendPage_69 : decode b_M_sendPage 69 = .ok (.bipush 8, 2) := by decide +kernel
theorem d_M_sendPage_71 : decode b_M_sendPage 71 = .ok (.iload_n 1, 1) := by decide +kernel
theorem d_M_sendPage_72 : decode b_M_sendPage 72 = .ok (.imul, 1) := by decide +kernel
theorem d_M_sendPage_73 : decode b_M_sendPage 73 = .ok (.iadd, 1) := by decide +kernel
theorem d_M_sendPage_74 : decode b_M_sendPage 74 = .ok (.iload_n 3, 1) := by decide +kernel
theorem d_M_sendPage_75 : decode b_M_sendPage 75 = .ok (.iadd, 1) := by decide +kernel
theorem d_M_sendPage_76 : decode b_M_sendPage 76 = .ok (.iaload, 1) := by decide +kernel
theorem d_M_sendPage_77 : decode b_M_sendPage 77 = .ok (.iastore, 1) := by decide +kernel
theorem d_M_sendPage_78 : decode b_M_sendPage 78 = .ok (.iinc 3 1, 3) := by decide +kernel
theorem d_M_sendPage_81 : decode b_M_sendPage 81 = .ok (.goto (-39), 3) := by decide +kernel
theorem d_M_sendPage_84 : decode b_M_sendPage 84 = .ok (.return_, 1) := by decide +kernel
theorem d_M_step_0 : decode b_M_step 0 = .ok (.aload_n 0, 1) := by decide +kernel
theorem d_M_step_1 : decode b_M_step 1 = .ok (.getfield 80, 3) := by decide +kernel
theorem d_M_step_4 : decode b_M_step 4 = .ok (.ifCond .eq 15, 3) := by decide +kernel
theorem d_M_step_7 : decode b_M_step 7 = .ok (.aload_n 0, 1) := by decide +kernel
theorem d_M_step_8 : decode b_M_step 8 = .ok (.getfield 23, 3) := by decide +kernel
theorem d_M_step_11 : decode b_M_step 11 = .ok (.aload_n 0, 1) := by decide +kernel
theorem d_M_step_12 : decode b_M_step 12 = .ok (.getfield 86, 3) := by decide +kernel
theorem d_M_step_15 : decode b_M_step 15 = .ok (.baload, 1) := by decide +kernel
theorem d_M_step_16 : decode b_M_step 16 = .ok (.ifCond .ne 6, 3) := by decide +kernel
theorem d_M_step_19 : decode b_M_step 19 = .ok (.bipush (-2), 2) := by decide +kernel
theorem d_M_step_21 : decode b_M_step 21 = .ok (.ireturn, 1) := by decide +kernel
theorem d_M_step_22 : decode b_M_step 22 = .ok (.aload_n 0, 1) := by decide +kernel
theorem d_M_step_23 : decode b_M_step 23 = .ok (.getfield 125, 3) := by decide +kernel
theorem d_M_step_26 : decode b_M_step 26 = .ok (.bipush 40, 2) := by decide +kernel
theorem d_M_step_28 : decode b_M_step 28 = .ok (.if_icmp .ge 20, 3) := by decide +kernel
theorem d_M_step_31 : decode b_M_step 31 = .ok (.aload_n 0, 1) := by decide +kernel
theorem d_M_step_32 : decode b_M_step 32 = .ok (.getfield 125, 3) := by decide +kernel
theorem d_M_step_35 : decode b_M_step 35 = .ok (.bipush 8, 2) := by decide +kernel
theorem d_M_step_37 : decode b_M_step 37 = .ok (.if_icmp .lt 16, 3) := by decide +kernel
theorem d_M_step_40 : decode b_M_step 40 = .ok (.aload_n 0, 1) := by decide +kernel
theorem d_M_step_41 : decode b_M_step 41 = .ok (.invokevirtual 135, 3) := by decide +kernel
theorem d_M_step_44 : decode b_M_step 44 = .ok (.iconst 2, 1) := by decide +kernel
theorem d_M_step_45 : decode b_M_step 45 = .ok (.if_icmp .gt 8, 3) := by decide +kernel
theorem d_M_step_48 : decode b_M_step 48 = .ok (.aload_n 0, 1) := by decide +kernel
theorem d_M_step_49 : decode b_M_step 49 = .ok (.iconst 1, 1) := by decide +kernel
theorem d_M_step_50 : decode b_M_step 50 = .ok (.putfield 72, 3) := by decide +kernel
theorem d_M_step_53 : decode b_M_step 53 = .ok (.aload_n 0, 1) := by decide +kernel
theorem d_M_step_54 : decode b_M_step 54 = .ok (.dup, 1) := by decide +kernel
theorem d_M_step_55 : decode b_M_step 55 = .ok (.getfield 125, 3) := by decide +kernel
theorem d_M_step_58 : decode b_M_step 58 = .ok (.iconst 1, 1) := by decide +kernel
theorem d_M_step_59 : decode b_M_step 59 = .ok (.iadd, 1) := by decide +kernel
theorem d_M_step_60 : decode b_M_step 60 = .ok (.putfield 125, 3) := by decide +kernel
theorem d_M_step_63 : decode b_M_step 63 = .ok (.aload_n 0, 1) := by decide +kernel
theorem d_M_step_64 : decode b_M_step 64 = .ok (.invokevirtual 139, 3) := by decide +kernel
theorem d_M_step_67 : decode b_M_step 67 = .ok (.istore_n 1, 1) := by decide +kernel
theorem d_M_step_68 : decode b_M_step 68 = .ok (.iload_n 1, 1) := by decide +kernel
theorem d_M_step_69 : decode b_M_step 69 = .ok (.ifCond .lt 10, 3) := by decide +kernel
theorem d_M_step_72 : decode b_M_step 72 = .ok (.aload_n 0, 1) := by decide +kernel
theorem d_M_step_73 : decode b_M_step 73 = .ok (.iload_n 1, 1) := by decide +kernel
theorem d_M_step_74 : decode b_M_step 74 = .ok (.invokevirtual 142, 3) := by decide +kernel
theorem d_M_step_77 : decode b_M_step 77 = .ok (.iconst 1, 1) := by decide +kernel
theorem d_M_step_78 : decode b_M_step 78 = .ok (.ireturn, 1) := by decide +kernel
theorem d_M_step_79 : decode b_M_step 79 = .ok (.aload_n 0, 1) := by decide +kernel
theorem d_M_step_80 : decode b_M_step 80 = .ok (.invokevirtual 135, 3) := by decide +kernel
theorem d_M_step_83 : decode b_M_step 83 = .ok (.ifCond .le 42, 3) := by decide +kernel
theorem d_M_step_86 : decode b_M_step 86 = .ok (.iconst 0, 1) := by decide +kernel
