theorem d_law_383 : decode code 383 = .ok (.aload_n 3, 1) := by decide +kernel
theorem d_law_384 : decode code 384 = .ok (.invokestatic 97, 3) := by decide +kernel
theorem d_law_387 : decode code 387 = .ok (.istore 5, 2) := by decide +kernel
theorem d_law_389 : decode code 389 = .ok (.aload_n 2, 1) := by decide +kernel
theorem d_law_390 : decode code 390 = .ok (.aload_n 0, 1) := by decide +kernel
theorem d_law_391 : decode code 391 = .ok (.iload 4, 2) := by decide +kernel
theorem d_law_393 : decode code 393 = .ok (.iconst 1, 1) := by decide +kernel
theorem d_law_394 : decode code 394 = .ok (.iadd, 1) := by decide +kernel
theorem d_law_395 : decode code 395 = .ok (.iaload, 1) := by decide +kernel
theorem d_law_396 : decode code 396 = .ok (.aload_n 0, 1) := by decide +kernel
theorem d_law_397 : decode code 397 = .ok (.iload 4, 2) := by decide +kernel
theorem d_law_399 : decode code 399 = .ok (.iconst 2, 1) := by decide +kernel
theorem d_law_400 : decode code 400 = .ok (.iadd, 1) := by decide +kernel
theorem d_law_401 : decode code 401 = .ok (.iaload, 1) := by decide +kernel
theorem d_law_402 : decode code 402 = .ok (.aload_n 0, 1) := by decide +kernel
theorem d_law_403 : decode code 403 = .ok (.iload 4, 2) := by decide +kernel
theorem d_law_405 : decode code 405 = .ok (.iconst 3, 1) := by decide +kernel
theorem d_law_406 : decode code 406 = .ok (.iadd, 1) := by decide +kernel
theorem d_law_407 : decode code 407 = .ok (.iaload, 1) := by decide +kernel
theorem d_law_408 : decode code 408 = .ok (.ifCond .eq 7, 3) := by decide +kernel
theorem d_law_411 : decode code 411 = .ok (.iconst 1, 1) := by decide +kernel
theorem d_law_412 : decode code 412 = .ok (.goto 4, 3) := by decide +kernel
theorem d_law_415 : decode code 415 = .ok (.iconst 0, 1) := by decide +kernel
theorem d_law_416 : decode code 416 = .ok (.invokevirtual 100, 3) := by decide +kernel
theorem d_law_419 : decode code 419 = .ok (.istore 6, 2) := by decide +kernel
theorem d_law_421 : decode code 421 = .ok (.aload_n 2, 1) := by decide +kernel
theorem d_law_422 : decode code 422 = .ok (.invokevirtual 87, 3) := by decide +kernel
theorem d_law_425 : decode code 425 = .ok (.iload 5, 2) := by decide +kernel
theorem d_law_427 : decode code 427 = .ok (.if_icmp .eq 5, 3) := by decide +kernel
theorem d_law_430 : decode code 430 = .ok (.iconst 0, 1) := by decide +kernel
theorem d_law_431 : decode code 431 = .ok (.ireturn, 1) := by decide +kernel
theorem d_law_432 : decode code 432 = .ok (.iload 5, 2) := by decide +kernel
theorem d_law_434 : decode code 434 = .ok (.ifCond .ne 22, 3) := by decide +kernel
theorem d_law_437 : decode code 437 = .ok (.aload_n 3, 1) := by decide +kernel
theorem d_law_438 : decode code 438 = .ok (.iconst 0, 1) := by decide +kernel
theorem d_law_439 : decode code 439 = .ok (.laload, 1) := by decide +kernel
theorem d_law_440 : decode code 440 = .ok (.iload 6, 2) := by decide +kernel
theorem d_law_442 : decode code 442 = .ok (.ifCond .eq 7, 3) := by decide +kernel
theorem d_law_445 : decode code 445 = .ok (.lconst 1, 1) := by decide +kernel
theorem d_law_446 : decode code 446 = .ok (.goto 4, 3) := by decide +kernel
theorem d_law_449 : decode code 449 = .ok (.lconst 0, 1) := by decide +kernel
theorem d_law_450 : decode code 450 = .ok (.lcmp, 1) := by decide +kernel
theorem d_law_451 : decode code 451 = .ok (.ifCond .eq 5, 3) := by decide +kernel
theorem d_law_454 : decode code 454 = .ok (.iconst 0, 1) := by decide +kernel
theorem d_law_455 : decode code 455 = .ok (.ireturn, 1) := by decide +kernel
theorem d_law_456 : decode code 456 = .ok (.goto 856, 3) := by decide +kernel
theorem d_law_459 : decode code 459 = .ok (.aload_n 1, 1) := by decide +kernel
theorem d_law_460 : decode code 460 = .ok (.aload_n 0, 1) := by decide +kernel
theorem d_law_461 : decode code 461 = .ok (.iload 4, 2) := by decide +kernel
theorem d_law_463 : decode code 463 = .ok (.iconst 1, 1) := by decide +kernel
theorem d_law_464 : decode code 464 = .ok (.iadd, 1) := by decide +kernel
theorem d_law_465 : decode code 465 = .ok (.iaload, 1) := by decide +kernel
theorem d_law_466 : decode code 466 = .ok (.aload_n 0, 1) := by decide +kernel
theorem d_law_467 : decode code 467 = .ok (.iload 4, 2) := by decide +kernel
theorem d_law_469 : decode code 469 = .ok (.iconst 2, 1) := by decide +kernel
theorem d_law_470 : decode code 470 = .ok (.iadd, 1) := by decide +kernel
theorem d_law_471 : decode code 471 = .ok (.iaload, 1) := by decide +kernel
theorem d_law_472 : decode code 472 = .ok (.aload_n 3, 1) := by decide +kernel
theorem d_law_473 : decode code 473 = .ok (.invokestatic 101, 3) := by decide +kernel
theorem d_law_476 : decode code 476 = .ok (.istore 5, 2) := by decide +kernel
theorem d_law_478 : decode code 478 = .ok (.aload_n 2, 1) := by decide +kernel
theorem d_law_479 : decode code 479 = .ok (.aload_n 0, 1) := by decide +kernel
theorem d_law_480 : decode code 480 = .ok (.iload 4, 2) := by decide +kernel
theorem d_law_482 : decode code 482 = .ok (.iconst 1, 1) := by decide +kernel
theorem d_law_483 : decode code 483 = .ok (.iadd, 1) := by decide +kernel
theorem d_law_484 : decode code 484 = .ok (.iaload, 1) := by decide +kernel
theorem d_law_485 : decode code 485 = .ok (.aload_n 0, 1) := by decide +kernel
theorem d_law_486 : decode code 486 = .ok (.iload 4, 2) := by decide +kernel
theorem d_law_488 : decode code 488 = .ok (.iconst 2, 1) := by decide +kernel
theorem d_law_489 : decode code 489 = .ok (.iadd, 1) := by decide +kernel
theorem d_law_490 : decode code 490 = .ok (.iaload, 1) := by decide +kernel
theorem d_law_491 : decode code 491 = .ok (.invokevirtual 103, 3) := by decide +kernel
theorem d_law_494 : decode code 494 = .ok (.istore 6, 2) := by decide +kernel
theorem d_law_496 : decode code 496 = .ok (.aload_n 2, 1) := by decide +kernel
theorem d_law_497 : decode code 497 = .ok (.invokevirtual 87, 3) := by decide +kernel
theorem d_law_500 : decode code 500 = .ok (.iload 5, 2) := by decide +kernel
theorem d_law_502 : decode code 502 = .ok (.if_icmp .eq 5, 3) := by decide +kernel
theorem d_law_505 : decode code 505 = .ok (.iconst 0, 1) := by decide +kernel
theorem d_law_506 : decode code 506 = .ok (.ireturn, 1) := by decide +kernel
theorem d_law_507 : decode code 507 = .ok (.iload 5, 2) := by decide +kernel
theorem d_law_509 : decode code 509 = .ok (.ifCond .ne 22, 3) := by decide +kernel
theorem d_law_512 : decode code 512 = .ok (.aload_n 3, 1) := by decide +kernel
theorem d_law_513 : decode code 513 = .ok (.iconst 0, 1) := by decide +kernel
theorem d_law_514 : decode code 514 = .ok (.laload, 1) := by decide +kernel
theorem d_law_515 : decode code 515 = .ok (.iload 6, 2) := by decide +kernel
theorem d_law_517 : decode code 517 = .ok (.ifCond .eq 7, 3) := by decide +kernel
theorem d_law_520 : decode code 520 = .ok (.lconst 1, 1) := by decide +kernel
theorem d_law_521 : decode code 521 = .ok (.goto 4, 3) := by decide +kernel
theorem d_law_524 : decode code 524 = .ok (.lconst 0, 1) := by decide +kernel
theorem d_law_525 : decode code 525 = .ok (.lcmp, 1) := by decide +kernel
theorem d_law_526 : decode code 526 = .ok (.ifCond .eq 5, 3) := by decide +kernel
theorem d_law_529 : decode code 529 = .ok (.iconst 0, 1) := by decide +kernel
theorem d_law_530 : decode code 530 = .ok (.ireturn, 1) := by decide +kernel
theorem d_law_531 : decode code 531 = .ok (.goto 781, 3) := by decide +kernel
theorem d_law_534 : decode code 534 = .ok (.aload_n 1, 1) := by decide +kernel
theorem d_law_535 : decode code 535 = .ok (.aload_n 0, 1) := by decide +kernel
theorem d_law_536 : decode code 536 = .ok (.iload 4, 2) := by decide +kernel
theorem d_law_538 : decode code 538 = .ok (.iconst 1, 1) := by decide +kernel
theorem d_law_539 : decode code 539 = .ok (.iadd, 1) := by decide +kernel
theorem d_law_540 : decode code 540 = .ok (.iaload, 1) := by decide +kernel
