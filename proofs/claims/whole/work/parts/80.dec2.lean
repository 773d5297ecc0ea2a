theorem d_lw_403 : decode code 403 = .ok (.aload_n 2, 1) := by decide +kernel
theorem d_lw_404 : decode code 404 = .ok (.aload_n 0, 1) := by decide +kernel
theorem d_lw_405 : decode code 405 = .ok (.iload 4, 2) := by decide +kernel
theorem d_lw_407 : decode code 407 = .ok (.iconst 1, 1) := by decide +kernel
theorem d_lw_408 : decode code 408 = .ok (.iadd, 1) := by decide +kernel
theorem d_lw_409 : decode code 409 = .ok (.iaload, 1) := by decide +kernel
theorem d_lw_410 : decode code 410 = .ok (.invokevirtual 76, 3) := by decide +kernel
theorem d_lw_413 : decode code 413 = .ok (.istore 6, 2) := by decide +kernel
theorem d_lw_415 : decode code 415 = .ok (.aload_n 2, 1) := by decide +kernel
theorem d_lw_416 : decode code 416 = .ok (.invokevirtual 67, 3) := by decide +kernel
theorem d_lw_419 : decode code 419 = .ok (.iload 5, 2) := by decide +kernel
theorem d_lw_421 : decode code 421 = .ok (.if_icmp .eq 5, 3) := by decide +kernel
theorem d_lw_424 : decode code 424 = .ok (.iconst 0, 1) := by decide +kernel
theorem d_lw_425 : decode code 425 = .ok (.ireturn, 1) := by decide +kernel
theorem d_lw_426 : decode code 426 = .ok (.iload 5, 2) := by decide +kernel
theorem d_lw_428 : decode code 428 = .ok (.ifCond .ne 15, 3) := by decide +kernel
theorem d_lw_431 : decode code 431 = .ok (.aload_n 3, 1) := by decide +kernel
theorem d_lw_432 : decode code 432 = .ok (.iconst 0, 1) := by decide +kernel
theorem d_lw_433 : decode code 433 = .ok (.laload, 1) := by decide +kernel
theorem d_lw_434 : decode code 434 = .ok (.iload 6, 2) := by decide +kernel
theorem d_lw_436 : decode code 436 = .ok (.i2l, 1) := by decide +kernel
theorem d_lw_437 : decode code 437 = .ok (.lcmp, 1) := by decide +kernel
theorem d_lw_438 : decode code 438 = .ok (.ifCond .eq 5, 3) := by decide +kernel
theorem d_lw_441 : decode code 441 = .ok (.iconst 0, 1) := by decide +kernel
theorem d_lw_442 : decode code 442 = .ok (.ireturn, 1) := by decide +kernel
theorem d_lw_443 : decode code 443 = .ok (.goto 753, 3) := by decide +kernel
theorem d_lw_446 : decode code 446 = .ok (.aload_n 1, 1) := by decide +kernel
theorem d_lw_447 : decode code 447 = .ok (.aload_n 0, 1) := by decide +kernel
theorem d_lw_448 : decode code 448 = .ok (.iload 4, 2) := by decide +kernel
theorem d_lw_450 : decode code 450 = .ok (.iconst 1, 1) := by decide +kernel
theorem d_lw_451 : decode code 451 = .ok (.iadd, 1) := by decide +kernel
theorem d_lw_452 : decode code 452 = .ok (.iaload, 1) := by decide +kernel
theorem d_lw_453 : decode code 453 = .ok (.aload_n 0, 1) := by decide +kernel
theorem d_lw_454 : decode code 454 = .ok (.iload 4, 2) := by decide +kernel
theorem d_lw_456 : decode code 456 = .ok (.iconst 2, 1) := by decide +kernel
theorem d_lw_457 : decode code 457 = .ok (.iadd, 1) := by decide +kernel
theorem d_lw_458 : decode code 458 = .ok (.iaload, 1) := by decide +kernel
theorem d_lw_459 : decode code 459 = .ok (.aload_n 0, 1) := by decide +kernel
theorem d_lw_460 : decode code 460 = .ok (.iload 4, 2) := by decide +kernel
theorem d_lw_462 : decode code 462 = .ok (.iconst 3, 1) := by decide +kernel
theorem d_lw_463 : decode code 463 = .ok (.iadd, 1) := by decide +kernel
theorem d_lw_464 : decode code 464 = .ok (.iaload, 1) := by decide +kernel
theorem d_lw_465 : decode code 465 = .ok (.i2l, 1) := by decide +kernel
theorem d_lw_466 : decode code 466 = .ok (.bipush 32, 2) := by decide +kernel
theorem d_lw_468 : decode code 468 = .ok (.lshl, 1) := by decide +kernel
theorem d_lw_469 : decode code 469 = .ok (.aload_n 0, 1) := by decide +kernel
theorem d_lw_470 : decode code 470 = .ok (.iload 4, 2) := by decide +kernel
theorem d_lw_472 : decode code 472 = .ok (.iconst 4, 1) := by decide +kernel
theorem d_lw_473 : decode code 473 = .ok (.iadd, 1) := by decide +kernel
theorem d_lw_474 : decode code 474 = .ok (.iaload, 1) := by decide +kernel
theorem d_lw_475 : decode code 475 = .ok (.i2l, 1) := by decide +kernel
theorem d_lw_476 : decode code 476 = .ok (.ldc2_w 77, 3) := by decide +kernel
theorem d_lw_479 : decode code 479 = .ok (.land, 1) := by decide +kernel
theorem d_lw_480 : decode code 480 = .ok (.lor, 1) := by decide +kernel
theorem d_lw_481 : decode code 481 = .ok (.aload_n 0, 1) := by decide +kernel
theorem d_lw_482 : decode code 482 = .ok (.iload 4, 2) := by decide +kernel
theorem d_lw_484 : decode code 484 = .ok (.iconst 5, 1) := by decide +kernel
theorem d_lw_485 : decode code 485 = .ok (.iadd, 1) := by decide +kernel
theorem d_lw_486 : decode code 486 = .ok (.iaload, 1) := by decide +kernel
theorem d_lw_487 : decode code 487 = .ok (.aload_n 3, 1) := by decide +kernel
theorem d_lw_488 : decode code 488 = .ok (.invokestatic 79, 3) := by decide +kernel
theorem d_lw_491 : decode code 491 = .ok (.istore 5, 2) := by decide +kernel
theorem d_lw_493 : decode code 493 = .ok (.aload_n 2, 1) := by decide +kernel
theorem d_lw_494 : decode code 494 = .ok (.aload_n 0, 1) := by decide +kernel
theorem d_lw_495 : decode code 495 = .ok (.iload 4, 2) := by decide +kernel
theorem d_lw_497 : decode code 497 = .ok (.iconst 1, 1) := by decide +kernel
theorem d_lw_498 : decode code 498 = .ok (.iadd, 1) := by decide +kernel
theorem d_lw_499 : decode code 499 = .ok (.iaload, 1) := by decide +kernel
theorem d_lw_500 : decode code 500 = .ok (.aload_n 0, 1) := by decide +kernel
theorem d_lw_501 : decode code 501 = .ok (.iload 4, 2) := by decide +kernel
theorem d_lw_503 : decode code 503 = .ok (.iconst 2, 1) := by decide +kernel
theorem d_lw_504 : decode code 504 = .ok (.iadd, 1) := by decide +kernel
theorem d_lw_505 : decode code 505 = .ok (.iaload, 1) := by decide +kernel
theorem d_lw_506 : decode code 506 = .ok (.aload_n 0, 1) := by decide +kernel
theorem d_lw_507 : decode code 507 = .ok (.iload 4, 2) := by decide +kernel
theorem d_lw_509 : decode code 509 = .ok (.iconst 3, 1) := by decide +kernel
theorem d_lw_510 : decode code 510 = .ok (.iadd, 1) := by decide +kernel
theorem d_lw_511 : decode code 511 = .ok (.iaload, 1) := by decide +kernel
theorem d_lw_512 : decode code 512 = .ok (.i2l, 1) := by decide +kernel
theorem d_lw_513 : decode code 513 = .ok (.bipush 32, 2) := by decide +kernel
theorem d_lw_515 : decode code 515 = .ok (.lshl, 1) := by decide +kernel
theorem d_lw_516 : decode code 516 = .ok (.aload_n 0, 1) := by decide +kernel
theorem d_lw_517 : decode code 517 = .ok (.iload 4, 2) := by decide +kernel
theorem d_lw_519 : decode code 519 = .ok (.iconst 4, 1) := by decide +kernel
theorem d_lw_520 : decode code 520 = .ok (.iadd, 1) := by decide +kernel
theorem d_lw_521 : decode code 521 = .ok (.iaload, 1) := by decide +kernel
theorem d_lw_522 : decode code 522 = .ok (.i2l, 1) := by decide +kernel
theorem d_lw_523 : decode code 523 = .ok (.ldc2_w 77, 3) := by decide +kernel
theorem d_lw_526 : decode code 526 = .ok (.land, 1) := by decide +kernel
theorem d_lw_527 : decode code 527 = .ok (.lor, 1) := by decide +kernel
theorem d_lw_528 : decode code 528 = .ok (.aload_n 0, 1) := by decide +kernel
theorem d_lw_529 : decode code 529 = .ok (.iload 4, 2) := by decide +kernel
theorem d_lw_531 : decode code 531 = .ok (.iconst 5, 1) := by decide +kernel
theorem d_lw_532 : decode code 532 = .ok (.iadd, 1) := by decide +kernel
theorem d_lw_533 : decode code 533 = .ok (.iaload, 1) := by decide +kernel
theorem d_lw_534 : decode code 534 = .ok (.invokevirtual 82, 3) := by decide +kernel
theorem d_lw_537 : decode code 537 = .ok (.istore 6, 2) := by decide +kernel
theorem d_lw_539 : decode code 539 = .ok (.aload_n 2, 1) := by decide +kernel
theorem d_lw_540 : decode code 540 = .ok (.invokevirtual 67, 3) := by decide +kernel
theorem d_lw_543 : decode code 543 = .ok (.iload 5, 2) := by decide +kernel
