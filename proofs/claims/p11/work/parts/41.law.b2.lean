theorem d_Law_law_401 : decode b_Law_law 401 = .ok (.aload_n 0, 1) := by decide +kernel
theorem d_Law_law_402 : decode b_Law_law 402 = .ok (.iload 4, 2) := by decide +kernel
theorem d_Law_law_404 : decode b_Law_law 404 = .ok (.iconst 1, 1) := by decide +kernel
theorem d_Law_law_405 : decode b_Law_law 405 = .ok (.iadd, 1) := by decide +kernel
theorem d_Law_law_406 : decode b_Law_law 406 = .ok (.iaload, 1) := by decide +kernel
theorem d_Law_law_407 : decode b_Law_law 407 = .ok (.invokevirtual 69, 3) := by decide +kernel
theorem d_Law_law_410 : decode b_Law_law 410 = .ok (.pop, 1) := by decide +kernel
theorem d_Law_law_411 : decode b_Law_law 411 = .ok (.aload_n 2, 1) := by decide +kernel
theorem d_Law_law_412 : decode b_Law_law 412 = .ok (.aload_n 0, 1) := by decide +kernel
theorem d_Law_law_413 : decode b_Law_law 413 = .ok (.iload 4, 2) := by decide +kernel
theorem d_Law_law_415 : decode b_Law_law 415 = .ok (.iconst 1, 1) := by decide +kernel
theorem d_Law_law_416 : decode b_Law_law 416 = .ok (.iadd, 1) := by decide +kernel
theorem d_Law_law_417 : decode b_Law_law 417 = .ok (.iaload, 1) := by decide +kernel
theorem d_Law_law_418 : decode b_Law_law 418 = .ok (.invokevirtual 72, 3) := by decide +kernel
theorem d_Law_law_421 : decode b_Law_law 421 = .ok (.pop, 1) := by decide +kernel
theorem d_Law_law_422 : decode b_Law_law 422 = .ok (.goto 119, 3) := by decide +kernel
theorem d_Law_law_425 : decode b_Law_law 425 = .ok (.aload_n 1, 1) := by decide +kernel
theorem d_Law_law_426 : decode b_Law_law 426 = .ok (.aload_n 0, 1) := by decide +kernel
theorem d_Law_law_427 : decode b_Law_law 427 = .ok (.iload 4, 2) := by decide +kernel
theorem d_Law_law_429 : decode b_Law_law 429 = .ok (.iconst 1, 1) := by decide +kernel
theorem d_Law_law_430 : decode b_Law_law 430 = .ok (.iadd, 1) := by decide +kernel
theorem d_Law_law_431 : decode b_Law_law 431 = .ok (.iaload, 1) := by decide +kernel
theorem d_Law_law_432 : decode b_Law_law 432 = .ok (.ifCond .eq 7, 3) := by decide +kernel
theorem d_Law_law_439 : decode b_Law_law 439 = .ok (.iconst 0, 1) := by decide +kernel
theorem d_Law_law_440 : decode b_Law_law 440 = .ok (.invokevirtual 73, 3) := by decide +kernel
theorem d_Law_law_443 : decode b_Law_law 443 = .ok (.aload_n 2, 1) := by decide +kernel
theorem d_Law_law_444 : decode b_Law_law 444 = .ok (.aload_n 0, 1) := by decide +kernel
theorem d_Law_law_445 : decode b_Law_law 445 = .ok (.iload 4, 2) := by decide +kernel
theorem d_Law_law_447 : decode b_Law_law 447 = .ok (.iconst 1, 1) := by decide +kernel
theorem d_Law_law_448 : decode b_Law_law 448 = .ok (.iadd, 1) := by decide +kernel
theorem d_Law_law_449 : decode b_Law_law 449 = .ok (.iaload, 1) := by decide +kernel
theorem d_Law_law_450 : decode b_Law_law 450 = .ok (.ifCond .eq 7, 3) := by decide +kernel
theorem d_Law_law_457 : decode b_Law_law 457 = .ok (.iconst 0, 1) := by decide +kernel
theorem d_Law_law_458 : decode b_Law_law 458 = .ok (.invokevirtual 77, 3) := by decide +kernel
theorem d_Law_law_461 : decode b_Law_law 461 = .ok (.if_icmp .eq 80, 3) := by decide +kernel
theorem d_Law_law_435 : decode b_Law_law 435 = .ok (.iconst 1, 1) := by decide +kernel
theorem d_Law_law_436 : decode b_Law_law 436 = .ok (.goto 4, 3) := by decide +kernel
theorem d_Law_law_453 : decode b_Law_law 453 = .ok (.iconst 1, 1) := by decide +kernel
theorem d_Law_law_454 : decode b_Law_law 454 = .ok (.goto 4, 3) := by decide +kernel
theorem d_Law_law_466 : decode b_Law_law 466 = .ok (.aload_n 1, 1) := by decide +kernel
theorem d_Law_law_467 : decode b_Law_law 467 = .ok (.aload_n 0, 1) := by decide +kernel
theorem d_Law_law_468 : decode b_Law_law 468 = .ok (.iload 4, 2) := by decide +kernel
theorem d_Law_law_470 : decode b_Law_law 470 = .ok (.iconst 1, 1) := by decide +kernel
theorem d_Law_law_471 : decode b_Law_law 471 = .ok (.iadd, 1) := by decide +kernel
theorem d_Law_law_472 : decode b_Law_law 472 = .ok (.iaload, 1) := by decide +kernel
theorem d_Law_law_473 : decode b_Law_law 473 = .ok (.invokevirtual 78, 3) := by decide +kernel
theorem d_Law_law_476 : decode b_Law_law 476 = .ok (.pop, 1) := by decide +kernel
theorem d_Law_law_477 : decode b_Law_law 477 = .ok (.aload_n 2, 1) := by decide +kernel
theorem d_Law_law_478 : decode b_Law_law 478 = .ok (.aload_n 0, 1) := by decide +kernel
theorem d_Law_law_479 : decode b_Law_law 479 = .ok (.iload 4, 2) := by decide +kernel
theorem d_Law_law_481 : decode b_Law_law 481 = .ok (.iconst 1, 1) := by decide +kernel
theorem d_Law_law_482 : decode b_Law_law 482 = .ok (.iadd, 1) := by decide +kernel
theorem d_Law_law_483 : decode b_Law_law 483 = .ok (.iaload, 1) := by decide +kernel
theorem d_Law_law_484 : decode b_Law_law 484 = .ok (.invokevirtual 81, 3) := by decide +kernel
theorem d_Law_law_487 : decode b_Law_law 487 = .ok (.pop, 1) := by decide +kernel
theorem d_Law_law_488 : decode b_Law_law 488 = .ok (.goto 53, 3) := by decide +kernel
theorem d_Law_law_491 : decode b_Law_law 491 = .ok (.aload_n 1, 1) := by decide +kernel
theorem d_Law_law_492 : decode b_Law_law 492 = .ok (.aload_n 0, 1) := by decide +kernel
theorem d_Law_law_493 : decode b_Law_law 493 = .ok (.iload 4, 2) := by decide +kernel
theorem d_Law_law_495 : decode b_Law_law 495 = .ok (.iconst 1, 1) := by decide +kernel
theorem d_Law_law_496 : decode b_Law_law 496 = .ok (.iadd, 1) := by decide +kernel
theorem d_Law_law_497 : decode b_Law_law 497 = .ok (.iaload, 1) := by decide +kernel
theorem d_Law_law_498 : decode b_Law_law 498 = .ok (.invokevirtual 82, 3) := by decide +kernel
theorem d_Law_law_501 : decode b_Law_law 501 = .ok (.pop, 1) := by decide +kernel
theorem d_Law_law_502 : decode b_Law_law 502 = .ok (.aload_n 2, 1) := by decide +kernel
theorem d_Law_law_503 : decode b_Law_law 503 = .ok (.aload_n 0, 1) := by decide +kernel
theorem d_Law_law_504 : decode b_Law_law 504 = .ok (.iload 4, 2) := by decide +kernel
theorem d_Law_law_506 : decode b_Law_law 506 = .ok (.iconst 1, 1) := by decide +kernel
theorem d_Law_law_507 : decode b_Law_law 507 = .ok (.iadd, 1) := by decide +kernel
theorem d_Law_law_508 : decode b_Law_law 508 = .ok (.iaload, 1) := by decide +kernel
theorem d_Law_law_509 : decode b_Law_law 509 = .ok (.invokevirtual 85, 3) := by decide +kernel
theorem d_Law_law_512 : decode b_Law_law 512 = .ok (.pop, 1) := by decide +kernel
theorem d_Law_law_513 : decode b_Law_law 513 = .ok (.goto 28, 3) := by decide +kernel
theorem d_Law_law_516 : decode b_Law_law 516 = .ok (.aload_n 1, 1) := by decide +kernel
theorem d_Law_law_517 : decode b_Law_law 517 = .ok (.aload_n 0, 1) := by decide +kernel
theorem d_Law_law_518 : decode b_Law_law 518 = .ok (.iload 4, 2) := by decide +kernel
theorem d_Law_law_520 : decode b_Law_law 520 = .ok (.iconst 1, 1) := by decide +kernel
theorem d_Law_law_521 : decode b_Law_law 521 = .ok (.iadd, 1) := by decide +kernel
theorem d_Law_law_522 : decode b_Law_law 522 = .ok (.iaload, 1) := by decide +kernel
theorem d_Law_law_523 : decode b_Law_law 523 = .ok (.invokevirtual 86, 3) := by decide +kernel
theorem d_Law_law_526 : decode b_Law_law 526 = .ok (.pop, 1) := by decide +kernel
theorem d_Law_law_527 : decode b_Law_law 527 = .ok (.aload_n 2, 1) := by decide +kernel
theorem d_Law_law_528 : decode b_Law_law 528 = .ok (.aload_n 0, 1) := by decide +kernel
theorem d_Law_law_529 : decode b_Law_law 529 = .ok (.iload 4, 2) := by decide +kernel
theorem d_Law_law_531 : decode b_Law_law 531 = .ok (.iconst 1, 1) := by decide +kernel
theorem d_Law_law_532 : decode b_Law_law 532 = .ok (.iadd, 1) := by decide +kernel
theorem d_Law_law_533 : decode b_Law_law 533 = .ok (.iaload, 1) := by decide +kernel
theorem d_Law_law_534 : decode b_Law_law 534 = .ok (.invokevirtual 89, 3) := by decide +kernel
theorem d_Law_law_537 : decode b_Law_law 537 = .ok (.pop, 1) := by decide +kernel
theorem d_Law_law_538 : decode b_Law_law 538 = .ok (.goto 3, 3) := by decide +kernel
