theorem d_LW_law_386 : decode code 386 = .ok (.if_icmp .eq 239, 3) := by decide +kernel
theorem d_LW_law_389 : decode code 389 = .ok (.iconst 0, 1) := by decide +kernel
theorem d_LW_law_390 : decode code 390 = .ok (.ireturn, 1) := by decide +kernel
theorem d_LW_law_391 : decode code 391 = .ok (.aload_n 1, 1) := by decide +kernel
theorem d_LW_law_392 : decode code 392 = .ok (.aload_n 0, 1) := by decide +kernel
theorem d_LW_law_393 : decode code 393 = .ok (.iload_n 3, 1) := by decide +kernel
theorem d_LW_law_394 : decode code 394 = .ok (.iconst 1, 1) := by decide +kernel
theorem d_LW_law_395 : decode code 395 = .ok (.iadd, 1) := by decide +kernel
theorem d_LW_law_396 : decode code 396 = .ok (.iaload, 1) := by decide +kernel
theorem d_LW_law_397 : decode code 397 = .ok (.aload_n 0, 1) := by decide +kernel
theorem d_LW_law_398 : decode code 398 = .ok (.iload_n 3, 1) := by decide +kernel
theorem d_LW_law_399 : decode code 399 = .ok (.iconst 2, 1) := by decide +kernel
theorem d_LW_law_400 : decode code 400 = .ok (.iadd, 1) := by decide +kernel
theorem d_LW_law_401 : decode code 401 = .ok (.iaload, 1) := by decide +kernel
theorem d_LW_law_402 : decode code 402 = .ok (.aload_n 0, 1) := by decide +kernel
theorem d_LW_law_403 : decode code 403 = .ok (.iload_n 3, 1) := by decide +kernel
theorem d_LW_law_404 : decode code 404 = .ok (.iconst 3, 1) := by decide +kernel
theorem d_LW_law_405 : decode code 405 = .ok (.iadd, 1) := by decide +kernel
theorem d_LW_law_406 : decode code 406 = .ok (.iaload, 1) := by decide +kernel
theorem d_LW_law_407 : decode code 407 = .ok (.invokevirtual 52, 3) := by decide +kernel
theorem d_LW_law_410 : decode code 410 = .ok (.aload_n 2, 1) := by decide +kernel
theorem d_LW_law_411 : decode code 411 = .ok (.aload_n 0, 1) := by decide +kernel
theorem d_LW_law_412 : decode code 412 = .ok (.iload_n 3, 1) := by decide +kernel
theorem d_LW_law_413 : decode code 413 = .ok (.iconst 1, 1) := by decide +kernel
theorem d_LW_law_414 : decode code 414 = .ok (.iadd, 1) := by decide +kernel
theorem d_LW_law_415 : decode code 415 = .ok (.iaload, 1) := by decide +kernel
theorem d_LW_law_416 : decode code 416 = .ok (.aload_n 0, 1) := by decide +kernel
theorem d_LW_law_417 : decode code 417 = .ok (.iload_n 3, 1) := by decide +kernel
theorem d_LW_law_418 : decode code 418 = .ok (.iconst 2, 1) := by decide +kernel
theorem d_LW_law_419 : decode code 419 = .ok (.iadd, 1) := by decide +kernel
theorem d_LW_law_420 : decode code 420 = .ok (.iaload, 1) := by decide +kernel
theorem d_LW_law_421 : decode code 421 = .ok (.aload_n 0, 1) := by decide +kernel
theorem d_LW_law_422 : decode code 422 = .ok (.iload_n 3, 1) := by decide +kernel
theorem d_LW_law_423 : decode code 423 = .ok (.iconst 3, 1) := by decide +kernel
theorem d_LW_law_424 : decode code 424 = .ok (.iadd, 1) := by decide +kernel
theorem d_LW_law_425 : decode code 425 = .ok (.iaload, 1) := by decide +kernel
theorem d_LW_law_426 : decode code 426 = .ok (.invokevirtual 56, 3) := by decide +kernel
theorem d_LW_law_429 : decode code 429 = .ok (.if_icmp .eq 196, 3) := by decide +kernel
theorem d_LW_law_432 : decode code 432 = .ok (.iconst 0, 1) := by decide +kernel
theorem d_LW_law_433 : decode code 433 = .ok (.ireturn, 1) := by decide +kernel
theorem d_LW_law_434 : decode code 434 = .ok (.aload_n 1, 1) := by decide +kernel
theorem d_LW_law_435 : decode code 435 = .ok (.aload_n 0, 1) := by decide +kernel
theorem d_LW_law_436 : decode code 436 = .ok (.iload_n 3, 1) := by decide +kernel
theorem d_LW_law_437 : decode code 437 = .ok (.iconst 1, 1) := by decide +kernel
theorem d_LW_law_438 : decode code 438 = .ok (.iadd, 1) := by decide +kernel
theorem d_LW_law_439 : decode code 439 = .ok (.iaload, 1) := by decide +kernel
theorem d_LW_law_440 : decode code 440 = .ok (.aload_n 0, 1) := by decide +kernel
theorem d_LW_law_441 : decode code 441 = .ok (.iload_n 3, 1) := by decide +kernel
theorem d_LW_law_442 : decode code 442 = .ok (.iconst 2, 1) := by decide +kernel
theorem d_LW_law_443 : decode code 443 = .ok (.iadd, 1) := by decide +kernel
theorem d_LW_law_444 : decode code 444 = .ok (.iaload, 1) := by decide +kernel
theorem d_LW_law_445 : decode code 445 = .ok (.i2l, 1) := by decide +kernel
theorem d_LW_law_446 : decode code 446 = .ok (.bipush 32, 2) := by decide +kernel
theorem d_LW_law_448 : decode code 448 = .ok (.lshl, 1) := by decide +kernel
theorem d_LW_law_449 : decode code 449 = .ok (.aload_n 0, 1) := by decide +kernel
theorem d_LW_law_450 : decode code 450 = .ok (.iload_n 3, 1) := by decide +kernel
theorem d_LW_law_451 : decode code 451 = .ok (.iconst 3, 1) := by decide +kernel
theorem d_LW_law_452 : decode code 452 = .ok (.iadd, 1) := by decide +kernel
theorem d_LW_law_453 : decode code 453 = .ok (.iaload, 1) := by decide +kernel
theorem d_LW_law_454 : decode code 454 = .ok (.i2l, 1) := by decide +kernel
theorem d_LW_law_455 : decode code 455 = .ok (.ldc2_w 57, 3) := by decide +kernel
theorem d_LW_law_458 : decode code 458 = .ok (.land, 1) := by decide +kernel
theorem d_LW_law_459 : decode code 459 = .ok (.lor, 1) := by decide +kernel
theorem d_LW_law_460 : decode code 460 = .ok (.invokevirtual 59, 3) := by decide +kernel
theorem d_LW_law_463 : decode code 463 = .ok (.aload_n 2, 1) := by decide +kernel
theorem d_LW_law_464 : decode code 464 = .ok (.aload_n 0, 1) := by decide +kernel
theorem d_LW_law_465 : decode code 465 = .ok (.iload_n 3, 1) := by decide +kernel
theorem d_LW_law_466 : decode code 466 = .ok (.iconst 1, 1) := by decide +kernel
theorem d_LW_law_467 : decode code 467 = .ok (.iadd, 1) := by decide +kernel
theorem d_LW_law_468 : decode code 468 = .ok (.iaload, 1) := by decide +kernel
theorem d_LW_law_469 : decode code 469 = .ok (.aload_n 0, 1) := by decide +kernel
theorem d_LW_law_470 : decode code 470 = .ok (.iload_n 3, 1) := by decide +kernel
theorem d_LW_law_471 : decode code 471 = .ok (.iconst 2, 1) := by decide +kernel
theorem d_LW_law_472 : decode code 472 = .ok (.iadd, 1) := by decide +kernel
theorem d_LW_law_473 : decode code 473 = .ok (.iaload, 1) := by decide +kernel
theorem d_LW_law_474 : decode code 474 = .ok (.i2l, 1) := by decide +kernel
theorem d_LW_law_475 : decode code 475 = .ok (.bipush 32, 2) := by decide +kernel
theorem d_LW_law_477 : decode code 477 = .ok (.lshl, 1) := by decide +kernel
theorem d_LW_law_478 : decode code 478 = .ok (.aload_n 0, 1) := by decide +kernel
theorem d_LW_law_479 : decode code 479 = .ok (.iload_n 3, 1) := by decide +kernel
theorem d_LW_law_480 : decode code 480 = .ok (.iconst 3, 1) := by decide +kernel
theorem d_LW_law_481 : decode code 481 = .ok (.iadd, 1) := by decide +kernel
theorem d_LW_law_482 : decode code 482 = .ok (.iaload, 1) := by decide +kernel
theorem d_LW_law_483 : decode code 483 = .ok (.i2l, 1) := by decide +kernel
theorem d_LW_law_484 : decode code 484 = .ok (.ldc2_w 57, 3) := by decide +kernel
theorem d_LW_law_487 : decode code 487 = .ok (.land, 1) := by decide +kernel
theorem d_LW_law_488 : decode code 488 = .ok (.lor, 1) := by decide +kernel
theorem d_LW_law_489 : decode code 489 = .ok (.invokevirtual 63, 3) := by decide +kernel
theorem d_LW_law_492 : decode code 492 = .ok (.if_icmp .eq 133, 3) := by decide +kernel
theorem d_LW_law_495 : decode code 495 = .ok (.iconst 0, 1) := by decide +kernel
theorem d_LW_law_496 : decode code 496 = .ok (.ireturn, 1) := by decide +kernel
theorem d_LW_law_497 : decode code 497 = .ok (.aload_n 1, 1) := by decide +kernel
theorem d_LW_law_498 : decode code 498 = .ok (.aload_n 0, 1) := by decide +kernel
theorem d_LW_law_499 : decode code 499 = .ok (.iload_n 3, 1) := by decide +kernel
theorem d_LW_law_500 : decode code 500 = .ok (.iconst 1, 1) := by decide +kernel
theorem d_LW_law_501 : decode code 501 = .ok (.iadd, 1) := by decide +kernel
theorem d_LW_law_502 : decode code 502 = .ok (.iaload, 1) := by decide +kernel
theorem d_LW_law_503 : decode code 503 = .ok (.aload_n 0, 1) := by decide +kernel
theorem d_LW_law_504 : decode code 504 = .ok (.iload_n 3, 1) := by decide +kernel
theorem d_LW_law_505 : decode code 505 = .ok (.iconst 2, 1) := by decide +kernel
theorem d_LW_law_506 : decode code 506 = .ok (.iadd, 1) := by decide +kernel
theorem d_LW_law_507 : decode code 507 = .ok (.iaload, 1) := by decide +kernel
theorem d_LW_law_508 : decode code 508 = .ok (.ifCond .eq 7, 3) := by decide +kernel
theorem d_LW_law_511 : decode code 511 = .ok (.iconst 1, 1) := by decide +kernel
theorem d_LW_law_512 : decode code 512 = .ok (.goto 4, 3) := by decide +kernel
theorem d_LW_law_515 : decode code 515 = .ok (.iconst 0, 1) := by decide +kernel
theorem d_LW_law_516 : decode code 516 = .ok (.invokevirtual 64, 3) := by decide +kernel
theorem d_LW_law_519 : decode code 519 = .ok (.aload_n 2, 1) := by decide +kernel
theorem d_LW_law_520 : decode code 520 = .ok (.aload_n 0, 1) := by decide +kernel
theorem d_LW_law_521 : decode code 521 = .ok (.iload_n 3, 1) := by decide +kernel
theorem d_LW_law_522 : decode code 522 = .ok (.iconst 1, 1) := by decide +kernel
theorem d_LW_law_523 : decode code 523 = .ok (.iadd, 1) := by decide +kernel
theorem d_LW_law_524 : decode code 524 = .ok (.iaload, 1) := by decide +kernel
theorem d_LW_law_525 : decode code 525 = .ok (.aload_n 0, 1) := by decide +kernel
theorem d_LW_law_526 : decode code 526 = .ok (.iload_n 3, 1) := by decide +kernel
theorem d_LW_law_527 : decode code 527 = .ok (.iconst 2, 1) := by decide +kernel
theorem d_LW_law_528 : decode code 528 = .ok (.iadd, 1) := by decide +kernel
theorem d_LW_law_529 : decode code 529 = .ok (.iaload, 1) := by decide +kernel
theorem d_LW_law_530 : decode code 530 = .ok (.ifCond .eq 7, 3) := by decide +kernel
theorem d_LW_law_533 : decode code 533 = .ok (.iconst 1, 1) := by decide +kernel
