theorem d_L_388 : decode code 388 = .ok (.aload_n 0, 1) := by decide +kernel
theorem d_L_389 : decode code 389 = .ok (.iload_n 3, 1) := by decide +kernel
theorem d_L_390 : decode code 390 = .ok (.iconst 1, 1) := by decide +kernel
theorem d_L_391 : decode code 391 = .ok (.iadd, 1) := by decide +kernel
theorem d_L_392 : decode code 392 = .ok (.iaload, 1) := by decide +kernel
theorem d_L_393 : decode code 393 = .ok (.invokevirtual 60, 3) := by decide +kernel
theorem d_L_396 : decode code 396 = .ok (.if_icmp .eq 263, 3) := by decide +kernel
theorem d_L_399 : decode code 399 = .ok (.iconst 0, 1) := by decide +kernel
theorem d_L_400 : decode code 400 = .ok (.ireturn, 1) := by decide +kernel
theorem d_L_401 : decode code 401 = .ok (.aload_n 1, 1) := by decide +kernel
theorem d_L_402 : decode code 402 = .ok (.invokevirtual 61, 3) := by decide +kernel
theorem d_L_405 : decode code 405 = .ok (.aload_n 2, 1) := by decide +kernel
theorem d_L_406 : decode code 406 = .ok (.invokevirtual 64, 3) := by decide +kernel
theorem d_L_409 : decode code 409 = .ok (.if_icmp .eq 250, 3) := by decide +kernel
theorem d_L_412 : decode code 412 = .ok (.iconst 0, 1) := by decide +kernel
theorem d_L_413 : decode code 413 = .ok (.ireturn, 1) := by decide +kernel
theorem d_L_414 : decode code 414 = .ok (.aload_n 1, 1) := by decide +kernel
theorem d_L_415 : decode code 415 = .ok (.invokevirtual 65, 3) := by decide +kernel
theorem d_L_418 : decode code 418 = .ok (.aload_n 2, 1) := by decide +kernel
theorem d_L_419 : decode code 419 = .ok (.invokevirtual 68, 3) := by decide +kernel
theorem d_L_422 : decode code 422 = .ok (.if_icmp .eq 237, 3) := by decide +kernel
theorem d_L_425 : decode code 425 = .ok (.iconst 0, 1) := by decide +kernel
theorem d_L_426 : decode code 426 = .ok (.ireturn, 1) := by decide +kernel
theorem d_L_427 : decode code 427 = .ok (.aload_n 1, 1) := by decide +kernel
theorem d_L_428 : decode code 428 = .ok (.aload_n 0, 1) := by decide +kernel
theorem d_L_429 : decode code 429 = .ok (.iload_n 3, 1) := by decide +kernel
theorem d_L_430 : decode code 430 = .ok (.iconst 1, 1) := by decide +kernel
theorem d_L_431 : decode code 431 = .ok (.iadd, 1) := by decide +kernel
theorem d_L_432 : decode code 432 = .ok (.iaload, 1) := by decide +kernel
theorem d_L_433 : decode code 433 = .ok (.aload_n 0, 1) := by decide +kernel
theorem d_L_434 : decode code 434 = .ok (.iload_n 3, 1) := by decide +kernel
theorem d_L_435 : decode code 435 = .ok (.iconst 2, 1) := by decide +kernel
theorem d_L_436 : decode code 436 = .ok (.iadd, 1) := by decide +kernel
theorem d_L_437 : decode code 437 = .ok (.iaload, 1) := by decide +kernel
theorem d_L_438 : decode code 438 = .ok (.invokevirtual 69, 3) := by decide +kernel
theorem d_L_441 : decode code 441 = .ok (.aload_n 2, 1) := by decide +kernel
theorem d_L_442 : decode code 442 = .ok (.aload_n 0, 1) := by decide +kernel
theorem d_L_443 : decode code 443 = .ok (.iload_n 3, 1) := by decide +kernel
theorem d_L_444 : decode code 444 = .ok (.iconst 1, 1) := by decide +kernel
theorem d_L_445 : decode code 445 = .ok (.iadd, 1) := by decide +kernel
theorem d_L_446 : decode code 446 = .ok (.iaload, 1) := by decide +kernel
theorem d_L_447 : decode code 447 = .ok (.aload_n 0, 1) := by decide +kernel
theorem d_L_448 : decode code 448 = .ok (.iload_n 3, 1) := by decide +kernel
theorem d_L_449 : decode code 449 = .ok (.iconst 2, 1) := by decide +kernel
theorem d_L_450 : decode code 450 = .ok (.iadd, 1) := by decide +kernel
theorem d_L_451 : decode code 451 = .ok (.iaload, 1) := by decide +kernel
theorem d_L_452 : decode code 452 = .ok (.invokevirtual 72, 3) := by decide +kernel
theorem d_L_455 : decode code 455 = .ok (.if_icmp .eq 204, 3) := by decide +kernel
theorem d_L_458 : decode code 458 = .ok (.iconst 0, 1) := by decide +kernel
theorem d_L_459 : decode code 459 = .ok (.ireturn, 1) := by decide +kernel
theorem d_L_460 : decode code 460 = .ok (.aload_n 1, 1) := by decide +kernel
theorem d_L_461 : decode code 461 = .ok (.aload_n 0, 1) := by decide +kernel
theorem d_L_462 : decode code 462 = .ok (.iload_n 3, 1) := by decide +kernel
theorem d_L_463 : decode code 463 = .ok (.iconst 1, 1) := by decide +kernel
theorem d_L_464 : decode code 464 = .ok (.iadd, 1) := by decide +kernel
theorem d_L_465 : decode code 465 = .ok (.iaload, 1) := by decide +kernel
theorem d_L_466 : decode code 466 = .ok (.aload_n 0, 1) := by decide +kernel
theorem d_L_467 : decode code 467 = .ok (.iload_n 3, 1) := by decide +kernel
theorem d_L_468 : decode code 468 = .ok (.iconst 2, 1) := by decide +kernel
theorem d_L_469 : decode code 469 = .ok (.iadd, 1) := by decide +kernel
theorem d_L_470 : decode code 470 = .ok (.iaload, 1) := by decide +kernel
theorem d_L_471 : decode code 471 = .ok (.invokevirtual 73, 3) := by decide +kernel
theorem d_L_474 : decode code 474 = .ok (.aload_n 2, 1) := by decide +kernel
theorem d_L_475 : decode code 475 = .ok (.aload_n 0, 1) := by decide +kernel
theorem d_L_476 : decode code 476 = .ok (.iload_n 3, 1) := by decide +kernel
theorem d_L_477 : decode code 477 = .ok (.iconst 1, 1) := by decide +kernel
theorem d_L_478 : decode code 478 = .ok (.iadd, 1) := by decide +kernel
theorem d_L_479 : decode code 479 = .ok (.iaload, 1) := by decide +kernel
theorem d_L_480 : decode code 480 = .ok (.aload_n 0, 1) := by decide +kernel
theorem d_L_481 : decode code 481 = .ok (.iload_n 3, 1) := by decide +kernel
theorem d_L_482 : decode code 482 = .ok (.iconst 2, 1) := by decide +kernel
theorem d_L_483 : decode code 483 = .ok (.iadd, 1) := by decide +kernel
theorem d_L_484 : decode code 484 = .ok (.iaload, 1) := by decide +kernel
theorem d_L_485 : decode code 485 = .ok (.invokevirtual 77, 3) := by decide +kernel
theorem d_L_488 : decode code 488 = .ok (.if_icmp .eq 171, 3) := by decide +kernel
theorem d_L_491 : decode code 491 = .ok (.iconst 0, 1) := by decide +kernel
theorem d_L_492 : decode code 492 = .ok (.ireturn, 1) := by decide +kernel
theorem d_L_493 : decode code 493 = .ok (.aload_n 1, 1) := by decide +kernel
theorem d_L_494 : decode code 494 = .ok (.aload_n 0, 1) := by decide +kernel
theorem d_L_495 : decode code 495 = .ok (.iload_n 3, 1) := by decide +kernel
theorem d_L_496 : decode code 496 = .ok (.iconst 1, 1) := by decide +kernel
theorem d_L_497 : decode code 497 = .ok (.iadd, 1) := by decide +kernel
theorem d_L_498 : decode code 498 = .ok (.iaload, 1) := by decide +kernel
theorem d_L_499 : decode code 499 = .ok (.invokevirtual 78, 3) := by decide +kernel
theorem d_L_502 : decode code 502 = .ok (.aload_n 2, 1) := by decide +kernel
theorem d_L_503 : decode code 503 = .ok (.aload_n 0, 1) := by decide +kernel
theorem d_L_504 : decode code 504 = .ok (.iload_n 3, 1) := by decide +kernel
theorem d_L_505 : decode code 505 = .ok (.iconst 1, 1) := by decide +kernel
theorem d_L_506 : decode code 506 = .ok (.iadd, 1) := by decide +kernel
theorem d_L_507 : decode code 507 = .ok (.iaload, 1) := by decide +kernel
theorem d_L_508 : decode code 508 = .ok (.invokevirtual 81, 3) := by decide +kernel
theorem d_L_511 : decode code 511 = .ok (.if_icmp .eq 148, 3) := by decide +kernel
theorem d_L_514 : decode code 514 = .ok (.iconst 0, 1) := by decide +kernel
theorem d_L_515 : decode code 515 = .ok (.ireturn, 1) := by decide +kernel
theorem d_L_516 : decode code 516 = .ok (.aload_n 1, 1) := by decide +kernel
theorem d_L_517 : decode code 517 = .ok (.aload_n 0, 1) := by decide +kernel
theorem d_L_518 : decode code 518 = .ok (.iload_n 3, 1) := by decide +kernel
theorem d_L_519 : decode code 519 = .ok (.iconst 1, 1) := by decide +kernel
theorem d_L_520 : decode code 520 = .ok (.iadd, 1) := by decide +kernel
theorem d_L_521 : decode code 521 = .ok (.iaload, 1) := by decide +kernel
theorem d_L_522 : decode code 522 = .ok (.aload_n 0, 1) := by decide +kernel
theorem d_L_523 : decode code 523 = .ok (.iload_n 3, 1) := by decide +kernel
theorem d_L_524 : decode code 524 = .ok (.iconst 2, 1) := by decide +kernel
theorem d_L_525 : decode code 525 = .ok (.iadd, 1) := by decide +kernel
theorem d_L_526 : decode code 526 = .ok (.iaload, 1) := by decide +kernel
theorem d_L_527 : decode code 527 = .ok (.invokevirtual 82, 3) := by decide +kernel
theorem d_L_530 : decode code 530 = .ok (.aload_n 2, 1) := by decide +kernel
theorem d_L_531 : decode code 531 = .ok (.aload_n 0, 1) := by decide +kernel
theorem d_L_532 : decode code 532 = .ok (.iload_n 3, 1) := by decide +kernel
theorem d_L_533 : decode code 533 = .ok (.iconst 1, 1) := by decide +kernel
