theorem d_LW_law_392 : decode code 392 = .ok (.iconst 2, 1) := by decide +kernel
theorem d_LW_law_393 : decode code 393 = .ok (.iadd, 1) := by decide +kernel
theorem d_LW_law_394 : decode code 394 = .ok (.iaload, 1) := by decide +kernel
theorem d_LW_law_395 : decode code 395 = .ok (.invokevirtual 58, 3) := by decide +kernel
theorem d_LW_law_398 : decode code 398 = .ok (.aload_n 2, 1) := by decide +kernel
theorem d_LW_law_399 : decode code 399 = .ok (.aload_n 0, 1) := by decide +kernel
theorem d_LW_law_400 : decode code 400 = .ok (.iload_n 3, 1) := by decide +kernel
theorem d_LW_law_401 : decode code 401 = .ok (.iconst 1, 1) := by decide +kernel
theorem d_LW_law_402 : decode code 402 = .ok (.iadd, 1) := by decide +kernel
theorem d_LW_law_403 : decode code 403 = .ok (.iaload, 1) := by decide +kernel
theorem d_LW_law_404 : decode code 404 = .ok (.aload_n 0, 1) := by decide +kernel
theorem d_LW_law_405 : decode code 405 = .ok (.iload_n 3, 1) := by decide +kernel
theorem d_LW_law_406 : decode code 406 = .ok (.iconst 2, 1) := by decide +kernel
theorem d_LW_law_407 : decode code 407 = .ok (.iadd, 1) := by decide +kernel
theorem d_LW_law_408 : decode code 408 = .ok (.iaload, 1) := by decide +kernel
theorem d_LW_law_409 : decode code 409 = .ok (.invokevirtual 61, 3) := by decide +kernel
theorem d_LW_law_412 : decode code 412 = .ok (.if_icmp .eq 259, 3) := by decide +kernel
theorem d_LW_law_415 : decode code 415 = .ok (.iconst 0, 1) := by decide +kernel
theorem d_LW_law_416 : decode code 416 = .ok (.ireturn, 1) := by decide +kernel
theorem d_LW_law_417 : decode code 417 = .ok (.aload_n 1, 1) := by decide +kernel
theorem d_LW_law_418 : decode code 418 = .ok (.aload_n 0, 1) := by decide +kernel
theorem d_LW_law_419 : decode code 419 = .ok (.iload_n 3, 1) := by decide +kernel
theorem d_LW_law_420 : decode code 420 = .ok (.iconst 1, 1) := by decide +kernel
theorem d_LW_law_421 : decode code 421 = .ok (.iadd, 1) := by decide +kernel
theorem d_LW_law_422 : decode code 422 = .ok (.iaload, 1) := by decide +kernel
theorem d_LW_law_423 : decode code 423 = .ok (.aload_n 0, 1) := by decide +kernel
theorem d_LW_law_424 : decode code 424 = .ok (.iload_n 3, 1) := by decide +kernel
theorem d_LW_law_425 : decode code 425 = .ok (.iconst 2, 1) := by decide +kernel
theorem d_LW_law_426 : decode code 426 = .ok (.iadd, 1) := by decide +kernel
theorem d_LW_law_427 : decode code 427 = .ok (.iaload, 1) := by decide +kernel
theorem d_LW_law_428 : decode code 428 = .ok (.aload_n 0, 1) := by decide +kernel
theorem d_LW_law_429 : decode code 429 = .ok (.iload_n 3, 1) := by decide +kernel
theorem d_LW_law_430 : decode code 430 = .ok (.iconst 3, 1) := by decide +kernel
theorem d_LW_law_431 : decode code 431 = .ok (.iadd, 1) := by decide +kernel
theorem d_LW_law_432 : decode code 432 = .ok (.iaload, 1) := by decide +kernel
theorem d_LW_law_433 : decode code 433 = .ok (.invokevirtual 62, 3) := by decide +kernel
theorem d_LW_law_436 : decode code 436 = .ok (.aload_n 2, 1) := by decide +kernel
theorem d_LW_law_437 : decode code 437 = .ok (.aload_n 0, 1) := by decide +kernel
theorem d_LW_law_438 : decode code 438 = .ok (.iload_n 3, 1) := by decide +kernel
theorem d_LW_law_439 : decode code 439 = .ok (.iconst 1, 1) := by decide +kernel
theorem d_LW_law_440 : decode code 440 = .ok (.iadd, 1) := by decide +kernel
theorem d_LW_law_441 : decode code 441 = .ok (.iaload, 1) := by decide +kernel
theorem d_LW_law_442 : decode code 442 = .ok (.aload_n 0, 1) := by decide +kernel
theorem d_LW_law_443 : decode code 443 = .ok (.iload_n 3, 1) := by decide +kernel
theorem d_LW_law_444 : decode code 444 = .ok (.iconst 2, 1) := by decide +kernel
theorem d_LW_law_445 : decode code 445 = .ok (.iadd, 1) := by decide +kernel
theorem d_LW_law_446 : decode code 446 = .ok (.iaload, 1) := by decide +kernel
theorem d_LW_law_447 : decode code 447 = .ok (.aload_n 0, 1) := by decide +kernel
theorem d_LW_law_448 : decode code 448 = .ok (.iload_n 3, 1) := by decide +kernel
theorem d_LW_law_449 : decode code 449 = .ok (.iconst 3, 1) := by decide +kernel
theorem d_LW_law_450 : decode code 450 = .ok (.iadd, 1) := by decide +kernel
theorem d_LW_law_451 : decode code 451 = .ok (.iaload, 1) := by decide +kernel
theorem d_LW_law_452 : decode code 452 = .ok (.invokevirtual 66, 3) := by decide +kernel
theorem d_LW_law_455 : decode code 455 = .ok (.if_icmp .eq 216, 3) := by decide +kernel
theorem d_LW_law_458 : decode code 458 = .ok (.iconst 0, 1) := by decide +kernel
theorem d_LW_law_459 : decode code 459 = .ok (.ireturn, 1) := by decide +kernel
theorem d_LW_law_460 : decode code 460 = .ok (.aload_n 1, 1) := by decide +kernel
theorem d_LW_law_461 : decode code 461 = .ok (.aload_n 0, 1) := by decide +kernel
theorem d_LW_law_462 : decode code 462 = .ok (.iload_n 3, 1) := by decide +kernel
theorem d_LW_law_463 : decode code 463 = .ok (.iconst 1, 1) := by decide +kernel
theorem d_LW_law_464 : decode code 464 = .ok (.iadd, 1) := by decide +kernel
theorem d_LW_law_465 : decode code 465 = .ok (.iaload, 1) := by decide +kernel
theorem d_LW_law_466 : decode code 466 = .ok (.invokevirtual 67, 3) := by decide +kernel
theorem d_LW_law_469 : decode code 469 = .ok (.aload_n 2, 1) := by decide +kernel
theorem d_LW_law_470 : decode code 470 = .ok (.aload_n 0, 1) := by decide +kernel
theorem d_LW_law_471 : decode code 471 = .ok (.iload_n 3, 1) := by decide +kernel
theorem d_LW_law_472 : decode code 472 = .ok (.iconst 1, 1) := by decide +kernel
theorem d_LW_law_473 : decode code 473 = .ok (.iadd, 1) := by decide +kernel
theorem d_LW_law_474 : decode code 474 = .ok (.iaload, 1) := by decide +kernel
theorem d_LW_law_475 : decode code 475 = .ok (.invokevirtual 70, 3) := by decide +kernel
theorem d_LW_law_478 : decode code 478 = .ok (.if_icmp .eq 193, 3) := by decide +kernel
theorem d_LW_law_481 : decode code 481 = .ok (.iconst 0, 1) := by decide +kernel
theorem d_LW_law_482 : decode code 482 = .ok (.ireturn, 1) := by decide +kernel
theorem d_LW_law_483 : decode code 483 = .ok (.aload_n 1, 1) := by decide +kernel
theorem d_LW_law_484 : decode code 484 = .ok (.aload_n 0, 1) := by decide +kernel
theorem d_LW_law_485 : decode code 485 = .ok (.iload_n 3, 1) := by decide +kernel
theorem d_LW_law_486 : decode code 486 = .ok (.iconst 1, 1) := by decide +kernel
theorem d_LW_law_487 : decode code 487 = .ok (.iadd, 1) := by decide +kernel
theorem d_LW_law_488 : decode code 488 = .ok (.iaload, 1) := by decide +kernel
theorem d_LW_law_489 : decode code 489 = .ok (.aload_n 0, 1) := by decide +kernel
theorem d_LW_law_490 : decode code 490 = .ok (.iload_n 3, 1) := by decide +kernel
theorem d_LW_law_491 : decode code 491 = .ok (.iconst 2, 1) := by decide +kernel
theorem d_LW_law_492 : decode code 492 = .ok (.iadd, 1) := by decide +kernel
theorem d_LW_law_493 : decode code 493 = .ok (.iaload, 1) := by decide +kernel
theorem d_LW_law_494 : decode code 494 = .ok (.invokevirtual 71, 3) := by decide +kernel
theorem d_LW_law_497 : decode code 497 = .ok (.aload_n 2, 1) := by decide +kernel
theorem d_LW_law_498 : decode code 498 = .ok (.aload_n 0, 1) := by decide +kernel
theorem d_LW_law_499 : decode code 499 = .ok (.iload_n 3, 1) := by decide +kernel
theorem d_LW_law_500 : decode code 500 = .ok (.iconst 1, 1) := by decide +kernel
theorem d_LW_law_501 : decode code 501 = .ok (.iadd, 1) := by decide +kernel
theorem d_LW_law_502 : decode code 502 = .ok (.iaload, 1) := by decide +kernel
theorem d_LW_law_503 : decode code 503 = .ok (.aload_n 0, 1) := by decide +kernel
theorem d_LW_law_504 : decode code 504 = .ok (.iload_n 3, 1) := by decide +kernel
theorem d_LW_law_505 : decode code 505 = .ok (.iconst 2, 1) := by decide +kernel
theorem d_LW_law_506 : decode code 506 = .ok (.iadd, 1) := by decide +kernel
theorem d_LW_law_507 : decode code 507 = .ok (.iaload, 1) := by decide +kernel
theorem d_LW_law_508 : decode code 508 = .ok (.invokevirtual 74, 3) := by decide +kernel
theorem d_LW_law_511 : decode code 511 = .ok (.if_icmp .eq 160, 3) := by decide +kernel
theorem d_LW_law_514 : decode code 514 = .ok (.iconst 0, 1) := by decide +kernel
theorem d_LW_law_515 : decode code 515 = .ok (.ireturn, 1) := by decide +kernel
theorem d_LW_law_516 : decode code 516 = .ok (.aload_n 1, 1) := by decide +kernel
theorem d_LW_law_517 : decode code 517 = .ok (.aload_n 0, 1) := by decide +kernel
theorem d_LW_law_518 : decode code 518 = .ok (.iload_n 3, 1) := by decide +kernel
theorem d_LW_law_519 : decode code 519 = .ok (.iconst 1, 1) := by decide +kernel
theorem d_LW_law_520 : decode code 520 = .ok (.iadd, 1) := by decide +kernel
theorem d_LW_law_521 : decode code 521 = .ok (.iaload, 1) := by decide +kernel
theorem d_LW_law_522 : decode code 522 = .ok (.invokevirtual 75, 3) := by decide +kernel
theorem d_LW_law_525 : decode code 525 = .ok (.aload_n 2, 1) := by decide +kernel
theorem d_LW_law_526 : decode code 526 = .ok (.aload_n 0, 1) := by decide +kernel
theorem d_LW_law_527 : decode code 527 = .ok (.iload_n 3, 1) := by decide +kernel
theorem d_LW_law_528 : decode code 528 = .ok (.iconst 1, 1) := by decide +kernel
theorem d_LW_law_529 : decode code 529 = .ok (.iadd, 1) := by decide +kernel
theorem d_LW_law_530 : decode code 530 = .ok (.iaload, 1) := by decide +kernel
theorem d_LW_law_531 : decode code 531 = .ok (.invokevirtual 78, 3) := by decide +kernel
theorem d_LW_law_534 : decode code 534 = .ok (.if_icmp .eq 137, 3) := by decide +kernel
