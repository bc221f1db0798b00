theorem d_Lw_law_424 : decode code 424 = .ok (.iaload, 1) := by decide +kernel
theorem d_Lw_law_425 : decode code 425 = .ok (.invokevirtual 71, 3) := by decide +kernel
theorem d_Lw_law_428 : decode code 428 = .ok (.aload_n 2, 1) := by decide +kernel
theorem d_Lw_law_429 : decode code 429 = .ok (.aload_n 0, 1) := by decide +kernel
theorem d_Lw_law_430 : decode code 430 = .ok (.iload_n 3, 1) := by decide +kernel
theorem d_Lw_law_431 : decode code 431 = .ok (.iconst 1, 1) := by decide +kernel
theorem d_Lw_law_432 : decode code 432 = .ok (.iadd, 1) := by decide +kernel
theorem d_Lw_law_433 : decode code 433 = .ok (.iaload, 1) := by decide +kernel
theorem d_Lw_law_434 : decode code 434 = .ok (.invokevirtual 74, 3) := by decide +kernel
theorem d_Lw_law_437 : decode code 437 = .ok (.if_icmp .eq 74, 3) := by decide +kernel
theorem d_Lw_law_440 : decode code 440 = .ok (.iconst 0, 1) := by decide +kernel
theorem d_Lw_law_441 : decode code 441 = .ok (.ireturn, 1) := by decide +kernel
theorem d_Lw_law_442 : decode code 442 = .ok (.aload_n 1, 1) := by decide +kernel
theorem d_Lw_law_443 : decode code 443 = .ok (.aload_n 0, 1) := by decide +kernel
theorem d_Lw_law_444 : decode code 444 = .ok (.iload_n 3, 1) := by decide +kernel
theorem d_Lw_law_445 : decode code 445 = .ok (.iconst 1, 1) := by decide +kernel
theorem d_Lw_law_446 : decode code 446 = .ok (.iadd, 1) := by decide +kernel
theorem d_Lw_law_447 : decode code 447 = .ok (.iaload, 1) := by decide +kernel
theorem d_Lw_law_448 : decode code 448 = .ok (.aload_n 0, 1) := by decide +kernel
theorem d_Lw_law_449 : decode code 449 = .ok (.iload_n 3, 1) := by decide +kernel
theorem d_Lw_law_450 : decode code 450 = .ok (.iconst 2, 1) := by decide +kernel
theorem d_Lw_law_451 : decode code 451 = .ok (.iadd, 1) := by decide +kernel
theorem d_Lw_law_452 : decode code 452 = .ok (.iaload, 1) := by decide +kernel
theorem d_Lw_law_453 : decode code 453 = .ok (.invokevirtual 75, 3) := by decide +kernel
theorem d_Lw_law_456 : decode code 456 = .ok (.aload_n 2, 1) := by decide +kernel
theorem d_Lw_law_457 : decode code 457 = .ok (.aload_n 0, 1) := by decide +kernel
theorem d_Lw_law_458 : decode code 458 = .ok (.iload_n 3, 1) := by decide +kernel
theorem d_Lw_law_459 : decode code 459 = .ok (.iconst 1, 1) := by decide +kernel
theorem d_Lw_law_460 : decode code 460 = .ok (.iadd, 1) := by decide +kernel
theorem d_Lw_law_461 : decode code 461 = .ok (.iaload, 1) := by decide +kernel
theorem d_Lw_law_462 : decode code 462 = .ok (.aload_n 0, 1) := by decide +kernel
theorem d_Lw_law_463 : decode code 463 = .ok (.iload_n 3, 1) := by decide +kernel
theorem d_Lw_law_464 : decode code 464 = .ok (.iconst 2, 1) := by decide +kernel
theorem d_Lw_law_465 : decode code 465 = .ok (.iadd, 1) := by decide +kernel
theorem d_Lw_law_466 : decode code 466 = .ok (.iaload, 1) := by decide +kernel
theorem d_Lw_law_467 : decode code 467 = .ok (.invokevirtual 78, 3) := by decide +kernel
theorem d_Lw_law_470 : decode code 470 = .ok (.if_icmp .eq 41, 3) := by decide +kernel
theorem d_Lw_law_473 : decode code 473 = .ok (.iconst 0, 1) := by decide +kernel
theorem d_Lw_law_474 : decode code 474 = .ok (.ireturn, 1) := by decide +kernel
theorem d_Lw_law_475 : decode code 475 = .ok (.aload_n 1, 1) := by decide +kernel
theorem d_Lw_law_476 : decode code 476 = .ok (.aload_n 0, 1) := by decide +kernel
theorem d_Lw_law_477 : decode code 477 = .ok (.iload_n 3, 1) := by decide +kernel
theorem d_Lw_law_478 : decode code 478 = .ok (.iconst 1, 1) := by decide +kernel
theorem d_Lw_law_479 : decode code 479 = .ok (.iadd, 1) := by decide +kernel
theorem d_Lw_law_480 : decode code 480 = .ok (.iaload, 1) := by decide +kernel
theorem d_Lw_law_481 : decode code 481 = .ok (.invokevirtual 79, 3) := by decide +kernel
theorem d_Lw_law_484 : decode code 484 = .ok (.aload_n 2, 1) := by decide +kernel
theorem d_Lw_law_485 : decode code 485 = .ok (.aload_n 0, 1) := by decide +kernel
theorem d_Lw_law_486 : decode code 486 = .ok (.iload_n 3, 1) := by decide +kernel
theorem d_Lw_law_487 : decode code 487 = .ok (.iconst 1, 1) := by decide +kernel
theorem d_Lw_law_488 : decode code 488 = .ok (.iadd, 1) := by decide +kernel
theorem d_Lw_law_489 : decode code 489 = .ok (.iaload, 1) := by decide +kernel
theorem d_Lw_law_490 : decode code 490 = .ok (.invokevirtual 82, 3) := by decide +kernel
theorem d_Lw_law_493 : decode code 493 = .ok (.if_icmp .eq 18, 3) := by decide +kernel
theorem d_Lw_law_496 : decode code 496 = .ok (.iconst 0, 1) := by decide +kernel
theorem d_Lw_law_497 : decode code 497 = .ok (.ireturn, 1) := by decide +kernel
theorem d_Lw_law_498 : decode code 498 = .ok (.aload_n 1, 1) := by decide +kernel
theorem d_Lw_law_499 : decode code 499 = .ok (.invokevirtual 83, 3) := by decide +kernel
theorem d_Lw_law_502 : decode code 502 = .ok (.aload_n 2, 1) := by decide +kernel
theorem d_Lw_law_503 : decode code 503 = .ok (.invokevirtual 86, 3) := by decide +kernel
theorem d_Lw_law_506 : decode code 506 = .ok (.if_icmp .eq 5, 3) := by decide +kernel
theorem d_Lw_law_509 : decode code 509 = .ok (.iconst 0, 1) := by decide +kernel
theorem d_Lw_law_510 : decode code 510 = .ok (.ireturn, 1) := by decide +kernel
theorem d_Lw_law_511 : decode code 511 = .ok (.iinc 3 4, 3) := by decide +kernel
theorem d_Lw_law_514 : decode code 514 = .ok (.goto (-486), 3) := by decide +kernel
theorem d_Lw_law_517 : decode code 517 = .ok (.iconst 1, 1) := by decide +kernel
theorem d_Lw_law_518 : decode code 518 = .ok (.ireturn, 1) := by decide +kernel
theorem d_Lw_cell_0 : decode b_Lw_cell 0 = .ok (.iload_n 1, 1) := by decide +kernel
theorem d_Lw_cell_1 : decode b_Lw_cell 1 = .ok (.aload_n 0, 1) := by decide +kernel
theorem d_Lw_cell_2 : decode b_Lw_cell 2 = .ok (.arraylength, 1) := by decide +kernel
theorem d_Lw_cell_3 : decode b_Lw_cell 3 = .ok (.if_icmp .ge 9, 3) := by decide +kernel
theorem d_Lw_cell_6 : decode b_Lw_cell 6 = .ok (.aload_n 0, 1) := by decide +kernel
theorem d_Lw_cell_7 : decode b_Lw_cell 7 = .ok (.iload_n 1, 1) := by decide +kernel
theorem d_Lw_cell_8 : decode b_Lw_cell 8 = .ok (.iaload, 1) := by decide +kernel
theorem d_Lw_cell_9 : decode b_Lw_cell 9 = .ok (.goto 4, 3) := by decide +kernel
theorem d_Lw_cell_12 : decode b_Lw_cell 12 = .ok (.iconst 0, 1) := by decide +kernel
theorem d_Lw_cell_13 : decode b_Lw_cell 13 = .ok (.ireturn, 1) := by decide +kernel
