theorem dL_wires_420 : decode cL_wires 420 = .ok (.invokevirtual 56, 3) := by decide +kernel
theorem dL_wires_423 : decode cL_wires 423 = .ok (.iconst 1, 1) := by decide +kernel
theorem dL_wires_424 : decode cL_wires 424 = .ok (.if_icmp .ne 240, 3) := by decide +kernel
theorem dL_wires_427 : decode cL_wires 427 = .ok (.aload_n 0, 1) := by decide +kernel
theorem dL_wires_428 : decode cL_wires 428 = .ok (.iconst 3, 1) := by decide +kernel
theorem dL_wires_429 : decode cL_wires 429 = .ok (.invokevirtual 13, 3) := by decide +kernel
theorem dL_wires_432 : decode cL_wires 432 = .ok (.iconst 1, 1) := by decide +kernel
theorem dL_wires_433 : decode cL_wires 433 = .ok (.if_icmp .ne 231, 3) := by decide +kernel
theorem dL_wires_436 : decode cL_wires 436 = .ok (.aload_n 0, 1) := by decide +kernel
theorem dL_wires_437 : decode cL_wires 437 = .ok (.iconst 1, 1) := by decide +kernel
theorem dL_wires_438 : decode cL_wires 438 = .ok (.iconst 4, 1) := by decide +kernel
theorem dL_wires_439 : decode cL_wires 439 = .ok (.invokevirtual 19, 3) := by decide +kernel
theorem dL_wires_442 : decode cL_wires 442 = .ok (.iconst 1, 1) := by decide +kernel
theorem dL_wires_443 : decode cL_wires 443 = .ok (.if_icmp .ne 221, 3) := by decide +kernel
theorem dL_wires_446 : decode cL_wires 446 = .ok (.aload_n 0, 1) := by decide +kernel
theorem dL_wires_447 : decode cL_wires 447 = .ok (.iconst 1, 1) := by decide +kernel
theorem dL_wires_448 : decode cL_wires 448 = .ok (.iconst 5, 1) := by decide +kernel
theorem dL_wires_449 : decode cL_wires 449 = .ok (.invokevirtual 19, 3) := by decide +kernel
theorem dL_wires_452 : decode cL_wires 452 = .ok (.bipush 12, 2) := by decide +kernel
theorem dL_wires_454 : decode cL_wires 454 = .ok (.if_icmp .ne 210, 3) := by decide +kernel
theorem dL_wires_457 : decode cL_wires 457 = .ok (.aload_n 0, 1) := by decide +kernel
theorem dL_wires_458 : decode cL_wires 458 = .ok (.iconst 0, 1) := by decide +kernel
theorem dL_wires_459 : decode cL_wires 459 = .ok (.iconst 5, 1) := by decide +kernel
theorem dL_wires_460 : decode cL_wires 460 = .ok (.invokevirtual 19, 3) := by decide +kernel
theorem dL_wires_463 : decode cL_wires 463 = .ok (.bipush (-5), 2) := by decide +kernel
theorem dL_wires_465 : decode cL_wires 465 = .ok (.if_icmp .ne 199, 3) := by decide +kernel
theorem dL_wires_468 : decode cL_wires 468 = .ok (.aload_n 0, 1) := by decide +kernel
theorem dL_wires_469 : decode cL_wires 469 = .ok (.iconst 1, 1) := by decide +kernel
theorem dL_wires_470 : decode cL_wires 470 = .ok (.iconst 0, 1) := by decide +kernel
theorem dL_wires_471 : decode cL_wires 471 = .ok (.invokevirtual 59, 3) := by decide +kernel
theorem dL_wires_474 : decode cL_wires 474 = .ok (.bipush 10, 2) := by decide +kernel
theorem dL_wires_476 : decode cL_wires 476 = .ok (.if_icmp .ne 188, 3) := by decide +kernel
theorem dL_wires_479 : decode cL_wires 479 = .ok (.aload_n 0, 1) := by decide +kernel
theorem dL_wires_480 : decode cL_wires 480 = .ok (.iconst 1, 1) := by decide +kernel
theorem dL_wires_481 : decode cL_wires 481 = .ok (.iconst 1, 1) := by decide +kernel
theorem dL_wires_482 : decode cL_wires 482 = .ok (.invokevirtual 59, 3) := by decide +kernel
theorem dL_wires_485 : decode cL_wires 485 = .ok (.ifCond .ne 179, 3) := by decide +kernel
theorem dL_wires_488 : decode cL_wires 488 = .ok (.aload_n 0, 1) := by decide +kernel
theorem dL_wires_489 : decode cL_wires 489 = .ok (.iconst 0, 1) := by decide +kernel
theorem dL_wires_490 : decode cL_wires 490 = .ok (.iconst 0, 1) := by decide +kernel
theorem dL_wires_491 : decode cL_wires 491 = .ok (.invokevirtual 59, 3) := by decide +kernel
theorem dL_wires_494 : decode cL_wires 494 = .ok (.bipush 10, 2) := by decide +kernel
theorem dL_wires_496 : decode cL_wires 496 = .ok (.if_icmp .ne 168, 3) := by decide +kernel
theorem dL_wires_499 : decode cL_wires 499 = .ok (.aload_n 0, 1) := by decide +kernel
theorem dL_wires_500 : decode cL_wires 500 = .ok (.iconst 0, 1) := by decide +kernel
theorem dL_wires_501 : decode cL_wires 501 = .ok (.bipush 95, 2) := by decide +kernel
theorem dL_wires_503 : decode cL_wires 503 = .ok (.invokevirtual 47, 3) := by decide +kernel
theorem dL_wires_506 : decode cL_wires 506 = .ok (.bipush 86, 2) := by decide +kernel
theorem dL_wires_508 : decode cL_wires 508 = .ok (.if_icmp .ne 156, 3) := by decide +kernel
theorem dL_wires_511 : decode cL_wires 511 = .ok (.aload_n 0, 1) := by decide +kernel
theorem dL_wires_512 : decode cL_wires 512 = .ok (.iconst 0, 1) := by decide +kernel
theorem dL_wires_513 : decode cL_wires 513 = .ok (.bipush 87, 2) := by decide +kernel
theorem dL_wires_515 : decode cL_wires 515 = .ok (.invokevirtual 47, 3) := by decide +kernel
theorem dL_wires_518 : decode cL_wires 518 = .ok (.sipush 1000, 3) := by decide +kernel
theorem dL_wires_521 : decode cL_wires 521 = .ok (.if_icmp .ne 143, 3) := by decide +kernel
theorem dL_wires_524 : decode cL_wires 524 = .ok (.aload_n 0, 1) := by decide +kernel
theorem dL_wires_525 : decode cL_wires 525 = .ok (.bipush 8, 2) := by decide +kernel
theorem dL_wires_527 : decode cL_wires 527 = .ok (.invokevirtual 13, 3) := by decide +kernel
theorem dL_wires_530 : decode cL_wires 530 = .ok (.iconst 1, 1) := by decide +kernel
theorem dL_wires_531 : decode cL_wires 531 = .ok (.if_icmp .ne 133, 3) := by decide +kernel
theorem dL_wires_534 : decode cL_wires 534 = .ok (.aload_n 0, 1) := by decide +kernel
theorem dL_wires_535 : decode cL_wires 535 = .ok (.iconst 0, 1) := by decide +kernel
theorem dL_wires_536 : decode cL_wires 536 = .ok (.iconst 0, 1) := by decide +kernel
theorem dL_wires_537 : decode cL_wires 537 = .ok (.invokevirtual 19, 3) := by decide +kernel
theorem dL_wires_540 : decode cL_wires 540 = .ok (.iconst (-1), 1) := by decide +kernel
theorem dL_wires_541 : decode cL_wires 541 = .ok (.if_icmp .ne 123, 3) := by decide +kernel
theorem dL_wires_544 : decode cL_wires 544 = .ok (.aload_n 0, 1) := by decide +kernel
theorem dL_wires_545 : decode cL_wires 545 = .ok (.iconst 0, 1) := by decide +kernel
theorem dL_wires_546 : decode cL_wires 546 = .ok (.iconst 1, 1) := by decide +kernel
theorem dL_wires_547 : decode cL_wires 547 = .ok (.invokevirtual 23, 3) := by decide +kernel
