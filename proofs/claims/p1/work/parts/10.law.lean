theorem dL_law_300 : decode cL_law 300 = .ok (.aload_n 1, 1) := by decide +kernel
theorem dL_law_301 : decode cL_law 301 = .ok (.aload_n 0, 1) := by decide +kernel
theorem dL_law_302 : decode cL_law 302 = .ok (.iload 5, 2) := by decide +kernel
theorem dL_law_304 : decode cL_law 304 = .ok (.iconst 1, 1) := by decide +kernel
theorem dL_law_305 : decode cL_law 305 = .ok (.iadd, 1) := by decide +kernel
theorem dL_law_306 : decode cL_law 306 = .ok (.iaload, 1) := by decide +kernel
theorem dL_law_307 : decode cL_law 307 = .ok (.aload_n 0, 1) := by decide +kernel
theorem dL_law_308 : decode cL_law 308 = .ok (.iload 5, 2) := by decide +kernel
theorem dL_law_310 : decode cL_law 310 = .ok (.iconst 2, 1) := by decide +kernel
theorem dL_law_311 : decode cL_law 311 = .ok (.iadd, 1) := by decide +kernel
theorem dL_law_312 : decode cL_law 312 = .ok (.iaload, 1) := by decide +kernel
theorem dL_law_313 : decode cL_law 313 = .ok (.aload_n 3, 1) := by decide +kernel
theorem dL_law_314 : decode cL_law 314 = .ok (.invokestatic 212, 3) := by decide +kernel
theorem dL_law_317 : decode cL_law 317 = .ok (.istore 6, 2) := by decide +kernel
theorem dL_law_319 : decode cL_law 319 = .ok (.aload_n 2, 1) := by decide +kernel
theorem dL_law_320 : decode cL_law 320 = .ok (.aload_n 0, 1) := by decide +kernel
theorem dL_law_321 : decode cL_law 321 = .ok (.iload 5, 2) := by decide +kernel
theorem dL_law_323 : decode cL_law 323 = .ok (.iconst 1, 1) := by decide +kernel
theorem dL_law_324 : decode cL_law 324 = .ok (.iadd, 1) := by decide +kernel
theorem dL_law_325 : decode cL_law 325 = .ok (.iaload, 1) := by decide +kernel
theorem dL_law_326 : decode cL_law 326 = .ok (.aload_n 0, 1) := by decide +kernel
theorem dL_law_327 : decode cL_law 327 = .ok (.iload 5, 2) := by decide +kernel
theorem dL_law_329 : decode cL_law 329 = .ok (.iconst 2, 1) := by decide +kernel
theorem dL_law_330 : decode cL_law 330 = .ok (.iadd, 1) := by decide +kernel
theorem dL_law_331 : decode cL_law 331 = .ok (.iaload, 1) := by decide +kernel
theorem dL_law_332 : decode cL_law 332 = .ok (.invokevirtual 217, 3) := by decide +kernel
theorem dL_law_335 : decode cL_law 335 = .ok (.istore 7, 2) := by decide +kernel
theorem dL_law_337 : decode cL_law 337 = .ok (.aload_n 2, 1) := by decide +kernel
theorem dL_law_338 : decode cL_law 338 = .ok (.invokevirtual 218, 3) := by decide +kernel
theorem dL_law_341 : decode cL_law 341 = .ok (.iload 6, 2) := by decide +kernel
theorem dL_law_343 : decode cL_law 343 = .ok (.if_icmp .eq 5, 3) := by decide +kernel
theorem dL_law_348 : decode cL_law 348 = .ok (.iload 6, 2) := by decide +kernel
theorem dL_law_350 : decode cL_law 350 = .ok (.ifCond .ne 15, 3) := by decide +kernel
theorem dL_law_365 : decode cL_law 365 = .ok (.goto 3892, 3) := by decide +kernel
theorem dL_law_353 : decode cL_law 353 = .ok (.aload_n 3, 1) := by decide +kernel
theorem dL_law_354 : decode cL_law 354 = .ok (.iconst 0, 1) := by decide +kernel
theorem dL_law_355 : decode cL_law 355 = .ok (.laload, 1) := by decide +kernel
theorem dL_law_356 : decode cL_law 356 = .ok (.iload 7, 2) := by decide +kernel
theorem dL_law_358 : decode cL_law 358 = .ok (.i2l, 1) := by decide +kernel
theorem dL_law_359 : decode cL_law 359 = .ok (.lcmp, 1) := by decide +kernel
theorem dL_law_360 : decode cL_law 360 = .ok (.ifCond .eq 5, 3) := by decide +kernel
theorem dL_law_368 : decode cL_law 368 = .ok (.aload_n 1, 1) := by decide +kernel
theorem dL_law_369 : decode cL_law 369 = .ok (.aload_n 0, 1) := by decide +kernel
theorem dL_law_370 : decode cL_law 370 = .ok (.iload 5, 2) := by decide +kernel
theorem dL_law_372 : decode cL_law 372 = .ok (.iconst 1, 1) := by decide +kernel
theorem dL_law_373 : decode cL_law 373 = .ok (.iadd, 1) := by decide +kernel
theorem dL_law_374 : decode cL_law 374 = .ok (.iaload, 1) := by decide +kernel
theorem dL_law_375 : decode cL_law 375 = .ok (.aload_n 0, 1) := by decide +kernel
theorem dL_law_376 : decode cL_law 376 = .ok (.iload 5, 2) := by decide +kernel
theorem dL_law_378 : decode cL_law 378 = .ok (.iconst 2, 1) := by decide +kernel
theorem dL_law_379 : decode cL_law 379 = .ok (.iadd, 1) := by decide +kernel
theorem dL_law_380 : decode cL_law 380 = .ok (.iaload, 1) := by decide +kernel
theorem dL_law_381 : decode cL_law 381 = .ok (.aload_n 3, 1) := by decide +kernel
theorem dL_law_382 : decode cL_law 382 = .ok (.invokestatic 222, 3) := by decide +kernel
theorem dL_law_385 : decode cL_law 385 = .ok (.istore 6, 2) := by decide +kernel
theorem dL_law_387 : decode cL_law 387 = .ok (.aload_n 2, 1) := by decide +kernel
theorem dL_law_388 : decode cL_law 388 = .ok (.aload_n 0, 1) := by decide +kernel
theorem dL_law_389 : decode cL_law 389 = .ok (.iload 5, 2) := by decide +kernel
theorem dL_law_391 : decode cL_law 391 = .ok (.iconst 1, 1) := by decide +kernel
theorem dL_law_392 : decode cL_law 392 = .ok (.iadd, 1) := by decide +kernel
theorem dL_law_393 : decode cL_law 393 = .ok (.iaload, 1) := by decide +kernel
theorem dL_law_394 : decode cL_law 394 = .ok (.aload_n 0, 1) := by decide +kernel
theorem dL_law_395 : decode cL_law 395 = .ok (.iload 5, 2) := by decide +kernel
theorem dL_law_397 : decode cL_law 397 = .ok (.iconst 2, 1) := by decide +kernel
theorem dL_law_398 : decode cL_law 398 = .ok (.iadd, 1) := by decide +kernel
theorem dL_law_399 : decode cL_law 399 = .ok (.iaload, 1) := by decide +kernel
theorem dL_law_400 : decode cL_law 400 = .ok (.invokevirtual 224, 3) := by decide +kernel
theorem dL_law_403 : decode cL_law 403 = .ok (.istore 7, 2) := by decide +kernel
theorem dL_law_405 : decode cL_law 405 = .ok (.aload_n 2, 1) := by decide +kernel
theorem dL_law_406 : decode cL_law 406 = .ok (.invokevirtual 218, 3) := by decide +kernel
theorem dL_law_409 : decode cL_law 409 = .ok (.iload 6, 2) := by decide +kernel
theorem dL_law_411 : decode cL_law 411 = .ok (.if_icmp .eq 5, 3) := by decide +kernel
theorem dL_law_416 : decode cL_law 416 = .ok (.iload 6, 2) := by decide +kernel
theorem dL_law_418 : decode cL_law 418 = .ok (.ifCond .ne 22, 3) := by decide +kernel
theorem dL_law_440 : decode cL_law 440 = .ok (.goto 3817, 3) := by decide +kernel
theorem dL_law_443 : decode cL_law 443 = .ok (.aload_n 1, 1) := by decide +kernel
theorem dL_law_444 : decode cL_law 444 = .ok (.aload_n 0, 1) := by decide +kernel
theorem dL_law_445 : decode cL_law 445 = .ok (.iload 5, 2) := by decide +kernel
theorem dL_law_447 : decode cL_law 447 = .ok (.iconst 1, 1) := by decide +kernel
theorem dL_law_448 : decode cL_law 448 = .ok (.iadd, 1) := by decide +kernel
theorem dL_law_449 : decode cL_law 449 = .ok (.iaload, 1) := by decide +kernel
theorem dL_law_450 : decode cL_law 450 = .ok (.aload_n 0, 1) := by decide +kernel
theorem dL_law_451 : decode cL_law 451 = .ok (.iload 5, 2) := by decide +kernel
theorem dL_law_453 : decode cL_law 453 = .ok (.iconst 2, 1) := by decide +kernel
theorem dL_law_454 : decode cL_law 454 = .ok (.iadd, 1) := by decide +kernel
theorem dL_law_455 : decode cL_law 455 = .ok (.iaload, 1) := by decide +kernel
theorem dL_law_456 : decode cL_law 456 = .ok (.aload_n 3, 1) := by decide +kernel
theorem dL_law_457 : decode cL_law 457 = .ok (.invokestatic 225, 3) := by decide +kernel
theorem dL_law_460 : decode cL_law 460 = .ok (.istore 6, 2) := by decide +kernel
theorem dL_law_462 : decode cL_law 462 = .ok (.aload_n 2, 1) := by decide +kernel
theorem dL_law_463 : decode cL_law 463 = .ok (.aload_n 0, 1) := by decide +kernel
theorem dL_law_464 : decode cL_law 464 = .ok (.iload 5, 2) := by decide +kernel
theorem dL_law_466 : decode cL_law 466 = .ok (.iconst 1, 1) := by decide +kernel
theorem dL_law_467 : decode cL_law 467 = .ok (.iadd, 1) := by decide +kernel
theorem dL_law_468 : decode cL_law 468 = .ok (.iaload, 1) := by decide +kernel
theorem dL_law_469 : decode cL_law 469 = .ok (.aload_n 0, 1) := by decide +kernel
theorem dL_law_470 : decode cL_law 470 = .ok (.iload 5, 2) := by decide +kernel
theorem dL_law_472 : decode cL_law 472 = .ok (.iconst 2, 1) := by decide +kernel
theorem dL_law_473 : decode cL_law 473 = .ok (.iadd, 1) := by decide +kernel
theorem dL_law_474 : decode cL_law 474 = .ok (.iaload, 1) := by decide +kernel
theorem dL_law_475 : decode cL_law 475 = .ok (.invokevirtual 227, 3) := by decide +kernel
theorem dL_law_478 : decode cL_law 478 = .ok (.istore 7, 2) := by decide +kernel
theorem dL_law_480 : decode cL_law 480 = .ok (.aload_n 2, 1) := by decide +kernel
theorem dL_law_481 : decode cL_law 481 = .ok (.invokevirtual 218, 3) := by decide +kernel
theorem dL_law_484 : decode cL_law 484 = .ok (.iload 6, 2) := by decide +kernel
theorem dL_law_486 : decode cL_law 486 = .ok (.if_icmp .eq 5, 3) := by decide +kernel
theorem dL_law_491 : decode cL_law 491 = .ok (.iload 6, 2) := by decide +kernel
theorem dL_law_493 : decode cL_law 493 = .ok (.ifCond .ne 22, 3) := by decide +kernel
theorem dL_law_515 : decode cL_law 515 = .ok (.goto 3742, 3) := by decide +kernel
theorem dL_law_518 : decode cL_law 518 = .ok (.aload_n 1, 1) := by decide +kernel
theorem dL_law_519 : decode cL_law 519 = .ok (.aload_n 0, 1) := by decide +kernel
theorem dL_law_520 : decode cL_law 520 = .ok (.iload 5, 2) := by decide +kernel
theorem dL_law_522 : decode cL_law 522 = .ok (.iconst 1, 1) := by decide +kernel
theorem dL_law_523 : decode cL_law 523 = .ok (.iadd, 1) := by decide +kernel
theorem dL_law_524 : decode cL_law 524 = .ok (.iaload, 1) := by decide +kernel
theorem dL_law_525 : decode cL_law 525 = .ok (.aload_n 0, 1) := by decide +kernel
theorem dL_law_526 : decode cL_law 526 = .ok (.iload 5, 2) := by decide +kernel
theorem dL_law_528 : decode cL_law 528 = .ok (.iconst 2, 1) := by decide +kernel
theorem dL_law_529 : decode cL_law 529 = .ok (.iadd, 1) := by decide +kernel
theorem dL_law_530 : decode cL_law 530 = .ok (.iaload, 1) := by decide +kernel
theorem dL_law_531 : decode cL_law 531 = .ok (.aload_n 3, 1) := by decide +kernel
theorem dL_law_532 : decode cL_law 532 = .ok (.invokestatic 228, 3) := by decide +kernel
theorem dL_law_535 : decode cL_law 535 = .ok (.istore 6, 2) := by decide +kernel
theorem dL_law_537 : decode cL_law 537 = .ok (.aload_n 2, 1) := by decide +kernel
theorem dL_law_538 : decode cL_law 538 = .ok (.aload_n 0, 1) := by decide +kernel
theorem dL_law_539 : decode cL_law 539 = .ok (.iload 5, 2) := by decide +kernel
theorem dL_law_541 : decode cL_law 541 = .ok (.iconst 1, 1) := by decide +kernel
theorem dL_law_542 : decode cL_law 542 = .ok (.iadd, 1) := by decide +kernel
theorem dL_law_543 : decode cL_law 543 = .ok (.iaload, 1) := by decide +kernel
theorem dL_law_544 : decode cL_law 544 = .ok (.aload_n 0, 1) := by decide +kernel
theorem dL_law_545 : decode cL_law 545 = .ok (.iload 5, 2) := by decide +kernel
theorem dL_law_547 : decode cL_law 547 = .ok (.iconst 2, 1) := by decide +kernel
theorem dL_law_548 : decode cL_law 548 = .ok (.iadd, 1) := by decide +kernel
theorem dL_law_549 : decode cL_law 549 = .ok (.iaload, 1) := by decide +kernel
theorem dL_law_550 : decode cL_law 550 = .ok (.invokevirtual 230, 3) := by decide +kernel
theorem dL_law_553 : decode cL_law 553 = .ok (.istore 7, 2) := by decide +kernel
theorem dL_law_555 : decode cL_law 555 = .ok (.aload_n 2, 1) := by decide +kernel
theorem dL_law_556 : decode cL_law 556 = .ok (.invokevirtual 218, 3) := by decide +kernel
theorem dL_law_559 : decode cL_law 559 = .ok (.iload 6, 2) := by decide +kernel
theorem dL_law_561 : decode cL_law 561 = .ok (.if_icmp .eq 5, 3) := by decide +kernel
theorem dL_law_566 : decode cL_law 566 = .ok (.iload 6, 2) := by decide +kernel
theorem dL_law_568 : decode cL_law 568 = .ok (.ifCond .ne 15, 3) := by decide +kernel
theorem dL_law_583 : decode cL_law 583 = .ok (.goto 3674, 3) := by decide +kernel
theorem dL_law_586 : decode cL_law 586 = .ok (.aload_n 1, 1) := by decide +kernel
theorem dL_law_587 : decode cL_law 587 = .ok (.aload_n 0, 1) := by decide +kernel
theorem dL_law_588 : decode cL_law 588 = .ok (.iload 5, 2) := by decide +kernel
theorem dL_law_590 : decode cL_law 590 = .ok (.iconst 1, 1) := by decide +kernel
theorem dL_law_591 : decode cL_law 591 = .ok (.iadd, 1) := by decide +kernel
theorem dL_law_592 : decode cL_law 592 = .ok (.iaload, 1) := by decide +kernel
theorem dL_law_593 : decode cL_law 593 = .ok (.aload_n 0, 1) := by decide +kernel
theorem dL_law_594 : decode cL_law 594 = .ok (.iload 5, 2) := by decide +kernel
theorem dL_law_596 : decode cL_law 596 = .ok (.iconst 2, 1) := by decide +kernel
theorem dL_law_597 : decode cL_law 597 = .ok (.iadd, 1) := by decide +kernel
theorem dL_law_598 : decode cL_law 598 = .ok (.iaload, 1) := by decide +kernel
theorem dL_law_599 : decode cL_law 599 = .ok (.aload_n 3, 1) := by decide +kernel
theorem dL_law_600 : decode cL_law 600 = .ok (.invokestatic 231, 3) := by decide +kernel
theorem dL_law_603 : decode cL_law 603 = .ok (.istore 6, 2) := by decide +kernel
theorem dL_law_605 : decode cL_law 605 = .ok (.aload_n 2, 1) := by decide +kernel
theorem dL_law_606 : decode cL_law 606 = .ok (.aload_n 0, 1) := by decide +kernel
theorem dL_law_607 : decode cL_law 607 = .ok (.iload 5, 2) := by decide +kernel
theorem dL_law_609 : decode cL_law 609 = .ok (.iconst 1, 1) := by decide +kernel
theorem dL_law_610 : decode cL_law 610 = .ok (.iadd, 1) := by decide +kernel
theorem dL_law_611 : decode cL_law 611 = .ok (.iaload, 1) := by decide +kernel
theorem dL_law_612 : decode cL_law 612 = .ok (.aload_n 0, 1) := by decide +kernel
theorem dL_law_613 : decode cL_law 613 = .ok (.iload 5, 2) := by decide +kernel
theorem dL_law_615 : decode cL_law 615 = .ok (.iconst 2, 1) := by decide +kernel
theorem dL_law_616 : decode cL_law 616 = .ok (.iadd, 1) := by decide +kernel
theorem dL_law_617 : decode cL_law 617 = .ok (.iaload, 1) := by decide +kernel
theorem dL_law_618 : decode cL_law 618 = .ok (.invokevirtual 233, 3) := by decide +kernel
theorem dL_law_621 : decode cL_law 621 = .ok (.istore 7, 2) := by decide +kernel
theorem dL_law_623 : decode cL_law 623 = .ok (.aload_n 2, 1) := by decide +kernel
theorem dL_law_624 : decode cL_law 624 = .ok (.invokevirtual 218, 3) := by decide +kernel
theorem dL_law_627 : decode cL_law 627 = .ok (.iload 6, 2) := by decide +kernel
theorem dL_law_629 : decode cL_law 629 = .ok (.if_icmp .eq 5, 3) := by decide +kernel
theorem dL_law_634 : decode cL_law 634 = .ok (.iload 6, 2) := by decide +kernel
theorem dL_law_636 : decode cL_law 636 = .ok (.ifCond .ne 15, 3) := by decide +kernel
theorem dL_law_651 : decode cL_law 651 = .ok (.goto 3606, 3) := by decide +kernel
theorem dL_law_654 : decode cL_law 654 = .ok (.aload_n 1, 1) := by decide +kernel
theorem dL_law_655 : decode cL_law 655 = .ok (.aload_n 0, 1) := by decide +kernel
theorem dL_law_656 : decode cL_law 656 = .ok (.iload 5, 2) := by decide +kernel
theorem dL_law_658 : decode cL_law 658 = .ok (.iconst 1, 1) := by decide +kernel
theorem dL_law_659 : decode cL_law 659 = .ok (.iadd, 1) := by decide +kernel
theorem dL_law_660 : decode cL_law 660 = .ok (.iaload, 1) := by decide +kernel
theorem dL_law_661 : decode cL_law 661 = .ok (.aload_n 0, 1) := by decide +kernel
theorem dL_law_662 : decode cL_law 662 = .ok (.iload 5, 2) := by decide +kernel
theorem dL_law_664 : decode cL_law 664 = .ok (.iconst 2, 1) := by decide +kernel
theorem dL_law_665 : decode cL_law 665 = .ok (.iadd, 1) := by decide +kernel
theorem dL_law_666 : decode cL_law 666 = .ok (.iaload, 1) := by decide +kernel
theorem dL_law_667 : decode cL_law 667 = .ok (.aload_n 3, 1) := by decide +kernel
theorem dL_law_668 : decode cL_law 668 = .ok (.invokestatic 234, 3) := by decide +kernel
theorem dL_law_671 : decode cL_law 671 = .ok (.istore 6, 2) := by decide +kernel
theorem dL_law_673 : decode cL_law 673 = .ok (.aload_n 2, 1) := by decide +kernel
theorem dL_law_674 : decode cL_law 674 = .ok (.aload_n 0, 1) := by decide +kernel
theorem dL_law_675 : decode cL_law 675 = .ok (.iload 5, 2) := by decide +kernel
theorem dL_law_677 : decode cL_law 677 = .ok (.iconst 1, 1) := by decide +kernel
theorem dL_law_678 : decode cL_law 678 = .ok (.iadd, 1) := by decide +kernel
theorem dL_law_679 : decode cL_law 679 = .ok (.iaload, 1) := by decide +kernel
theorem dL_law_680 : decode cL_law 680 = .ok (.aload_n 0, 1) := by decide +kernel
theorem dL_law_681 : decode cL_law 681 = .ok (.iload 5, 2) := by decide +kernel
theorem dL_law_683 : decode cL_law 683 = .ok (.iconst 2, 1) := by decide +kernel
theorem dL_law_684 : decode cL_law 684 = .ok (.iadd, 1) := by decide +kernel
theorem dL_law_685 : decode cL_law 685 = .ok (.iaload, 1) := by decide +kernel
theorem dL_law_686 : decode cL_law 686 = .ok (.invokevirtual 236, 3) := by decide +kernel
theorem dL_law_689 : decode cL_law 689 = .ok (.istore 7, 2) := by decide +kernel
theorem dL_law_691 : decode cL_law 691 = .ok (.aload_n 2, 1) := by decide +kernel
theorem dL_law_692 : decode cL_law 692 = .ok (.invokevirtual 218, 3) := by decide +kernel
theorem dL_law_695 : decode cL_law 695 = .ok (.iload 6, 2) := by decide +kernel
theorem dL_law_697 : decode cL_law 697 = .ok (.if_icmp .eq 5, 3) := by decide +kernel
theorem dL_law_702 : decode cL_law 702 = .ok (.iload 6, 2) := by decide +kernel
theorem dL_law_704 : decode cL_law 704 = .ok (.ifCond .ne 22, 3) := by decide +kernel
theorem dL_law_726 : decode cL_law 726 = .ok (.goto 3531, 3) := by decide +kernel
theorem dL_law_707 : decode cL_law 707 = .ok (.aload_n 3, 1) := by decide +kernel
theorem dL_law_708 : decode cL_law 708 = .ok (.iconst 0, 1) := by decide +kernel
theorem dL_law_709 : decode cL_law 709 = .ok (.laload, 1) := by decide +kernel
theorem dL_law_710 : decode cL_law 710 = .ok (.iload 7, 2) := by decide +kernel
theorem dL_law_712 : decode cL_law 712 = .ok (.ifCond .eq 7, 3) := by decide +kernel
theorem dL_law_715 : decode cL_law 715 = .ok (.lconst 1, 1) := by decide +kernel
theorem dL_law_716 : decode cL_law 716 = .ok (.goto 4, 3) := by decide +kernel
theorem dL_law_720 : decode cL_law 720 = .ok (.lcmp, 1) := by decide +kernel
theorem dL_law_721 : decode cL_law 721 = .ok (.ifCond .eq 5, 3) := by decide +kernel
theorem dL_law_729 : decode cL_law 729 = .ok (.aload_n 1, 1) := by decide +kernel
theorem dL_law_730 : decode cL_law 730 = .ok (.aload_n 0, 1) := by decide +kernel
theorem dL_law_731 : decode cL_law 731 = .ok (.iload 5, 2) := by decide +kernel
theorem dL_law_733 : decode cL_law 733 = .ok (.iconst 1, 1) := by decide +kernel
theorem dL_law_734 : decode cL_law 734 = .ok (.iadd, 1) := by decide +kernel
theorem dL_law_735 : decode cL_law 735 = .ok (.iaload, 1) := by decide +kernel
theorem dL_law_736 : decode cL_law 736 = .ok (.aload_n 0, 1) := by decide +kernel
theorem dL_law_737 : decode cL_law 737 = .ok (.iload 5, 2) := by decide +kernel
theorem dL_law_739 : decode cL_law 739 = .ok (.iconst 2, 1) := by decide +kernel
theorem dL_law_740 : decode cL_law 740 = .ok (.iadd, 1) := by decide +kernel
theorem dL_law_741 : decode cL_law 741 = .ok (.iaload, 1) := by decide +kernel
theorem dL_law_742 : decode cL_law 742 = .ok (.aload_n 3, 1) := by decide +kernel
theorem dL_law_743 : decode cL_law 743 = .ok (.invokestatic 237, 3) := by decide +kernel
theorem dL_law_746 : decode cL_law 746 = .ok (.istore 6, 2) := by decide +kernel
theorem dL_law_748 : decode cL_law 748 = .ok (.aload_n 2, 1) := by decide +kernel
theorem dL_law_749 : decode cL_law 749 = .ok (.aload_n 0, 1) := by decide +kernel
theorem dL_law_750 : decode cL_law 750 = .ok (.iload 5, 2) := by decide +kernel
theorem dL_law_752 : decode cL_law 752 = .ok (.iconst 1, 1) := by decide +kernel
theorem dL_law_753 : decode cL_law 753 = .ok (.iadd, 1) := by decide +kernel
theorem dL_law_754 : decode cL_law 754 = .ok (.iaload, 1) := by decide +kernel
theorem dL_law_755 : decode cL_law 755 = .ok (.aload_n 0, 1) := by decide +kernel
theorem dL_law_756 : decode cL_law 756 = .ok (.iload 5, 2) := by decide +kernel
theorem dL_law_758 : decode cL_law 758 = .ok (.iconst 2, 1) := by decide +kernel
theorem dL_law_759 : decode cL_law 759 = .ok (.iadd, 1) := by decide +kernel
theorem dL_law_760 : decode cL_law 760 = .ok (.iaload, 1) := by decide +kernel
theorem dL_law_761 : decode cL_law 761 = .ok (.invokevirtual 239, 3) := by decide +kernel
theorem dL_law_764 : decode cL_law 764 = .ok (.istore 7, 2) := by decide +kernel
theorem dL_law_766 : decode cL_law 766 = .ok (.aload_n 2, 1) := by decide +kernel
theorem dL_law_767 : decode cL_law 767 = .ok (.invokevirtual 218, 3) := by decide +kernel
theorem dL_law_770 : decode cL_law 770 = .ok (.iload 6, 2) := by decide +kernel
theorem dL_law_772 : decode cL_law 772 = .ok (.if_icmp .eq 5, 3) := by decide +kernel
theorem dL_law_777 : decode cL_law 777 = .ok (.iload 6, 2) := by decide +kernel
theorem dL_law_779 : decode cL_law 779 = .ok (.ifCond .ne 15, 3) := by decide +kernel
theorem dL_law_794 : decode cL_law 794 = .ok (.goto 3463, 3) := by decide +kernel
theorem dL_law_782 : decode cL_law 782 = .ok (.aload_n 3, 1) := by decide +kernel
theorem dL_law_783 : decode cL_law 783 = .ok (.iconst 0, 1) := by decide +kernel
theorem dL_law_784 : decode cL_law 784 = .ok (.laload, 1) := by decide +kernel
theorem dL_law_785 : decode cL_law 785 = .ok (.iload 7, 2) := by decide +kernel
theorem dL_law_787 : decode cL_law 787 = .ok (.i2l, 1) := by decide +kernel
theorem dL_law_788 : decode cL_law 788 = .ok (.lcmp, 1) := by decide +kernel
theorem dL_law_789 : decode cL_law 789 = .ok (.ifCond .eq 5, 3) := by decide +kernel
theorem dL_law_797 : decode cL_law 797 = .ok (.aload_n 1, 1) := by decide +kernel
theorem dL_law_798 : decode cL_law 798 = .ok (.aload_n 0, 1) := by decide +kernel
theorem dL_law_799 : decode cL_law 799 = .ok (.iload 5, 2) := by decide +kernel
theorem dL_law_801 : decode cL_law 801 = .ok (.iconst 1, 1) := by decide +kernel
theorem dL_law_802 : decode cL_law 802 = .ok (.iadd, 1) := by decide +kernel
theorem dL_law_803 : decode cL_law 803 = .ok (.iaload, 1) := by decide +kernel
theorem dL_law_804 : decode cL_law 804 = .ok (.aload_n 0, 1) := by decide +kernel
theorem dL_law_805 : decode cL_law 805 = .ok (.iload 5, 2) := by decide +kernel
theorem dL_law_807 : decode cL_law 807 = .ok (.iconst 2, 1) := by decide +kernel
theorem dL_law_808 : decode cL_law 808 = .ok (.iadd, 1) := by decide +kernel
theorem dL_law_809 : decode cL_law 809 = .ok (.iaload, 1) := by decide +kernel
theorem dL_law_810 : decode cL_law 810 = .ok (.aload_n 0, 1) := by decide +kernel
theorem dL_law_811 : decode cL_law 811 = .ok (.iload 5, 2) := by decide +kernel
theorem dL_law_813 : decode cL_law 813 = .ok (.iconst 3, 1) := by decide +kernel
theorem dL_law_814 : decode cL_law 814 = .ok (.iadd, 1) := by decide +kernel
theorem dL_law_815 : decode cL_law 815 = .ok (.iaload, 1) := by decide +kernel
theorem dL_law_816 : decode cL_law 816 = .ok (.aload_n 3, 1) := by decide +kernel
theorem dL_law_817 : decode cL_law 817 = .ok (.invokestatic 240, 3) := by decide +kernel
theorem dL_law_820 : decode cL_law 820 = .ok (.istore 6, 2) := by decide +kernel
theorem dL_law_822 : decode cL_law 822 = .ok (.aload_n 2, 1) := by decide +kernel
theorem dL_law_823 : decode cL_law 823 = .ok (.aload_n 0, 1) := by decide +kernel
theorem dL_law_824 : decode cL_law 824 = .ok (.iload 5, 2) := by decide +kernel
theorem dL_law_826 : decode cL_law 826 = .ok (.iconst 1, 1) := by decide +kernel
theorem dL_law_827 : decode cL_law 827 = .ok (.iadd, 1) := by decide +kernel
theorem dL_law_828 : decode cL_law 828 = .ok (.iaload, 1) := by decide +kernel
theorem dL_law_829 : decode cL_law 829 = .ok (.aload_n 0, 1) := by decide +kernel
theorem dL_law_830 : decode cL_law 830 = .ok (.iload 5, 2) := by decide +kernel
theorem dL_law_832 : decode cL_law 832 = .ok (.iconst 2, 1) := by decide +kernel
theorem dL_law_833 : decode cL_law 833 = .ok (.iadd, 1) := by decide +kernel
theorem dL_law_834 : decode cL_law 834 = .ok (.iaload, 1) := by decide +kernel
theorem dL_law_835 : decode cL_law 835 = .ok (.aload_n 0, 1) := by decide +kernel
theorem dL_law_836 : decode cL_law 836 = .ok (.iload 5, 2) := by decide +kernel
theorem dL_law_838 : decode cL_law 838 = .ok (.iconst 3, 1) := by decide +kernel
theorem dL_law_839 : decode cL_law 839 = .ok (.iadd, 1) := by decide +kernel
theorem dL_law_840 : decode cL_law 840 = .ok (.iaload, 1) := by decide +kernel
theorem dL_law_841 : decode cL_law 841 = .ok (.invokevirtual 243, 3) := by decide +kernel
theorem dL_law_844 : decode cL_law 844 = .ok (.istore 7, 2) := by decide +kernel
theorem dL_law_846 : decode cL_law 846 = .ok (.aload_n 2, 1) := by decide +kernel
theorem dL_law_847 : decode cL_law 847 = .ok (.invokevirtual 218, 3) := by decide +kernel
theorem dL_law_850 : decode cL_law 850 = .ok (.iload 6, 2) := by decide +kernel
theorem dL_law_852 : decode cL_law 852 = .ok (.if_icmp .eq 5, 3) := by decide +kernel
theorem dL_law_857 : decode cL_law 857 = .ok (.iload 6, 2) := by decide +kernel
theorem dL_law_859 : decode cL_law 859 = .ok (.ifCond .ne 15, 3) := by decide +kernel
theorem dL_law_874 : decode cL_law 874 = .ok (.goto 3383, 3) := by decide +kernel
theorem dL_law_877 : decode cL_law 877 = .ok (.aload_n 1, 1) := by decide +kernel
theorem dL_law_878 : decode cL_law 878 = .ok (.aload_n 0, 1) := by decide +kernel
theorem dL_law_879 : decode cL_law 879 = .ok (.iload 5, 2) := by decide +kernel
theorem dL_law_881 : decode cL_law 881 = .ok (.iconst 1, 1) := by decide +kernel
theorem dL_law_882 : decode cL_law 882 = .ok (.iadd, 1) := by decide +kernel
theorem dL_law_883 : decode cL_law 883 = .ok (.iaload, 1) := by decide +kernel
theorem dL_law_884 : decode cL_law 884 = .ok (.aload_n 0, 1) := by decide +kernel
theorem dL_law_885 : decode cL_law 885 = .ok (.iload 5, 2) := by decide +kernel
theorem dL_law_887 : decode cL_law 887 = .ok (.iconst 2, 1) := by decide +kernel
theorem dL_law_888 : decode cL_law 888 = .ok (.iadd, 1) := by decide +kernel
theorem dL_law_889 : decode cL_law 889 = .ok (.iaload, 1) := by decide +kernel
theorem dL_law_890 : decode cL_law 890 = .ok (.aload_n 3, 1) := by decide +kernel
theorem dL_law_891 : decode cL_law 891 = .ok (.invokestatic 244, 3) := by decide +kernel
theorem dL_law_894 : decode cL_law 894 = .ok (.istore 6, 2) := by decide +kernel
theorem dL_law_896 : decode cL_law 896 = .ok (.aload_n 2, 1) := by decide +kernel
theorem dL_law_897 : decode cL_law 897 = .ok (.aload_n 0, 1) := by decide +kernel
theorem dL_law_898 : decode cL_law 898 = .ok (.iload 5, 2) := by decide +kernel
theorem dL_law_900 : decode cL_law 900 = .ok (.iconst 1, 1) := by decide +kernel
theorem dL_law_901 : decode cL_law 901 = .ok (.iadd, 1) := by decide +kernel
theorem dL_law_902 : decode cL_law 902 = .ok (.iaload, 1) := by decide +kernel
theorem dL_law_903 : decode cL_law 903 = .ok (.aload_n 0, 1) := by decide +kernel
theorem dL_law_904 : decode cL_law 904 = .ok (.iload 5, 2) := by decide +kernel
theorem dL_law_906 : decode cL_law 906 = .ok (.iconst 2, 1) := by decide +kernel
theorem dL_law_907 : decode cL_law 907 = .ok (.iadd, 1) := by decide +kernel
theorem dL_law_908 : decode cL_law 908 = .ok (.iaload, 1) := by decide +kernel
theorem dL_law_909 : decode cL_law 909 = .ok (.invokevirtual 246, 3) := by decide +kernel
theorem dL_law_912 : decode cL_law 912 = .ok (.istore 7, 2) := by decide +kernel
theorem dL_law_914 : decode cL_law 914 = .ok (.aload_n 2, 1) := by decide +kernel
theorem dL_law_915 : decode cL_law 915 = .ok (.invokevirtual 218, 3) := by decide +kernel
theorem dL_law_918 : decode cL_law 918 = .ok (.iload 6, 2) := by decide +kernel
theorem dL_law_920 : decode cL_law 920 = .ok (.if_icmp .eq 5, 3) := by decide +kernel
theorem dL_law_925 : decode cL_law 925 = .ok (.iload 6, 2) := by decide +kernel
theorem dL_law_927 : decode cL_law 927 = .ok (.ifCond .ne 15, 3) := by decide +kernel
theorem dL_law_942 : decode cL_law 942 = .ok (.goto 3315, 3) := by decide +kernel
theorem dL_law_945 : decode cL_law 945 = .ok (.aload_n 1, 1) := by decide +kernel
theorem dL_law_946 : decode cL_law 946 = .ok (.aload_n 0, 1) := by decide +kernel
theorem dL_law_947 : decode cL_law 947 = .ok (.iload 5, 2) := by decide +kernel
theorem dL_law_949 : decode cL_law 949 = .ok (.iconst 1, 1) := by decide +kernel
theorem dL_law_950 : decode cL_law 950 = .ok (.iadd, 1) := by decide +kernel
theorem dL_law_951 : decode cL_law 951 = .ok (.iaload, 1) := by decide +kernel
theorem dL_law_952 : decode cL_law 952 = .ok (.aload_n 0, 1) := by decide +kernel
theorem dL_law_953 : decode cL_law 953 = .ok (.iload 5, 2) := by decide +kernel
theorem dL_law_955 : decode cL_law 955 = .ok (.iconst 2, 1) := by decide +kernel
theorem dL_law_956 : decode cL_law 956 = .ok (.iadd, 1) := by decide +kernel
theorem dL_law_957 : decode cL_law 957 = .ok (.iaload, 1) := by decide +kernel
theorem dL_law_958 : decode cL_law 958 = .ok (.aload_n 3, 1) := by decide +kernel
theorem dL_law_959 : decode cL_law 959 = .ok (.invokestatic 247, 3) := by decide +kernel
theorem dL_law_962 : decode cL_law 962 = .ok (.istore 6, 2) := by decide +kernel
theorem dL_law_964 : decode cL_law 964 = .ok (.aload_n 2, 1) := by decide +kernel
theorem dL_law_965 : decode cL_law 965 = .ok (.aload_n 0, 1) := by decide +kernel
theorem dL_law_966 : decode cL_law 966 = .ok (.iload 5, 2) := by decide +kernel
theorem dL_law_968 : decode cL_law 968 = .ok (.iconst 1, 1) := by decide +kernel
theorem dL_law_969 : decode cL_law 969 = .ok (.iadd, 1) := by decide +kernel
theorem dL_law_970 : decode cL_law 970 = .ok (.iaload, 1) := by decide +kernel
theorem dL_law_971 : decode cL_law 971 = .ok (.aload_n 0, 1) := by decide +kernel
theorem dL_law_972 : decode cL_law 972 = .ok (.iload 5, 2) := by decide +kernel
theorem dL_law_974 : decode cL_law 974 = .ok (.iconst 2, 1) := by decide +kernel
theorem dL_law_975 : decode cL_law 975 = .ok (.iadd, 1) := by decide +kernel
theorem dL_law_976 : decode cL_law 976 = .ok (.iaload, 1) := by decide +kernel
theorem dL_law_977 : decode cL_law 977 = .ok (.invokevirtual 249, 3) := by decide +kernel
theorem dL_law_980 : decode cL_law 980 = .ok (.istore 7, 2) := by decide +kernel
theorem dL_law_982 : decode cL_law 982 = .ok (.aload_n 2, 1) := by decide +kernel
theorem dL_law_983 : decode cL_law 983 = .ok (.invokevirtual 218, 3) := by decide +kernel
theorem dL_law_986 : decode cL_law 986 = .ok (.iload 6, 2) := by decide +kernel
theorem dL_law_988 : decode cL_law 988 = .ok (.if_icmp .eq 5, 3) := by decide +kernel
theorem dL_law_993 : decode cL_law 993 = .ok (.iload 6, 2) := by decide +kernel
theorem dL_law_995 : decode cL_law 995 = .ok (.ifCond .ne 15, 3) := by decide +kernel
theorem dL_law_1010 : decode cL_law 1010 = .ok (.goto 3247, 3) := by decide +kernel
theorem dL_law_1013 : decode cL_law 1013 = .ok (.aload_n 1, 1) := by decide +kernel
theorem dL_law_1014 : decode cL_law 1014 = .ok (.aload_n 0, 1) := by decide +kernel
theorem dL_law_1015 : decode cL_law 1015 = .ok (.iload 5, 2) := by decide +kernel
theorem dL_law_1017 : decode cL_law 1017 = .ok (.iconst 1, 1) := by decide +kernel
theorem dL_law_1018 : decode cL_law 1018 = .ok (.iadd, 1) := by decide +kernel
theorem dL_law_1019 : decode cL_law 1019 = .ok (.iaload, 1) := by decide +kernel
theorem dL_law_1020 : decode cL_law 1020 = .ok (.aload_n 0, 1) := by decide +kernel
theorem dL_law_1021 : decode cL_law 1021 = .ok (.iload 5, 2) := by decide +kernel
theorem dL_law_1023 : decode cL_law 1023 = .ok (.iconst 2, 1) := by decide +kernel
theorem dL_law_1024 : decode cL_law 1024 = .ok (.iadd, 1) := by decide +kernel
theorem dL_law_1025 : decode cL_law 1025 = .ok (.iaload, 1) := by decide +kernel
theorem dL_law_1026 : decode cL_law 1026 = .ok (.aload_n 3, 1) := by decide +kernel
theorem dL_law_1027 : decode cL_law 1027 = .ok (.invokestatic 250, 3) := by decide +kernel
theorem dL_law_1030 : decode cL_law 1030 = .ok (.istore 6, 2) := by decide +kernel
theorem dL_law_1032 : decode cL_law 1032 = .ok (.aload_n 2, 1) := by decide +kernel
theorem dL_law_1033 : decode cL_law 1033 = .ok (.aload_n 0, 1) := by decide +kernel
theorem dL_law_1034 : decode cL_law 1034 = .ok (.iload 5, 2) := by decide +kernel
theorem dL_law_1036 : decode cL_law 1036 = .ok (.iconst 1, 1) := by decide +kernel
theorem dL_law_1037 : decode cL_law 1037 = .ok (.iadd, 1) := by decide +kernel
theorem dL_law_1038 : decode cL_law 1038 = .ok (.iaload, 1) := by decide +kernel
theorem dL_law_1039 : decode cL_law 1039 = .ok (.aload_n 0, 1) := by decide +kernel
theorem dL_law_1040 : decode cL_law 1040 = .ok (.iload 5, 2) := by decide +kernel
theorem dL_law_1042 : decode cL_law 1042 = .ok (.iconst 2, 1) := by decide +kernel
theorem dL_law_1043 : decode cL_law 1043 = .ok (.iadd, 1) := by decide +kernel
theorem dL_law_1044 : decode cL_law 1044 = .ok (.iaload, 1) := by decide +kernel
theorem dL_law_1045 : decode cL_law 1045 = .ok (.invokevirtual 252, 3) := by decide +kernel
theorem dL_law_1048 : decode cL_law 1048 = .ok (.istore 7, 2) := by decide +kernel
theorem dL_law_1050 : decode cL_law 1050 = .ok (.aload_n 2, 1) := by decide +kernel
theorem dL_law_1051 : decode cL_law 1051 = .ok (.invokevirtual 218, 3) := by decide +kernel
theorem dL_law_1054 : decode cL_law 1054 = .ok (.iload 6, 2) := by decide +kernel
theorem dL_law_1056 : decode cL_law 1056 = .ok (.if_icmp .eq 5, 3) := by decide +kernel
theorem dL_law_1061 : decode cL_law 1061 = .ok (.iload 6, 2) := by decide +kernel
theorem dL_law_1063 : decode cL_law 1063 = .ok (.ifCond .ne 22, 3) := by decide +kernel
theorem dL_law_1085 : decode cL_law 1085 = .ok (.goto 3172, 3) := by decide +kernel
theorem dL_law_1088 : decode cL_law 1088 = .ok (.aload_n 1, 1) := by decide +kernel
theorem dL_law_1089 : decode cL_law 1089 = .ok (.aload_n 0, 1) := by decide +kernel
theorem dL_law_1090 : decode cL_law 1090 = .ok (.iload 5, 2) := by decide +kernel
theorem dL_law_1092 : decode cL_law 1092 = .ok (.iconst 1, 1) := by decide +kernel
theorem dL_law_1093 : decode cL_law 1093 = .ok (.iadd, 1) := by decide +kernel
theorem dL_law_1094 : decode cL_law 1094 = .ok (.iaload, 1) := by decide +kernel
theorem dL_law_1095 : decode cL_law 1095 = .ok (.aload_n 0, 1) := by decide +kernel
theorem dL_law_1096 : decode cL_law 1096 = .ok (.iload 5, 2) := by decide +kernel
theorem dL_law_1098 : decode cL_law 1098 = .ok (.iconst 2, 1) := by decide +kernel
theorem dL_law_1099 : decode cL_law 1099 = .ok (.iadd, 1) := by decide +kernel
theorem dL_law_1100 : decode cL_law 1100 = .ok (.iaload, 1) := by decide +kernel
theorem dL_law_1101 : decode cL_law 1101 = .ok (.aload_n 3, 1) := by decide +kernel
theorem dL_law_1102 : decode cL_law 1102 = .ok (.invokestatic 253, 3) := by decide +kernel
theorem dL_law_1105 : decode cL_law 1105 = .ok (.istore 6, 2) := by decide +kernel
theorem dL_law_1107 : decode cL_law 1107 = .ok (.aload_n 2, 1) := by decide +kernel
theorem dL_law_1108 : decode cL_law 1108 = .ok (.aload_n 0, 1) := by decide +kernel
theorem dL_law_1109 : decode cL_law 1109 = .ok (.iload 5, 2) := by decide +kernel
theorem dL_law_1111 : decode cL_law 1111 = .ok (.iconst 1, 1) := by decide +kernel
theorem dL_law_1112 : decode cL_law 1112 = .ok (.iadd, 1) := by decide +kernel
theorem dL_law_1113 : decode cL_law 1113 = .ok (.iaload, 1) := by decide +kernel
theorem dL_law_1114 : decode cL_law 1114 = .ok (.aload_n 0, 1) := by decide +kernel
theorem dL_law_1115 : decode cL_law 1115 = .ok (.iload 5, 2) := by decide +kernel
theorem dL_law_1117 : decode cL_law 1117 = .ok (.iconst 2, 1) := by decide +kernel
theorem dL_law_1118 : decode cL_law 1118 = .ok (.iadd, 1) := by decide +kernel
theorem dL_law_1119 : decode cL_law 1119 = .ok (.iaload, 1) := by decide +kernel
theorem dL_law_1120 : decode cL_law 1120 = .ok (.invokevirtual 255, 3) := by decide +kernel
theorem dL_law_1123 : decode cL_law 1123 = .ok (.istore 7, 2) := by decide +kernel
theorem dL_law_1125 : decode cL_law 1125 = .ok (.aload_n 2, 1) := by decide +kernel
theorem dL_law_1126 : decode cL_law 1126 = .ok (.invokevirtual 218, 3) := by decide +kernel
theorem dL_law_1129 : decode cL_law 1129 = .ok (.iload 6, 2) := by decide +kernel
theorem dL_law_1131 : decode cL_law 1131 = .ok (.if_icmp .eq 5, 3) := by decide +kernel
theorem dL_law_1136 : decode cL_law 1136 = .ok (.iload 6, 2) := by decide +kernel
theorem dL_law_1138 : decode cL_law 1138 = .ok (.ifCond .ne 15, 3) := by decide +kernel
theorem dL_law_1153 : decode cL_law 1153 = .ok (.goto 3104, 3) := by decide +kernel
theorem dL_law_1156 : decode cL_law 1156 = .ok (.aload_n 1, 1) := by decide +kernel
theorem dL_law_1157 : decode cL_law 1157 = .ok (.aload_n 0, 1) := by decide +kernel
theorem dL_law_1158 : decode cL_law 1158 = .ok (.iload 5, 2) := by decide +kernel
theorem dL_law_1160 : decode cL_law 1160 = .ok (.iconst 1, 1) := by decide +kernel
theorem dL_law_1161 : decode cL_law 1161 = .ok (.iadd, 1) := by decide +kernel
theorem dL_law_1162 : decode cL_law 1162 = .ok (.iaload, 1) := by decide +kernel
theorem dL_law_1163 : decode cL_law 1163 = .ok (.aload_n 3, 1) := by decide +kernel
theorem dL_law_1164 : decode cL_law 1164 = .ok (.invokestatic 256, 3) := by decide +kernel
theorem dL_law_1167 : decode cL_law 1167 = .ok (.istore 6, 2) := by decide +kernel
theorem dL_law_1169 : decode cL_law 1169 = .ok (.aload_n 2, 1) := by decide +kernel
theorem dL_law_1170 : decode cL_law 1170 = .ok (.aload_n 0, 1) := by decide +kernel
theorem dL_law_1171 : decode cL_law 1171 = .ok (.iload 5, 2) := by decide +kernel
theorem dL_law_1173 : decode cL_law 1173 = .ok (.iconst 1, 1) := by decide +kernel
theorem dL_law_1174 : decode cL_law 1174 = .ok (.iadd, 1) := by decide +kernel
theorem dL_law_1175 : decode cL_law 1175 = .ok (.iaload, 1) := by decide +kernel
theorem dL_law_1176 : decode cL_law 1176 = .ok (.invokevirtual 259, 3) := by decide +kernel
theorem dL_law_1179 : decode cL_law 1179 = .ok (.istore 7, 2) := by decide +kernel
theorem dL_law_1181 : decode cL_law 1181 = .ok (.aload_n 2, 1) := by decide +kernel
theorem dL_law_1182 : decode cL_law 1182 = .ok (.invokevirtual 218, 3) := by decide +kernel
theorem dL_law_1185 : decode cL_law 1185 = .ok (.iload 6, 2) := by decide +kernel
theorem dL_law_1187 : decode cL_law 1187 = .ok (.if_icmp .eq 5, 3) := by decide +kernel
theorem dL_law_1192 : decode cL_law 1192 = .ok (.iload 6, 2) := by decide +kernel
theorem dL_law_1194 : decode cL_law 1194 = .ok (.ifCond .ne 15, 3) := by decide +kernel
theorem dL_law_1209 : decode cL_law 1209 = .ok (.goto 3048, 3) := by decide +kernel
theorem dL_law_1212 : decode cL_law 1212 = .ok (.aload_n 1, 1) := by decide +kernel
theorem dL_law_1213 : decode cL_law 1213 = .ok (.aload_n 0, 1) := by decide +kernel
theorem dL_law_1214 : decode cL_law 1214 = .ok (.iload 5, 2) := by decide +kernel
theorem dL_law_1216 : decode cL_law 1216 = .ok (.iconst 1, 1) := by decide +kernel
theorem dL_law_1217 : decode cL_law 1217 = .ok (.iadd, 1) := by decide +kernel
theorem dL_law_1218 : decode cL_law 1218 = .ok (.iaload, 1) := by decide +kernel
theorem dL_law_1219 : decode cL_law 1219 = .ok (.aload_n 3, 1) := by decide +kernel
theorem dL_law_1220 : decode cL_law 1220 = .ok (.invokestatic 260, 3) := by decide +kernel
theorem dL_law_1223 : decode cL_law 1223 = .ok (.istore 6, 2) := by decide +kernel
theorem dL_law_1225 : decode cL_law 1225 = .ok (.aload_n 2, 1) := by decide +kernel
theorem dL_law_1226 : decode cL_law 1226 = .ok (.aload_n 0, 1) := by decide +kernel
theorem dL_law_1227 : decode cL_law 1227 = .ok (.iload 5, 2) := by decide +kernel
theorem dL_law_1229 : decode cL_law 1229 = .ok (.iconst 1, 1) := by decide +kernel
theorem dL_law_1230 : decode cL_law 1230 = .ok (.iadd, 1) := by decide +kernel
theorem dL_law_1231 : decode cL_law 1231 = .ok (.iaload, 1) := by decide +kernel
theorem dL_law_1232 : decode cL_law 1232 = .ok (.invokevirtual 262, 3) := by decide +kernel
theorem dL_law_1235 : decode cL_law 1235 = .ok (.istore 7, 2) := by decide +kernel
theorem dL_law_1237 : decode cL_law 1237 = .ok (.aload_n 2, 1) := by decide +kernel
theorem dL_law_1238 : decode cL_law 1238 = .ok (.invokevirtual 218, 3) := by decide +kernel
theorem dL_law_1241 : decode cL_law 1241 = .ok (.iload 6, 2) := by decide +kernel
theorem dL_law_1243 : decode cL_law 1243 = .ok (.if_icmp .eq 5, 3) := by decide +kernel
theorem dL_law_1248 : decode cL_law 1248 = .ok (.iload 6, 2) := by decide +kernel
theorem dL_law_1250 : decode cL_law 1250 = .ok (.ifCond .ne 15, 3) := by decide +kernel
theorem dL_law_1265 : decode cL_law 1265 = .ok (.goto 2992, 3) := by decide +kernel
theorem dL_law_1268 : decode cL_law 1268 = .ok (.aload_n 1, 1) := by decide +kernel
theorem dL_law_1269 : decode cL_law 1269 = .ok (.aload_n 0, 1) := by decide +kernel
theorem dL_law_1270 : decode cL_law 1270 = .ok (.iload 5, 2) := by decide +kernel
theorem dL_law_1272 : decode cL_law 1272 = .ok (.iconst 1, 1) := by decide +kernel
theorem dL_law_1273 : decode cL_law 1273 = .ok (.iadd, 1) := by decide +kernel
theorem dL_law_1274 : decode cL_law 1274 = .ok (.iaload, 1) := by decide +kernel
theorem dL_law_1275 : decode cL_law 1275 = .ok (.aload_n 3, 1) := by decide +kernel
theorem dL_law_1276 : decode cL_law 1276 = .ok (.invokestatic 263, 3) := by decide +kernel
theorem dL_law_1279 : decode cL_law 1279 = .ok (.istore 6, 2) := by decide +kernel
theorem dL_law_1281 : decode cL_law 1281 = .ok (.aload_n 2, 1) := by decide +kernel
theorem dL_law_1282 : decode cL_law 1282 = .ok (.aload_n 0, 1) := by decide +kernel
theorem dL_law_1283 : decode cL_law 1283 = .ok (.iload 5, 2) := by decide +kernel
theorem dL_law_1285 : decode cL_law 1285 = .ok (.iconst 1, 1) := by decide +kernel
theorem dL_law_1286 : decode cL_law 1286 = .ok (.iadd, 1) := by decide +kernel
theorem dL_law_1287 : decode cL_law 1287 = .ok (.iaload, 1) := by decide +kernel
theorem dL_law_1288 : decode cL_law 1288 = .ok (.invokevirtual 265, 3) := by decide +kernel
theorem dL_law_1291 : decode cL_law 1291 = .ok (.istore 7, 2) := by decide +kernel
theorem dL_law_1293 : decode cL_law 1293 = .ok (.aload_n 2, 1) := by decide +kernel
theorem dL_law_1294 : decode cL_law 1294 = .ok (.invokevirtual 218, 3) := by decide +kernel
theorem dL_law_1297 : decode cL_law 1297 = .ok (.iload 6, 2) := by decide +kernel
theorem dL_law_1299 : decode cL_law 1299 = .ok (.if_icmp .eq 5, 3) := by decide +kernel
theorem dL_law_1304 : decode cL_law 1304 = .ok (.iload 6, 2) := by decide +kernel
theorem dL_law_1306 : decode cL_law 1306 = .ok (.ifCond .ne 15, 3) := by decide +kernel
theorem dL_law_1321 : decode cL_law 1321 = .ok (.goto 2936, 3) := by decide +kernel
theorem mm_70 : (.initialized RL : Cond) ∈ zx_G := zx_wi 70 (by decide +kernel) (by decide +kernel)
theorem mm_329 : (.methodLink RL 212 yL_addPerson : Cond) ∈ zx_G := zx_wi 329 (by decide +kernel) (by decide +kernel)
theorem mm_330 : (.static yL_addPerson : Cond) ∈ zx_G := zx_wi 330 (by decide +kernel) (by decide +kernel)
theorem mm_331 : (.codeWith yL_addPerson cL_addPerson 5 (some .int) [(0, 10, 13, 13), (0, 10, 17, 15)] : Cond) ∈ zx_G := zx_wi 331 (by decide +kernel) (by decide +kernel)
theorem mm_429 : (.methodLink RL 222 yL_tellConflict : Cond) ∈ zx_G := zx_wi 429 (by decide +kernel) (by decide +kernel)
theorem mm_430 : (.static yL_tellConflict : Cond) ∈ zx_G := zx_wi 430 (by decide +kernel) (by decide +kernel)
theorem mm_431 : (.codeWith yL_tellConflict cL_tellConflict 5 (some .int) [(0, 17, 20, 21)] : Cond) ∈ zx_G := zx_wi 431 (by decide +kernel) (by decide +kernel)
theorem mm_508 : (.methodLink RL 225 yL_haveConflict : Cond) ∈ zx_G := zx_wi 508 (by decide +kernel) (by decide +kernel)
theorem mm_509 : (.static yL_haveConflict : Cond) ∈ zx_G := zx_wi 509 (by decide +kernel) (by decide +kernel)
theorem mm_510 : (.codeWith yL_haveConflict cL_haveConflict 5 (some .int) [(0, 17, 20, 21)] : Cond) ∈ zx_G := zx_wi 510 (by decide +kernel) (by decide +kernel)
theorem mm_515 : (.methodLink RL 228 yL_sendAway : Cond) ∈ zx_G := zx_wi 515 (by decide +kernel) (by decide +kernel)
theorem mm_516 : (.static yL_sendAway : Cond) ∈ zx_G := zx_wi 516 (by decide +kernel) (by decide +kernel)
theorem mm_517 : (.codeWith yL_sendAway cL_sendAway 5 (some .int) [(0, 10, 13, 21), (0, 10, 17, 13)] : Cond) ∈ zx_G := zx_wi 517 (by decide +kernel) (by decide +kernel)
theorem mm_522 : (.methodLink RL 231 yL_addEditor : Cond) ∈ zx_G := zx_wi 522 (by decide +kernel) (by decide +kernel)
theorem mm_523 : (.static yL_addEditor : Cond) ∈ zx_G := zx_wi 523 (by decide +kernel) (by decide +kernel)
theorem mm_524 : (.codeWith yL_addEditor cL_addEditor 5 (some .int) [(0, 10, 13, 21), (0, 10, 17, 13)] : Cond) ∈ zx_G := zx_wi 524 (by decide +kernel) (by decide +kernel)
theorem mm_538 : (.methodLink RL 234 yL_tie : Cond) ∈ zx_G := zx_wi 538 (by decide +kernel) (by decide +kernel)
theorem mm_539 : (.static yL_tie : Cond) ∈ zx_G := zx_wi 539 (by decide +kernel) (by decide +kernel)
theorem mm_540 : (.codeWith yL_tie cL_tie 5 (some .int) [(0, 17, 20, 13)] : Cond) ∈ zx_G := zx_wi 540 (by decide +kernel) (by decide +kernel)
theorem mm_550 : (.methodLink RL 237 yL_distance : Cond) ∈ zx_G := zx_wi 550 (by decide +kernel) (by decide +kernel)
theorem mm_551 : (.static yL_distance : Cond) ∈ zx_G := zx_wi 551 (by decide +kernel) (by decide +kernel)
theorem mm_552 : (.codeWith yL_distance cL_distance 5 (some .int) [(0, 10, 13, 13)] : Cond) ∈ zx_G := zx_wi 552 (by decide +kernel) (by decide +kernel)
theorem mm_565 : (.methodLink RL 240 yL_begin : Cond) ∈ zx_G := zx_wi 565 (by decide +kernel) (by decide +kernel)
theorem mm_566 : (.static yL_begin : Cond) ∈ zx_G := zx_wi 566 (by decide +kernel) (by decide +kernel)
theorem mm_567 : (.codeWith yL_begin cL_begin 6 (some .int) [(0, 12, 15, 21), (0, 12, 19, 13), (0, 12, 23, 15)] : Cond) ∈ zx_G := zx_wi 567 (by decide +kernel) (by decide +kernel)
theorem mm_837 : (.methodLink RL 244 yL_addAuthor : Cond) ∈ zx_G := zx_wi 837 (by decide +kernel) (by decide +kernel)
theorem mm_838 : (.static yL_addAuthor : Cond) ∈ zx_G := zx_wi 838 (by decide +kernel) (by decide +kernel)
theorem mm_839 : (.codeWith yL_addAuthor cL_addAuthor 5 (some .int) [(0, 10, 13, 21), (0, 10, 17, 45)] : Cond) ∈ zx_G := zx_wi 839 (by decide +kernel) (by decide +kernel)
theorem mm_880 : (.methodLink RL 247 yL_dropAuthor : Cond) ∈ zx_G := zx_wi 880 (by decide +kernel) (by decide +kernel)
theorem mm_881 : (.static yL_dropAuthor : Cond) ∈ zx_G := zx_wi 881 (by decide +kernel) (by decide +kernel)
theorem mm_882 : (.codeWith yL_dropAuthor cL_dropAuthor 5 (some .int) [(0, 10, 13, 21), (0, 10, 17, 45)] : Cond) ∈ zx_G := zx_wi 882 (by decide +kernel) (by decide +kernel)
theorem mm_887 : (.methodLink RL 250 yL_sign : Cond) ∈ zx_G := zx_wi 887 (by decide +kernel) (by decide +kernel)
theorem mm_888 : (.static yL_sign : Cond) ∈ zx_G := zx_wi 888 (by decide +kernel) (by decide +kernel)
theorem mm_889 : (.codeWith yL_sign cL_sign 5 (some .int) [(0, 17, 20, 21), (0, 17, 24, 45)] : Cond) ∈ zx_G := zx_wi 889 (by decide +kernel) (by decide +kernel)
theorem mm_912 : (.methodLink RL 253 yL_revise : Cond) ∈ zx_G := zx_wi 912 (by decide +kernel) (by decide +kernel)
theorem mm_913 : (.static yL_revise : Cond) ∈ zx_G := zx_wi 913 (by decide +kernel) (by decide +kernel)
theorem mm_914 : (.codeWith yL_revise cL_revise 5 (some .int) [(0, 10, 13, 21), (0, 10, 17, 13), (0, 10, 21, 45)] : Cond) ∈ zx_G := zx_wi 914 (by decide +kernel) (by decide +kernel)
theorem mm_919 : (.methodLink RL 256 yL_withdraw : Cond) ∈ zx_G := zx_wi 919 (by decide +kernel) (by decide +kernel)
theorem mm_920 : (.static yL_withdraw : Cond) ∈ zx_G := zx_wi 920 (by decide +kernel) (by decide +kernel)
theorem mm_921 : (.codeWith yL_withdraw cL_withdraw 4 (some .int) [(0, 9, 12, 21), (0, 9, 15, 45)] : Cond) ∈ zx_G := zx_wi 921 (by decide +kernel) (by decide +kernel)
theorem mm_930 : (.methodLink RL 260 yL_assign : Cond) ∈ zx_G := zx_wi 930 (by decide +kernel) (by decide +kernel)
theorem mm_931 : (.static yL_assign : Cond) ∈ zx_G := zx_wi 931 (by decide +kernel) (by decide +kernel)
theorem mm_932 : (.codeWith yL_assign cL_assign 4 (some .int) [(0, 9, 12, 21), (0, 9, 15, 45), (0, 9, 18, 64)] : Cond) ∈ zx_G := zx_wi 932 (by decide +kernel) (by decide +kernel)
theorem mm_973 : (.methodLink RL 263 yL_editorOf : Cond) ∈ zx_G := zx_wi 973 (by decide +kernel) (by decide +kernel)
theorem mm_974 : (.static yL_editorOf : Cond) ∈ zx_G := zx_wi 974 (by decide +kernel) (by decide +kernel)
theorem mm_975 : (.codeWith yL_editorOf cL_editorOf 4 (some .int) [(0, 9, 12, 21), (0, 9, 15, 64)] : Cond) ∈ zx_G := zx_wi 975 (by decide +kernel) (by decide +kernel)
theorem mm_1599 : (.methodLink RL 218 yX15_thrown : Cond) ∈ zx_G := zx_wi 1599 (by decide +kernel) (by decide +kernel)
theorem mm_1600 : (.instanceMethod yX15_thrown : Cond) ∈ zx_G := zx_wi 1600 (by decide +kernel) (by decide +kernel)
theorem mm_1601 : (.selects RX15 yX15_thrown yX15_thrown : Cond) ∈ zx_G := zx_wi 1601 (by decide +kernel) (by decide +kernel)
theorem mm_1602 : (.code yX15_thrown cX15_thrown 1 (some .int) : Cond) ∈ zx_G := zx_wi 1602 (by decide +kernel) (by decide +kernel)
theorem mm_1603 : (.methodLink RL 217 yX15_addPerson : Cond) ∈ zx_G := zx_wi 1603 (by decide +kernel) (by decide +kernel)
theorem mm_1604 : (.instanceMethod yX15_addPerson : Cond) ∈ zx_G := zx_wi 1604 (by decide +kernel) (by decide +kernel)
theorem mm_1605 : (.selects RX15 yX15_addPerson yX15_addPerson : Cond) ∈ zx_G := zx_wi 1605 (by decide +kernel) (by decide +kernel)
theorem mm_1606 : (.code yX15_addPerson cX15_addPerson 3 (some .int) : Cond) ∈ zx_G := zx_wi 1606 (by decide +kernel) (by decide +kernel)
theorem mm_1656 : (.methodLink RL 224 yX15_tellConflict : Cond) ∈ zx_G := zx_wi 1656 (by decide +kernel) (by decide +kernel)
theorem mm_1657 : (.instanceMethod yX15_tellConflict : Cond) ∈ zx_G := zx_wi 1657 (by decide +kernel) (by decide +kernel)
theorem mm_1658 : (.selects RX15 yX15_tellConflict yX15_tellConflict : Cond) ∈ zx_G := zx_wi 1658 (by decide +kernel) (by decide +kernel)
theorem mm_1659 : (.code yX15_tellConflict cX15_tellConflict 4 (some .boolean) : Cond) ∈ zx_G := zx_wi 1659 (by decide +kernel) (by decide +kernel)
theorem mm_1727 : (.methodLink RL 227 yX15_haveConflict : Cond) ∈ zx_G := zx_wi 1727 (by decide +kernel) (by decide +kernel)
theorem mm_1728 : (.instanceMethod yX15_haveConflict : Cond) ∈ zx_G := zx_wi 1728 (by decide +kernel) (by decide +kernel)
theorem mm_1729 : (.selects RX15 yX15_haveConflict yX15_haveConflict : Cond) ∈ zx_G := zx_wi 1729 (by decide +kernel) (by decide +kernel)
theorem mm_1730 : (.code yX15_haveConflict cX15_haveConflict 3 (some .boolean) : Cond) ∈ zx_G := zx_wi 1730 (by decide +kernel) (by decide +kernel)
theorem mm_1731 : (.methodLink RL 230 yX15_sendAway : Cond) ∈ zx_G := zx_wi 1731 (by decide +kernel) (by decide +kernel)
theorem mm_1732 : (.instanceMethod yX15_sendAway : Cond) ∈ zx_G := zx_wi 1732 (by decide +kernel) (by decide +kernel)
theorem mm_1733 : (.selects RX15 yX15_sendAway yX15_sendAway : Cond) ∈ zx_G := zx_wi 1733 (by decide +kernel) (by decide +kernel)
theorem mm_1734 : (.code yX15_sendAway cX15_sendAway 3 (some .int) : Cond) ∈ zx_G := zx_wi 1734 (by decide +kernel) (by decide +kernel)
theorem mm_1735 : (.methodLink RL 233 yX15_addEditor : Cond) ∈ zx_G := zx_wi 1735 (by decide +kernel) (by decide +kernel)
theorem mm_1736 : (.instanceMethod yX15_addEditor : Cond) ∈ zx_G := zx_wi 1736 (by decide +kernel) (by decide +kernel)
theorem mm_1737 : (.selects RX15 yX15_addEditor yX15_addEditor : Cond) ∈ zx_G := zx_wi 1737 (by decide +kernel) (by decide +kernel)
theorem mm_1738 : (.code yX15_addEditor cX15_addEditor 3 (some .int) : Cond) ∈ zx_G := zx_wi 1738 (by decide +kernel) (by decide +kernel)
theorem mm_1764 : (.methodLink RL 236 yX15_tie : Cond) ∈ zx_G := zx_wi 1764 (by decide +kernel) (by decide +kernel)
theorem mm_1765 : (.instanceMethod yX15_tie : Cond) ∈ zx_G := zx_wi 1765 (by decide +kernel) (by decide +kernel)
theorem mm_1766 : (.selects RX15 yX15_tie yX15_tie : Cond) ∈ zx_G := zx_wi 1766 (by decide +kernel) (by decide +kernel)
theorem mm_1767 : (.code yX15_tie cX15_tie 4 (some .boolean) : Cond) ∈ zx_G := zx_wi 1767 (by decide +kernel) (by decide +kernel)
theorem mm_1771 : (.methodLink RL 239 yX15_distance : Cond) ∈ zx_G := zx_wi 1771 (by decide +kernel) (by decide +kernel)
theorem mm_1772 : (.instanceMethod yX15_distance : Cond) ∈ zx_G := zx_wi 1772 (by decide +kernel) (by decide +kernel)
theorem mm_1773 : (.selects RX15 yX15_distance yX15_distance : Cond) ∈ zx_G := zx_wi 1773 (by decide +kernel) (by decide +kernel)
theorem mm_1774 : (.code yX15_distance cX15_distance 3 (some .int) : Cond) ∈ zx_G := zx_wi 1774 (by decide +kernel) (by decide +kernel)
theorem mm_1783 : (.methodLink RL 243 yX15_begin : Cond) ∈ zx_G := zx_wi 1783 (by decide +kernel) (by decide +kernel)
theorem mm_1784 : (.instanceMethod yX15_begin : Cond) ∈ zx_G := zx_wi 1784 (by decide +kernel) (by decide +kernel)
theorem mm_1785 : (.selects RX15 yX15_begin yX15_begin : Cond) ∈ zx_G := zx_wi 1785 (by decide +kernel) (by decide +kernel)
theorem mm_1786 : (.code yX15_begin cX15_begin 5 (some .int) : Cond) ∈ zx_G := zx_wi 1786 (by decide +kernel) (by decide +kernel)
theorem mm_2012 : (.methodLink RL 246 yX15_addAuthor : Cond) ∈ zx_G := zx_wi 2012 (by decide +kernel) (by decide +kernel)
theorem mm_2013 : (.instanceMethod yX15_addAuthor : Cond) ∈ zx_G := zx_wi 2013 (by decide +kernel) (by decide +kernel)
theorem mm_2014 : (.selects RX15 yX15_addAuthor yX15_addAuthor : Cond) ∈ zx_G := zx_wi 2014 (by decide +kernel) (by decide +kernel)
theorem mm_2015 : (.code yX15_addAuthor cX15_addAuthor 5 (some .int) : Cond) ∈ zx_G := zx_wi 2015 (by decide +kernel) (by decide +kernel)
theorem mm_2045 : (.methodLink RL 249 yX15_dropAuthor : Cond) ∈ zx_G := zx_wi 2045 (by decide +kernel) (by decide +kernel)
theorem mm_2046 : (.instanceMethod yX15_dropAuthor : Cond) ∈ zx_G := zx_wi 2046 (by decide +kernel) (by decide +kernel)
theorem mm_2047 : (.selects RX15 yX15_dropAuthor yX15_dropAuthor : Cond) ∈ zx_G := zx_wi 2047 (by decide +kernel) (by decide +kernel)
theorem mm_2048 : (.code yX15_dropAuthor cX15_dropAuthor 5 (some .int) : Cond) ∈ zx_G := zx_wi 2048 (by decide +kernel) (by decide +kernel)
theorem mm_2049 : (.methodLink RL 252 yX15_sign : Cond) ∈ zx_G := zx_wi 2049 (by decide +kernel) (by decide +kernel)
theorem mm_2050 : (.instanceMethod yX15_sign : Cond) ∈ zx_G := zx_wi 2050 (by decide +kernel) (by decide +kernel)
theorem mm_2051 : (.selects RX15 yX15_sign yX15_sign : Cond) ∈ zx_G := zx_wi 2051 (by decide +kernel) (by decide +kernel)
theorem mm_2052 : (.code yX15_sign cX15_sign 5 (some .boolean) : Cond) ∈ zx_G := zx_wi 2052 (by decide +kernel) (by decide +kernel)
theorem mm_2060 : (.methodLink RL 255 yX15_revise : Cond) ∈ zx_G := zx_wi 2060 (by decide +kernel) (by decide +kernel)
theorem mm_2061 : (.instanceMethod yX15_revise : Cond) ∈ zx_G := zx_wi 2061 (by decide +kernel) (by decide +kernel)
theorem mm_2062 : (.selects RX15 yX15_revise yX15_revise : Cond) ∈ zx_G := zx_wi 2062 (by decide +kernel) (by decide +kernel)
theorem mm_2063 : (.code yX15_revise cX15_revise 4 (some .int) : Cond) ∈ zx_G := zx_wi 2063 (by decide +kernel) (by decide +kernel)
theorem mm_2072 : (.methodLink RL 259 yX15_withdraw : Cond) ∈ zx_G := zx_wi 2072 (by decide +kernel) (by decide +kernel)
theorem mm_2073 : (.instanceMethod yX15_withdraw : Cond) ∈ zx_G := zx_wi 2073 (by decide +kernel) (by decide +kernel)
theorem mm_2074 : (.selects RX15 yX15_withdraw yX15_withdraw : Cond) ∈ zx_G := zx_wi 2074 (by decide +kernel) (by decide +kernel)
theorem mm_2075 : (.code yX15_withdraw cX15_withdraw 4 (some .char) : Cond) ∈ zx_G := zx_wi 2075 (by decide +kernel) (by decide +kernel)
theorem mm_2080 : (.methodLink RL 262 yX15_assign : Cond) ∈ zx_G := zx_wi 2080 (by decide +kernel) (by decide +kernel)
theorem mm_2081 : (.instanceMethod yX15_assign : Cond) ∈ zx_G := zx_wi 2081 (by decide +kernel) (by decide +kernel)
theorem mm_2082 : (.selects RX15 yX15_assign yX15_assign : Cond) ∈ zx_G := zx_wi 2082 (by decide +kernel) (by decide +kernel)
theorem mm_2083 : (.code yX15_assign cX15_assign 5 (some .int) : Cond) ∈ zx_G := zx_wi 2083 (by decide +kernel) (by decide +kernel)
theorem mm_2105 : (.methodLink RL 265 yX15_editorOf : Cond) ∈ zx_G := zx_wi 2105 (by decide +kernel) (by decide +kernel)
theorem mm_2106 : (.instanceMethod yX15_editorOf : Cond) ∈ zx_G := zx_wi 2106 (by decide +kernel) (by decide +kernel)
theorem mm_2107 : (.selects RX15 yX15_editorOf yX15_editorOf : Cond) ∈ zx_G := zx_wi 2107 (by decide +kernel) (by decide +kernel)
theorem mm_2108 : (.code yX15_editorOf cX15_editorOf 2 (some .int) : Cond) ∈ zx_G := zx_wi 2108 (by decide +kernel) (by decide +kernel)
set_option maxHeartbeats 4000000 in
set_option maxRecDepth 100000 in
theorem law_case_0 {p : Program} {l : Launch} {e : Env} {s : State} {m : MethodId} {below : List Frame} {meth : Method} {c : Code} {D : va_G} {cy : Nat → ClassId} {ed b : Nat} {xs : Nat → Int32} {A : Nat → Prop} {Q : State → Prop} (C0 : zx_LW p l s m c D cy ed b xs A)
    {h pe ne pa ro a1 a2 a3 a4 a5 a6 a7 a8 a9 n1 n2 n3 n4 n5 m0 mp b1 b2 b3 b4 b5 mq oa od : Nat} {f2 f3 f4 f5 g2 g3 g4 g5 : Nat → Int32} (hf5 : ∀ j, j < 8 → f5 j = 115) (hg5 : ∀ j, j < 8 → g5 j = 115) {H : Heap} {locs : List Loc} {ls : Array Slot}
    (hP : va_P D vwCl [(h, .inr (13, [.ref pe, .ref ne, .ref pa, .ref ro, .int 0])), (pe, .inr (9, [.int 0, .ref a1, .ref a2, .ref a3, .ref a4, .ref a5, .ref a6, .ref a7, .ref a8, .ref a9])), (a1, .inl (cy 0, 20, .inl (fun _ => 0))), (a2, .inl (cy 0, 20, .inl (fun _ => 0))), (ne, .inr (6, [.ref n1, .ref n2, .ref n3, .ref n4, .ref n5])), (n1, .inl (cy 0, 8, .inl (fun _ => 0))), (n2, .inl (cy 0, 8, .inl f2)), (n3, .inl (cy 0, 8, .inl f3)), (n4, .inl (cy 0, 8, .inl f4)), (n5, .inl (cy 1, 8, .inl f5)), (pa, .inr (4, [.int 0, .ref ed, .int 0])), (ro, .inl (cy 0, 20, .inl (fun _ => 0))), (m0, .inr (20, [.int 0, .ref mp, .int 0, .ref b1, .ref b2, .ref b3, .ref b4, .ref b5, .ref mq])), (b1, .inl (cy 0, 8, .inl (fun _ => 0))), (b2, .inl (cy 0, 8, .inl g2)), (b3, .inl (cy 0, 8, .inl g3)), (b4, .inl (cy 0, 8, .inl g4)), (b5, .inl (cy 1, 8, .inl g5)), (mp, .inr (4, [.int 0, .ref ed, .int 0])), (mq, .inr (4, [.int 0, .ref ed, .int 0])), (oa, .inl (cy 3, 1, .inr (.inl (fun _ => 0)))), (od, .inl (cy 4, 1, .inr (.inr (.inr (.inl (fun _ => 0))))))] H) (hD : va_D A [(h, .inr (13, [.ref pe, .ref ne, .ref pa, .ref ro, .int 0])), (pe, .inr (9, [.int 0, .ref a1, .ref a2, .ref a3, .ref a4, .ref a5, .ref a6, .ref a7, .ref a8, .ref a9])), (a1, .inl (cy 0, 20, .inl (fun _ => 0))), (a2, .inl (cy 0, 20, .inl (fun _ => 0))), (ne, .inr (6, [.ref n1, .ref n2, .ref n3, .ref n4, .ref n5])), (n1, .inl (cy 0, 8, .inl (fun _ => 0))), (n2, .inl (cy 0, 8, .inl f2)), (n3, .inl (cy 0, 8, .inl f3)), (n4, .inl (cy 0, 8, .inl f4)), (n5, .inl (cy 1, 8, .inl f5)), (pa, .inr (4, [.int 0, .ref ed, .int 0])), (ro, .inl (cy 0, 20, .inl (fun _ => 0))), (m0, .inr (20, [.int 0, .ref mp, .int 0, .ref b1, .ref b2, .ref b3, .ref b4, .ref b5, .ref mq])), (b1, .inl (cy 0, 8, .inl (fun _ => 0))), (b2, .inl (cy 0, 8, .inl g2)), (b3, .inl (cy 0, 8, .inl g3)), (b4, .inl (cy 0, 8, .inl g4)), (b5, .inl (cy 1, 8, .inl g5)), (mp, .inr (4, [.int 0, .ref ed, .int 0])), (mq, .inr (4, [.int 0, .ref ed, .int 0])), (oa, .inl (cy 3, 1, .inr (.inl (fun _ => 0)))), (od, .inl (cy 4, 1, .inr (.inr (.inr (.inl (fun _ => 0))))))]) (hS : va_S A s.heap H locs) (hl : lv_has ls 9 [(5, .int 0), (4, .ref od), (3, .ref oa), (2, .ref m0), (1, .ref h), (0, .ref b)])
    (hend : ∀ (H : Heap) (locs : List Loc) (ls : Array Slot), va_S A s.heap H locs → lv_has ls 9 [(0, .ref b), (5, .int 0)] → W p l e room_1 s m #[Value.ref b] below meth c H locs 60 1200 Q (F0 m 4257 ls [])) :
    W p l e room_1 s m #[Value.ref b] below meth c H locs 29 880 Q (F0 m 300 ls []) := by
  obtain ⟨hx, hb, hml, hst, hown, hts, hX, hbl, hbA, hA, hK, hZ, hN⟩ := C0
  refine lv_aload_n hx hb dL_law_300 rfl (lv_at hl 4 rfl) ?_
  refine lv_aload_n hx hb dL_law_301 rfl (lv_at hl 5 rfl) ?_
  refine lv_iload hx hb dL_law_302 (lv_at hl 0 rfl) ?_
  refine lv_iconst (v := 1) hx hb dL_law_304 (by decide) ?_
  refine lv_iadd hx hb dL_law_305 ?_
  refine lv_topi (fun y9 ey9 => ?_)
  obtain rfl : y9 = 1 := by rw [ey9] <;> decide
  refine va_sld hx hb hX hbl hbA hS (zx_bn (by decide)) dL_law_306 ?_
  refine lv_aload_n hx hb dL_law_307 rfl (lv_at hl 5 rfl) ?_
  refine lv_iload hx hb dL_law_308 (lv_at hl 0 rfl) ?_
  refine lv_iconst (v := 2) hx hb dL_law_310 (by decide) ?_
  refine lv_iadd hx hb dL_law_311 ?_
  refine lv_topi (fun y9 ey9 => ?_)
  obtain rfl : y9 = 2 := by rw [ey9] <;> decide
  refine va_sld hx hb hX hbl hbA hS (zx_bn (by decide)) dL_law_312 ?_
  refine lv_aload_n hx hb dL_law_313 rfl (lv_at hl 2 rfl) ?_
  have hPc := hP.sub (ws' := [(h, .inr (13, [.ref pe, .ref ne, .ref pa, .ref ro, .int 0])), (pe, .inr (9, [.int 0, .ref a1, .ref a2, .ref a3, .ref a4, .ref a5, .ref a6, .ref a7, .ref a8, .ref a9])), (a1, .inl (cy 0, 20, .inl (fun _ => 0))), (a2, .inl (cy 0, 20, .inl (fun _ => 0))), (oa, .inl (cy 3, 1, .inr (.inl (fun _ => 0))))]) [0, 1, 2, 3, 20] rfl
  have hDc := hD.sub (ws' := [(h, .inr (13, [.ref pe, .ref ne, .ref pa, .ref ro, .int 0])), (pe, .inr (9, [.int 0, .ref a1, .ref a2, .ref a3, .ref a4, .ref a5, .ref a6, .ref a7, .ref a8, .ref a9])), (a1, .inl (cy 0, 20, .inl (fun _ => 0))), (a2, .inl (cy 0, 20, .inl (fun _ => 0))), (oa, .inl (cy 3, 1, .inr (.inl (fun _ => 0))))]) [0, 1, 2, 3, 20] (by decide) rfl
  have hFc := va_free (wc := [(h, .inr (13, [.ref pe, .ref ne, .ref pa, .ref ro, .int 0])), (pe, .inr (9, [.int 0, .ref a1, .ref a2, .ref a3, .ref a4, .ref a5, .ref a6, .ref a7, .ref a8, .ref a9])), (a1, .inl (cy 0, 20, .inl (fun _ => 0))), (a2, .inl (cy 0, 20, .inl (fun _ => 0))), (oa, .inl (cy 3, 1, .inr (.inl (fun _ => 0))))]) hD hS hA [0, 1, 2, 3, 20] rfl
  refine vx_calli (vx_runSX (As := [.ref h, .int (xs (1 : Int32).toNatClampNeg), .int (xs (2 : Int32).toNatClampNeg), .ref oa]) (rest := []) ⟨hx, hb, hml, hown, hts⟩ (c_L_addPerson l hst D cy ed H.size h pe ne pa ro 0 a1 a2 a3 a4 a5 a6 a7 a8 a9 (fun _ => 0) (fun _ => 0) oa (fun _ => 0) (xs (1 : Int32).toNatClampNeg) (xs (2 : Int32).toNatClampNeg)) (vx_cwSW 4 hts (zx_GS mm_329 mm_330 mm_70 mm_331) rfl rfl rfl (by decide +kernel) ⟨(Nat.le_of_ble_eq_true rfl), (Nat.le_of_ble_eq_true rfl)⟩) ⟨zx_blind, zx_give hPc hK hDc hS hFc hZ hN⟩ rfl rfl hl.1 rfl (lv_room (Nat.le_of_ble_eq_true rfl)) dL_law_314 ⟨(Nat.le_of_ble_eq_true rfl), (Nat.le_of_ble_eq_true rfl)⟩) hS (fun q _ h => hFc q h) hFc (fun q _ h => hFc q h) (fun E9 ce9 q9 _ t H locs ht hvm _ hBX hz1 hk1 hS hce hcv hcl => ?_) (fun r9 u t H locs ht hvm hw hB hz1 hk1 hS => ?_)
  · exact hBX.elim
  ·
    obtain ⟨o2_553, rfl⟩ : ∃ z9, z9 = u := ⟨_, rfl⟩
    obtain ⟨rfl, h_554⟩ := hw
    obtain ⟨hP, hD⟩ := zx_join (wr := [(ne, .inr (6, [.ref n1, .ref n2, .ref n3, .ref n4, .ref n5])), (n1, .inl (cy 0, 8, .inl (fun _ => 0))), (n2, .inl (cy 0, 8, .inl f2)), (n3, .inl (cy 0, 8, .inl f3)), (n4, .inl (cy 0, 8, .inl f4)), (n5, .inl (cy 1, 8, .inl f5)), (pa, .inr (4, [.int 0, .ref ed, .int 0])), (ro, .inl (cy 0, 20, .inl (fun _ => 0))), (m0, .inr (20, [.int 0, .ref mp, .int 0, .ref b1, .ref b2, .ref b3, .ref b4, .ref b5, .ref mq])), (b1, .inl (cy 0, 8, .inl (fun _ => 0))), (b2, .inl (cy 0, 8, .inl g2)), (b3, .inl (cy 0, 8, .inl g3)), (b4, .inl (cy 0, 8, .inl g4)), (b5, .inl (cy 1, 8, .inl g5)), (mp, .inr (4, [.int 0, .ref ed, .int 0])), (mq, .inr (4, [.int 0, .ref ed, .int 0])), (od, .inl (cy 4, 1, .inr (.inr (.inr (.inl (fun _ => 0))))))]) (w1 := [(oa, .inl (cy 3, 1, .inr (.inl o2_553)))]) [0, 1, 2, 3, 20] [4, 5, 6, 7, 8, 9, 10, 11, 12, 13, 14, 15, 16, 17, 18, 19, 21] rfl rfl (by decide) (by decide) hP hD hk1 hFc hB ht
    have hP : va_P D vwCl [(ne, .inr (6, [.ref n1, .ref n2, .ref n3, .ref n4, .ref n5])), (n1, .inl (cy 0, 8, .inl (fun _ => 0))), (n2, .inl (cy 0, 8, .inl f2)), (n3, .inl (cy 0, 8, .inl f3)), (n4, .inl (cy 0, 8, .inl f4)), (n5, .inl (cy 1, 8, .inl f5)), (pa, .inr (4, [.int 0, .ref ed, .int 0])), (ro, .inl (cy 0, 20, .inl (fun _ => 0))), (m0, .inr (20, [.int 0, .ref mp, .int 0, .ref b1, .ref b2, .ref b3, .ref b4, .ref b5, .ref mq])), (b1, .inl (cy 0, 8, .inl (fun _ => 0))), (b2, .inl (cy 0, 8, .inl g2)), (b3, .inl (cy 0, 8, .inl g3)), (b4, .inl (cy 0, 8, .inl g4)), (b5, .inl (cy 1, 8, .inl g5)), (mp, .inr (4, [.int 0, .ref ed, .int 0])), (mq, .inr (4, [.int 0, .ref ed, .int 0])), (od, .inl (cy 4, 1, .inr (.inr (.inr (.inl (fun _ => 0)))))), (oa, .inl (cy 3, 1, .inr (.inl o2_553)))] H := hP
    have hD : va_D A [(ne, .inr (6, [.ref n1, .ref n2, .ref n3, .ref n4, .ref n5])), (n1, .inl (cy 0, 8, .inl (fun _ => 0))), (n2, .inl (cy 0, 8, .inl f2)), (n3, .inl (cy 0, 8, .inl f3)), (n4, .inl (cy 0, 8, .inl f4)), (n5, .inl (cy 1, 8, .inl f5)), (pa, .inr (4, [.int 0, .ref ed, .int 0])), (ro, .inl (cy 0, 20, .inl (fun _ => 0))), (m0, .inr (20, [.int 0, .ref mp, .int 0, .ref b1, .ref b2, .ref b3, .ref b4, .ref b5, .ref mq])), (b1, .inl (cy 0, 8, .inl (fun _ => 0))), (b2, .inl (cy 0, 8, .inl g2)), (b3, .inl (cy 0, 8, .inl g3)), (b4, .inl (cy 0, 8, .inl g4)), (b5, .inl (cy 1, 8, .inl g5)), (mp, .inr (4, [.int 0, .ref ed, .int 0])), (mq, .inr (4, [.int 0, .ref ed, .int 0])), (od, .inl (cy 4, 1, .inr (.inr (.inr (.inl (fun _ => 0)))))), (oa, .inl (cy 3, 1, .inr (.inl o2_553)))] := hD
    refine W.widen (k := 30) (n := 886) (Nat.le_of_ble_eq_true rfl) (Nat.le_of_ble_eq_true rfl) ?_
    refine lv_istore (lv' := [(6, .int (k_addPerson (xs (1 : Int32).toNatClampNeg) (xs (2 : Int32).toNatClampNeg))), (5, .int 0), (4, .ref od), (3, .ref oa), (2, .ref m0), (1, .ref h), (0, .ref b)]) hx hb dL_law_317 hl (by decide) rfl (fun ls hl => ?_)
    refine lv_aload_n hx hb dL_law_319 rfl (lv_at hl 4 rfl) ?_
    refine lv_aload_n hx hb dL_law_320 rfl (lv_at hl 6 rfl) ?_
    refine lv_iload hx hb dL_law_321 (lv_at hl 1 rfl) ?_
    refine lv_iconst (v := 1) hx hb dL_law_323 (by decide) ?_
    refine lv_iadd hx hb dL_law_324 ?_
    refine lv_topi (fun y9 ey9 => ?_)
    obtain rfl : y9 = 1 := by rw [ey9] <;> decide
    refine va_sld hx hb hX hbl hbA hS (zx_bn (by decide)) dL_law_325 ?_
    refine lv_aload_n hx hb dL_law_326 rfl (lv_at hl 6 rfl) ?_
    refine lv_iload hx hb dL_law_327 (lv_at hl 1 rfl) ?_
    refine lv_iconst (v := 2) hx hb dL_law_329 (by decide) ?_
    refine lv_iadd hx hb dL_law_330 ?_
    refine lv_topi (fun y9 ey9 => ?_)
    obtain rfl : y9 = 2 := by rw [ey9] <;> decide
    refine va_sld hx hb hX hbl hbA hS (zx_bn (by decide)) dL_law_331 ?_
    have hPc := hP.sub (ws' := [(m0, .inr (20, [.int 0, .ref mp, .int 0, .ref b1, .ref b2, .ref b3, .ref b4, .ref b5, .ref mq])), (mp, .inr (4, [.int 0, .ref ed, .int 0]))]) [8, 14] rfl
    have hDc := hD.sub (ws' := [(m0, .inr (20, [.int 0, .ref mp, .int 0, .ref b1, .ref b2, .ref b3, .ref b4, .ref b5, .ref mq])), (mp, .inr (4, [.int 0, .ref ed, .int 0]))]) [8, 14] (by decide) rfl
    have hFc := va_free (wc := [(m0, .inr (20, [.int 0, .ref mp, .int 0, .ref b1, .ref b2, .ref b3, .ref b4, .ref b5, .ref mq])), (mp, .inr (4, [.int 0, .ref ed, .int 0]))]) hD hS hA [8, 14] rfl
    refine va_calli (va_runV (As := [.int (xs (1 : Int32).toNatClampNeg), .int (xs (2 : Int32).toNatClampNeg)]) (rest := []) ⟨hx, hb, hml, hown, hts⟩ (c_X15_addPerson l hst D cy ed H.size m0 mp mq b1 b2 b3 b4 b5 0 0 0 (xs (1 : Int32).toNatClampNeg) (xs (2 : Int32).toNatClampNeg)) (cwV 2 hts (zx_GV mm_1603 mm_1604 mm_1605 mm_78 mm_1606) rfl rfl rfl (by decide +kernel) ⟨(Nat.le_of_ble_eq_true rfl), (Nat.le_of_ble_eq_true rfl)⟩) ⟨zx_blind, va_recv hK hPc (ci := 20) (q0 := 0) rfl rfl, zx_give hPc hK hDc hS hFc hZ hN⟩ rfl rfl hl.1 rfl (lv_room (Nat.le_of_ble_eq_true rfl)) dL_law_332 ⟨(Nat.le_of_ble_eq_true rfl), (Nat.le_of_ble_eq_true rfl)⟩) hS (fun q _ h => hFc q h) hFc (fun r9 u t H1 locs ht hvm hw hB hz1 hk1 hS => ?_)
    obtain ⟨tv_555, rfl⟩ : ∃ z9, z9 = u := ⟨_, rfl⟩
    obtain ⟨r_556, rfl⟩ : ∃ z9, z9 = r9 := ⟨_, rfl⟩
    have h_557 := hw
    obtain ⟨hP, hD⟩ := zx_join (wr := [(ne, .inr (6, [.ref n1, .ref n2, .ref n3, .ref n4, .ref n5])), (n1, .inl (cy 0, 8, .inl (fun _ => 0))), (n2, .inl (cy 0, 8, .inl f2)), (n3, .inl (cy 0, 8, .inl f3)), (n4, .inl (cy 0, 8, .inl f4)), (n5, .inl (cy 1, 8, .inl f5)), (pa, .inr (4, [.int 0, .ref ed, .int 0])), (ro, .inl (cy 0, 20, .inl (fun _ => 0))), (b1, .inl (cy 0, 8, .inl (fun _ => 0))), (b2, .inl (cy 0, 8, .inl g2)), (b3, .inl (cy 0, 8, .inl g3)), (b4, .inl (cy 0, 8, .inl g4)), (b5, .inl (cy 1, 8, .inl g5)), (mq, .inr (4, [.int 0, .ref ed, .int 0])), (od, .inl (cy 4, 1, .inr (.inr (.inr (.inl (fun _ => 0)))))), (oa, .inl (cy 3, 1, .inr (.inl o2_553)))]) (w1 := [(m0, .inr (20, [.int tv_555, .ref mp, .int 0, .ref b1, .ref b2, .ref b3, .ref b4, .ref b5, .ref mq]))]) [8, 14] [0, 1, 2, 3, 4, 5, 6, 7, 9, 10, 11, 12, 13, 15, 16, 17] rfl rfl (by decide) (by decide) hP hD hk1 hFc hB ht
    generalize H1 = H at hP hS ⊢
    have hP : va_P D vwCl [(ne, .inr (6, [.ref n1, .ref n2, .ref n3, .ref n4, .ref n5])), (n1, .inl (cy 0, 8, .inl (fun _ => 0))), (n2, .inl (cy 0, 8, .inl f2)), (n3, .inl (cy 0, 8, .inl f3)), (n4, .inl (cy 0, 8, .inl f4)), (n5, .inl (cy 1, 8, .inl f5)), (pa, .inr (4, [.int 0, .ref ed, .int 0])), (ro, .inl (cy 0, 20, .inl (fun _ => 0))), (b1, .inl (cy 0, 8, .inl (fun _ => 0))), (b2, .inl (cy 0, 8, .inl g2)), (b3, .inl (cy 0, 8, .inl g3)), (b4, .inl (cy 0, 8, .inl g4)), (b5, .inl (cy 1, 8, .inl g5)), (mq, .inr (4, [.int 0, .ref ed, .int 0])), (od, .inl (cy 4, 1, .inr (.inr (.inr (.inl (fun _ => 0)))))), (oa, .inl (cy 3, 1, .inr (.inl o2_553))), (m0, .inr (20, [.int tv_555, .ref mp, .int 0, .ref b1, .ref b2, .ref b3, .ref b4, .ref b5, .ref mq]))] H := hP
    have hD : va_D A [(ne, .inr (6, [.ref n1, .ref n2, .ref n3, .ref n4, .ref n5])), (n1, .inl (cy 0, 8, .inl (fun _ => 0))), (n2, .inl (cy 0, 8, .inl f2)), (n3, .inl (cy 0, 8, .inl f3)), (n4, .inl (cy 0, 8, .inl f4)), (n5, .inl (cy 1, 8, .inl f5)), (pa, .inr (4, [.int 0, .ref ed, .int 0])), (ro, .inl (cy 0, 20, .inl (fun _ => 0))), (b1, .inl (cy 0, 8, .inl (fun _ => 0))), (b2, .inl (cy 0, 8, .inl g2)), (b3, .inl (cy 0, 8, .inl g3)), (b4, .inl (cy 0, 8, .inl g4)), (b5, .inl (cy 1, 8, .inl g5)), (mq, .inr (4, [.int 0, .ref ed, .int 0])), (od, .inl (cy 4, 1, .inr (.inr (.inr (.inl (fun _ => 0)))))), (oa, .inl (cy 3, 1, .inr (.inl o2_553))), (m0, .inr (20, [.int tv_555, .ref mp, .int 0, .ref b1, .ref b2, .ref b3, .ref b4, .ref b5, .ref mq]))] := hD
    refine W.widen (k := 35) (n := 936) (Nat.le_of_ble_eq_true rfl) (Nat.le_of_ble_eq_true rfl) ?_
    refine lv_istore (lv' := [(7, .int r_556), (6, .int (k_addPerson (xs (1 : Int32).toNatClampNeg) (xs (2 : Int32).toNatClampNeg))), (5, .int 0), (4, .ref od), (3, .ref oa), (2, .ref m0), (1, .ref h), (0, .ref b)]) hx hb dL_law_335 hl (by decide) rfl (fun ls hl => ?_)
    refine lv_aload_n hx hb dL_law_337 rfl (lv_at hl 5 rfl) ?_
    have hPc := hP.sub (ws' := [(m0, .inr (20, [.int tv_555, .ref mp, .int 0, .ref b1, .ref b2, .ref b3, .ref b4, .ref b5, .ref mq]))]) [16] rfl
    have hDc := hD.sub (ws' := [(m0, .inr (20, [.int tv_555, .ref mp, .int 0, .ref b1, .ref b2, .ref b3, .ref b4, .ref b5, .ref mq]))]) [16] (by decide) rfl
    have hFc := va_free (wc := [(m0, .inr (20, [.int tv_555, .ref mp, .int 0, .ref b1, .ref b2, .ref b3, .ref b4, .ref b5, .ref mq]))]) hD hS hA [16] rfl
    refine va_calli (va_runV (As := []) (rest := []) ⟨hx, hb, hml, hown, hts⟩ (c_X15_thrown l hst D cy ed H.size m0 mp mq b1 b2 b3 b4 b5 tv_555 0) (cwV 0 hts (zx_GV mm_1599 mm_1600 mm_1601 mm_78 mm_1602) rfl rfl rfl (by decide +kernel) ⟨(Nat.le_of_ble_eq_true rfl), (Nat.le_of_ble_eq_true rfl)⟩) ⟨zx_blind, va_recv hK hPc (ci := 20) (q0 := 0) rfl rfl, zx_give hPc hK hDc hS hFc hZ hN⟩ rfl rfl hl.1 rfl (lv_room (Nat.le_of_ble_eq_true rfl)) dL_law_338 ⟨(Nat.le_of_ble_eq_true rfl), (Nat.le_of_ble_eq_true rfl)⟩) hS (fun q _ h => hFc q h) hFc (fun r9 u t H1 locs ht hvm hw hB hz1 hk1 hS => ?_)
    obtain rfl : tv_555 = r9 := hw.symm
    obtain ⟨hP, hD⟩ := zx_join (wr := [(ne, .inr (6, [.ref n1, .ref n2, .ref n3, .ref n4, .ref n5])), (n1, .inl (cy 0, 8, .inl (fun _ => 0))), (n2, .inl (cy 0, 8, .inl f2)), (n3, .inl (cy 0, 8, .inl f3)), (n4, .inl (cy 0, 8, .inl f4)), (n5, .inl (cy 1, 8, .inl f5)), (pa, .inr (4, [.int 0, .ref ed, .int 0])), (ro, .inl (cy 0, 20, .inl (fun _ => 0))), (b1, .inl (cy 0, 8, .inl (fun _ => 0))), (b2, .inl (cy 0, 8, .inl g2)), (b3, .inl (cy 0, 8, .inl g3)), (b4, .inl (cy 0, 8, .inl g4)), (b5, .inl (cy 1, 8, .inl g5)), (mq, .inr (4, [.int 0, .ref ed, .int 0])), (od, .inl (cy 4, 1, .inr (.inr (.inr (.inl (fun _ => 0)))))), (oa, .inl (cy 3, 1, .inr (.inl o2_553)))]) (w1 := [(m0, .inr (20, [.int tv_555, .ref mp, .int 0, .ref b1, .ref b2, .ref b3, .ref b4, .ref b5, .ref mq]))]) [16] [0, 1, 2, 3, 4, 5, 6, 7, 8, 9, 10, 11, 12, 13, 14, 15] rfl rfl (by decide) (by decide) hP hD hk1 hFc hB ht
    generalize H1 = H at hP hS ⊢
    have hP : va_P D vwCl [(ne, .inr (6, [.ref n1, .ref n2, .ref n3, .ref n4, .ref n5])), (n1, .inl (cy 0, 8, .inl (fun _ => 0))), (n2, .inl (cy 0, 8, .inl f2)), (n3, .inl (cy 0, 8, .inl f3)), (n4, .inl (cy 0, 8, .inl f4)), (n5, .inl (cy 1, 8, .inl f5)), (pa, .inr (4, [.int 0, .ref ed, .int 0])), (ro, .inl (cy 0, 20, .inl (fun _ => 0))), (b1, .inl (cy 0, 8, .inl (fun _ => 0))), (b2, .inl (cy 0, 8, .inl g2)), (b3, .inl (cy 0, 8, .inl g3)), (b4, .inl (cy 0, 8, .inl g4)), (b5, .inl (cy 1, 8, .inl g5)), (mq, .inr (4, [.int 0, .ref ed, .int 0])), (od, .inl (cy 4, 1, .inr (.inr (.inr (.inl (fun _ => 0)))))), (oa, .inl (cy 3, 1, .inr (.inl o2_553))), (m0, .inr (20, [.int tv_555, .ref mp, .int 0, .ref b1, .ref b2, .ref b3, .ref b4, .ref b5, .ref mq]))] H := hP
    have hD : va_D A [(ne, .inr (6, [.ref n1, .ref n2, .ref n3, .ref n4, .ref n5])), (n1, .inl (cy 0, 8, .inl (fun _ => 0))), (n2, .inl (cy 0, 8, .inl f2)), (n3, .inl (cy 0, 8, .inl f3)), (n4, .inl (cy 0, 8, .inl f4)), (n5, .inl (cy 1, 8, .inl f5)), (pa, .inr (4, [.int 0, .ref ed, .int 0])), (ro, .inl (cy 0, 20, .inl (fun _ => 0))), (b1, .inl (cy 0, 8, .inl (fun _ => 0))), (b2, .inl (cy 0, 8, .inl g2)), (b3, .inl (cy 0, 8, .inl g3)), (b4, .inl (cy 0, 8, .inl g4)), (b5, .inl (cy 1, 8, .inl g5)), (mq, .inr (4, [.int 0, .ref ed, .int 0])), (od, .inl (cy 4, 1, .inr (.inr (.inr (.inl (fun _ => 0)))))), (oa, .inl (cy 3, 1, .inr (.inl o2_553))), (m0, .inr (20, [.int tv_555, .ref mp, .int 0, .ref b1, .ref b2, .ref b3, .ref b4, .ref b5, .ref mq]))] := hD
    refine W.widen (k := 35) (n := 936) (Nat.le_of_ble_eq_true rfl) (Nat.le_of_ble_eq_true rfl) ?_
    refine lv_iload hx hb dL_law_341 (lv_at hl 1 rfl) ?_
    refine lv_icmp_eq (tgt := 348) hx hb dL_law_343 (by decide) (fun c_558 => ?_) (fun c_558 => ?_)
    ·
      refine lv_iload hx hb dL_law_348 (lv_at hl 1 rfl) ?_
      refine lv_if_ne (tgt := 365) hx hb dL_law_350 (by decide) (fun c_559 => ?_) (fun c_559 => ?_)
      ·
        refine lv_goto (tgt := 4257) hx hb dL_law_365 (by decide) ?_
        refine W.widen (k := 60) (n := 1200) (Nat.le_of_ble_eq_true rfl) (Nat.le_of_ble_eq_true rfl) ?_
        exact hend _ _ _ hS (lv_sub hl [7, 2] rfl)
      ·
        obtain rfl : r_556 = 0 := h_557.2 c_559
        refine lv_aload_n hx hb dL_law_353 rfl (lv_at hl 4 rfl) ?_
        refine lv_iconst (v := 0) hx hb dL_law_354 (by decide) ?_
        refine va_lald hx hb hK hP 15 3 rfl rfl (zx_bn (by decide)) dL_law_355 ?_
        refine lv_iload hx hb dL_law_356 (lv_at hl 0 rfl) ?_
        refine lv_i2l (v := 0) hx hb dL_law_358 rfl ?_
        refine W.lcmp hx hb dL_law_359 ?_
        refine lv_topi (fun y9 ey9 => ?_)
        obtain rfl : y9 = 0 := ey9.trans (zx_lcmpe (h_554 c_559))
        refine lv_if_eq (tgt := 365) hx hb dL_law_360 (by decide) (fun _ => ?_) (fun c_560 => absurd (by decide) c_560)
        refine lv_goto (tgt := 4257) hx hb dL_law_365 (by decide) ?_
        refine W.widen (k := 60) (n := 1200) (Nat.le_of_ble_eq_true rfl) (Nat.le_of_ble_eq_true rfl) ?_
        exact hend _ _ _ hS (lv_sub hl [7, 2] rfl)
    ·
      exact absurd h_557.1 c_558
set_option maxHeartbeats 4000000 in
set_option maxRecDepth 100000 in
theorem law_case_1 {p : Program} {l : Launch} {e : Env} {s : State} {m : MethodId} {below : List Frame} {meth : Method} {c : Code} {D : va_G} {cy : Nat → ClassId} {ed b : Nat} {xs : Nat → Int32} {A : Nat → Prop} {Q : State → Prop} (C0 : zx_LW p l s m c D cy ed b xs A)
    {h pe ne pa ro a1 a2 a3 a4 a5 a6 a7 a8 a9 n1 n2 n3 n4 n5 m0 mp b1 b2 b3 b4 b5 mq oa od : Nat} {f2 f3 f4 f5 g2 g3 g4 g5 : Nat → Int32} (hf5 : ∀ j, j < 8 → f5 j = 115) (hg5 : ∀ j, j < 8 → g5 j = 115) {H : Heap} {locs : List Loc} {ls : Array Slot}
    (hP : va_P D vwCl [(h, .inr (13, [.ref pe, .ref ne, .ref pa, .ref ro, .int 0])), (pe, .inr (9, [.int 0, .ref a1, .ref a2, .ref a3, .ref a4, .ref a5, .ref a6, .ref a7, .ref a8, .ref a9])), (a1, .inl (cy 0, 20, .inl (fun _ => 0))), (a2, .inl (cy 0, 20, .inl (fun _ => 0))), (ne, .inr (6, [.ref n1, .ref n2, .ref n3, .ref n4, .ref n5])), (n1, .inl (cy 0, 8, .inl (fun _ => 0))), (n2, .inl (cy 0, 8, .inl f2)), (n3, .inl (cy 0, 8, .inl f3)), (n4, .inl (cy 0, 8, .inl f4)), (n5, .inl (cy 1, 8, .inl f5)), (pa, .inr (4, [.int 0, .ref ed, .int 0])), (ro, .inl (cy 0, 20, .inl (fun _ => 0))), (m0, .inr (20, [.int 0, .ref mp, .int 0, .ref b1, .ref b2, .ref b3, .ref b4, .ref b5, .ref mq])), (b1, .inl (cy 0, 8, .inl (fun _ => 0))), (b2, .inl (cy 0, 8, .inl g2)), (b3, .inl (cy 0, 8, .inl g3)), (b4, .inl (cy 0, 8, .inl g4)), (b5, .inl (cy 1, 8, .inl g5)), (mp, .inr (4, [.int 0, .ref ed, .int 0])), (mq, .inr (4, [.int 0, .ref ed, .int 0])), (oa, .inl (cy 3, 1, .inr (.inl (fun _ => 0)))), (od, .inl (cy 4, 1, .inr (.inr (.inr (.inl (fun _ => 0))))))] H) (hD : va_D A [(h, .inr (13, [.ref pe, .ref ne, .ref pa, .ref ro, .int 0])), (pe, .inr (9, [.int 0, .ref a1, .ref a2, .ref a3, .ref a4, .ref a5, .ref a6, .ref a7, .ref a8, .ref a9])), (a1, .inl (cy 0, 20, .inl (fun _ => 0))), (a2, .inl (cy 0, 20, .inl (fun _ => 0))), (ne, .inr (6, [.ref n1, .ref n2, .ref n3, .ref n4, .ref n5])), (n1, .inl (cy 0, 8, .inl (fun _ => 0))), (n2, .inl (cy 0, 8, .inl f2)), (n3, .inl (cy 0, 8, .inl f3)), (n4, .inl (cy 0, 8, .inl f4)), (n5, .inl (cy 1, 8, .inl f5)), (pa, .inr (4, [.int 0, .ref ed, .int 0])), (ro, .inl (cy 0, 20, .inl (fun _ => 0))), (m0, .inr (20, [.int 0, .ref mp, .int 0, .ref b1, .ref b2, .ref b3, .ref b4, .ref b5, .ref mq])), (b1, .inl (cy 0, 8, .inl (fun _ => 0))), (b2, .inl (cy 0, 8, .inl g2)), (b3, .inl (cy 0, 8, .inl g3)), (b4, .inl (cy 0, 8, .inl g4)), (b5, .inl (cy 1, 8, .inl g5)), (mp, .inr (4, [.int 0, .ref ed, .int 0])), (mq, .inr (4, [.int 0, .ref ed, .int 0])), (oa, .inl (cy 3, 1, .inr (.inl (fun _ => 0)))), (od, .inl (cy 4, 1, .inr (.inr (.inr (.inl (fun _ => 0))))))]) (hS : va_S A s.heap H locs) (hl : lv_has ls 9 [(5, .int 0), (4, .ref od), (3, .ref oa), (2, .ref m0), (1, .ref h), (0, .ref b)])
    (hend : ∀ (H : Heap) (locs : List Loc) (ls : Array Slot), va_S A s.heap H locs → lv_has ls 9 [(0, .ref b), (5, .int 0)] → W p l e room_1 s m #[Value.ref b] below meth c H locs 60 1200 Q (F0 m 4257 ls [])) :
    W p l e room_1 s m #[Value.ref b] below meth c H locs 29 880 Q (F0 m 368 ls []) := by
  obtain ⟨hx, hb, hml, hst, hown, hts, hX, hbl, hbA, hA, hK, hZ, hN⟩ := C0
  refine lv_aload_n hx hb dL_law_368 rfl (lv_at hl 4 rfl) ?_
  refine lv_aload_n hx hb dL_law_369 rfl (lv_at hl 5 rfl) ?_
  refine lv_iload hx hb dL_law_370 (lv_at hl 0 rfl) ?_
  refine lv_iconst (v := 1) hx hb dL_law_372 (by decide) ?_
  refine lv_iadd hx hb dL_law_373 ?_
  refine lv_topi (fun y9 ey9 => ?_)
  obtain rfl : y9 = 1 := by rw [ey9] <;> decide
  refine va_sld hx hb hX hbl hbA hS (zx_bn (by decide)) dL_law_374 ?_
  refine lv_aload_n hx hb dL_law_375 rfl (lv_at hl 5 rfl) ?_
  refine lv_iload hx hb dL_law_376 (lv_at hl 0 rfl) ?_
  refine lv_iconst (v := 2) hx hb dL_law_378 (by decide) ?_
  refine lv_iadd hx hb dL_law_379 ?_
  refine lv_topi (fun y9 ey9 => ?_)
  obtain rfl : y9 = 2 := by rw [ey9] <;> decide
  refine va_sld hx hb hX hbl hbA hS (zx_bn (by decide)) dL_law_380 ?_
  refine lv_aload_n hx hb dL_law_381 rfl (lv_at hl 2 rfl) ?_
  have hPc := hP.sub (ws' := [(h, .inr (13, [.ref pe, .ref ne, .ref pa, .ref ro, .int 0])), (pe, .inr (9, [.int 0, .ref a1, .ref a2, .ref a3, .ref a4, .ref a5, .ref a6, .ref a7, .ref a8, .ref a9])), (oa, .inl (cy 3, 1, .inr (.inl (fun _ => 0))))]) [0, 1, 20] rfl
  have hDc := hD.sub (ws' := [(h, .inr (13, [.ref pe, .ref ne, .ref pa, .ref ro, .int 0])), (pe, .inr (9, [.int 0, .ref a1, .ref a2, .ref a3, .ref a4, .ref a5, .ref a6, .ref a7, .ref a8, .ref a9])), (oa, .inl (cy 3, 1, .inr (.inl (fun _ => 0))))]) [0, 1, 20] (by decide) rfl
  have hFc := va_free (wc := [(h, .inr (13, [.ref pe, .ref ne, .ref pa, .ref ro, .int 0])), (pe, .inr (9, [.int 0, .ref a1, .ref a2, .ref a3, .ref a4, .ref a5, .ref a6, .ref a7, .ref a8, .ref a9])), (oa, .inl (cy 3, 1, .inr (.inl (fun _ => 0))))]) hD hS hA [0, 1, 20] rfl
  refine vx_calli (vx_runSX (As := [.ref h, .int (xs (1 : Int32).toNatClampNeg), .int (xs (2 : Int32).toNatClampNeg), .ref oa]) (rest := []) ⟨hx, hb, hml, hown, hts⟩ (c_L_tellConflict l hst D cy ed H.size h pe ne pa ro 0 a1 a2 a3 a4 a5 a6 a7 a8 a9 oa (fun _ => 0) (xs (1 : Int32).toNatClampNeg) (xs (2 : Int32).toNatClampNeg)) (vx_cwSW 4 hts (zx_GS mm_429 mm_430 mm_70 mm_431) rfl rfl rfl (by decide +kernel) ⟨(Nat.le_of_ble_eq_true rfl), (Nat.le_of_ble_eq_true rfl)⟩) ⟨zx_blind, zx_give hPc hK hDc hS hFc hZ hN⟩ rfl rfl hl.1 rfl (lv_room (Nat.le_of_ble_eq_true rfl)) dL_law_382 ⟨(Nat.le_of_ble_eq_true rfl), (Nat.le_of_ble_eq_true rfl)⟩) hS (fun q _ h => hFc q h) hFc (fun q _ h => hFc q h) (fun E9 ce9 q9 _ t H locs ht hvm _ hBX hz1 hk1 hS hce hcv hcl => ?_) (fun r9 u t H locs ht hvm hw hB hz1 hk1 hS => ?_)
  · exact hBX.elim
  ·
    obtain rfl : r9 = 1 := hw
    obtain ⟨hP, hD⟩ := zx_join (wr := [(a1, .inl (cy 0, 20, .inl (fun _ => 0))), (a2, .inl (cy 0, 20, .inl (fun _ => 0))), (ne, .inr (6, [.ref n1, .ref n2, .ref n3, .ref n4, .ref n5])), (n1, .inl (cy 0, 8, .inl (fun _ => 0))), (n2, .inl (cy 0, 8, .inl f2)), (n3, .inl (cy 0, 8, .inl f3)), (n4, .inl (cy 0, 8, .inl f4)), (n5, .inl (cy 1, 8, .inl f5)), (pa, .inr (4, [.int 0, .ref ed, .int 0])), (ro, .inl (cy 0, 20, .inl (fun _ => 0))), (m0, .inr (20, [.int 0, .ref mp, .int 0, .ref b1, .ref b2, .ref b3, .ref b4, .ref b5, .ref mq])), (b1, .inl (cy 0, 8, .inl (fun _ => 0))), (b2, .inl (cy 0, 8, .inl g2)), (b3, .inl (cy 0, 8, .inl g3)), (b4, .inl (cy 0, 8, .inl g4)), (b5, .inl (cy 1, 8, .inl g5)), (mp, .inr (4, [.int 0, .ref ed, .int 0])), (mq, .inr (4, [.int 0, .ref ed, .int 0])), (od, .inl (cy 4, 1, .inr (.inr (.inr (.inl (fun _ => 0))))))]) (w1 := []) [0, 1, 20] [2, 3, 4, 5, 6, 7, 8, 9, 10, 11, 12, 13, 14, 15, 16, 17, 18, 19, 21] rfl rfl (by decide) (by decide) hP hD hk1 hFc hB ht
    have hP : va_P D vwCl [(a1, .inl (cy 0, 20, .inl (fun _ => 0))), (a2, .inl (cy 0, 20, .inl (fun _ => 0))), (ne, .inr (6, [.ref n1, .ref n2, .ref n3, .ref n4, .ref n5])), (n1, .inl (cy 0, 8, .inl (fun _ => 0))), (n2, .inl (cy 0, 8, .inl f2)), (n3, .inl (cy 0, 8, .inl f3)), (n4, .inl (cy 0, 8, .inl f4)), (n5, .inl (cy 1, 8, .inl f5)), (pa, .inr (4, [.int 0, .ref ed, .int 0])), (ro, .inl (cy 0, 20, .inl (fun _ => 0))), (m0, .inr (20, [.int 0, .ref mp, .int 0, .ref b1, .ref b2, .ref b3, .ref b4, .ref b5, .ref mq])), (b1, .inl (cy 0, 8, .inl (fun _ => 0))), (b2, .inl (cy 0, 8, .inl g2)), (b3, .inl (cy 0, 8, .inl g3)), (b4, .inl (cy 0, 8, .inl g4)), (b5, .inl (cy 1, 8, .inl g5)), (mp, .inr (4, [.int 0, .ref ed, .int 0])), (mq, .inr (4, [.int 0, .ref ed, .int 0])), (od, .inl (cy 4, 1, .inr (.inr (.inr (.inl (fun _ => 0))))))] H := hP
    have hD : va_D A [(a1, .inl (cy 0, 20, .inl (fun _ => 0))), (a2, .inl (cy 0, 20, .inl (fun _ => 0))), (ne, .inr (6, [.ref n1, .ref n2, .ref n3, .ref n4, .ref n5])), (n1, .inl (cy 0, 8, .inl (fun _ => 0))), (n2, .inl (cy 0, 8, .inl f2)), (n3, .inl (cy 0, 8, .inl f3)), (n4, .inl (cy 0, 8, .inl f4)), (n5, .inl (cy 1, 8, .inl f5)), (pa, .inr (4, [.int 0, .ref ed, .int 0])), (ro, .inl (cy 0, 20, .inl (fun _ => 0))), (m0, .inr (20, [.int 0, .ref mp, .int 0, .ref b1, .ref b2, .ref b3, .ref b4, .ref b5, .ref mq])), (b1, .inl (cy 0, 8, .inl (fun _ => 0))), (b2, .inl (cy 0, 8, .inl g2)), (b3, .inl (cy 0, 8, .inl g3)), (b4, .inl (cy 0, 8, .inl g4)), (b5, .inl (cy 1, 8, .inl g5)), (mp, .inr (4, [.int 0, .ref ed, .int 0])), (mq, .inr (4, [.int 0, .ref ed, .int 0])), (od, .inl (cy 4, 1, .inr (.inr (.inr (.inl (fun _ => 0))))))] := hD
    refine W.widen (k := 30) (n := 886) (Nat.le_of_ble_eq_true rfl) (Nat.le_of_ble_eq_true rfl) ?_
    refine lv_istore (lv' := [(6, .int 1), (5, .int 0), (4, .ref od), (3, .ref oa), (2, .ref m0), (1, .ref h), (0, .ref b)]) hx hb dL_law_385 hl (by decide) rfl (fun ls hl => ?_)
    refine lv_aload_n hx hb dL_law_387 rfl (lv_at hl 4 rfl) ?_
    refine lv_aload_n hx hb dL_law_388 rfl (lv_at hl 6 rfl) ?_
    refine lv_iload hx hb dL_law_389 (lv_at hl 1 rfl) ?_
    refine lv_iconst (v := 1) hx hb dL_law_391 (by decide) ?_
    refine lv_iadd hx hb dL_law_392 ?_
    refine lv_topi (fun y9 ey9 => ?_)
    obtain rfl : y9 = 1 := by rw [ey9] <;> decide
    refine va_sld hx hb hX hbl hbA hS (zx_bn (by decide)) dL_law_393 ?_
    refine lv_aload_n hx hb dL_law_394 rfl (lv_at hl 6 rfl) ?_
    refine lv_iload hx hb dL_law_395 (lv_at hl 1 rfl) ?_
    refine lv_iconst (v := 2) hx hb dL_law_397 (by decide) ?_
    refine lv_iadd hx hb dL_law_398 ?_
    refine lv_topi (fun y9 ey9 => ?_)
    obtain rfl : y9 = 2 := by rw [ey9] <;> decide
    refine va_sld hx hb hX hbl hbA hS (zx_bn (by decide)) dL_law_399 ?_
    have hPc := hP.sub (ws' := [(m0, .inr (20, [.int 0, .ref mp, .int 0, .ref b1, .ref b2, .ref b3, .ref b4, .ref b5, .ref mq])), (mp, .inr (4, [.int 0, .ref ed, .int 0])), (mq, .inr (4, [.int 0, .ref ed, .int 0]))]) [10, 16, 17] rfl
    have hDc := hD.sub (ws' := [(m0, .inr (20, [.int 0, .ref mp, .int 0, .ref b1, .ref b2, .ref b3, .ref b4, .ref b5, .ref mq])), (mp, .inr (4, [.int 0, .ref ed, .int 0])), (mq, .inr (4, [.int 0, .ref ed, .int 0]))]) [10, 16, 17] (by decide) rfl
    have hFc := va_free (wc := [(m0, .inr (20, [.int 0, .ref mp, .int 0, .ref b1, .ref b2, .ref b3, .ref b4, .ref b5, .ref mq])), (mp, .inr (4, [.int 0, .ref ed, .int 0])), (mq, .inr (4, [.int 0, .ref ed, .int 0]))]) hD hS hA [10, 16, 17] rfl
    refine va_calli (va_runV (As := [.int (xs (1 : Int32).toNatClampNeg), .int (xs (2 : Int32).toNatClampNeg)]) (rest := []) ⟨hx, hb, hml, hown, hts⟩ (c_X15_tellConflict l hst D cy ed H.size m0 mp mq b1 b2 b3 b4 b5 0 0 0 ed 0 ed (xs (1 : Int32).toNatClampNeg) (xs (2 : Int32).toNatClampNeg)) (cwV 2 hts (zx_GV mm_1656 mm_1657 mm_1658 mm_78 mm_1659) rfl rfl rfl (by decide +kernel) ⟨(Nat.le_of_ble_eq_true rfl), (Nat.le_of_ble_eq_true rfl)⟩) ⟨zx_blind, va_recv hK hPc (ci := 20) (q0 := 0) rfl rfl, zx_give hPc hK hDc hS hFc hZ hN⟩ rfl rfl hl.1 rfl (lv_room (Nat.le_of_ble_eq_true rfl)) dL_law_400 ⟨(Nat.le_of_ble_eq_true rfl), (Nat.le_of_ble_eq_true rfl)⟩) hS (fun q _ h => hFc q h) hFc (fun r9 u t H1 locs ht hvm hw hB hz1 hk1 hS => ?_)
    obtain ⟨r_561, rfl⟩ : ∃ z9, z9 = r9 := ⟨_, rfl⟩
    have h_562 := hw
    obtain ⟨hP, hD⟩ := zx_join (wr := [(a1, .inl (cy 0, 20, .inl (fun _ => 0))), (a2, .inl (cy 0, 20, .inl (fun _ => 0))), (ne, .inr (6, [.ref n1, .ref n2, .ref n3, .ref n4, .ref n5])), (n1, .inl (cy 0, 8, .inl (fun _ => 0))), (n2, .inl (cy 0, 8, .inl f2)), (n3, .inl (cy 0, 8, .inl f3)), (n4, .inl (cy 0, 8, .inl f4)), (n5, .inl (cy 1, 8, .inl f5)), (pa, .inr (4, [.int 0, .ref ed, .int 0])), (ro, .inl (cy 0, 20, .inl (fun _ => 0))), (b1, .inl (cy 0, 8, .inl (fun _ => 0))), (b2, .inl (cy 0, 8, .inl g2)), (b3, .inl (cy 0, 8, .inl g3)), (b4, .inl (cy 0, 8, .inl g4)), (b5, .inl (cy 1, 8, .inl g5)), (od, .inl (cy 4, 1, .inr (.inr (.inr (.inl (fun _ => 0))))))]) (w1 := [(m0, .inr (20, [.int 1, .ref mp, .int 0, .ref b1, .ref b2, .ref b3, .ref b4, .ref b5, .ref mq]))]) [10, 16, 17] [0, 1, 2, 3, 4, 5, 6, 7, 8, 9, 11, 12, 13, 14, 15, 18] rfl rfl (by decide) (by decide) hP hD hk1 hFc hB ht
    generalize H1 = H at hP hS ⊢
    have hP : va_P D vwCl [(a1, .inl (cy 0, 20, .inl (fun _ => 0))), (a2, .inl (cy 0, 20, .inl (fun _ => 0))), (ne, .inr (6, [.ref n1, .ref n2, .ref n3, .ref n4, .ref n5])), (n1, .inl (cy 0, 8, .inl (fun _ => 0))), (n2, .inl (cy 0, 8, .inl f2)), (n3, .inl (cy 0, 8, .inl f3)), (n4, .inl (cy 0, 8, .inl f4)), (n5, .inl (cy 1, 8, .inl f5)), (pa, .inr (4, [.int 0, .ref ed, .int 0])), (ro, .inl (cy 0, 20, .inl (fun _ => 0))), (b1, .inl (cy 0, 8, .inl (fun _ => 0))), (b2, .inl (cy 0, 8, .inl g2)), (b3, .inl (cy 0, 8, .inl g3)), (b4, .inl (cy 0, 8, .inl g4)), (b5, .inl (cy 1, 8, .inl g5)), (od, .inl (cy 4, 1, .inr (.inr (.inr (.inl (fun _ => 0)))))), (m0, .inr (20, [.int 1, .ref mp, .int 0, .ref b1, .ref b2, .ref b3, .ref b4, .ref b5, .ref mq]))] H := hP
    have hD : va_D A [(a1, .inl (cy 0, 20, .inl (fun _ => 0))), (a2, .inl (cy 0, 20, .inl (fun _ => 0))), (ne, .inr (6, [.ref n1, .ref n2, .ref n3, .ref n4, .ref n5])), (n1, .inl (cy 0, 8, .inl (fun _ => 0))), (n2, .inl (cy 0, 8, .inl f2)), (n3, .inl (cy 0, 8, .inl f3)), (n4, .inl (cy 0, 8, .inl f4)), (n5, .inl (cy 1, 8, .inl f5)), (pa, .inr (4, [.int 0, .ref ed, .int 0])), (ro, .inl (cy 0, 20, .inl (fun _ => 0))), (b1, .inl (cy 0, 8, .inl (fun _ => 0))), (b2, .inl (cy 0, 8, .inl g2)), (b3, .inl (cy 0, 8, .inl g3)), (b4, .inl (cy 0, 8, .inl g4)), (b5, .inl (cy 1, 8, .inl g5)), (od, .inl (cy 4, 1, .inr (.inr (.inr (.inl (fun _ => 0)))))), (m0, .inr (20, [.int 1, .ref mp, .int 0, .ref b1, .ref b2, .ref b3, .ref b4, .ref b5, .ref mq]))] := hD
    refine W.widen (k := 30) (n := 886) (Nat.le_of_ble_eq_true rfl) (Nat.le_of_ble_eq_true rfl) ?_
    refine lv_istore (lv' := [(7, .int r_561), (6, .int 1), (5, .int 0), (4, .ref od), (3, .ref oa), (2, .ref m0), (1, .ref h), (0, .ref b)]) hx hb dL_law_403 hl (by decide) rfl (fun ls hl => ?_)
    refine lv_aload_n hx hb dL_law_405 rfl (lv_at hl 5 rfl) ?_
    have hPc := hP.sub (ws' := [(m0, .inr (20, [.int 1, .ref mp, .int 0, .ref b1, .ref b2, .ref b3, .ref b4, .ref b5, .ref mq]))]) [16] rfl
    have hDc := hD.sub (ws' := [(m0, .inr (20, [.int 1, .ref mp, .int 0, .ref b1, .ref b2, .ref b3, .ref b4, .ref b5, .ref mq]))]) [16] (by decide) rfl
    have hFc := va_free (wc := [(m0, .inr (20, [.int 1, .ref mp, .int 0, .ref b1, .ref b2, .ref b3, .ref b4, .ref b5, .ref mq]))]) hD hS hA [16] rfl
    refine va_calli (va_runV (As := []) (rest := []) ⟨hx, hb, hml, hown, hts⟩ (c_X15_thrown l hst D cy ed H.size m0 mp mq b1 b2 b3 b4 b5 1 0) (cwV 0 hts (zx_GV mm_1599 mm_1600 mm_1601 mm_78 mm_1602) rfl rfl rfl (by decide +kernel) ⟨(Nat.le_of_ble_eq_true rfl), (Nat.le_of_ble_eq_true rfl)⟩) ⟨zx_blind, va_recv hK hPc (ci := 20) (q0 := 0) rfl rfl, zx_give hPc hK hDc hS hFc hZ hN⟩ rfl rfl hl.1 rfl (lv_room (Nat.le_of_ble_eq_true rfl)) dL_law_406 ⟨(Nat.le_of_ble_eq_true rfl), (Nat.le_of_ble_eq_true rfl)⟩) hS (fun q _ h => hFc q h) hFc (fun r9 u t H1 locs ht hvm hw hB hz1 hk1 hS => ?_)
    obtain rfl : r9 = 1 := hw
    obtain ⟨hP, hD⟩ := zx_join (wr := [(a1, .inl (cy 0, 20, .inl (fun _ => 0))), (a2, .inl (cy 0, 20, .inl (fun _ => 0))), (ne, .inr (6, [.ref n1, .ref n2, .ref n3, .ref n4, .ref n5])), (n1, .inl (cy 0, 8, .inl (fun _ => 0))), (n2, .inl (cy 0, 8, .inl f2)), (n3, .inl (cy 0, 8, .inl f3)), (n4, .inl (cy 0, 8, .inl f4)), (n5, .inl (cy 1, 8, .inl f5)), (pa, .inr (4, [.int 0, .ref ed, .int 0])), (ro, .inl (cy 0, 20, .inl (fun _ => 0))), (b1, .inl (cy 0, 8, .inl (fun _ => 0))), (b2, .inl (cy 0, 8, .inl g2)), (b3, .inl (cy 0, 8, .inl g3)), (b4, .inl (cy 0, 8, .inl g4)), (b5, .inl (cy 1, 8, .inl g5)), (od, .inl (cy 4, 1, .inr (.inr (.inr (.inl (fun _ => 0))))))]) (w1 := [(m0, .inr (20, [.int 1, .ref mp, .int 0, .ref b1, .ref b2, .ref b3, .ref b4, .ref b5, .ref mq]))]) [16] [0, 1, 2, 3, 4, 5, 6, 7, 8, 9, 10, 11, 12, 13, 14, 15] rfl rfl (by decide) (by decide) hP hD hk1 hFc hB ht
    generalize H1 = H at hP hS ⊢
    have hP : va_P D vwCl [(a1, .inl (cy 0, 20, .inl (fun _ => 0))), (a2, .inl (cy 0, 20, .inl (fun _ => 0))), (ne, .inr (6, [.ref n1, .ref n2, .ref n3, .ref n4, .ref n5])), (n1, .inl (cy 0, 8, .inl (fun _ => 0))), (n2, .inl (cy 0, 8, .inl f2)), (n3, .inl (cy 0, 8, .inl f3)), (n4, .inl (cy 0, 8, .inl f4)), (n5, .inl (cy 1, 8, .inl f5)), (pa, .inr (4, [.int 0, .ref ed, .int 0])), (ro, .inl (cy 0, 20, .inl (fun _ => 0))), (b1, .inl (cy 0, 8, .inl (fun _ => 0))), (b2, .inl (cy 0, 8, .inl g2)), (b3, .inl (cy 0, 8, .inl g3)), (b4, .inl (cy 0, 8, .inl g4)), (b5, .inl (cy 1, 8, .inl g5)), (od, .inl (cy 4, 1, .inr (.inr (.inr (.inl (fun _ => 0)))))), (m0, .inr (20, [.int 1, .ref mp, .int 0, .ref b1, .ref b2, .ref b3, .ref b4, .ref b5, .ref mq]))] H := hP
    have hD : va_D A [(a1, .inl (cy 0, 20, .inl (fun _ => 0))), (a2, .inl (cy 0, 20, .inl (fun _ => 0))), (ne, .inr (6, [.ref n1, .ref n2, .ref n3, .ref n4, .ref n5])), (n1, .inl (cy 0, 8, .inl (fun _ => 0))), (n2, .inl (cy 0, 8, .inl f2)), (n3, .inl (cy 0, 8, .inl f3)), (n4, .inl (cy 0, 8, .inl f4)), (n5, .inl (cy 1, 8, .inl f5)), (pa, .inr (4, [.int 0, .ref ed, .int 0])), (ro, .inl (cy 0, 20, .inl (fun _ => 0))), (b1, .inl (cy 0, 8, .inl (fun _ => 0))), (b2, .inl (cy 0, 8, .inl g2)), (b3, .inl (cy 0, 8, .inl g3)), (b4, .inl (cy 0, 8, .inl g4)), (b5, .inl (cy 1, 8, .inl g5)), (od, .inl (cy 4, 1, .inr (.inr (.inr (.inl (fun _ => 0)))))), (m0, .inr (20, [.int 1, .ref mp, .int 0, .ref b1, .ref b2, .ref b3, .ref b4, .ref b5, .ref mq]))] := hD
    refine W.widen (k := 30) (n := 886) (Nat.le_of_ble_eq_true rfl) (Nat.le_of_ble_eq_true rfl) ?_
    refine lv_iload hx hb dL_law_409 (lv_at hl 1 rfl) ?_
    refine lv_icmp_eq (tgt := 416) hx hb dL_law_411 (by decide) (fun _ => ?_) (fun c_563 => absurd (by decide) c_563)
    refine lv_iload hx hb dL_law_416 (lv_at hl 1 rfl) ?_
    refine lv_if_ne (tgt := 440) hx hb dL_law_418 (by decide) (fun _ => ?_) (fun c_564 => absurd c_564 (by decide))
    refine lv_goto (tgt := 4257) hx hb dL_law_440 (by decide) ?_
    refine W.widen (k := 60) (n := 1200) (Nat.le_of_ble_eq_true rfl) (Nat.le_of_ble_eq_true rfl) ?_
    exact hend _ _ _ hS (lv_sub hl [7, 2] rfl)
set_option maxHeartbeats 4000000 in
set_option maxRecDepth 100000 in
theorem law_case_2 {p : Program} {l : Launch} {e : Env} {s : State} {m : MethodId} {below : List Frame} {meth : Method} {c : Code} {D : va_G} {cy : Nat → ClassId} {ed b : Nat} {xs : Nat → Int32} {A : Nat → Prop} {Q : State → Prop} (C0 : zx_LW p l s m c D cy ed b xs A)
    {h pe ne pa ro a1 a2 a3 a4 a5 a6 a7 a8 a9 n1 n2 n3 n4 n5 m0 mp b1 b2 b3 b4 b5 mq oa od : Nat} {f2 f3 f4 f5 g2 g3 g4 g5 : Nat → Int32} (hf5 : ∀ j, j < 8 → f5 j = 115) (hg5 : ∀ j, j < 8 → g5 j = 115) {H : Heap} {locs : List Loc} {ls : Array Slot}
    (hP : va_P D vwCl [(h, .inr (13, [.ref pe, .ref ne, .ref pa, .ref ro, .int 0])), (pe, .inr (9, [.int 0, .ref a1, .ref a2, .ref a3, .ref a4, .ref a5, .ref a6, .ref a7, .ref a8, .ref a9])), (a1, .inl (cy 0, 20, .inl (fun _ => 0))), (a2, .inl (cy 0, 20, .inl (fun _ => 0))), (ne, .inr (6, [.ref n1, .ref n2, .ref n3, .ref n4, .ref n5])), (n1, .inl (cy 0, 8, .inl (fun _ => 0))), (n2, .inl (cy 0, 8, .inl f2)), (n3, .inl (cy 0, 8, .inl f3)), (n4, .inl (cy 0, 8, .inl f4)), (n5, .inl (cy 1, 8, .inl f5)), (pa, .inr (4, [.int 0, .ref ed, .int 0])), (ro, .inl (cy 0, 20, .inl (fun _ => 0))), (m0, .inr (20, [.int 0, .ref mp, .int 0, .ref b1, .ref b2, .ref b3, .ref b4, .ref b5, .ref mq])), (b1, .inl (cy 0, 8, .inl (fun _ => 0))), (b2, .inl (cy 0, 8, .inl g2)), (b3, .inl (cy 0, 8, .inl g3)), (b4, .inl (cy 0, 8, .inl g4)), (b5, .inl (cy 1, 8, .inl g5)), (mp, .inr (4, [.int 0, .ref ed, .int 0])), (mq, .inr (4, [.int 0, .ref ed, .int 0])), (oa, .inl (cy 3, 1, .inr (.inl (fun _ => 0)))), (od, .inl (cy 4, 1, .inr (.inr (.inr (.inl (fun _ => 0))))))] H) (hD : va_D A [(h, .inr (13, [.ref pe, .ref ne, .ref pa, .ref ro, .int 0])), (pe, .inr (9, [.int 0, .ref a1, .ref a2, .ref a3, .ref a4, .ref a5, .ref a6, .ref a7, .ref a8, .ref a9])), (a1, .inl (cy 0, 20, .inl (fun _ => 0))), (a2, .inl (cy 0, 20, .inl (fun _ => 0))), (ne, .inr (6, [.ref n1, .ref n2, .ref n3, .ref n4, .ref n5])), (n1, .inl (cy 0, 8, .inl (fun _ => 0))), (n2, .inl (cy 0, 8, .inl f2)), (n3, .inl (cy 0, 8, .inl f3)), (n4, .inl (cy 0, 8, .inl f4)), (n5, .inl (cy 1, 8, .inl f5)), (pa, .inr (4, [.int 0, .ref ed, .int 0])), (ro, .inl (cy 0, 20, .inl (fun _ => 0))), (m0, .inr (20, [.int 0, .ref mp, .int 0, .ref b1, .ref b2, .ref b3, .ref b4, .ref b5, .ref mq])), (b1, .inl (cy 0, 8, .inl (fun _ => 0))), (b2, .inl (cy 0, 8, .inl g2)), (b3, .inl (cy 0, 8, .inl g3)), (b4, .inl (cy 0, 8, .inl g4)), (b5, .inl (cy 1, 8, .inl g5)), (mp, .inr (4, [.int 0, .ref ed, .int 0])), (mq, .inr (4, [.int 0, .ref ed, .int 0])), (oa, .inl (cy 3, 1, .inr (.inl (fun _ => 0)))), (od, .inl (cy 4, 1, .inr (.inr (.inr (.inl (fun _ => 0))))))]) (hS : va_S A s.heap H locs) (hl : lv_has ls 9 [(5, .int 0), (4, .ref od), (3, .ref oa), (2, .ref m0), (1, .ref h), (0, .ref b)])
    (hend : ∀ (H : Heap) (locs : List Loc) (ls : Array Slot), va_S A s.heap H locs → lv_has ls 9 [(0, .ref b), (5, .int 0)] → W p l e room_1 s m #[Value.ref b] below meth c H locs 60 1200 Q (F0 m 4257 ls [])) :
    W p l e room_1 s m #[Value.ref b] below meth c H locs 29 880 Q (F0 m 443 ls []) := by
  obtain ⟨hx, hb, hml, hst, hown, hts, hX, hbl, hbA, hA, hK, hZ, hN⟩ := C0
  refine lv_aload_n hx hb dL_law_443 rfl (lv_at hl 4 rfl) ?_
  refine lv_aload_n hx hb dL_law_444 rfl (lv_at hl 5 rfl) ?_
  refine lv_iload hx hb dL_law_445 (lv_at hl 0 rfl) ?_
  refine lv_iconst (v := 1) hx hb dL_law_447 (by decide) ?_
  refine lv_iadd hx hb dL_law_448 ?_
  refine lv_topi (fun y9 ey9 => ?_)
  obtain rfl : y9 = 1 := by rw [ey9] <;> decide
  refine va_sld hx hb hX hbl hbA hS (zx_bn (by decide)) dL_law_449 ?_
  refine lv_aload_n hx hb dL_law_450 rfl (lv_at hl 5 rfl) ?_
  refine lv_iload hx hb dL_law_451 (lv_at hl 0 rfl) ?_
  refine lv_iconst (v := 2) hx hb dL_law_453 (by decide) ?_
  refine lv_iadd hx hb dL_law_454 ?_
  refine lv_topi (fun y9 ey9 => ?_)
  obtain rfl : y9 = 2 := by rw [ey9] <;> decide
  refine va_sld hx hb hX hbl hbA hS (zx_bn (by decide)) dL_law_455 ?_
  refine lv_aload_n hx hb dL_law_456 rfl (lv_at hl 2 rfl) ?_
  have hPc := hP.sub (ws' := [(h, .inr (13, [.ref pe, .ref ne, .ref pa, .ref ro, .int 0])), (pe, .inr (9, [.int 0, .ref a1, .ref a2, .ref a3, .ref a4, .ref a5, .ref a6, .ref a7, .ref a8, .ref a9])), (oa, .inl (cy 3, 1, .inr (.inl (fun _ => 0))))]) [0, 1, 20] rfl
  have hDc := hD.sub (ws' := [(h, .inr (13, [.ref pe, .ref ne, .ref pa, .ref ro, .int 0])), (pe, .inr (9, [.int 0, .ref a1, .ref a2, .ref a3, .ref a4, .ref a5, .ref a6, .ref a7, .ref a8, .ref a9])), (oa, .inl (cy 3, 1, .inr (.inl (fun _ => 0))))]) [0, 1, 20] (by decide) rfl
  have hFc := va_free (wc := [(h, .inr (13, [.ref pe, .ref ne, .ref pa, .ref ro, .int 0])), (pe, .inr (9, [.int 0, .ref a1, .ref a2, .ref a3, .ref a4, .ref a5, .ref a6, .ref a7, .ref a8, .ref a9])), (oa, .inl (cy 3, 1, .inr (.inl (fun _ => 0))))]) hD hS hA [0, 1, 20] rfl
  refine vx_calli (vx_runSX (As := [.ref h, .int (xs (1 : Int32).toNatClampNeg), .int (xs (2 : Int32).toNatClampNeg), .ref oa]) (rest := []) ⟨hx, hb, hml, hown, hts⟩ (c_L_haveConflict l hst D cy ed H.size h pe ne pa ro 0 a1 a2 a3 a4 a5 a6 a7 a8 a9 oa (fun _ => 0) (xs (1 : Int32).toNatClampNeg) (xs (2 : Int32).toNatClampNeg)) (vx_cwSW 4 hts (zx_GS mm_508 mm_509 mm_70 mm_510) rfl rfl rfl (by decide +kernel) ⟨(Nat.le_of_ble_eq_true rfl), (Nat.le_of_ble_eq_true rfl)⟩) ⟨zx_blind, zx_give hPc hK hDc hS hFc hZ hN⟩ rfl rfl hl.1 rfl (lv_room (Nat.le_of_ble_eq_true rfl)) dL_law_457 ⟨(Nat.le_of_ble_eq_true rfl), (Nat.le_of_ble_eq_true rfl)⟩) hS (fun q _ h => hFc q h) hFc (fun q _ h => hFc q h) (fun E9 ce9 q9 _ t H locs ht hvm _ hBX hz1 hk1 hS hce hcv hcl => ?_) (fun r9 u t H locs ht hvm hw hB hz1 hk1 hS => ?_)
  · exact hBX.elim
  ·
    obtain rfl : r9 = 1 := hw
    obtain ⟨hP, hD⟩ := zx_join (wr := [(a1, .inl (cy 0, 20, .inl (fun _ => 0))), (a2, .inl (cy 0, 20, .inl (fun _ => 0))), (ne, .inr (6, [.ref n1, .ref n2, .ref n3, .ref n4, .ref n5])), (n1, .inl (cy 0, 8, .inl (fun _ => 0))), (n2, .inl (cy 0, 8, .inl f2)), (n3, .inl (cy 0, 8, .inl f3)), (n4, .inl (cy 0, 8, .inl f4)), (n5, .inl (cy 1, 8, .inl f5)), (pa, .inr (4, [.int 0, .ref ed, .int 0])), (ro, .inl (cy 0, 20, .inl (fun _ => 0))), (m0, .inr (20, [.int 0, .ref mp, .int 0, .ref b1, .ref b2, .ref b3, .ref b4, .ref b5, .ref mq])), (b1, .inl (cy 0, 8, .inl (fun _ => 0))), (b2, .inl (cy 0, 8, .inl g2)), (b3, .inl (cy 0, 8, .inl g3)), (b4, .inl (cy 0, 8, .inl g4)), (b5, .inl (cy 1, 8, .inl g5)), (mp, .inr (4, [.int 0, .ref ed, .int 0])), (mq, .inr (4, [.int 0, .ref ed, .int 0])), (od, .inl (cy 4, 1, .inr (.inr (.inr (.inl (fun _ => 0))))))]) (w1 := []) [0, 1, 20] [2, 3, 4, 5, 6, 7, 8, 9, 10, 11, 12, 13, 14, 15, 16, 17, 18, 19, 21] rfl rfl (by decide) (by decide) hP hD hk1 hFc hB ht
    have hP : va_P D vwCl [(a1, .inl (cy 0, 20, .inl (fun _ => 0))), (a2, .inl (cy 0, 20, .inl (fun _ => 0))), (ne, .inr (6, [.ref n1, .ref n2, .ref n3, .ref n4, .ref n5])), (n1, .inl (cy 0, 8, .inl (fun _ => 0))), (n2, .inl (cy 0, 8, .inl f2)), (n3, .inl (cy 0, 8, .inl f3)), (n4, .inl (cy 0, 8, .inl f4)), (n5, .inl (cy 1, 8, .inl f5)), (pa, .inr (4, [.int 0, .ref ed, .int 0])), (ro, .inl (cy 0, 20, .inl (fun _ => 0))), (m0, .inr (20, [.int 0, .ref mp, .int 0, .ref b1, .ref b2, .ref b3, .ref b4, .ref b5, .ref mq])), (b1, .inl (cy 0, 8, .inl (fun _ => 0))), (b2, .inl (cy 0, 8, .inl g2)), (b3, .inl (cy 0, 8, .inl g3)), (b4, .inl (cy 0, 8, .inl g4)), (b5, .inl (cy 1, 8, .inl g5)), (mp, .inr (4, [.int 0, .ref ed, .int 0])), (mq, .inr (4, [.int 0, .ref ed, .int 0])), (od, .inl (cy 4, 1, .inr (.inr (.inr (.inl (fun _ => 0))))))] H := hP
    have hD : va_D A [(a1, .inl (cy 0, 20, .inl (fun _ => 0))), (a2, .inl (cy 0, 20, .inl (fun _ => 0))), (ne, .inr (6, [.ref n1, .ref n2, .ref n3, .ref n4, .ref n5])), (n1, .inl (cy 0, 8, .inl (fun _ => 0))), (n2, .inl (cy 0, 8, .inl f2)), (n3, .inl (cy 0, 8, .inl f3)), (n4, .inl (cy 0, 8, .inl f4)), (n5, .inl (cy 1, 8, .inl f5)), (pa, .inr (4, [.int 0, .ref ed, .int 0])), (ro, .inl (cy 0, 20, .inl (fun _ => 0))), (m0, .inr (20, [.int 0, .ref mp, .int 0, .ref b1, .ref b2, .ref b3, .ref b4, .ref b5, .ref mq])), (b1, .inl (cy 0, 8, .inl (fun _ => 0))), (b2, .inl (cy 0, 8, .inl g2)), (b3, .inl (cy 0, 8, .inl g3)), (b4, .inl (cy 0, 8, .inl g4)), (b5, .inl (cy 1, 8, .inl g5)), (mp, .inr (4, [.int 0, .ref ed, .int 0])), (mq, .inr (4, [.int 0, .ref ed, .int 0])), (od, .inl (cy 4, 1, .inr (.inr (.inr (.inl (fun _ => 0))))))] := hD
    refine W.widen (k := 30) (n := 886) (Nat.le_of_ble_eq_true rfl) (Nat.le_of_ble_eq_true rfl) ?_
    refine lv_istore (lv' := [(6, .int 1), (5, .int 0), (4, .ref od), (3, .ref oa), (2, .ref m0), (1, .ref h), (0, .ref b)]) hx hb dL_law_460 hl (by decide) rfl (fun ls hl => ?_)
    refine lv_aload_n hx hb dL_law_462 rfl (lv_at hl 4 rfl) ?_
    refine lv_aload_n hx hb dL_law_463 rfl (lv_at hl 6 rfl) ?_
    refine lv_iload hx hb dL_law_464 (lv_at hl 1 rfl) ?_
    refine lv_iconst (v := 1) hx hb dL_law_466 (by decide) ?_
    refine lv_iadd hx hb dL_law_467 ?_
    refine lv_topi (fun y9 ey9 => ?_)
    obtain rfl : y9 = 1 := by rw [ey9] <;> decide
    refine va_sld hx hb hX hbl hbA hS (zx_bn (by decide)) dL_law_468 ?_
    refine lv_aload_n hx hb dL_law_469 rfl (lv_at hl 6 rfl) ?_
    refine lv_iload hx hb dL_law_470 (lv_at hl 1 rfl) ?_
    refine lv_iconst (v := 2) hx hb dL_law_472 (by decide) ?_
    refine lv_iadd hx hb dL_law_473 ?_
    refine lv_topi (fun y9 ey9 => ?_)
    obtain rfl : y9 = 2 := by rw [ey9] <;> decide
    refine va_sld hx hb hX hbl hbA hS (zx_bn (by decide)) dL_law_474 ?_
    have hPc := hP.sub (ws' := [(m0, .inr (20, [.int 0, .ref mp, .int 0, .ref b1, .ref b2, .ref b3, .ref b4, .ref b5, .ref mq])), (mp, .inr (4, [.int 0, .ref ed, .int 0])), (mq, .inr (4, [.int 0, .ref ed, .int 0]))]) [10, 16, 17] rfl
    have hDc := hD.sub (ws' := [(m0, .inr (20, [.int 0, .ref mp, .int 0, .ref b1, .ref b2, .ref b3, .ref b4, .ref b5, .ref mq])), (mp, .inr (4, [.int 0, .ref ed, .int 0])), (mq, .inr (4, [.int 0, .ref ed, .int 0]))]) [10, 16, 17] (by decide) rfl
    have hFc := va_free (wc := [(m0, .inr (20, [.int 0, .ref mp, .int 0, .ref b1, .ref b2, .ref b3, .ref b4, .ref b5, .ref mq])), (mp, .inr (4, [.int 0, .ref ed, .int 0])), (mq, .inr (4, [.int 0, .ref ed, .int 0]))]) hD hS hA [10, 16, 17] rfl
    refine va_calli (va_runV (As := [.int (xs (1 : Int32).toNatClampNeg), .int (xs (2 : Int32).toNatClampNeg)]) (rest := []) ⟨hx, hb, hml, hown, hts⟩ (c_X15_haveConflict l hst D cy ed H.size m0 mp mq b1 b2 b3 b4 b5 0 0 0 ed 0 ed (xs (1 : Int32).toNatClampNeg) (xs (2 : Int32).toNatClampNeg)) (cwV 2 hts (zx_GV mm_1727 mm_1728 mm_1729 mm_78 mm_1730) rfl rfl rfl (by decide +kernel) ⟨(Nat.le_of_ble_eq_true rfl), (Nat.le_of_ble_eq_true rfl)⟩) ⟨zx_blind, va_recv hK hPc (ci := 20) (q0 := 0) rfl rfl, zx_give hPc hK hDc hS hFc hZ hN⟩ rfl rfl hl.1 rfl (lv_room (Nat.le_of_ble_eq_true rfl)) dL_law_475 ⟨(Nat.le_of_ble_eq_true rfl), (Nat.le_of_ble_eq_true rfl)⟩) hS (fun q _ h => hFc q h) hFc (fun r9 u t H1 locs ht hvm hw hB hz1 hk1 hS => ?_)
    obtain ⟨r_565, rfl⟩ : ∃ z9, z9 = r9 := ⟨_, rfl⟩
    have h_566 := hw
    obtain ⟨hP, hD⟩ := zx_join (wr := [(a1, .inl (cy 0, 20, .inl (fun _ => 0))), (a2, .inl (cy 0, 20, .inl (fun _ => 0))), (ne, .inr (6, [.ref n1, .ref n2, .ref n3, .ref n4, .ref n5])), (n1, .inl (cy 0, 8, .inl (fun _ => 0))), (n2, .inl (cy 0, 8, .inl f2)), (n3, .inl (cy 0, 8, .inl f3)), (n4, .inl (cy 0, 8, .inl f4)), (n5, .inl (cy 1, 8, .inl f5)), (pa, .inr (4, [.int 0, .ref ed, .int 0])), (ro, .inl (cy 0, 20, .inl (fun _ => 0))), (b1, .inl (cy 0, 8, .inl (fun _ => 0))), (b2, .inl (cy 0, 8, .inl g2)), (b3, .inl (cy 0, 8, .inl g3)), (b4, .inl (cy 0, 8, .inl g4)), (b5, .inl (cy 1, 8, .inl g5)), (od, .inl (cy 4, 1, .inr (.inr (.inr (.inl (fun _ => 0))))))]) (w1 := [(m0, .inr (20, [.int 1, .ref mp, .int 0, .ref b1, .ref b2, .ref b3, .ref b4, .ref b5, .ref mq]))]) [10, 16, 17] [0, 1, 2, 3, 4, 5, 6, 7, 8, 9, 11, 12, 13, 14, 15, 18] rfl rfl (by decide) (by decide) hP hD hk1 hFc hB ht
    generalize H1 = H at hP hS ⊢
    have hP : va_P D vwCl [(a1, .inl (cy 0, 20, .inl (fun _ => 0))), (a2, .inl (cy 0, 20, .inl (fun _ => 0))), (ne, .inr (6, [.ref n1, .ref n2, .ref n3, .ref n4, .ref n5])), (n1, .inl (cy 0, 8, .inl (fun _ => 0))), (n2, .inl (cy 0, 8, .inl f2)), (n3, .inl (cy 0, 8, .inl f3)), (n4, .inl (cy 0, 8, .inl f4)), (n5, .inl (cy 1, 8, .inl f5)), (pa, .inr (4, [.int 0, .ref ed, .int 0])), (ro, .inl (cy 0, 20, .inl (fun _ => 0))), (b1, .inl (cy 0, 8, .inl (fun _ => 0))), (b2, .inl (cy 0, 8, .inl g2)), (b3, .inl (cy 0, 8, .inl g3)), (b4, .inl (cy 0, 8, .inl g4)), (b5, .inl (cy 1, 8, .inl g5)), (od, .inl (cy 4, 1, .inr (.inr (.inr (.inl (fun _ => 0)))))), (m0, .inr (20, [.int 1, .ref mp, .int 0, .ref b1, .ref b2, .ref b3, .ref b4, .ref b5, .ref mq]))] H := hP
    have hD : va_D A [(a1, .inl (cy 0, 20, .inl (fun _ => 0))), (a2, .inl (cy 0, 20, .inl (fun _ => 0))), (ne, .inr (6, [.ref n1, .ref n2, .ref n3, .ref n4, .ref n5])), (n1, .inl (cy 0, 8, .inl (fun _ => 0))), (n2, .inl (cy 0, 8, .inl f2)), (n3, .inl (cy 0, 8, .inl f3)), (n4, .inl (cy 0, 8, .inl f4)), (n5, .inl (cy 1, 8, .inl f5)), (pa, .inr (4, [.int 0, .ref ed, .int 0])), (ro, .inl (cy 0, 20, .inl (fun _ => 0))), (b1, .inl (cy 0, 8, .inl (fun _ => 0))), (b2, .inl (cy 0, 8, .inl g2)), (b3, .inl (cy 0, 8, .inl g3)), (b4, .inl (cy 0, 8, .inl g4)), (b5, .inl (cy 1, 8, .inl g5)), (od, .inl (cy 4, 1, .inr (.inr (.inr (.inl (fun _ => 0)))))), (m0, .inr (20, [.int 1, .ref mp, .int 0, .ref b1, .ref b2, .ref b3, .ref b4, .ref b5, .ref mq]))] := hD
    refine W.widen (k := 30) (n := 886) (Nat.le_of_ble_eq_true rfl) (Nat.le_of_ble_eq_true rfl) ?_
    refine lv_istore (lv' := [(7, .int r_565), (6, .int 1), (5, .int 0), (4, .ref od), (3, .ref oa), (2, .ref m0), (1, .ref h), (0, .ref b)]) hx hb dL_law_478 hl (by decide) rfl (fun ls hl => ?_)
    refine lv_aload_n hx hb dL_law_480 rfl (lv_at hl 5 rfl) ?_
    have hPc := hP.sub (ws' := [(m0, .inr (20, [.int 1, .ref mp, .int 0, .ref b1, .ref b2, .ref b3, .ref b4, .ref b5, .ref mq]))]) [16] rfl
    have hDc := hD.sub (ws' := [(m0, .inr (20, [.int 1, .ref mp, .int 0, .ref b1, .ref b2, .ref b3, .ref b4, .ref b5, .ref mq]))]) [16] (by decide) rfl
    have hFc := va_free (wc := [(m0, .inr (20, [.int 1, .ref mp, .int 0, .ref b1, .ref b2, .ref b3, .ref b4, .ref b5, .ref mq]))]) hD hS hA [16] rfl
    refine va_calli (va_runV (As := []) (rest := []) ⟨hx, hb, hml, hown, hts⟩ (c_X15_thrown l hst D cy ed H.size m0 mp mq b1 b2 b3 b4 b5 1 0) (cwV 0 hts (zx_GV mm_1599 mm_1600 mm_1601 mm_78 mm_1602) rfl rfl rfl (by decide +kernel) ⟨(Nat.le_of_ble_eq_true rfl), (Nat.le_of_ble_eq_true rfl)⟩) ⟨zx_blind, va_recv hK hPc (ci := 20) (q0 := 0) rfl rfl, zx_give hPc hK hDc hS hFc hZ hN⟩ rfl rfl hl.1 rfl (lv_room (Nat.le_of_ble_eq_true rfl)) dL_law_481 ⟨(Nat.le_of_ble_eq_true rfl), (Nat.le_of_ble_eq_true rfl)⟩) hS (fun q _ h => hFc q h) hFc (fun r9 u t H1 locs ht hvm hw hB hz1 hk1 hS => ?_)
    obtain rfl : r9 = 1 := hw
    obtain ⟨hP, hD⟩ := zx_join (wr := [(a1, .inl (cy 0, 20, .inl (fun _ => 0))), (a2, .inl (cy 0, 20, .inl (fun _ => 0))), (ne, .inr (6, [.ref n1, .ref n2, .ref n3, .ref n4, .ref n5])), (n1, .inl (cy 0, 8, .inl (fun _ => 0))), (n2, .inl (cy 0, 8, .inl f2)), (n3, .inl (cy 0, 8, .inl f3)), (n4, .inl (cy 0, 8, .inl f4)), (n5, .inl (cy 1, 8, .inl f5)), (pa, .inr (4, [.int 0, .ref ed, .int 0])), (ro, .inl (cy 0, 20, .inl (fun _ => 0))), (b1, .inl (cy 0, 8, .inl (fun _ => 0))), (b2, .inl (cy 0, 8, .inl g2)), (b3, .inl (cy 0, 8, .inl g3)), (b4, .inl (cy 0, 8, .inl g4)), (b5, .inl (cy 1, 8, .inl g5)), (od, .inl (cy 4, 1, .inr (.inr (.inr (.inl (fun _ => 0))))))]) (w1 := [(m0, .inr (20, [.int 1, .ref mp, .int 0, .ref b1, .ref b2, .ref b3, .ref b4, .ref b5, .ref mq]))]) [16] [0, 1, 2, 3, 4, 5, 6, 7, 8, 9, 10, 11, 12, 13, 14, 15] rfl rfl (by decide) (by decide) hP hD hk1 hFc hB ht
    generalize H1 = H at hP hS ⊢
    have hP : va_P D vwCl [(a1, .inl (cy 0, 20, .inl (fun _ => 0))), (a2, .inl (cy 0, 20, .inl (fun _ => 0))), (ne, .inr (6, [.ref n1, .ref n2, .ref n3, .ref n4, .ref n5])), (n1, .inl (cy 0, 8, .inl (fun _ => 0))), (n2, .inl (cy 0, 8, .inl f2)), (n3, .inl (cy 0, 8, .inl f3)), (n4, .inl (cy 0, 8, .inl f4)), (n5, .inl (cy 1, 8, .inl f5)), (pa, .inr (4, [.int 0, .ref ed, .int 0])), (ro, .inl (cy 0, 20, .inl (fun _ => 0))), (b1, .inl (cy 0, 8, .inl (fun _ => 0))), (b2, .inl (cy 0, 8, .inl g2)), (b3, .inl (cy 0, 8, .inl g3)), (b4, .inl (cy 0, 8, .inl g4)), (b5, .inl (cy 1, 8, .inl g5)), (od, .inl (cy 4, 1, .inr (.inr (.inr (.inl (fun _ => 0)))))), (m0, .inr (20, [.int 1, .ref mp, .int 0, .ref b1, .ref b2, .ref b3, .ref b4, .ref b5, .ref mq]))] H := hP
    have hD : va_D A [(a1, .inl (cy 0, 20, .inl (fun _ => 0))), (a2, .inl (cy 0, 20, .inl (fun _ => 0))), (ne, .inr (6, [.ref n1, .ref n2, .ref n3, .ref n4, .ref n5])), (n1, .inl (cy 0, 8, .inl (fun _ => 0))), (n2, .inl (cy 0, 8, .inl f2)), (n3, .inl (cy 0, 8, .inl f3)), (n4, .inl (cy 0, 8, .inl f4)), (n5, .inl (cy 1, 8, .inl f5)), (pa, .inr (4, [.int 0, .ref ed, .int 0])), (ro, .inl (cy 0, 20, .inl (fun _ => 0))), (b1, .inl (cy 0, 8, .inl (fun _ => 0))), (b2, .inl (cy 0, 8, .inl g2)), (b3, .inl (cy 0, 8, .inl g3)), (b4, .inl (cy 0, 8, .inl g4)), (b5, .inl (cy 1, 8, .inl g5)), (od, .inl (cy 4, 1, .inr (.inr (.inr (.inl (fun _ => 0)))))), (m0, .inr (20, [.int 1, .ref mp, .int 0, .ref b1, .ref b2, .ref b3, .ref b4, .ref b5, .ref mq]))] := hD
    refine W.widen (k := 30) (n := 886) (Nat.le_of_ble_eq_true rfl) (Nat.le_of_ble_eq_true rfl) ?_
    refine lv_iload hx hb dL_law_484 (lv_at hl 1 rfl) ?_
    refine lv_icmp_eq (tgt := 491) hx hb dL_law_486 (by decide) (fun _ => ?_) (fun c_567 => absurd (by decide) c_567)
    refine lv_iload hx hb dL_law_491 (lv_at hl 1 rfl) ?_
    refine lv_if_ne (tgt := 515) hx hb dL_law_493 (by decide) (fun _ => ?_) (fun c_568 => absurd c_568 (by decide))
    refine lv_goto (tgt := 4257) hx hb dL_law_515 (by decide) ?_
    refine W.widen (k := 60) (n := 1200) (Nat.le_of_ble_eq_true rfl) (Nat.le_of_ble_eq_true rfl) ?_
    exact hend _ _ _ hS (lv_sub hl [7, 2] rfl)
set_option maxHeartbeats 4000000 in
set_option maxRecDepth 100000 in
theorem law_case_3 {p : Program} {l : Launch} {e : Env} {s : State} {m : MethodId} {below : List Frame} {meth : Method} {c : Code} {D : va_G} {cy : Nat → ClassId} {ed b : Nat} {xs : Nat → Int32} {A : Nat → Prop} {Q : State → Prop} (C0 : zx_LW p l s m c D cy ed b xs A)
    {h pe ne pa ro a1 a2 a3 a4 a5 a6 a7 a8 a9 n1 n2 n3 n4 n5 m0 mp b1 b2 b3 b4 b5 mq oa od : Nat} {f2 f3 f4 f5 g2 g3 g4 g5 : Nat → Int32} (hf5 : ∀ j, j < 8 → f5 j = 115) (hg5 : ∀ j, j < 8 → g5 j = 115) {H : Heap} {locs : List Loc} {ls : Array Slot}
    (hP : va_P D vwCl [(h, .inr (13, [.ref pe, .ref ne, .ref pa, .ref ro, .int 0])), (pe, .inr (9, [.int 0, .ref a1, .ref a2, .ref a3, .ref a4, .ref a5, .ref a6, .ref a7, .ref a8, .ref a9])), (a1, .inl (cy 0, 20, .inl (fun _ => 0))), (a2, .inl (cy 0, 20, .inl (fun _ => 0))), (ne, .inr (6, [.ref n1, .ref n2, .ref n3, .ref n4, .ref n5])), (n1, .inl (cy 0, 8, .inl (fun _ => 0))), (n2, .inl (cy 0, 8, .inl f2)), (n3, .inl (cy 0, 8, .inl f3)), (n4, .inl (cy 0, 8, .inl f4)), (n5, .inl (cy 1, 8, .inl f5)), (pa, .inr (4, [.int 0, .ref ed, .int 0])), (ro, .inl (cy 0, 20, .inl (fun _ => 0))), (m0, .inr (20, [.int 0, .ref mp, .int 0, .ref b1, .ref b2, .ref b3, .ref b4, .ref b5, .ref mq])), (b1, .inl (cy 0, 8, .inl (fun _ => 0))), (b2, .inl (cy 0, 8, .inl g2)), (b3, .inl (cy 0, 8, .inl g3)), (b4, .inl (cy 0, 8, .inl g4)), (b5, .inl (cy 1, 8, .inl g5)), (mp, .inr (4, [.int 0, .ref ed, .int 0])), (mq, .inr (4, [.int 0, .ref ed, .int 0])), (oa, .inl (cy 3, 1, .inr (.inl (fun _ => 0)))), (od, .inl (cy 4, 1, .inr (.inr (.inr (.inl (fun _ => 0))))))] H) (hD : va_D A [(h, .inr (13, [.ref pe, .ref ne, .ref pa, .ref ro, .int 0])), (pe, .inr (9, [.int 0, .ref a1, .ref a2, .ref a3, .ref a4, .ref a5, .ref a6, .ref a7, .ref a8, .ref a9])), (a1, .inl (cy 0, 20, .inl (fun _ => 0))), (a2, .inl (cy 0, 20, .inl (fun _ => 0))), (ne, .inr (6, [.ref n1, .ref n2, .ref n3, .ref n4, .ref n5])), (n1, .inl (cy 0, 8, .inl (fun _ => 0))), (n2, .inl (cy 0, 8, .inl f2)), (n3, .inl (cy 0, 8, .inl f3)), (n4, .inl (cy 0, 8, .inl f4)), (n5, .inl (cy 1, 8, .inl f5)), (pa, .inr (4, [.int 0, .ref ed, .int 0])), (ro, .inl (cy 0, 20, .inl (fun _ => 0))), (m0, .inr (20, [.int 0, .ref mp, .int 0, .ref b1, .ref b2, .ref b3, .ref b4, .ref b5, .ref mq])), (b1, .inl (cy 0, 8, .inl (fun _ => 0))), (b2, .inl (cy 0, 8, .inl g2)), (b3, .inl (cy 0, 8, .inl g3)), (b4, .inl (cy 0, 8, .inl g4)), (b5, .inl (cy 1, 8, .inl g5)), (mp, .inr (4, [.int 0, .ref ed, .int 0])), (mq, .inr (4, [.int 0, .ref ed, .int 0])), (oa, .inl (cy 3, 1, .inr (.inl (fun _ => 0)))), (od, .inl (cy 4, 1, .inr (.inr (.inr (.inl (fun _ => 0))))))]) (hS : va_S A s.heap H locs) (hl : lv_has ls 9 [(5, .int 0), (4, .ref od), (3, .ref oa), (2, .ref m0), (1, .ref h), (0, .ref b)])
    (hend : ∀ (H : Heap) (locs : List Loc) (ls : Array Slot), va_S A s.heap H locs → lv_has ls 9 [(0, .ref b), (5, .int 0)] → W p l e room_1 s m #[Value.ref b] below meth c H locs 60 1200 Q (F0 m 4257 ls [])) :
    W p l e room_1 s m #[Value.ref b] below meth c H locs 29 880 Q (F0 m 518 ls []) := by
  obtain ⟨hx, hb, hml, hst, hown, hts, hX, hbl, hbA, hA, hK, hZ, hN⟩ := C0
  refine lv_aload_n hx hb dL_law_518 rfl (lv_at hl 4 rfl) ?_
  refine lv_aload_n hx hb dL_law_519 rfl (lv_at hl 5 rfl) ?_
  refine lv_iload hx hb dL_law_520 (lv_at hl 0 rfl) ?_
  refine lv_iconst (v := 1) hx hb dL_law_522 (by decide) ?_
  refine lv_iadd hx hb dL_law_523 ?_
  refine lv_topi (fun y9 ey9 => ?_)
  obtain rfl : y9 = 1 := by rw [ey9] <;> decide
  refine va_sld hx hb hX hbl hbA hS (zx_bn (by decide)) dL_law_524 ?_
  refine lv_aload_n hx hb dL_law_525 rfl (lv_at hl 5 rfl) ?_
  refine lv_iload hx hb dL_law_526 (lv_at hl 0 rfl) ?_
  refine lv_iconst (v := 2) hx hb dL_law_528 (by decide) ?_
  refine lv_iadd hx hb dL_law_529 ?_
  refine lv_topi (fun y9 ey9 => ?_)
  obtain rfl : y9 = 2 := by rw [ey9] <;> decide
  refine va_sld hx hb hX hbl hbA hS (zx_bn (by decide)) dL_law_530 ?_
  refine lv_aload_n hx hb dL_law_531 rfl (lv_at hl 2 rfl) ?_
  have hPc := hP.sub (ws' := [(h, .inr (13, [.ref pe, .ref ne, .ref pa, .ref ro, .int 0])), (pe, .inr (9, [.int 0, .ref a1, .ref a2, .ref a3, .ref a4, .ref a5, .ref a6, .ref a7, .ref a8, .ref a9])), (oa, .inl (cy 3, 1, .inr (.inl (fun _ => 0))))]) [0, 1, 20] rfl
  have hDc := hD.sub (ws' := [(h, .inr (13, [.ref pe, .ref ne, .ref pa, .ref ro, .int 0])), (pe, .inr (9, [.int 0, .ref a1, .ref a2, .ref a3, .ref a4, .ref a5, .ref a6, .ref a7, .ref a8, .ref a9])), (oa, .inl (cy 3, 1, .inr (.inl (fun _ => 0))))]) [0, 1, 20] (by decide) rfl
  have hFc := va_free (wc := [(h, .inr (13, [.ref pe, .ref ne, .ref pa, .ref ro, .int 0])), (pe, .inr (9, [.int 0, .ref a1, .ref a2, .ref a3, .ref a4, .ref a5, .ref a6, .ref a7, .ref a8, .ref a9])), (oa, .inl (cy 3, 1, .inr (.inl (fun _ => 0))))]) hD hS hA [0, 1, 20] rfl
  refine vx_calli (vx_runSX (As := [.ref h, .int (xs (1 : Int32).toNatClampNeg), .int (xs (2 : Int32).toNatClampNeg), .ref oa]) (rest := []) ⟨hx, hb, hml, hown, hts⟩ (c_L_sendAway l hst D cy ed H.size h pe ne pa ro 0 a1 a2 a3 a4 a5 a6 a7 a8 a9 oa (fun _ => 0) (xs (1 : Int32).toNatClampNeg) (xs (2 : Int32).toNatClampNeg)) (vx_cwSW 4 hts (zx_GS mm_515 mm_516 mm_70 mm_517) rfl rfl rfl (by decide +kernel) ⟨(Nat.le_of_ble_eq_true rfl), (Nat.le_of_ble_eq_true rfl)⟩) ⟨zx_blind, zx_give hPc hK hDc hS hFc hZ hN⟩ rfl rfl hl.1 rfl (lv_room (Nat.le_of_ble_eq_true rfl)) dL_law_532 ⟨(Nat.le_of_ble_eq_true rfl), (Nat.le_of_ble_eq_true rfl)⟩) hS (fun q _ h => hFc q h) hFc (fun q _ h => hFc q h) (fun E9 ce9 q9 _ t H locs ht hvm _ hBX hz1 hk1 hS hce hcv hcl => ?_) (fun r9 u t H locs ht hvm hw hB hz1 hk1 hS => ?_)
  · exact hBX.elim
  ·
    obtain rfl : r9 = 1 := hw
    obtain ⟨hP, hD⟩ := zx_join (wr := [(a1, .inl (cy 0, 20, .inl (fun _ => 0))), (a2, .inl (cy 0, 20, .inl (fun _ => 0))), (ne, .inr (6, [.ref n1, .ref n2, .ref n3, .ref n4, .ref n5])), (n1, .inl (cy 0, 8, .inl (fun _ => 0))), (n2, .inl (cy 0, 8, .inl f2)), (n3, .inl (cy 0, 8, .inl f3)), (n4, .inl (cy 0, 8, .inl f4)), (n5, .inl (cy 1, 8, .inl f5)), (pa, .inr (4, [.int 0, .ref ed, .int 0])), (ro, .inl (cy 0, 20, .inl (fun _ => 0))), (m0, .inr (20, [.int 0, .ref mp, .int 0, .ref b1, .ref b2, .ref b3, .ref b4, .ref b5, .ref mq])), (b1, .inl (cy 0, 8, .inl (fun _ => 0))), (b2, .inl (cy 0, 8, .inl g2)), (b3, .inl (cy 0, 8, .inl g3)), (b4, .inl (cy 0, 8, .inl g4)), (b5, .inl (cy 1, 8, .inl g5)), (mp, .inr (4, [.int 0, .ref ed, .int 0])), (mq, .inr (4, [.int 0, .ref ed, .int 0])), (od, .inl (cy 4, 1, .inr (.inr (.inr (.inl (fun _ => 0))))))]) (w1 := []) [0, 1, 20] [2, 3, 4, 5, 6, 7, 8, 9, 10, 11, 12, 13, 14, 15, 16, 17, 18, 19, 21] rfl rfl (by decide) (by decide) hP hD hk1 hFc hB ht
    have hP : va_P D vwCl [(a1, .inl (cy 0, 20, .inl (fun _ => 0))), (a2, .inl (cy 0, 20, .inl (fun _ => 0))), (ne, .inr (6, [.ref n1, .ref n2, .ref n3, .ref n4, .ref n5])), (n1, .inl (cy 0, 8, .inl (fun _ => 0))), (n2, .inl (cy 0, 8, .inl f2)), (n3, .inl (cy 0, 8, .inl f3)), (n4, .inl (cy 0, 8, .inl f4)), (n5, .inl (cy 1, 8, .inl f5)), (pa, .inr (4, [.int 0, .ref ed, .int 0])), (ro, .inl (cy 0, 20, .inl (fun _ => 0))), (m0, .inr (20, [.int 0, .ref mp, .int 0, .ref b1, .ref b2, .ref b3, .ref b4, .ref b5, .ref mq])), (b1, .inl (cy 0, 8, .inl (fun _ => 0))), (b2, .inl (cy 0, 8, .inl g2)), (b3, .inl (cy 0, 8, .inl g3)), (b4, .inl (cy 0, 8, .inl g4)), (b5, .inl (cy 1, 8, .inl g5)), (mp, .inr (4, [.int 0, .ref ed, .int 0])), (mq, .inr (4, [.int 0, .ref ed, .int 0])), (od, .inl (cy 4, 1, .inr (.inr (.inr (.inl (fun _ => 0))))))] H := hP
    have hD : va_D A [(a1, .inl (cy 0, 20, .inl (fun _ => 0))), (a2, .inl (cy 0, 20, .inl (fun _ => 0))), (ne, .inr (6, [.ref n1, .ref n2, .ref n3, .ref n4, .ref n5])), (n1, .inl (cy 0, 8, .inl (fun _ => 0))), (n2, .inl (cy 0, 8, .inl f2)), (n3, .inl (cy 0, 8, .inl f3)), (n4, .inl (cy 0, 8, .inl f4)), (n5, .inl (cy 1, 8, .inl f5)), (pa, .inr (4, [.int 0, .ref ed, .int 0])), (ro, .inl (cy 0, 20, .inl (fun _ => 0))), (m0, .inr (20, [.int 0, .ref mp, .int 0, .ref b1, .ref b2, .ref b3, .ref b4, .ref b5, .ref mq])), (b1, .inl (cy 0, 8, .inl (fun _ => 0))), (b2, .inl (cy 0, 8, .inl g2)), (b3, .inl (cy 0, 8, .inl g3)), (b4, .inl (cy 0, 8, .inl g4)), (b5, .inl (cy 1, 8, .inl g5)), (mp, .inr (4, [.int 0, .ref ed, .int 0])), (mq, .inr (4, [.int 0, .ref ed, .int 0])), (od, .inl (cy 4, 1, .inr (.inr (.inr (.inl (fun _ => 0))))))] := hD
    refine W.widen (k := 30) (n := 886) (Nat.le_of_ble_eq_true rfl) (Nat.le_of_ble_eq_true rfl) ?_
    refine lv_istore (lv' := [(6, .int 1), (5, .int 0), (4, .ref od), (3, .ref oa), (2, .ref m0), (1, .ref h), (0, .ref b)]) hx hb dL_law_535 hl (by decide) rfl (fun ls hl => ?_)
    refine lv_aload_n hx hb dL_law_537 rfl (lv_at hl 4 rfl) ?_
    refine lv_aload_n hx hb dL_law_538 rfl (lv_at hl 6 rfl) ?_
    refine lv_iload hx hb dL_law_539 (lv_at hl 1 rfl) ?_
    refine lv_iconst (v := 1) hx hb dL_law_541 (by decide) ?_
    refine lv_iadd hx hb dL_law_542 ?_
    refine lv_topi (fun y9 ey9 => ?_)
    obtain rfl : y9 = 1 := by rw [ey9] <;> decide
    refine va_sld hx hb hX hbl hbA hS (zx_bn (by decide)) dL_law_543 ?_
    refine lv_aload_n hx hb dL_law_544 rfl (lv_at hl 6 rfl) ?_
    refine lv_iload hx hb dL_law_545 (lv_at hl 1 rfl) ?_
    refine lv_iconst (v := 2) hx hb dL_law_547 (by decide) ?_
    refine lv_iadd hx hb dL_law_548 ?_
    refine lv_topi (fun y9 ey9 => ?_)
    obtain rfl : y9 = 2 := by rw [ey9] <;> decide
    refine va_sld hx hb hX hbl hbA hS (zx_bn (by decide)) dL_law_549 ?_
    have hPc := hP.sub (ws' := [(m0, .inr (20, [.int 0, .ref mp, .int 0, .ref b1, .ref b2, .ref b3, .ref b4, .ref b5, .ref mq])), (mp, .inr (4, [.int 0, .ref ed, .int 0])), (mq, .inr (4, [.int 0, .ref ed, .int 0]))]) [10, 16, 17] rfl
    have hDc := hD.sub (ws' := [(m0, .inr (20, [.int 0, .ref mp, .int 0, .ref b1, .ref b2, .ref b3, .ref b4, .ref b5, .ref mq])), (mp, .inr (4, [.int 0, .ref ed, .int 0])), (mq, .inr (4, [.int 0, .ref ed, .int 0]))]) [10, 16, 17] (by decide) rfl
    have hFc := va_free (wc := [(m0, .inr (20, [.int 0, .ref mp, .int 0, .ref b1, .ref b2, .ref b3, .ref b4, .ref b5, .ref mq])), (mp, .inr (4, [.int 0, .ref ed, .int 0])), (mq, .inr (4, [.int 0, .ref ed, .int 0]))]) hD hS hA [10, 16, 17] rfl
    refine va_calli (va_runV (As := [.int (xs (1 : Int32).toNatClampNeg), .int (xs (2 : Int32).toNatClampNeg)]) (rest := []) ⟨hx, hb, hml, hown, hts⟩ (c_X15_sendAway l hst D cy ed H.size m0 mp mq b1 b2 b3 b4 b5 0 0 0 ed 0 ed (xs (1 : Int32).toNatClampNeg) (xs (2 : Int32).toNatClampNeg)) (cwV 2 hts (zx_GV mm_1731 mm_1732 mm_1733 mm_78 mm_1734) rfl rfl rfl (by decide +kernel) ⟨(Nat.le_of_ble_eq_true rfl), (Nat.le_of_ble_eq_true rfl)⟩) ⟨zx_blind, va_recv hK hPc (ci := 20) (q0 := 0) rfl rfl, zx_give hPc hK hDc hS hFc hZ hN⟩ rfl rfl hl.1 rfl (lv_room (Nat.le_of_ble_eq_true rfl)) dL_law_550 ⟨(Nat.le_of_ble_eq_true rfl), (Nat.le_of_ble_eq_true rfl)⟩) hS (fun q _ h => hFc q h) hFc (fun r9 u t H1 locs ht hvm hw hB hz1 hk1 hS => ?_)
    obtain ⟨r_569, rfl⟩ : ∃ z9, z9 = r9 := ⟨_, rfl⟩
    have h_570 := hw
    obtain ⟨hP, hD⟩ := zx_join (wr := [(a1, .inl (cy 0, 20, .inl (fun _ => 0))), (a2, .inl (cy 0, 20, .inl (fun _ => 0))), (ne, .inr (6, [.ref n1, .ref n2, .ref n3, .ref n4, .ref n5])), (n1, .inl (cy 0, 8, .inl (fun _ => 0))), (n2, .inl (cy 0, 8, .inl f2)), (n3, .inl (cy 0, 8, .inl f3)), (n4, .inl (cy 0, 8, .inl f4)), (n5, .inl (cy 1, 8, .inl f5)), (pa, .inr (4, [.int 0, .ref ed, .int 0])), (ro, .inl (cy 0, 20, .inl (fun _ => 0))), (b1, .inl (cy 0, 8, .inl (fun _ => 0))), (b2, .inl (cy 0, 8, .inl g2)), (b3, .inl (cy 0, 8, .inl g3)), (b4, .inl (cy 0, 8, .inl g4)), (b5, .inl (cy 1, 8, .inl g5)), (od, .inl (cy 4, 1, .inr (.inr (.inr (.inl (fun _ => 0))))))]) (w1 := [(m0, .inr (20, [.int 1, .ref mp, .int 0, .ref b1, .ref b2, .ref b3, .ref b4, .ref b5, .ref mq]))]) [10, 16, 17] [0, 1, 2, 3, 4, 5, 6, 7, 8, 9, 11, 12, 13, 14, 15, 18] rfl rfl (by decide) (by decide) hP hD hk1 hFc hB ht
    generalize H1 = H at hP hS ⊢
    have hP : va_P D vwCl [(a1, .inl (cy 0, 20, .inl (fun _ => 0))), (a2, .inl (cy 0, 20, .inl (fun _ => 0))), (ne, .inr (6, [.ref n1, .ref n2, .ref n3, .ref n4, .ref n5])), (n1, .inl (cy 0, 8, .inl (fun _ => 0))), (n2, .inl (cy 0, 8, .inl f2)), (n3, .inl (cy 0, 8, .inl f3)), (n4, .inl (cy 0, 8, .inl f4)), (n5, .inl (cy 1, 8, .inl f5)), (pa, .inr (4, [.int 0, .ref ed, .int 0])), (ro, .inl (cy 0, 20, .inl (fun _ => 0))), (b1, .inl (cy 0, 8, .inl (fun _ => 0))), (b2, .inl (cy 0, 8, .inl g2)), (b3, .inl (cy 0, 8, .inl g3)), (b4, .inl (cy 0, 8, .inl g4)), (b5, .inl (cy 1, 8, .inl g5)), (od, .inl (cy 4, 1, .inr (.inr (.inr (.inl (fun _ => 0)))))), (m0, .inr (20, [.int 1, .ref mp, .int 0, .ref b1, .ref b2, .ref b3, .ref b4, .ref b5, .ref mq]))] H := hP
    have hD : va_D A [(a1, .inl (cy 0, 20, .inl (fun _ => 0))), (a2, .inl (cy 0, 20, .inl (fun _ => 0))), (ne, .inr (6, [.ref n1, .ref n2, .ref n3, .ref n4, .ref n5])), (n1, .inl (cy 0, 8, .inl (fun _ => 0))), (n2, .inl (cy 0, 8, .inl f2)), (n3, .inl (cy 0, 8, .inl f3)), (n4, .inl (cy 0, 8, .inl f4)), (n5, .inl (cy 1, 8, .inl f5)), (pa, .inr (4, [.int 0, .ref ed, .int 0])), (ro, .inl (cy 0, 20, .inl (fun _ => 0))), (b1, .inl (cy 0, 8, .inl (fun _ => 0))), (b2, .inl (cy 0, 8, .inl g2)), (b3, .inl (cy 0, 8, .inl g3)), (b4, .inl (cy 0, 8, .inl g4)), (b5, .inl (cy 1, 8, .inl g5)), (od, .inl (cy 4, 1, .inr (.inr (.inr (.inl (fun _ => 0)))))), (m0, .inr (20, [.int 1, .ref mp, .int 0, .ref b1, .ref b2, .ref b3, .ref b4, .ref b5, .ref mq]))] := hD
    refine W.widen (k := 30) (n := 886) (Nat.le_of_ble_eq_true rfl) (Nat.le_of_ble_eq_true rfl) ?_
    refine lv_istore (lv' := [(7, .int r_569), (6, .int 1), (5, .int 0), (4, .ref od), (3, .ref oa), (2, .ref m0), (1, .ref h), (0, .ref b)]) hx hb dL_law_553 hl (by decide) rfl (fun ls hl => ?_)
    refine lv_aload_n hx hb dL_law_555 rfl (lv_at hl 5 rfl) ?_
    have hPc := hP.sub (ws' := [(m0, .inr (20, [.int 1, .ref mp, .int 0, .ref b1, .ref b2, .ref b3, .ref b4, .ref b5, .ref mq]))]) [16] rfl
    have hDc := hD.sub (ws' := [(m0, .inr (20, [.int 1, .ref mp, .int 0, .ref b1, .ref b2, .ref b3, .ref b4, .ref b5, .ref mq]))]) [16] (by decide) rfl
    have hFc := va_free (wc := [(m0, .inr (20, [.int 1, .ref mp, .int 0, .ref b1, .ref b2, .ref b3, .ref b4, .ref b5, .ref mq]))]) hD hS hA [16] rfl
    refine va_calli (va_runV (As := []) (rest := []) ⟨hx, hb, hml, hown, hts⟩ (c_X15_thrown l hst D cy ed H.size m0 mp mq b1 b2 b3 b4 b5 1 0) (cwV 0 hts (zx_GV mm_1599 mm_1600 mm_1601 mm_78 mm_1602) rfl rfl rfl (by decide +kernel) ⟨(Nat.le_of_ble_eq_true rfl), (Nat.le_of_ble_eq_true rfl)⟩) ⟨zx_blind, va_recv hK hPc (ci := 20) (q0 := 0) rfl rfl, zx_give hPc hK hDc hS hFc hZ hN⟩ rfl rfl hl.1 rfl (lv_room (Nat.le_of_ble_eq_true rfl)) dL_law_556 ⟨(Nat.le_of_ble_eq_true rfl), (Nat.le_of_ble_eq_true rfl)⟩) hS (fun q _ h => hFc q h) hFc (fun r9 u t H1 locs ht hvm hw hB hz1 hk1 hS => ?_)
    obtain rfl : r9 = 1 := hw
    obtain ⟨hP, hD⟩ := zx_join (wr := [(a1, .inl (cy 0, 20, .inl (fun _ => 0))), (a2, .inl (cy 0, 20, .inl (fun _ => 0))), (ne, .inr (6, [.ref n1, .ref n2, .ref n3, .ref n4, .ref n5])), (n1, .inl (cy 0, 8, .inl (fun _ => 0))), (n2, .inl (cy 0, 8, .inl f2)), (n3, .inl (cy 0, 8, .inl f3)), (n4, .inl (cy 0, 8, .inl f4)), (n5, .inl (cy 1, 8, .inl f5)), (pa, .inr (4, [.int 0, .ref ed, .int 0])), (ro, .inl (cy 0, 20, .inl (fun _ => 0))), (b1, .inl (cy 0, 8, .inl (fun _ => 0))), (b2, .inl (cy 0, 8, .inl g2)), (b3, .inl (cy 0, 8, .inl g3)), (b4, .inl (cy 0, 8, .inl g4)), (b5, .inl (cy 1, 8, .inl g5)), (od, .inl (cy 4, 1, .inr (.inr (.inr (.inl (fun _ => 0))))))]) (w1 := [(m0, .inr (20, [.int 1, .ref mp, .int 0, .ref b1, .ref b2, .ref b3, .ref b4, .ref b5, .ref mq]))]) [16] [0, 1, 2, 3, 4, 5, 6, 7, 8, 9, 10, 11, 12, 13, 14, 15] rfl rfl (by decide) (by decide) hP hD hk1 hFc hB ht
    generalize H1 = H at hP hS ⊢
    have hP : va_P D vwCl [(a1, .inl (cy 0, 20, .inl (fun _ => 0))), (a2, .inl (cy 0, 20, .inl (fun _ => 0))), (ne, .inr (6, [.ref n1, .ref n2, .ref n3, .ref n4, .ref n5])), (n1, .inl (cy 0, 8, .inl (fun _ => 0))), (n2, .inl (cy 0, 8, .inl f2)), (n3, .inl (cy 0, 8, .inl f3)), (n4, .inl (cy 0, 8, .inl f4)), (n5, .inl (cy 1, 8, .inl f5)), (pa, .inr (4, [.int 0, .ref ed, .int 0])), (ro, .inl (cy 0, 20, .inl (fun _ => 0))), (b1, .inl (cy 0, 8, .inl (fun _ => 0))), (b2, .inl (cy 0, 8, .inl g2)), (b3, .inl (cy 0, 8, .inl g3)), (b4, .inl (cy 0, 8, .inl g4)), (b5, .inl (cy 1, 8, .inl g5)), (od, .inl (cy 4, 1, .inr (.inr (.inr (.inl (fun _ => 0)))))), (m0, .inr (20, [.int 1, .ref mp, .int 0, .ref b1, .ref b2, .ref b3, .ref b4, .ref b5, .ref mq]))] H := hP
    have hD : va_D A [(a1, .inl (cy 0, 20, .inl (fun _ => 0))), (a2, .inl (cy 0, 20, .inl (fun _ => 0))), (ne, .inr (6, [.ref n1, .ref n2, .ref n3, .ref n4, .ref n5])), (n1, .inl (cy 0, 8, .inl (fun _ => 0))), (n2, .inl (cy 0, 8, .inl f2)), (n3, .inl (cy 0, 8, .inl f3)), (n4, .inl (cy 0, 8, .inl f4)), (n5, .inl (cy 1, 8, .inl f5)), (pa, .inr (4, [.int 0, .ref ed, .int 0])), (ro, .inl (cy 0, 20, .inl (fun _ => 0))), (b1, .inl (cy 0, 8, .inl (fun _ => 0))), (b2, .inl (cy 0, 8, .inl g2)), (b3, .inl (cy 0, 8, .inl g3)), (b4, .inl (cy 0, 8, .inl g4)), (b5, .inl (cy 1, 8, .inl g5)), (od, .inl (cy 4, 1, .inr (.inr (.inr (.inl (fun _ => 0)))))), (m0, .inr (20, [.int 1, .ref mp, .int 0, .ref b1, .ref b2, .ref b3, .ref b4, .ref b5, .ref mq]))] := hD
    refine W.widen (k := 30) (n := 886) (Nat.le_of_ble_eq_true rfl) (Nat.le_of_ble_eq_true rfl) ?_
    refine lv_iload hx hb dL_law_559 (lv_at hl 1 rfl) ?_
    refine lv_icmp_eq (tgt := 566) hx hb dL_law_561 (by decide) (fun _ => ?_) (fun c_571 => absurd (by decide) c_571)
    refine lv_iload hx hb dL_law_566 (lv_at hl 1 rfl) ?_
    refine lv_if_ne (tgt := 583) hx hb dL_law_568 (by decide) (fun _ => ?_) (fun c_572 => absurd c_572 (by decide))
    refine lv_goto (tgt := 4257) hx hb dL_law_583 (by decide) ?_
    refine W.widen (k := 60) (n := 1200) (Nat.le_of_ble_eq_true rfl) (Nat.le_of_ble_eq_true rfl) ?_
    exact hend _ _ _ hS (lv_sub hl [7, 2] rfl)
set_option maxHeartbeats 4000000 in
set_option maxRecDepth 100000 in
theorem law_case_4 {p : Program} {l : Launch} {e : Env} {s : State} {m : MethodId} {below : List Frame} {meth : Method} {c : Code} {D : va_G} {cy : Nat → ClassId} {ed b : Nat} {xs : Nat → Int32} {A : Nat → Prop} {Q : State → Prop} (C0 : zx_LW p l s m c D cy ed b xs A)
    {h pe ne pa ro a1 a2 a3 a4 a5 a6 a7 a8 a9 n1 n2 n3 n4 n5 m0 mp b1 b2 b3 b4 b5 mq oa od : Nat} {f2 f3 f4 f5 g2 g3 g4 g5 : Nat → Int32} (hf5 : ∀ j, j < 8 → f5 j = 115) (hg5 : ∀ j, j < 8 → g5 j = 115) {H : Heap} {locs : List Loc} {ls : Array Slot}
    (hP : va_P D vwCl [(h, .inr (13, [.ref pe, .ref ne, .ref pa, .ref ro, .int 0])), (pe, .inr (9, [.int 0, .ref a1, .ref a2, .ref a3, .ref a4, .ref a5, .ref a6, .ref a7, .ref a8, .ref a9])), (a1, .inl (cy 0, 20, .inl (fun _ => 0))), (a2, .inl (cy 0, 20, .inl (fun _ => 0))), (ne, .inr (6, [.ref n1, .ref n2, .ref n3, .ref n4, .ref n5])), (n1, .inl (cy 0, 8, .inl (fun _ => 0))), (n2, .inl (cy 0, 8, .inl f2)), (n3, .inl (cy 0, 8, .inl f3)), (n4, .inl (cy 0, 8, .inl f4)), (n5, .inl (cy 1, 8, .inl f5)), (pa, .inr (4, [.int 0, .ref ed, .int 0])), (ro, .inl (cy 0, 20, .inl (fun _ => 0))), (m0, .inr (20, [.int 0, .ref mp, .int 0, .ref b1, .ref b2, .ref b3, .ref b4, .ref b5, .ref mq])), (b1, .inl (cy 0, 8, .inl (fun _ => 0))), (b2, .inl (cy 0, 8, .inl g2)), (b3, .inl (cy 0, 8, .inl g3)), (b4, .inl (cy 0, 8, .inl g4)), (b5, .inl (cy 1, 8, .inl g5)), (mp, .inr (4, [.int 0, .ref ed, .int 0])), (mq, .inr (4, [.int 0, .ref ed, .int 0])), (oa, .inl (cy 3, 1, .inr (.inl (fun _ => 0)))), (od, .inl (cy 4, 1, .inr (.inr (.inr (.inl (fun _ => 0))))))] H) (hD : va_D A [(h, .inr (13, [.ref pe, .ref ne, .ref pa, .ref ro, .int 0])), (pe, .inr (9, [.int 0, .ref a1, .ref a2, .ref a3, .ref a4, .ref a5, .ref a6, .ref a7, .ref a8, .ref a9])), (a1, .inl (cy 0, 20, .inl (fun _ => 0))), (a2, .inl (cy 0, 20, .inl (fun _ => 0))), (ne, .inr (6, [.ref n1, .ref n2, .ref n3, .ref n4, .ref n5])), (n1, .inl (cy 0, 8, .inl (fun _ => 0))), (n2, .inl (cy 0, 8, .inl f2)), (n3, .inl (cy 0, 8, .inl f3)), (n4, .inl (cy 0, 8, .inl f4)), (n5, .inl (cy 1, 8, .inl f5)), (pa, .inr (4, [.int 0, .ref ed, .int 0])), (ro, .inl (cy 0, 20, .inl (fun _ => 0))), (m0, .inr (20, [.int 0, .ref mp, .int 0, .ref b1, .ref b2, .ref b3, .ref b4, .ref b5, .ref mq])), (b1, .inl (cy 0, 8, .inl (fun _ => 0))), (b2, .inl (cy 0, 8, .inl g2)), (b3, .inl (cy 0, 8, .inl g3)), (b4, .inl (cy 0, 8, .inl g4)), (b5, .inl (cy 1, 8, .inl g5)), (mp, .inr (4, [.int 0, .ref ed, .int 0])), (mq, .inr (4, [.int 0, .ref ed, .int 0])), (oa, .inl (cy 3, 1, .inr (.inl (fun _ => 0)))), (od, .inl (cy 4, 1, .inr (.inr (.inr (.inl (fun _ => 0))))))]) (hS : va_S A s.heap H locs) (hl : lv_has ls 9 [(5, .int 0), (4, .ref od), (3, .ref oa), (2, .ref m0), (1, .ref h), (0, .ref b)])
    (hend : ∀ (H : Heap) (locs : List Loc) (ls : Array Slot), va_S A s.heap H locs → lv_has ls 9 [(0, .ref b), (5, .int 0)] → W p l e room_1 s m #[Value.ref b] below meth c H locs 60 1200 Q (F0 m 4257 ls [])) :
    W p l e room_1 s m #[Value.ref b] below meth c H locs 29 880 Q (F0 m 586 ls []) := by
  obtain ⟨hx, hb, hml, hst, hown, hts, hX, hbl, hbA, hA, hK, hZ, hN⟩ := C0
  refine lv_aload_n hx hb dL_law_586 rfl (lv_at hl 4 rfl) ?_
  refine lv_aload_n hx hb dL_law_587 rfl (lv_at hl 5 rfl) ?_
  refine lv_iload hx hb dL_law_588 (lv_at hl 0 rfl) ?_
  refine lv_iconst (v := 1) hx hb dL_law_590 (by decide) ?_
  refine lv_iadd hx hb dL_law_591 ?_
  refine lv_topi (fun y9 ey9 => ?_)
  obtain rfl : y9 = 1 := by rw [ey9] <;> decide
  refine va_sld hx hb hX hbl hbA hS (zx_bn (by decide)) dL_law_592 ?_
  refine lv_aload_n hx hb dL_law_593 rfl (lv_at hl 5 rfl) ?_
  refine lv_iload hx hb dL_law_594 (lv_at hl 0 rfl) ?_
  refine lv_iconst (v := 2) hx hb dL_law_596 (by decide) ?_
  refine lv_iadd hx hb dL_law_597 ?_
  refine lv_topi (fun y9 ey9 => ?_)
  obtain rfl : y9 = 2 := by rw [ey9] <;> decide
  refine va_sld hx hb hX hbl hbA hS (zx_bn (by decide)) dL_law_598 ?_
  refine lv_aload_n hx hb dL_law_599 rfl (lv_at hl 2 rfl) ?_
  have hPc := hP.sub (ws' := [(h, .inr (13, [.ref pe, .ref ne, .ref pa, .ref ro, .int 0])), (pe, .inr (9, [.int 0, .ref a1, .ref a2, .ref a3, .ref a4, .ref a5, .ref a6, .ref a7, .ref a8, .ref a9])), (oa, .inl (cy 3, 1, .inr (.inl (fun _ => 0))))]) [0, 1, 20] rfl
  have hDc := hD.sub (ws' := [(h, .inr (13, [.ref pe, .ref ne, .ref pa, .ref ro, .int 0])), (pe, .inr (9, [.int 0, .ref a1, .ref a2, .ref a3, .ref a4, .ref a5, .ref a6, .ref a7, .ref a8, .ref a9])), (oa, .inl (cy 3, 1, .inr (.inl (fun _ => 0))))]) [0, 1, 20] (by decide) rfl
  have hFc := va_free (wc := [(h, .inr (13, [.ref pe, .ref ne, .ref pa, .ref ro, .int 0])), (pe, .inr (9, [.int 0, .ref a1, .ref a2, .ref a3, .ref a4, .ref a5, .ref a6, .ref a7, .ref a8, .ref a9])), (oa, .inl (cy 3, 1, .inr (.inl (fun _ => 0))))]) hD hS hA [0, 1, 20] rfl
  refine vx_calli (vx_runSX (As := [.ref h, .int (xs (1 : Int32).toNatClampNeg), .int (xs (2 : Int32).toNatClampNeg), .ref oa]) (rest := []) ⟨hx, hb, hml, hown, hts⟩ (c_L_addEditor l hst D cy ed H.size h pe ne pa ro 0 a1 a2 a3 a4 a5 a6 a7 a8 a9 oa (fun _ => 0) (xs (1 : Int32).toNatClampNeg) (xs (2 : Int32).toNatClampNeg)) (vx_cwSW 4 hts (zx_GS mm_522 mm_523 mm_70 mm_524) rfl rfl rfl (by decide +kernel) ⟨(Nat.le_of_ble_eq_true rfl), (Nat.le_of_ble_eq_true rfl)⟩) ⟨zx_blind, zx_give hPc hK hDc hS hFc hZ hN⟩ rfl rfl hl.1 rfl (lv_room (Nat.le_of_ble_eq_true rfl)) dL_law_600 ⟨(Nat.le_of_ble_eq_true rfl), (Nat.le_of_ble_eq_true rfl)⟩) hS (fun q _ h => hFc q h) hFc (fun q _ h => hFc q h) (fun E9 ce9 q9 _ t H locs ht hvm _ hBX hz1 hk1 hS hce hcv hcl => ?_) (fun r9 u t H locs ht hvm hw hB hz1 hk1 hS => ?_)
  · exact hBX.elim
  ·
    obtain rfl : r9 = 1 := hw
    obtain ⟨hP, hD⟩ := zx_join (wr := [(a1, .inl (cy 0, 20, .inl (fun _ => 0))), (a2, .inl (cy 0, 20, .inl (fun _ => 0))), (ne, .inr (6, [.ref n1, .ref n2, .ref n3, .ref n4, .ref n5])), (n1, .inl (cy 0, 8, .inl (fun _ => 0))), (n2, .inl (cy 0, 8, .inl f2)), (n3, .inl (cy 0, 8, .inl f3)), (n4, .inl (cy 0, 8, .inl f4)), (n5, .inl (cy 1, 8, .inl f5)), (pa, .inr (4, [.int 0, .ref ed, .int 0])), (ro, .inl (cy 0, 20, .inl (fun _ => 0))), (m0, .inr (20, [.int 0, .ref mp, .int 0, .ref b1, .ref b2, .ref b3, .ref b4, .ref b5, .ref mq])), (b1, .inl (cy 0, 8, .inl (fun _ => 0))), (b2, .inl (cy 0, 8, .inl g2)), (b3, .inl (cy 0, 8, .inl g3)), (b4, .inl (cy 0, 8, .inl g4)), (b5, .inl (cy 1, 8, .inl g5)), (mp, .inr (4, [.int 0, .ref ed, .int 0])), (mq, .inr (4, [.int 0, .ref ed, .int 0])), (od, .inl (cy 4, 1, .inr (.inr (.inr (.inl (fun _ => 0))))))]) (w1 := []) [0, 1, 20] [2, 3, 4, 5, 6, 7, 8, 9, 10, 11, 12, 13, 14, 15, 16, 17, 18, 19, 21] rfl rfl (by decide) (by decide) hP hD hk1 hFc hB ht
    have hP : va_P D vwCl [(a1, .inl (cy 0, 20, .inl (fun _ => 0))), (a2, .inl (cy 0, 20, .inl (fun _ => 0))), (ne, .inr (6, [.ref n1, .ref n2, .ref n3, .ref n4, .ref n5])), (n1, .inl (cy 0, 8, .inl (fun _ => 0))), (n2, .inl (cy 0, 8, .inl f2)), (n3, .inl (cy 0, 8, .inl f3)), (n4, .inl (cy 0, 8, .inl f4)), (n5, .inl (cy 1, 8, .inl f5)), (pa, .inr (4, [.int 0, .ref ed, .int 0])), (ro, .inl (cy 0, 20, .inl (fun _ => 0))), (m0, .inr (20, [.int 0, .ref mp, .int 0, .ref b1, .ref b2, .ref b3, .ref b4, .ref b5, .ref mq])), (b1, .inl (cy 0, 8, .inl (fun _ => 0))), (b2, .inl (cy 0, 8, .inl g2)), (b3, .inl (cy 0, 8, .inl g3)), (b4, .inl (cy 0, 8, .inl g4)), (b5, .inl (cy 1, 8, .inl g5)), (mp, .inr (4, [.int 0, .ref ed, .int 0])), (mq, .inr (4, [.int 0, .ref ed, .int 0])), (od, .inl (cy 4, 1, .inr (.inr (.inr (.inl (fun _ => 0))))))] H := hP
    have hD : va_D A [(a1, .inl (cy 0, 20, .inl (fun _ => 0))), (a2, .inl (cy 0, 20, .inl (fun _ => 0))), (ne, .inr (6, [.ref n1, .ref n2, .ref n3, .ref n4, .ref n5])), (n1, .inl (cy 0, 8, .inl (fun _ => 0))), (n2, .inl (cy 0, 8, .inl f2)), (n3, .inl (cy 0, 8, .inl f3)), (n4, .inl (cy 0, 8, .inl f4)), (n5, .inl (cy 1, 8, .inl f5)), (pa, .inr (4, [.int 0, .ref ed, .int 0])), (ro, .inl (cy 0, 20, .inl (fun _ => 0))), (m0, .inr (20, [.int 0, .ref mp, .int 0, .ref b1, .ref b2, .ref b3, .ref b4, .ref b5, .ref mq])), (b1, .inl (cy 0, 8, .inl (fun _ => 0))), (b2, .inl (cy 0, 8, .inl g2)), (b3, .inl (cy 0, 8, .inl g3)), (b4, .inl (cy 0, 8, .inl g4)), (b5, .inl (cy 1, 8, .inl g5)), (mp, .inr (4, [.int 0, .ref ed, .int 0])), (mq, .inr (4, [.int 0, .ref ed, .int 0])), (od, .inl (cy 4, 1, .inr (.inr (.inr (.inl (fun _ => 0))))))] := hD
    refine W.widen (k := 30) (n := 886) (Nat.le_of_ble_eq_true rfl) (Nat.le_of_ble_eq_true rfl) ?_
    refine lv_istore (lv' := [(6, .int 1), (5, .int 0), (4, .ref od), (3, .ref oa), (2, .ref m0), (1, .ref h), (0, .ref b)]) hx hb dL_law_603 hl (by decide) rfl (fun ls hl => ?_)
    refine lv_aload_n hx hb dL_law_605 rfl (lv_at hl 4 rfl) ?_
    refine lv_aload_n hx hb dL_law_606 rfl (lv_at hl 6 rfl) ?_
    refine lv_iload hx hb dL_law_607 (lv_at hl 1 rfl) ?_
    refine lv_iconst (v := 1) hx hb dL_law_609 (by decide) ?_
    refine lv_iadd hx hb dL_law_610 ?_
    refine lv_topi (fun y9 ey9 => ?_)
    obtain rfl : y9 = 1 := by rw [ey9] <;> decide
    refine va_sld hx hb hX hbl hbA hS (zx_bn (by decide)) dL_law_611 ?_
    refine lv_aload_n hx hb dL_law_612 rfl (lv_at hl 6 rfl) ?_
    refine lv_iload hx hb dL_law_613 (lv_at hl 1 rfl) ?_
    refine lv_iconst (v := 2) hx hb dL_law_615 (by decide) ?_
    refine lv_iadd hx hb dL_law_616 ?_
    refine lv_topi (fun y9 ey9 => ?_)
    obtain rfl : y9 = 2 := by rw [ey9] <;> decide
    refine va_sld hx hb hX hbl hbA hS (zx_bn (by decide)) dL_law_617 ?_
    have hPc := hP.sub (ws' := [(m0, .inr (20, [.int 0, .ref mp, .int 0, .ref b1, .ref b2, .ref b3, .ref b4, .ref b5, .ref mq])), (mp, .inr (4, [.int 0, .ref ed, .int 0])), (mq, .inr (4, [.int 0, .ref ed, .int 0]))]) [10, 16, 17] rfl
    have hDc := hD.sub (ws' := [(m0, .inr (20, [.int 0, .ref mp, .int 0, .ref b1, .ref b2, .ref b3, .ref b4, .ref b5, .ref mq])), (mp, .inr (4, [.int 0, .ref ed, .int 0])), (mq, .inr (4, [.int 0, .ref ed, .int 0]))]) [10, 16, 17] (by decide) rfl
    have hFc := va_free (wc := [(m0, .inr (20, [.int 0, .ref mp, .int 0, .ref b1, .ref b2, .ref b3, .ref b4, .ref b5, .ref mq])), (mp, .inr (4, [.int 0, .ref ed, .int 0])), (mq, .inr (4, [.int 0, .ref ed, .int 0]))]) hD hS hA [10, 16, 17] rfl
    refine va_calli (va_runV (As := [.int (xs (1 : Int32).toNatClampNeg), .int (xs (2 : Int32).toNatClampNeg)]) (rest := []) ⟨hx, hb, hml, hown, hts⟩ (c_X15_addEditor l hst D cy ed H.size m0 mp mq b1 b2 b3 b4 b5 0 0 0 ed 0 ed (xs (1 : Int32).toNatClampNeg) (xs (2 : Int32).toNatClampNeg)) (cwV 2 hts (zx_GV mm_1735 mm_1736 mm_1737 mm_78 mm_1738) rfl rfl rfl (by decide +kernel) ⟨(Nat.le_of_ble_eq_true rfl), (Nat.le_of_ble_eq_true rfl)⟩) ⟨zx_blind, va_recv hK hPc (ci := 20) (q0 := 0) rfl rfl, zx_give hPc hK hDc hS hFc hZ hN⟩ rfl rfl hl.1 rfl (lv_room (Nat.le_of_ble_eq_true rfl)) dL_law_618 ⟨(Nat.le_of_ble_eq_true rfl), (Nat.le_of_ble_eq_true rfl)⟩) hS (fun q _ h => hFc q h) hFc (fun r9 u t H1 locs ht hvm hw hB hz1 hk1 hS => ?_)
    obtain ⟨r_573, rfl⟩ : ∃ z9, z9 = r9 := ⟨_, rfl⟩
    have h_574 := hw
    obtain ⟨hP, hD⟩ := zx_join (wr := [(a1, .inl (cy 0, 20, .inl (fun _ => 0))), (a2, .inl (cy 0, 20, .inl (fun _ => 0))), (ne, .inr (6, [.ref n1, .ref n2, .ref n3, .ref n4, .ref n5])), (n1, .inl (cy 0, 8, .inl (fun _ => 0))), (n2, .inl (cy 0, 8, .inl f2)), (n3, .inl (cy 0, 8, .inl f3)), (n4, .inl (cy 0, 8, .inl f4)), (n5, .inl (cy 1, 8, .inl f5)), (pa, .inr (4, [.int 0, .ref ed, .int 0])), (ro, .inl (cy 0, 20, .inl (fun _ => 0))), (b1, .inl (cy 0, 8, .inl (fun _ => 0))), (b2, .inl (cy 0, 8, .inl g2)), (b3, .inl (cy 0, 8, .inl g3)), (b4, .inl (cy 0, 8, .inl g4)), (b5, .inl (cy 1, 8, .inl g5)), (od, .inl (cy 4, 1, .inr (.inr (.inr (.inl (fun _ => 0))))))]) (w1 := [(m0, .inr (20, [.int 1, .ref mp, .int 0, .ref b1, .ref b2, .ref b3, .ref b4, .ref b5, .ref mq]))]) [10, 16, 17] [0, 1, 2, 3, 4, 5, 6, 7, 8, 9, 11, 12, 13, 14, 15, 18] rfl rfl (by decide) (by decide) hP hD hk1 hFc hB ht
    generalize H1 = H at hP hS ⊢
    have hP : va_P D vwCl [(a1, .inl (cy 0, 20, .inl (fun _ => 0))), (a2, .inl (cy 0, 20, .inl (fun _ => 0))), (ne, .inr (6, [.ref n1, .ref n2, .ref n3, .ref n4, .ref n5])), (n1, .inl (cy 0, 8, .inl (fun _ => 0))), (n2, .inl (cy 0, 8, .inl f2)), (n3, .inl (cy 0, 8, .inl f3)), (n4, .inl (cy 0, 8, .inl f4)), (n5, .inl (cy 1, 8, .inl f5)), (pa, .inr (4, [.int 0, .ref ed, .int 0])), (ro, .inl (cy 0, 20, .inl (fun _ => 0))), (b1, .inl (cy 0, 8, .inl (fun _ => 0))), (b2, .inl (cy 0, 8, .inl g2)), (b3, .inl (cy 0, 8, .inl g3)), (b4, .inl (cy 0, 8, .inl g4)), (b5, .inl (cy 1, 8, .inl g5)), (od, .inl (cy 4, 1, .inr (.inr (.inr (.inl (fun _ => 0)))))), (m0, .inr (20, [.int 1, .ref mp, .int 0, .ref b1, .ref b2, .ref b3, .ref b4, .ref b5, .ref mq]))] H := hP
    have hD : va_D A [(a1, .inl (cy 0, 20, .inl (fun _ => 0))), (a2, .inl (cy 0, 20, .inl (fun _ => 0))), (ne, .inr (6, [.ref n1, .ref n2, .ref n3, .ref n4, .ref n5])), (n1, .inl (cy 0, 8, .inl (fun _ => 0))), (n2, .inl (cy 0, 8, .inl f2)), (n3, .inl (cy 0, 8, .inl f3)), (n4, .inl (cy 0, 8, .inl f4)), (n5, .inl (cy 1, 8, .inl f5)), (pa, .inr (4, [.int 0, .ref ed, .int 0])), (ro, .inl (cy 0, 20, .inl (fun _ => 0))), (b1, .inl (cy 0, 8, .inl (fun _ => 0))), (b2, .inl (cy 0, 8, .inl g2)), (b3, .inl (cy 0, 8, .inl g3)), (b4, .inl (cy 0, 8, .inl g4)), (b5, .inl (cy 1, 8, .inl g5)), (od, .inl (cy 4, 1, .inr (.inr (.inr (.inl (fun _ => 0)))))), (m0, .inr (20, [.int 1, .ref mp, .int 0, .ref b1, .ref b2, .ref b3, .ref b4, .ref b5, .ref mq]))] := hD
    refine W.widen (k := 30) (n := 886) (Nat.le_of_ble_eq_true rfl) (Nat.le_of_ble_eq_true rfl) ?_
    refine lv_istore (lv' := [(7, .int r_573), (6, .int 1), (5, .int 0), (4, .ref od), (3, .ref oa), (2, .ref m0), (1, .ref h), (0, .ref b)]) hx hb dL_law_621 hl (by decide) rfl (fun ls hl => ?_)
    refine lv_aload_n hx hb dL_law_623 rfl (lv_at hl 5 rfl) ?_
    have hPc := hP.sub (ws' := [(m0, .inr (20, [.int 1, .ref mp, .int 0, .ref b1, .ref b2, .ref b3, .ref b4, .ref b5, .ref mq]))]) [16] rfl
    have hDc := hD.sub (ws' := [(m0, .inr (20, [.int 1, .ref mp, .int 0, .ref b1, .ref b2, .ref b3, .ref b4, .ref b5, .ref mq]))]) [16] (by decide) rfl
    have hFc := va_free (wc := [(m0, .inr (20, [.int 1, .ref mp, .int 0, .ref b1, .ref b2, .ref b3, .ref b4, .ref b5, .ref mq]))]) hD hS hA [16] rfl
    refine va_calli (va_runV (As := []) (rest := []) ⟨hx, hb, hml, hown, hts⟩ (c_X15_thrown l hst D cy ed H.size m0 mp mq b1 b2 b3 b4 b5 1 0) (cwV 0 hts (zx_GV mm_1599 mm_1600 mm_1601 mm_78 mm_1602) rfl rfl rfl (by decide +kernel) ⟨(Nat.le_of_ble_eq_true rfl), (Nat.le_of_ble_eq_true rfl)⟩) ⟨zx_blind, va_recv hK hPc (ci := 20) (q0 := 0) rfl rfl, zx_give hPc hK hDc hS hFc hZ hN⟩ rfl rfl hl.1 rfl (lv_room (Nat.le_of_ble_eq_true rfl)) dL_law_624 ⟨(Nat.le_of_ble_eq_true rfl), (Nat.le_of_ble_eq_true rfl)⟩) hS (fun q _ h => hFc q h) hFc (fun r9 u t H1 locs ht hvm hw hB hz1 hk1 hS => ?_)
    obtain rfl : r9 = 1 := hw
    obtain ⟨hP, hD⟩ := zx_join (wr := [(a1, .inl (cy 0, 20, .inl (fun _ => 0))), (a2, .inl (cy 0, 20, .inl (fun _ => 0))), (ne, .inr (6, [.ref n1, .ref n2, .ref n3, .ref n4, .ref n5])), (n1, .inl (cy 0, 8, .inl (fun _ => 0))), (n2, .inl (cy 0, 8, .inl f2)), (n3, .inl (cy 0, 8, .inl f3)), (n4, .inl (cy 0, 8, .inl f4)), (n5, .inl (cy 1, 8, .inl f5)), (pa, .inr (4, [.int 0, .ref ed, .int 0])), (ro, .inl (cy 0, 20, .inl (fun _ => 0))), (b1, .inl (cy 0, 8, .inl (fun _ => 0))), (b2, .inl (cy 0, 8, .inl g2)), (b3, .inl (cy 0, 8, .inl g3)), (b4, .inl (cy 0, 8, .inl g4)), (b5, .inl (cy 1, 8, .inl g5)), (od, .inl (cy 4, 1, .inr (.inr (.inr (.inl (fun _ => 0))))))]) (w1 := [(m0, .inr (20, [.int 1, .ref mp, .int 0, .ref b1, .ref b2, .ref b3, .ref b4, .ref b5, .ref mq]))]) [16] [0, 1, 2, 3, 4, 5, 6, 7, 8, 9, 10, 11, 12, 13, 14, 15] rfl rfl (by decide) (by decide) hP hD hk1 hFc hB ht
    generalize H1 = H at hP hS ⊢
    have hP : va_P D vwCl [(a1, .inl (cy 0, 20, .inl (fun _ => 0))), (a2, .inl (cy 0, 20, .inl (fun _ => 0))), (ne, .inr (6, [.ref n1, .ref n2, .ref n3, .ref n4, .ref n5])), (n1, .inl (cy 0, 8, .inl (fun _ => 0))), (n2, .inl (cy 0, 8, .inl f2)), (n3, .inl (cy 0, 8, .inl f3)), (n4, .inl (cy 0, 8, .inl f4)), (n5, .inl (cy 1, 8, .inl f5)), (pa, .inr (4, [.int 0, .ref ed, .int 0])), (ro, .inl (cy 0, 20, .inl (fun _ => 0))), (b1, .inl (cy 0, 8, .inl (fun _ => 0))), (b2, .inl (cy 0, 8, .inl g2)), (b3, .inl (cy 0, 8, .inl g3)), (b4, .inl (cy 0, 8, .inl g4)), (b5, .inl (cy 1, 8, .inl g5)), (od, .inl (cy 4, 1, .inr (.inr (.inr (.inl (fun _ => 0)))))), (m0, .inr (20, [.int 1, .ref mp, .int 0, .ref b1, .ref b2, .ref b3, .ref b4, .ref b5, .ref mq]))] H := hP
    have hD : va_D A [(a1, .inl (cy 0, 20, .inl (fun _ => 0))), (a2, .inl (cy 0, 20, .inl (fun _ => 0))), (ne, .inr (6, [.ref n1, .ref n2, .ref n3, .ref n4, .ref n5])), (n1, .inl (cy 0, 8, .inl (fun _ => 0))), (n2, .inl (cy 0, 8, .inl f2)), (n3, .inl (cy 0, 8, .inl f3)), (n4, .inl (cy 0, 8, .inl f4)), (n5, .inl (cy 1, 8, .inl f5)), (pa, .inr (4, [.int 0, .ref ed, .int 0])), (ro, .inl (cy 0, 20, .inl (fun _ => 0))), (b1, .inl (cy 0, 8, .inl (fun _ => 0))), (b2, .inl (cy 0, 8, .inl g2)), (b3, .inl (cy 0, 8, .inl g3)), (b4, .inl (cy 0, 8, .inl g4)), (b5, .inl (cy 1, 8, .inl g5)), (od, .inl (cy 4, 1, .inr (.inr (.inr (.inl (fun _ => 0)))))), (m0, .inr (20, [.int 1, .ref mp, .int 0, .ref b1, .ref b2, .ref b3, .ref b4, .ref b5, .ref mq]))] := hD
    refine W.widen (k := 30) (n := 886) (Nat.le_of_ble_eq_true rfl) (Nat.le_of_ble_eq_true rfl) ?_
    refine lv_iload hx hb dL_law_627 (lv_at hl 1 rfl) ?_
    refine lv_icmp_eq (tgt := 634) hx hb dL_law_629 (by decide) (fun _ => ?_) (fun c_575 => absurd (by decide) c_575)
    refine lv_iload hx hb dL_law_634 (lv_at hl 1 rfl) ?_
    refine lv_if_ne (tgt := 651) hx hb dL_law_636 (by decide) (fun _ => ?_) (fun c_576 => absurd c_576 (by decide))
    refine lv_goto (tgt := 4257) hx hb dL_law_651 (by decide) ?_
    refine W.widen (k := 60) (n := 1200) (Nat.le_of_ble_eq_true rfl) (Nat.le_of_ble_eq_true rfl) ?_
    exact hend _ _ _ hS (lv_sub hl [7, 2] rfl)
set_option maxHeartbeats 4000000 in
set_option maxRecDepth 100000 in
theorem law_case_5 {p : Program} {l : Launch} {e : Env} {s : State} {m : MethodId} {below : List Frame} {meth : Method} {c : Code} {D : va_G} {cy : Nat → ClassId} {ed b : Nat} {xs : Nat → Int32} {A : Nat → Prop} {Q : State → Prop} (C0 : zx_LW p l s m c D cy ed b xs A)
    {h pe ne pa ro a1 a2 a3 a4 a5 a6 a7 a8 a9 n1 n2 n3 n4 n5 m0 mp b1 b2 b3 b4 b5 mq oa od : Nat} {f2 f3 f4 f5 g2 g3 g4 g5 : Nat → Int32} (hf5 : ∀ j, j < 8 → f5 j = 115) (hg5 : ∀ j, j < 8 → g5 j = 115) {H : Heap} {locs : List Loc} {ls : Array Slot}
    (hP : va_P D vwCl [(h, .inr (13, [.ref pe, .ref ne, .ref pa, .ref ro, .int 0])), (pe, .inr (9, [.int 0, .ref a1, .ref a2, .ref a3, .ref a4, .ref a5, .ref a6, .ref a7, .ref a8, .ref a9])), (a1, .inl (cy 0, 20, .inl (fun _ => 0))), (a2, .inl (cy 0, 20, .inl (fun _ => 0))), (ne, .inr (6, [.ref n1, .ref n2, .ref n3, .ref n4, .ref n5])), (n1, .inl (cy 0, 8, .inl (fun _ => 0))), (n2, .inl (cy 0, 8, .inl f2)), (n3, .inl (cy 0, 8, .inl f3)), (n4, .inl (cy 0, 8, .inl f4)), (n5, .inl (cy 1, 8, .inl f5)), (pa, .inr (4, [.int 0, .ref ed, .int 0])), (ro, .inl (cy 0, 20, .inl (fun _ => 0))), (m0, .inr (20, [.int 0, .ref mp, .int 0, .ref b1, .ref b2, .ref b3, .ref b4, .ref b5, .ref mq])), (b1, .inl (cy 0, 8, .inl (fun _ => 0))), (b2, .inl (cy 0, 8, .inl g2)), (b3, .inl (cy 0, 8, .inl g3)), (b4, .inl (cy 0, 8, .inl g4)), (b5, .inl (cy 1, 8, .inl g5)), (mp, .inr (4, [.int 0, .ref ed, .int 0])), (mq, .inr (4, [.int 0, .ref ed, .int 0])), (oa, .inl (cy 3, 1, .inr (.inl (fun _ => 0)))), (od, .inl (cy 4, 1, .inr (.inr (.inr (.inl (fun _ => 0))))))] H) (hD : va_D A [(h, .inr (13, [.ref pe, .ref ne, .ref pa, .ref ro, .int 0])), (pe, .inr (9, [.int 0, .ref a1, .ref a2, .ref a3, .ref a4, .ref a5, .ref a6, .ref a7, .ref a8, .ref a9])), (a1, .inl (cy 0, 20, .inl (fun _ => 0))), (a2, .inl (cy 0, 20, .inl (fun _ => 0))), (ne, .inr (6, [.ref n1, .ref n2, .ref n3, .ref n4, .ref n5])), (n1, .inl (cy 0, 8, .inl (fun _ => 0))), (n2, .inl (cy 0, 8, .inl f2)), (n3, .inl (cy 0, 8, .inl f3)), (n4, .inl (cy 0, 8, .inl f4)), (n5, .inl (cy 1, 8, .inl f5)), (pa, .inr (4, [.int 0, .ref ed, .int 0])), (ro, .inl (cy 0, 20, .inl (fun _ => 0))), (m0, .inr (20, [.int 0, .ref mp, .int 0, .ref b1, .ref b2, .ref b3, .ref b4, .ref b5, .ref mq])), (b1, .inl (cy 0, 8, .inl (fun _ => 0))), (b2, .inl (cy 0, 8, .inl g2)), (b3, .inl (cy 0, 8, .inl g3)), (b4, .inl (cy 0, 8, .inl g4)), (b5, .inl (cy 1, 8, .inl g5)), (mp, .inr (4, [.int 0, .ref ed, .int 0])), (mq, .inr (4, [.int 0, .ref ed, .int 0])), (oa, .inl (cy 3, 1, .inr (.inl (fun _ => 0)))), (od, .inl (cy 4, 1, .inr (.inr (.inr (.inl (fun _ => 0))))))]) (hS : va_S A s.heap H locs) (hl : lv_has ls 9 [(5, .int 0), (4, .ref od), (3, .ref oa), (2, .ref m0), (1, .ref h), (0, .ref b)])
    (hend : ∀ (H : Heap) (locs : List Loc) (ls : Array Slot), va_S A s.heap H locs → lv_has ls 9 [(0, .ref b), (5, .int 0)] → W p l e room_1 s m #[Value.ref b] below meth c H locs 60 1200 Q (F0 m 4257 ls [])) :
    W p l e room_1 s m #[Value.ref b] below meth c H locs 29 880 Q (F0 m 654 ls []) := by
  obtain ⟨hx, hb, hml, hst, hown, hts, hX, hbl, hbA, hA, hK, hZ, hN⟩ := C0
  refine lv_aload_n hx hb dL_law_654 rfl (lv_at hl 4 rfl) ?_
  refine lv_aload_n hx hb dL_law_655 rfl (lv_at hl 5 rfl) ?_
  refine lv_iload hx hb dL_law_656 (lv_at hl 0 rfl) ?_
  refine lv_iconst (v := 1) hx hb dL_law_658 (by decide) ?_
  refine lv_iadd hx hb dL_law_659 ?_
  refine lv_topi (fun y9 ey9 => ?_)
  obtain rfl : y9 = 1 := by rw [ey9] <;> decide
  refine va_sld hx hb hX hbl hbA hS (zx_bn (by decide)) dL_law_660 ?_
  refine lv_aload_n hx hb dL_law_661 rfl (lv_at hl 5 rfl) ?_
  refine lv_iload hx hb dL_law_662 (lv_at hl 0 rfl) ?_
  refine lv_iconst (v := 2) hx hb dL_law_664 (by decide) ?_
  refine lv_iadd hx hb dL_law_665 ?_
  refine lv_topi (fun y9 ey9 => ?_)
  obtain rfl : y9 = 2 := by rw [ey9] <;> decide
  refine va_sld hx hb hX hbl hbA hS (zx_bn (by decide)) dL_law_666 ?_
  refine lv_aload_n hx hb dL_law_667 rfl (lv_at hl 2 rfl) ?_
  have hPc := hP.sub (ws' := [(h, .inr (13, [.ref pe, .ref ne, .ref pa, .ref ro, .int 0])), (ne, .inr (6, [.ref n1, .ref n2, .ref n3, .ref n4, .ref n5])), (n1, .inl (cy 0, 8, .inl (fun _ => 0))), (oa, .inl (cy 3, 1, .inr (.inl (fun _ => 0))))]) [0, 4, 5, 20] rfl
  have hDc := hD.sub (ws' := [(h, .inr (13, [.ref pe, .ref ne, .ref pa, .ref ro, .int 0])), (ne, .inr (6, [.ref n1, .ref n2, .ref n3, .ref n4, .ref n5])), (n1, .inl (cy 0, 8, .inl (fun _ => 0))), (oa, .inl (cy 3, 1, .inr (.inl (fun _ => 0))))]) [0, 4, 5, 20] (by decide) rfl
  have hFc := va_free (wc := [(h, .inr (13, [.ref pe, .ref ne, .ref pa, .ref ro, .int 0])), (ne, .inr (6, [.ref n1, .ref n2, .ref n3, .ref n4, .ref n5])), (n1, .inl (cy 0, 8, .inl (fun _ => 0))), (oa, .inl (cy 3, 1, .inr (.inl (fun _ => 0))))]) hD hS hA [0, 4, 5, 20] rfl
  refine vx_calli (vx_runSX (As := [.ref h, .int (xs (1 : Int32).toNatClampNeg), .int (xs (2 : Int32).toNatClampNeg), .ref oa]) (rest := []) ⟨hx, hb, hml, hown, hts⟩ (c_L_tie l hst D cy ed H.size h pe ne pa ro 0 n1 n2 n3 n4 n5 oa (fun _ => 0) (xs (1 : Int32).toNatClampNeg) (xs (2 : Int32).toNatClampNeg)) (vx_cwSW 4 hts (zx_GS mm_538 mm_539 mm_70 mm_540) rfl rfl rfl (by decide +kernel) ⟨(Nat.le_of_ble_eq_true rfl), (Nat.le_of_ble_eq_true rfl)⟩) ⟨zx_blind, zx_give hPc hK hDc hS hFc hZ hN⟩ rfl rfl hl.1 rfl (lv_room (Nat.le_of_ble_eq_true rfl)) dL_law_668 ⟨(Nat.le_of_ble_eq_true rfl), (Nat.le_of_ble_eq_true rfl)⟩) hS (fun q _ h => hFc q h) hFc (fun q _ h => hFc q h) (fun E9 ce9 q9 _ t H locs ht hvm _ hBX hz1 hk1 hS hce hcv hcl => ?_) (fun r9 u t H locs ht hvm hw hB hz1 hk1 hS => ?_)
  · exact hBX.elim
  ·
    obtain ⟨o2_577, rfl⟩ : ∃ z9, z9 = u := ⟨_, rfl⟩
    obtain ⟨rfl, h_578⟩ := hw
    obtain ⟨hP, hD⟩ := zx_join (wr := [(pe, .inr (9, [.int 0, .ref a1, .ref a2, .ref a3, .ref a4, .ref a5, .ref a6, .ref a7, .ref a8, .ref a9])), (a1, .inl (cy 0, 20, .inl (fun _ => 0))), (a2, .inl (cy 0, 20, .inl (fun _ => 0))), (n2, .inl (cy 0, 8, .inl f2)), (n3, .inl (cy 0, 8, .inl f3)), (n4, .inl (cy 0, 8, .inl f4)), (n5, .inl (cy 1, 8, .inl f5)), (pa, .inr (4, [.int 0, .ref ed, .int 0])), (ro, .inl (cy 0, 20, .inl (fun _ => 0))), (m0, .inr (20, [.int 0, .ref mp, .int 0, .ref b1, .ref b2, .ref b3, .ref b4, .ref b5, .ref mq])), (b1, .inl (cy 0, 8, .inl (fun _ => 0))), (b2, .inl (cy 0, 8, .inl g2)), (b3, .inl (cy 0, 8, .inl g3)), (b4, .inl (cy 0, 8, .inl g4)), (b5, .inl (cy 1, 8, .inl g5)), (mp, .inr (4, [.int 0, .ref ed, .int 0])), (mq, .inr (4, [.int 0, .ref ed, .int 0])), (od, .inl (cy 4, 1, .inr (.inr (.inr (.inl (fun _ => 0))))))]) (w1 := [(oa, .inl (cy 3, 1, .inr (.inl o2_577)))]) [0, 4, 5, 20] [1, 2, 3, 6, 7, 8, 9, 10, 11, 12, 13, 14, 15, 16, 17, 18, 19, 21] rfl rfl (by decide) (by decide) hP hD hk1 hFc hB ht
    have hP : va_P D vwCl [(pe, .inr (9, [.int 0, .ref a1, .ref a2, .ref a3, .ref a4, .ref a5, .ref a6, .ref a7, .ref a8, .ref a9])), (a1, .inl (cy 0, 20, .inl (fun _ => 0))), (a2, .inl (cy 0, 20, .inl (fun _ => 0))), (n2, .inl (cy 0, 8, .inl f2)), (n3, .inl (cy 0, 8, .inl f3)), (n4, .inl (cy 0, 8, .inl f4)), (n5, .inl (cy 1, 8, .inl f5)), (pa, .inr (4, [.int 0, .ref ed, .int 0])), (ro, .inl (cy 0, 20, .inl (fun _ => 0))), (m0, .inr (20, [.int 0, .ref mp, .int 0, .ref b1, .ref b2, .ref b3, .ref b4, .ref b5, .ref mq])), (b1, .inl (cy 0, 8, .inl (fun _ => 0))), (b2, .inl (cy 0, 8, .inl g2)), (b3, .inl (cy 0, 8, .inl g3)), (b4, .inl (cy 0, 8, .inl g4)), (b5, .inl (cy 1, 8, .inl g5)), (mp, .inr (4, [.int 0, .ref ed, .int 0])), (mq, .inr (4, [.int 0, .ref ed, .int 0])), (od, .inl (cy 4, 1, .inr (.inr (.inr (.inl (fun _ => 0)))))), (oa, .inl (cy 3, 1, .inr (.inl o2_577)))] H := hP
    have hD : va_D A [(pe, .inr (9, [.int 0, .ref a1, .ref a2, .ref a3, .ref a4, .ref a5, .ref a6, .ref a7, .ref a8, .ref a9])), (a1, .inl (cy 0, 20, .inl (fun _ => 0))), (a2, .inl (cy 0, 20, .inl (fun _ => 0))), (n2, .inl (cy 0, 8, .inl f2)), (n3, .inl (cy 0, 8, .inl f3)), (n4, .inl (cy 0, 8, .inl f4)), (n5, .inl (cy 1, 8, .inl f5)), (pa, .inr (4, [.int 0, .ref ed, .int 0])), (ro, .inl (cy 0, 20, .inl (fun _ => 0))), (m0, .inr (20, [.int 0, .ref mp, .int 0, .ref b1, .ref b2, .ref b3, .ref b4, .ref b5, .ref mq])), (b1, .inl (cy 0, 8, .inl (fun _ => 0))), (b2, .inl (cy 0, 8, .inl g2)), (b3, .inl (cy 0, 8, .inl g3)), (b4, .inl (cy 0, 8, .inl g4)), (b5, .inl (cy 1, 8, .inl g5)), (mp, .inr (4, [.int 0, .ref ed, .int 0])), (mq, .inr (4, [.int 0, .ref ed, .int 0])), (od, .inl (cy 4, 1, .inr (.inr (.inr (.inl (fun _ => 0)))))), (oa, .inl (cy 3, 1, .inr (.inl o2_577)))] := hD
    refine W.widen (k := 33) (n := 904) (Nat.le_of_ble_eq_true rfl) (Nat.le_of_ble_eq_true rfl) ?_
    refine lv_istore (lv' := [(6, .int (k_tie (xs (1 : Int32).toNatClampNeg) (xs (2 : Int32).toNatClampNeg))), (5, .int 0), (4, .ref od), (3, .ref oa), (2, .ref m0), (1, .ref h), (0, .ref b)]) hx hb dL_law_671 hl (by decide) rfl (fun ls hl => ?_)
    refine lv_aload_n hx hb dL_law_673 rfl (lv_at hl 4 rfl) ?_
    refine lv_aload_n hx hb dL_law_674 rfl (lv_at hl 6 rfl) ?_
    refine lv_iload hx hb dL_law_675 (lv_at hl 1 rfl) ?_
    refine lv_iconst (v := 1) hx hb dL_law_677 (by decide) ?_
    refine lv_iadd hx hb dL_law_678 ?_
    refine lv_topi (fun y9 ey9 => ?_)
    obtain rfl : y9 = 1 := by rw [ey9] <;> decide
    refine va_sld hx hb hX hbl hbA hS (zx_bn (by decide)) dL_law_679 ?_
    refine lv_aload_n hx hb dL_law_680 rfl (lv_at hl 6 rfl) ?_
    refine lv_iload hx hb dL_law_681 (lv_at hl 1 rfl) ?_
    refine lv_iconst (v := 2) hx hb dL_law_683 (by decide) ?_
    refine lv_iadd hx hb dL_law_684 ?_
    refine lv_topi (fun y9 ey9 => ?_)
    obtain rfl : y9 = 2 := by rw [ey9] <;> decide
    refine va_sld hx hb hX hbl hbA hS (zx_bn (by decide)) dL_law_685 ?_
    have hPc := hP.sub (ws' := [(m0, .inr (20, [.int 0, .ref mp, .int 0, .ref b1, .ref b2, .ref b3, .ref b4, .ref b5, .ref mq])), (b1, .inl (cy 0, 8, .inl (fun _ => 0)))]) [9, 10] rfl
    have hDc := hD.sub (ws' := [(m0, .inr (20, [.int 0, .ref mp, .int 0, .ref b1, .ref b2, .ref b3, .ref b4, .ref b5, .ref mq])), (b1, .inl (cy 0, 8, .inl (fun _ => 0)))]) [9, 10] (by decide) rfl
    have hFc := va_free (wc := [(m0, .inr (20, [.int 0, .ref mp, .int 0, .ref b1, .ref b2, .ref b3, .ref b4, .ref b5, .ref mq])), (b1, .inl (cy 0, 8, .inl (fun _ => 0)))]) hD hS hA [9, 10] rfl
    refine va_calli (va_runV (As := [.int (xs (1 : Int32).toNatClampNeg), .int (xs (2 : Int32).toNatClampNeg)]) (rest := []) ⟨hx, hb, hml, hown, hts⟩ (c_X15_tie l hst D cy ed H.size m0 mp mq b1 b2 b3 b4 b5 0 0 (xs (1 : Int32).toNatClampNeg) (xs (2 : Int32).toNatClampNeg)) (cwV 2 hts (zx_GV mm_1764 mm_1765 mm_1766 mm_78 mm_1767) rfl rfl rfl (by decide +kernel) ⟨(Nat.le_of_ble_eq_true rfl), (Nat.le_of_ble_eq_true rfl)⟩) ⟨zx_blind, va_recv hK hPc (ci := 20) (q0 := 0) rfl rfl, zx_give hPc hK hDc hS hFc hZ hN⟩ rfl rfl hl.1 rfl (lv_room (Nat.le_of_ble_eq_true rfl)) dL_law_686 ⟨(Nat.le_of_ble_eq_true rfl), (Nat.le_of_ble_eq_true rfl)⟩) hS (fun q _ h => hFc q h) hFc (fun r9 u t H1 locs ht hvm hw hB hz1 hk1 hS => ?_)
    obtain ⟨tv_579, rfl⟩ : ∃ z9, z9 = u := ⟨_, rfl⟩
    obtain ⟨r_580, rfl⟩ : ∃ z9, z9 = r9 := ⟨_, rfl⟩
    have h_581 := hw
    obtain ⟨hP, hD⟩ := zx_join (wr := [(pe, .inr (9, [.int 0, .ref a1, .ref a2, .ref a3, .ref a4, .ref a5, .ref a6, .ref a7, .ref a8, .ref a9])), (a1, .inl (cy 0, 20, .inl (fun _ => 0))), (a2, .inl (cy 0, 20, .inl (fun _ => 0))), (n2, .inl (cy 0, 8, .inl f2)), (n3, .inl (cy 0, 8, .inl f3)), (n4, .inl (cy 0, 8, .inl f4)), (n5, .inl (cy 1, 8, .inl f5)), (pa, .inr (4, [.int 0, .ref ed, .int 0])), (ro, .inl (cy 0, 20, .inl (fun _ => 0))), (b2, .inl (cy 0, 8, .inl g2)), (b3, .inl (cy 0, 8, .inl g3)), (b4, .inl (cy 0, 8, .inl g4)), (b5, .inl (cy 1, 8, .inl g5)), (mp, .inr (4, [.int 0, .ref ed, .int 0])), (mq, .inr (4, [.int 0, .ref ed, .int 0])), (od, .inl (cy 4, 1, .inr (.inr (.inr (.inl (fun _ => 0)))))), (oa, .inl (cy 3, 1, .inr (.inl o2_577)))]) (w1 := [(m0, .inr (20, [.int tv_579, .ref mp, .int 0, .ref b1, .ref b2, .ref b3, .ref b4, .ref b5, .ref mq]))]) [9, 10] [0, 1, 2, 3, 4, 5, 6, 7, 8, 11, 12, 13, 14, 15, 16, 17, 18] rfl rfl (by decide) (by decide) hP hD hk1 hFc hB ht
    generalize H1 = H at hP hS ⊢
    have hP : va_P D vwCl [(pe, .inr (9, [.int 0, .ref a1, .ref a2, .ref a3, .ref a4, .ref a5, .ref a6, .ref a7, .ref a8, .ref a9])), (a1, .inl (cy 0, 20, .inl (fun _ => 0))), (a2, .inl (cy 0, 20, .inl (fun _ => 0))), (n2, .inl (cy 0, 8, .inl f2)), (n3, .inl (cy 0, 8, .inl f3)), (n4, .inl (cy 0, 8, .inl f4)), (n5, .inl (cy 1, 8, .inl f5)), (pa, .inr (4, [.int 0, .ref ed, .int 0])), (ro, .inl (cy 0, 20, .inl (fun _ => 0))), (b2, .inl (cy 0, 8, .inl g2)), (b3, .inl (cy 0, 8, .inl g3)), (b4, .inl (cy 0, 8, .inl g4)), (b5, .inl (cy 1, 8, .inl g5)), (mp, .inr (4, [.int 0, .ref ed, .int 0])), (mq, .inr (4, [.int 0, .ref ed, .int 0])), (od, .inl (cy 4, 1, .inr (.inr (.inr (.inl (fun _ => 0)))))), (oa, .inl (cy 3, 1, .inr (.inl o2_577))), (m0, .inr (20, [.int tv_579, .ref mp, .int 0, .ref b1, .ref b2, .ref b3, .ref b4, .ref b5, .ref mq]))] H := hP
    have hD : va_D A [(pe, .inr (9, [.int 0, .ref a1, .ref a2, .ref a3, .ref a4, .ref a5, .ref a6, .ref a7, .ref a8, .ref a9])), (a1, .inl (cy 0, 20, .inl (fun _ => 0))), (a2, .inl (cy 0, 20, .inl (fun _ => 0))), (n2, .inl (cy 0, 8, .inl f2)), (n3, .inl (cy 0, 8, .inl f3)), (n4, .inl (cy 0, 8, .inl f4)), (n5, .inl (cy 1, 8, .inl f5)), (pa, .inr (4, [.int 0, .ref ed, .int 0])), (ro, .inl (cy 0, 20, .inl (fun _ => 0))), (b2, .inl (cy 0, 8, .inl g2)), (b3, .inl (cy 0, 8, .inl g3)), (b4, .inl (cy 0, 8, .inl g4)), (b5, .inl (cy 1, 8, .inl g5)), (mp, .inr (4, [.int 0, .ref ed, .int 0])), (mq, .inr (4, [.int 0, .ref ed, .int 0])), (od, .inl (cy 4, 1, .inr (.inr (.inr (.inl (fun _ => 0)))))), (oa, .inl (cy 3, 1, .inr (.inl o2_577))), (m0, .inr (20, [.int tv_579, .ref mp, .int 0, .ref b1, .ref b2, .ref b3, .ref b4, .ref b5, .ref mq]))] := hD
    refine W.widen (k := 33) (n := 904) (Nat.le_of_ble_eq_true rfl) (Nat.le_of_ble_eq_true rfl) ?_
    refine lv_istore (lv' := [(7, .int r_580), (6, .int (k_tie (xs (1 : Int32).toNatClampNeg) (xs (2 : Int32).toNatClampNeg))), (5, .int 0), (4, .ref od), (3, .ref oa), (2, .ref m0), (1, .ref h), (0, .ref b)]) hx hb dL_law_689 hl (by decide) rfl (fun ls hl => ?_)
    refine lv_aload_n hx hb dL_law_691 rfl (lv_at hl 5 rfl) ?_
    have hPc := hP.sub (ws' := [(m0, .inr (20, [.int tv_579, .ref mp, .int 0, .ref b1, .ref b2, .ref b3, .ref b4, .ref b5, .ref mq]))]) [17] rfl
    have hDc := hD.sub (ws' := [(m0, .inr (20, [.int tv_579, .ref mp, .int 0, .ref b1, .ref b2, .ref b3, .ref b4, .ref b5, .ref mq]))]) [17] (by decide) rfl
    have hFc := va_free (wc := [(m0, .inr (20, [.int tv_579, .ref mp, .int 0, .ref b1, .ref b2, .ref b3, .ref b4, .ref b5, .ref mq]))]) hD hS hA [17] rfl
    refine va_calli (va_runV (As := []) (rest := []) ⟨hx, hb, hml, hown, hts⟩ (c_X15_thrown l hst D cy ed H.size m0 mp mq b1 b2 b3 b4 b5 tv_579 0) (cwV 0 hts (zx_GV mm_1599 mm_1600 mm_1601 mm_78 mm_1602) rfl rfl rfl (by decide +kernel) ⟨(Nat.le_of_ble_eq_true rfl), (Nat.le_of_ble_eq_true rfl)⟩) ⟨zx_blind, va_recv hK hPc (ci := 20) (q0 := 0) rfl rfl, zx_give hPc hK hDc hS hFc hZ hN⟩ rfl rfl hl.1 rfl (lv_room (Nat.le_of_ble_eq_true rfl)) dL_law_692 ⟨(Nat.le_of_ble_eq_true rfl), (Nat.le_of_ble_eq_true rfl)⟩) hS (fun q _ h => hFc q h) hFc (fun r9 u t H1 locs ht hvm hw hB hz1 hk1 hS => ?_)
    obtain rfl : tv_579 = r9 := hw.symm
    obtain ⟨hP, hD⟩ := zx_join (wr := [(pe, .inr (9, [.int 0, .ref a1, .ref a2, .ref a3, .ref a4, .ref a5, .ref a6, .ref a7, .ref a8, .ref a9])), (a1, .inl (cy 0, 20, .inl (fun _ => 0))), (a2, .inl (cy 0, 20, .inl (fun _ => 0))), (n2, .inl (cy 0, 8, .inl f2)), (n3, .inl (cy 0, 8, .inl f3)), (n4, .inl (cy 0, 8, .inl f4)), (n5, .inl (cy 1, 8, .inl f5)), (pa, .inr (4, [.int 0, .ref ed, .int 0])), (ro, .inl (cy 0, 20, .inl (fun _ => 0))), (b2, .inl (cy 0, 8, .inl g2)), (b3, .inl (cy 0, 8, .inl g3)), (b4, .inl (cy 0, 8, .inl g4)), (b5, .inl (cy 1, 8, .inl g5)), (mp, .inr (4, [.int 0, .ref ed, .int 0])), (mq, .inr (4, [.int 0, .ref ed, .int 0])), (od, .inl (cy 4, 1, .inr (.inr (.inr (.inl (fun _ => 0)))))), (oa, .inl (cy 3, 1, .inr (.inl o2_577)))]) (w1 := [(m0, .inr (20, [.int tv_579, .ref mp, .int 0, .ref b1, .ref b2, .ref b3, .ref b4, .ref b5, .ref mq]))]) [17] [0, 1, 2, 3, 4, 5, 6, 7, 8, 9, 10, 11, 12, 13, 14, 15, 16] rfl rfl (by decide) (by decide) hP hD hk1 hFc hB ht
    generalize H1 = H at hP hS ⊢
    have hP : va_P D vwCl [(pe, .inr (9, [.int 0, .ref a1, .ref a2, .ref a3, .ref a4, .ref a5, .ref a6, .ref a7, .ref a8, .ref a9])), (a1, .inl (cy 0, 20, .inl (fun _ => 0))), (a2, .inl (cy 0, 20, .inl (fun _ => 0))), (n2, .inl (cy 0, 8, .inl f2)), (n3, .inl (cy 0, 8, .inl f3)), (n4, .inl (cy 0, 8, .inl f4)), (n5, .inl (cy 1, 8, .inl f5)), (pa, .inr (4, [.int 0, .ref ed, .int 0])), (ro, .inl (cy 0, 20, .inl (fun _ => 0))), (b2, .inl (cy 0, 8, .inl g2)), (b3, .inl (cy 0, 8, .inl g3)), (b4, .inl (cy 0, 8, .inl g4)), (b5, .inl (cy 1, 8, .inl g5)), (mp, .inr (4, [.int 0, .ref ed, .int 0])), (mq, .inr (4, [.int 0, .ref ed, .int 0])), (od, .inl (cy 4, 1, .inr (.inr (.inr (.inl (fun _ => 0)))))), (oa, .inl (cy 3, 1, .inr (.inl o2_577))), (m0, .inr (20, [.int tv_579, .ref mp, .int 0, .ref b1, .ref b2, .ref b3, .ref b4, .ref b5, .ref mq]))] H := hP
    have hD : va_D A [(pe, .inr (9, [.int 0, .ref a1, .ref a2, .ref a3, .ref a4, .ref a5, .ref a6, .ref a7, .ref a8, .ref a9])), (a1, .inl (cy 0, 20, .inl (fun _ => 0))), (a2, .inl (cy 0, 20, .inl (fun _ => 0))), (n2, .inl (cy 0, 8, .inl f2)), (n3, .inl (cy 0, 8, .inl f3)), (n4, .inl (cy 0, 8, .inl f4)), (n5, .inl (cy 1, 8, .inl f5)), (pa, .inr (4, [.int 0, .ref ed, .int 0])), (ro, .inl (cy 0, 20, .inl (fun _ => 0))), (b2, .inl (cy 0, 8, .inl g2)), (b3, .inl (cy 0, 8, .inl g3)), (b4, .inl (cy 0, 8, .inl g4)), (b5, .inl (cy 1, 8, .inl g5)), (mp, .inr (4, [.int 0, .ref ed, .int 0])), (mq, .inr (4, [.int 0, .ref ed, .int 0])), (od, .inl (cy 4, 1, .inr (.inr (.inr (.inl (fun _ => 0)))))), (oa, .inl (cy 3, 1, .inr (.inl o2_577))), (m0, .inr (20, [.int tv_579, .ref mp, .int 0, .ref b1, .ref b2, .ref b3, .ref b4, .ref b5, .ref mq]))] := hD
    refine W.widen (k := 33) (n := 904) (Nat.le_of_ble_eq_true rfl) (Nat.le_of_ble_eq_true rfl) ?_
    refine lv_iload hx hb dL_law_695 (lv_at hl 1 rfl) ?_
    refine lv_icmp_eq (tgt := 702) hx hb dL_law_697 (by decide) (fun c_582 => ?_) (fun c_582 => ?_)
    ·
      refine lv_iload hx hb dL_law_702 (lv_at hl 1 rfl) ?_
      refine lv_if_ne (tgt := 726) hx hb dL_law_704 (by decide) (fun c_583 => ?_) (fun c_583 => ?_)
      ·
        refine lv_goto (tgt := 4257) hx hb dL_law_726 (by decide) ?_
        refine W.widen (k := 60) (n := 1200) (Nat.le_of_ble_eq_true rfl) (Nat.le_of_ble_eq_true rfl) ?_
        exact hend _ _ _ hS (lv_sub hl [7, 2] rfl)
      ·
        obtain rfl : r_580 = 1 := h_581.2 c_583
        refine lv_aload_n hx hb dL_law_707 rfl (lv_at hl 4 rfl) ?_
        refine lv_iconst (v := 0) hx hb dL_law_708 (by decide) ?_
        refine va_lald hx hb hK hP 16 3 rfl rfl (zx_bn (by decide)) dL_law_709 ?_
        refine lv_iload hx hb dL_law_710 (lv_at hl 0 rfl) ?_
        refine lv_if_eq (tgt := 719) hx hb dL_law_712 (by decide) (fun c_584 => absurd c_584 (by decide)) (fun _ => ?_)
        refine lv_lconst (v := 1) hx hb dL_law_715 (by decide) ?_
        refine lv_goto (tgt := 720) hx hb dL_law_716 (by decide) ?_
        refine W.lcmp hx hb dL_law_720 ?_
        refine lv_topi (fun y9 ey9 => ?_)
        obtain rfl : y9 = 0 := ey9.trans (zx_lcmpe (h_578 c_583))
        refine lv_if_eq (tgt := 726) hx hb dL_law_721 (by decide) (fun _ => ?_) (fun c_585 => absurd (by decide) c_585)
        refine lv_goto (tgt := 4257) hx hb dL_law_726 (by decide) ?_
        refine W.widen (k := 60) (n := 1200) (Nat.le_of_ble_eq_true rfl) (Nat.le_of_ble_eq_true rfl) ?_
        exact hend _ _ _ hS (lv_sub hl [7, 2] rfl)
    ·
      exact absurd h_581.1 c_582
set_option maxHeartbeats 4000000 in
set_option maxRecDepth 100000 in
theorem law_case_6 {p : Program} {l : Launch} {e : Env} {s : State} {m : MethodId} {below : List Frame} {meth : Method} {c : Code} {D : va_G} {cy : Nat → ClassId} {ed b : Nat} {xs : Nat → Int32} {A : Nat → Prop} {Q : State → Prop} (C0 : zx_LW p l s m c D cy ed b xs A)
    {h pe ne pa ro a1 a2 a3 a4 a5 a6 a7 a8 a9 n1 n2 n3 n4 n5 m0 mp b1 b2 b3 b4 b5 mq oa od : Nat} {f2 f3 f4 f5 g2 g3 g4 g5 : Nat → Int32} (hf5 : ∀ j, j < 8 → f5 j = 115) (hg5 : ∀ j, j < 8 → g5 j = 115) {H : Heap} {locs : List Loc} {ls : Array Slot}
    (hP : va_P D vwCl [(h, .inr (13, [.ref pe, .ref ne, .ref pa, .ref ro, .int 0])), (pe, .inr (9, [.int 0, .ref a1, .ref a2, .ref a3, .ref a4, .ref a5, .ref a6, .ref a7, .ref a8, .ref a9])), (a1, .inl (cy 0, 20, .inl (fun _ => 0))), (a2, .inl (cy 0, 20, .inl (fun _ => 0))), (ne, .inr (6, [.ref n1, .ref n2, .ref n3, .ref n4, .ref n5])), (n1, .inl (cy 0, 8, .inl (fun _ => 0))), (n2, .inl (cy 0, 8, .inl f2)), (n3, .inl (cy 0, 8, .inl f3)), (n4, .inl (cy 0, 8, .inl f4)), (n5, .inl (cy 1, 8, .inl f5)), (pa, .inr (4, [.int 0, .ref ed, .int 0])), (ro, .inl (cy 0, 20, .inl (fun _ => 0))), (m0, .inr (20, [.int 0, .ref mp, .int 0, .ref b1, .ref b2, .ref b3, .ref b4, .ref b5, .ref mq])), (b1, .inl (cy 0, 8, .inl (fun _ => 0))), (b2, .inl (cy 0, 8, .inl g2)), (b3, .inl (cy 0, 8, .inl g3)), (b4, .inl (cy 0, 8, .inl g4)), (b5, .inl (cy 1, 8, .inl g5)), (mp, .inr (4, [.int 0, .ref ed, .int 0])), (mq, .inr (4, [.int 0, .ref ed, .int 0])), (oa, .inl (cy 3, 1, .inr (.inl (fun _ => 0)))), (od, .inl (cy 4, 1, .inr (.inr (.inr (.inl (fun _ => 0))))))] H) (hD : va_D A [(h, .inr (13, [.ref pe, .ref ne, .ref pa, .ref ro, .int 0])), (pe, .inr (9, [.int 0, .ref a1, .ref a2, .ref a3, .ref a4, .ref a5, .ref a6, .ref a7, .ref a8, .ref a9])), (a1, .inl (cy 0, 20, .inl (fun _ => 0))), (a2, .inl (cy 0, 20, .inl (fun _ => 0))), (ne, .inr (6, [.ref n1, .ref n2, .ref n3, .ref n4, .ref n5])), (n1, .inl (cy 0, 8, .inl (fun _ => 0))), (n2, .inl (cy 0, 8, .inl f2)), (n3, .inl (cy 0, 8, .inl f3)), (n4, .inl (cy 0, 8, .inl f4)), (n5, .inl (cy 1, 8, .inl f5)), (pa, .inr (4, [.int 0, .ref ed, .int 0])), (ro, .inl (cy 0, 20, .inl (fun _ => 0))), (m0, .inr (20, [.int 0, .ref mp, .int 0, .ref b1, .ref b2, .ref b3, .ref b4, .ref b5, .ref mq])), (b1, .inl (cy 0, 8, .inl (fun _ => 0))), (b2, .inl (cy 0, 8, .inl g2)), (b3, .inl (cy 0, 8, .inl g3)), (b4, .inl (cy 0, 8, .inl g4)), (b5, .inl (cy 1, 8, .inl g5)), (mp, .inr (4, [.int 0, .ref ed, .int 0])), (mq, .inr (4, [.int 0, .ref ed, .int 0])), (oa, .inl (cy 3, 1, .inr (.inl (fun _ => 0)))), (od, .inl (cy 4, 1, .inr (.inr (.inr (.inl (fun _ => 0))))))]) (hS : va_S A s.heap H locs) (hl : lv_has ls 9 [(5, .int 0), (4, .ref od), (3, .ref oa), (2, .ref m0), (1, .ref h), (0, .ref b)])
    (hend : ∀ (H : Heap) (locs : List Loc) (ls : Array Slot), va_S A s.heap H locs → lv_has ls 9 [(0, .ref b), (5, .int 0)] → W p l e room_1 s m #[Value.ref b] below meth c H locs 60 1200 Q (F0 m 4257 ls [])) :
    W p l e room_1 s m #[Value.ref b] below meth c H locs 29 880 Q (F0 m 729 ls []) := by
  obtain ⟨hx, hb, hml, hst, hown, hts, hX, hbl, hbA, hA, hK, hZ, hN⟩ := C0
  refine lv_aload_n hx hb dL_law_729 rfl (lv_at hl 4 rfl) ?_
  refine lv_aload_n hx hb dL_law_730 rfl (lv_at hl 5 rfl) ?_
  refine lv_iload hx hb dL_law_731 (lv_at hl 0 rfl) ?_
  refine lv_iconst (v := 1) hx hb dL_law_733 (by decide) ?_
  refine lv_iadd hx hb dL_law_734 ?_
  refine lv_topi (fun y9 ey9 => ?_)
  obtain rfl : y9 = 1 := by rw [ey9] <;> decide
  refine va_sld hx hb hX hbl hbA hS (zx_bn (by decide)) dL_law_735 ?_
  refine lv_aload_n hx hb dL_law_736 rfl (lv_at hl 5 rfl) ?_
  refine lv_iload hx hb dL_law_737 (lv_at hl 0 rfl) ?_
  refine lv_iconst (v := 2) hx hb dL_law_739 (by decide) ?_
  refine lv_iadd hx hb dL_law_740 ?_
  refine lv_topi (fun y9 ey9 => ?_)
  obtain rfl : y9 = 2 := by rw [ey9] <;> decide
  refine va_sld hx hb hX hbl hbA hS (zx_bn (by decide)) dL_law_741 ?_
  refine lv_aload_n hx hb dL_law_742 rfl (lv_at hl 2 rfl) ?_
  have hPc := hP.sub (ws' := [(h, .inr (13, [.ref pe, .ref ne, .ref pa, .ref ro, .int 0])), (ne, .inr (6, [.ref n1, .ref n2, .ref n3, .ref n4, .ref n5])), (n1, .inl (cy 0, 8, .inl (fun _ => 0))), (oa, .inl (cy 3, 1, .inr (.inl (fun _ => 0))))]) [0, 4, 5, 20] rfl
  have hDc := hD.sub (ws' := [(h, .inr (13, [.ref pe, .ref ne, .ref pa, .ref ro, .int 0])), (ne, .inr (6, [.ref n1, .ref n2, .ref n3, .ref n4, .ref n5])), (n1, .inl (cy 0, 8, .inl (fun _ => 0))), (oa, .inl (cy 3, 1, .inr (.inl (fun _ => 0))))]) [0, 4, 5, 20] (by decide) rfl
  have hFc := va_free (wc := [(h, .inr (13, [.ref pe, .ref ne, .ref pa, .ref ro, .int 0])), (ne, .inr (6, [.ref n1, .ref n2, .ref n3, .ref n4, .ref n5])), (n1, .inl (cy 0, 8, .inl (fun _ => 0))), (oa, .inl (cy 3, 1, .inr (.inl (fun _ => 0))))]) hD hS hA [0, 4, 5, 20] rfl
  refine vx_calli (vx_runSX (As := [.ref h, .int (xs (1 : Int32).toNatClampNeg), .int (xs (2 : Int32).toNatClampNeg), .ref oa]) (rest := []) ⟨hx, hb, hml, hown, hts⟩ (c_L_distance l hst D cy ed H.size h pe ne pa ro 0 n1 n2 n3 n4 n5 oa (fun _ => 0) (xs (1 : Int32).toNatClampNeg) (xs (2 : Int32).toNatClampNeg)) (vx_cwSW 4 hts (zx_GS mm_550 mm_551 mm_70 mm_552) rfl rfl rfl (by decide +kernel) ⟨(Nat.le_of_ble_eq_true rfl), (Nat.le_of_ble_eq_true rfl)⟩) ⟨zx_blind, zx_give hPc hK hDc hS hFc hZ hN⟩ rfl rfl hl.1 rfl (lv_room (Nat.le_of_ble_eq_true rfl)) dL_law_743 ⟨(Nat.le_of_ble_eq_true rfl), (Nat.le_of_ble_eq_true rfl)⟩) hS (fun q _ h => hFc q h) hFc (fun q _ h => hFc q h) (fun E9 ce9 q9 _ t H locs ht hvm _ hBX hz1 hk1 hS hce hcv hcl => ?_) (fun r9 u t H locs ht hvm hw hB hz1 hk1 hS => ?_)
  · exact hBX.elim
  ·
    obtain ⟨o2_586, rfl⟩ : ∃ z9, z9 = u := ⟨_, rfl⟩
    obtain ⟨rfl, h_587⟩ := hw
    obtain ⟨hP, hD⟩ := zx_join (wr := [(pe, .inr (9, [.int 0, .ref a1, .ref a2, .ref a3, .ref a4, .ref a5, .ref a6, .ref a7, .ref a8, .ref a9])), (a1, .inl (cy 0, 20, .inl (fun _ => 0))), (a2, .inl (cy 0, 20, .inl (fun _ => 0))), (n2, .inl (cy 0, 8, .inl f2)), (n3, .inl (cy 0, 8, .inl f3)), (n4, .inl (cy 0, 8, .inl f4)), (n5, .inl (cy 1, 8, .inl f5)), (pa, .inr (4, [.int 0, .ref ed, .int 0])), (ro, .inl (cy 0, 20, .inl (fun _ => 0))), (m0, .inr (20, [.int 0, .ref mp, .int 0, .ref b1, .ref b2, .ref b3, .ref b4, .ref b5, .ref mq])), (b1, .inl (cy 0, 8, .inl (fun _ => 0))), (b2, .inl (cy 0, 8, .inl g2)), (b3, .inl (cy 0, 8, .inl g3)), (b4, .inl (cy 0, 8, .inl g4)), (b5, .inl (cy 1, 8, .inl g5)), (mp, .inr (4, [.int 0, .ref ed, .int 0])), (mq, .inr (4, [.int 0, .ref ed, .int 0])), (od, .inl (cy 4, 1, .inr (.inr (.inr (.inl (fun _ => 0))))))]) (w1 := [(oa, .inl (cy 3, 1, .inr (.inl o2_586)))]) [0, 4, 5, 20] [1, 2, 3, 6, 7, 8, 9, 10, 11, 12, 13, 14, 15, 16, 17, 18, 19, 21] rfl rfl (by decide) (by decide) hP hD hk1 hFc hB ht
    have hP : va_P D vwCl [(pe, .inr (9, [.int 0, .ref a1, .ref a2, .ref a3, .ref a4, .ref a5, .ref a6, .ref a7, .ref a8, .ref a9])), (a1, .inl (cy 0, 20, .inl (fun _ => 0))), (a2, .inl (cy 0, 20, .inl (fun _ => 0))), (n2, .inl (cy 0, 8, .inl f2)), (n3, .inl (cy 0, 8, .inl f3)), (n4, .inl (cy 0, 8, .inl f4)), (n5, .inl (cy 1, 8, .inl f5)), (pa, .inr (4, [.int 0, .ref ed, .int 0])), (ro, .inl (cy 0, 20, .inl (fun _ => 0))), (m0, .inr (20, [.int 0, .ref mp, .int 0, .ref b1, .ref b2, .ref b3, .ref b4, .ref b5, .ref mq])), (b1, .inl (cy 0, 8, .inl (fun _ => 0))), (b2, .inl (cy 0, 8, .inl g2)), (b3, .inl (cy 0, 8, .inl g3)), (b4, .inl (cy 0, 8, .inl g4)), (b5, .inl (cy 1, 8, .inl g5)), (mp, .inr (4, [.int 0, .ref ed, .int 0])), (mq, .inr (4, [.int 0, .ref ed, .int 0])), (od, .inl (cy 4, 1, .inr (.inr (.inr (.inl (fun _ => 0)))))), (oa, .inl (cy 3, 1, .inr (.inl o2_586)))] H := hP
    have hD : va_D A [(pe, .inr (9, [.int 0, .ref a1, .ref a2, .ref a3, .ref a4, .ref a5, .ref a6, .ref a7, .ref a8, .ref a9])), (a1, .inl (cy 0, 20, .inl (fun _ => 0))), (a2, .inl (cy 0, 20, .inl (fun _ => 0))), (n2, .inl (cy 0, 8, .inl f2)), (n3, .inl (cy 0, 8, .inl f3)), (n4, .inl (cy 0, 8, .inl f4)), (n5, .inl (cy 1, 8, .inl f5)), (pa, .inr (4, [.int 0, .ref ed, .int 0])), (ro, .inl (cy 0, 20, .inl (fun _ => 0))), (m0, .inr (20, [.int 0, .ref mp, .int 0, .ref b1, .ref b2, .ref b3, .ref b4, .ref b5, .ref mq])), (b1, .inl (cy 0, 8, .inl (fun _ => 0))), (b2, .inl (cy 0, 8, .inl g2)), (b3, .inl (cy 0, 8, .inl g3)), (b4, .inl (cy 0, 8, .inl g4)), (b5, .inl (cy 1, 8, .inl g5)), (mp, .inr (4, [.int 0, .ref ed, .int 0])), (mq, .inr (4, [.int 0, .ref ed, .int 0])), (od, .inl (cy 4, 1, .inr (.inr (.inr (.inl (fun _ => 0)))))), (oa, .inl (cy 3, 1, .inr (.inl o2_586)))] := hD
    refine W.widen (k := 33) (n := 904) (Nat.le_of_ble_eq_true rfl) (Nat.le_of_ble_eq_true rfl) ?_
    refine lv_istore (lv' := [(6, .int (k_distance (xs (1 : Int32).toNatClampNeg) (xs (2 : Int32).toNatClampNeg))), (5, .int 0), (4, .ref od), (3, .ref oa), (2, .ref m0), (1, .ref h), (0, .ref b)]) hx hb dL_law_746 hl (by decide) rfl (fun ls hl => ?_)
    refine lv_aload_n hx hb dL_law_748 rfl (lv_at hl 4 rfl) ?_
    refine lv_aload_n hx hb dL_law_749 rfl (lv_at hl 6 rfl) ?_
    refine lv_iload hx hb dL_law_750 (lv_at hl 1 rfl) ?_
    refine lv_iconst (v := 1) hx hb dL_law_752 (by decide) ?_
    refine lv_iadd hx hb dL_law_753 ?_
    refine lv_topi (fun y9 ey9 => ?_)
    obtain rfl : y9 = 1 := by rw [ey9] <;> decide
    refine va_sld hx hb hX hbl hbA hS (zx_bn (by decide)) dL_law_754 ?_
    refine lv_aload_n hx hb dL_law_755 rfl (lv_at hl 6 rfl) ?_
    refine lv_iload hx hb dL_law_756 (lv_at hl 1 rfl) ?_
    refine lv_iconst (v := 2) hx hb dL_law_758 (by decide) ?_
    refine lv_iadd hx hb dL_law_759 ?_
    refine lv_topi (fun y9 ey9 => ?_)
    obtain rfl : y9 = 2 := by rw [ey9] <;> decide
    refine va_sld hx hb hX hbl hbA hS (zx_bn (by decide)) dL_law_760 ?_
    have hPc := hP.sub (ws' := [(m0, .inr (20, [.int 0, .ref mp, .int 0, .ref b1, .ref b2, .ref b3, .ref b4, .ref b5, .ref mq])), (b1, .inl (cy 0, 8, .inl (fun _ => 0)))]) [9, 10] rfl
    have hDc := hD.sub (ws' := [(m0, .inr (20, [.int 0, .ref mp, .int 0, .ref b1, .ref b2, .ref b3, .ref b4, .ref b5, .ref mq])), (b1, .inl (cy 0, 8, .inl (fun _ => 0)))]) [9, 10] (by decide) rfl
    have hFc := va_free (wc := [(m0, .inr (20, [.int 0, .ref mp, .int 0, .ref b1, .ref b2, .ref b3, .ref b4, .ref b5, .ref mq])), (b1, .inl (cy 0, 8, .inl (fun _ => 0)))]) hD hS hA [9, 10] rfl
    refine va_calli (va_runV (As := [.int (xs (1 : Int32).toNatClampNeg), .int (xs (2 : Int32).toNatClampNeg)]) (rest := []) ⟨hx, hb, hml, hown, hts⟩ (c_X15_distance l hst D cy ed H.size m0 mp mq b1 b2 b3 b4 b5 0 0 (xs (1 : Int32).toNatClampNeg) (xs (2 : Int32).toNatClampNeg)) (cwV 2 hts (zx_GV mm_1771 mm_1772 mm_1773 mm_78 mm_1774) rfl rfl rfl (by decide +kernel) ⟨(Nat.le_of_ble_eq_true rfl), (Nat.le_of_ble_eq_true rfl)⟩) ⟨zx_blind, va_recv hK hPc (ci := 20) (q0 := 0) rfl rfl, zx_give hPc hK hDc hS hFc hZ hN⟩ rfl rfl hl.1 rfl (lv_room (Nat.le_of_ble_eq_true rfl)) dL_law_761 ⟨(Nat.le_of_ble_eq_true rfl), (Nat.le_of_ble_eq_true rfl)⟩) hS (fun q _ h => hFc q h) hFc (fun r9 u t H1 locs ht hvm hw hB hz1 hk1 hS => ?_)
    obtain ⟨tv_588, rfl⟩ : ∃ z9, z9 = u := ⟨_, rfl⟩
    obtain ⟨r_589, rfl⟩ : ∃ z9, z9 = r9 := ⟨_, rfl⟩
    have h_590 := hw
    obtain ⟨hP, hD⟩ := zx_join (wr := [(pe, .inr (9, [.int 0, .ref a1, .ref a2, .ref a3, .ref a4, .ref a5, .ref a6, .ref a7, .ref a8, .ref a9])), (a1, .inl (cy 0, 20, .inl (fun _ => 0))), (a2, .inl (cy 0, 20, .inl (fun _ => 0))), (n2, .inl (cy 0, 8, .inl f2)), (n3, .inl (cy 0, 8, .inl f3)), (n4, .inl (cy 0, 8, .inl f4)), (n5, .inl (cy 1, 8, .inl f5)), (pa, .inr (4, [.int 0, .ref ed, .int 0])), (ro, .inl (cy 0, 20, .inl (fun _ => 0))), (b2, .inl (cy 0, 8, .inl g2)), (b3, .inl (cy 0, 8, .inl g3)), (b4, .inl (cy 0, 8, .inl g4)), (b5, .inl (cy 1, 8, .inl g5)), (mp, .inr (4, [.int 0, .ref ed, .int 0])), (mq, .inr (4, [.int 0, .ref ed, .int 0])), (od, .inl (cy 4, 1, .inr (.inr (.inr (.inl (fun _ => 0)))))), (oa, .inl (cy 3, 1, .inr (.inl o2_586)))]) (w1 := [(m0, .inr (20, [.int tv_588, .ref mp, .int 0, .ref b1, .ref b2, .ref b3, .ref b4, .ref b5, .ref mq]))]) [9, 10] [0, 1, 2, 3, 4, 5, 6, 7, 8, 11, 12, 13, 14, 15, 16, 17, 18] rfl rfl (by decide) (by decide) hP hD hk1 hFc hB ht
    generalize H1 = H at hP hS ⊢
    have hP : va_P D vwCl [(pe, .inr (9, [.int 0, .ref a1, .ref a2, .ref a3, .ref a4, .ref a5, .ref a6, .ref a7, .ref a8, .ref a9])), (a1, .inl (cy 0, 20, .inl (fun _ => 0))), (a2, .inl (cy 0, 20, .inl (fun _ => 0))), (n2, .inl (cy 0, 8, .inl f2)), (n3, .inl (cy 0, 8, .inl f3)), (n4, .inl (cy 0, 8, .inl f4)), (n5, .inl (cy 1, 8, .inl f5)), (pa, .inr (4, [.int 0, .ref ed, .int 0])), (ro, .inl (cy 0, 20, .inl (fun _ => 0))), (b2, .inl (cy 0, 8, .inl g2)), (b3, .inl (cy 0, 8, .inl g3)), (b4, .inl (cy 0, 8, .inl g4)), (b5, .inl (cy 1, 8, .inl g5)), (mp, .inr (4, [.int 0, .ref ed, .int 0])), (mq, .inr (4, [.int 0, .ref ed, .int 0])), (od, .inl (cy 4, 1, .inr (.inr (.inr (.inl (fun _ => 0)))))), (oa, .inl (cy 3, 1, .inr (.inl o2_586))), (m0, .inr (20, [.int tv_588, .ref mp, .int 0, .ref b1, .ref b2, .ref b3, .ref b4, .ref b5, .ref mq]))] H := hP
    have hD : va_D A [(pe, .inr (9, [.int 0, .ref a1, .ref a2, .ref a3, .ref a4, .ref a5, .ref a6, .ref a7, .ref a8, .ref a9])), (a1, .inl (cy 0, 20, .inl (fun _ => 0))), (a2, .inl (cy 0, 20, .inl (fun _ => 0))), (n2, .inl (cy 0, 8, .inl f2)), (n3, .inl (cy 0, 8, .inl f3)), (n4, .inl (cy 0, 8, .inl f4)), (n5, .inl (cy 1, 8, .inl f5)), (pa, .inr (4, [.int 0, .ref ed, .int 0])), (ro, .inl (cy 0, 20, .inl (fun _ => 0))), (b2, .inl (cy 0, 8, .inl g2)), (b3, .inl (cy 0, 8, .inl g3)), (b4, .inl (cy 0, 8, .inl g4)), (b5, .inl (cy 1, 8, .inl g5)), (mp, .inr (4, [.int 0, .ref ed, .int 0])), (mq, .inr (4, [.int 0, .ref ed, .int 0])), (od, .inl (cy 4, 1, .inr (.inr (.inr (.inl (fun _ => 0)))))), (oa, .inl (cy 3, 1, .inr (.inl o2_586))), (m0, .inr (20, [.int tv_588, .ref mp, .int 0, .ref b1, .ref b2, .ref b3, .ref b4, .ref b5, .ref mq]))] := hD
    refine W.widen (k := 33) (n := 904) (Nat.le_of_ble_eq_true rfl) (Nat.le_of_ble_eq_true rfl) ?_
    refine lv_istore (lv' := [(7, .int r_589), (6, .int (k_distance (xs (1 : Int32).toNatClampNeg) (xs (2 : Int32).toNatClampNeg))), (5, .int 0), (4, .ref od), (3, .ref oa), (2, .ref m0), (1, .ref h), (0, .ref b)]) hx hb dL_law_764 hl (by decide) rfl (fun ls hl => ?_)
    refine lv_aload_n hx hb dL_law_766 rfl (lv_at hl 5 rfl) ?_
    have hPc := hP.sub (ws' := [(m0, .inr (20, [.int tv_588, .ref mp, .int 0, .ref b1, .ref b2, .ref b3, .ref b4, .ref b5, .ref mq]))]) [17] rfl
    have hDc := hD.sub (ws' := [(m0, .inr (20, [.int tv_588, .ref mp, .int 0, .ref b1, .ref b2, .ref b3, .ref b4, .ref b5, .ref mq]))]) [17] (by decide) rfl
    have hFc := va_free (wc := [(m0, .inr (20, [.int tv_588, .ref mp, .int 0, .ref b1, .ref b2, .ref b3, .ref b4, .ref b5, .ref mq]))]) hD hS hA [17] rfl
    refine va_calli (va_runV (As := []) (rest := []) ⟨hx, hb, hml, hown, hts⟩ (c_X15_thrown l hst D cy ed H.size m0 mp mq b1 b2 b3 b4 b5 tv_588 0) (cwV 0 hts (zx_GV mm_1599 mm_1600 mm_1601 mm_78 mm_1602) rfl rfl rfl (by decide +kernel) ⟨(Nat.le_of_ble_eq_true rfl), (Nat.le_of_ble_eq_true rfl)⟩) ⟨zx_blind, va_recv hK hPc (ci := 20) (q0 := 0) rfl rfl, zx_give hPc hK hDc hS hFc hZ hN⟩ rfl rfl hl.1 rfl (lv_room (Nat.le_of_ble_eq_true rfl)) dL_law_767 ⟨(Nat.le_of_ble_eq_true rfl), (Nat.le_of_ble_eq_true rfl)⟩) hS (fun q _ h => hFc q h) hFc (fun r9 u t H1 locs ht hvm hw hB hz1 hk1 hS => ?_)
    obtain rfl : tv_588 = r9 := hw.symm
    obtain ⟨hP, hD⟩ := zx_join (wr := [(pe, .inr (9, [.int 0, .ref a1, .ref a2, .ref a3, .ref a4, .ref a5, .ref a6, .ref a7, .ref a8, .ref a9])), (a1, .inl (cy 0, 20, .inl (fun _ => 0))), (a2, .inl (cy 0, 20, .inl (fun _ => 0))), (n2, .inl (cy 0, 8, .inl f2)), (n3, .inl (cy 0, 8, .inl f3)), (n4, .inl (cy 0, 8, .inl f4)), (n5, .inl (cy 1, 8, .inl f5)), (pa, .inr (4, [.int 0, .ref ed, .int 0])), (ro, .inl (cy 0, 20, .inl (fun _ => 0))), (b2, .inl (cy 0, 8, .inl g2)), (b3, .inl (cy 0, 8, .inl g3)), (b4, .inl (cy 0, 8, .inl g4)), (b5, .inl (cy 1, 8, .inl g5)), (mp, .inr (4, [.int 0, .ref ed, .int 0])), (mq, .inr (4, [.int 0, .ref ed, .int 0])), (od, .inl (cy 4, 1, .inr (.inr (.inr (.inl (fun _ => 0)))))), (oa, .inl (cy 3, 1, .inr (.inl o2_586)))]) (w1 := [(m0, .inr (20, [.int tv_588, .ref mp, .int 0, .ref b1, .ref b2, .ref b3, .ref b4, .ref b5, .ref mq]))]) [17] [0, 1, 2, 3, 4, 5, 6, 7, 8, 9, 10, 11, 12, 13, 14, 15, 16] rfl rfl (by decide) (by decide) hP hD hk1 hFc hB ht
    generalize H1 = H at hP hS ⊢
    have hP : va_P D vwCl [(pe, .inr (9, [.int 0, .ref a1, .ref a2, .ref a3, .ref a4, .ref a5, .ref a6, .ref a7, .ref a8, .ref a9])), (a1, .inl (cy 0, 20, .inl (fun _ => 0))), (a2, .inl (cy 0, 20, .inl (fun _ => 0))), (n2, .inl (cy 0, 8, .inl f2)), (n3, .inl (cy 0, 8, .inl f3)), (n4, .inl (cy 0, 8, .inl f4)), (n5, .inl (cy 1, 8, .inl f5)), (pa, .inr (4, [.int 0, .ref ed, .int 0])), (ro, .inl (cy 0, 20, .inl (fun _ => 0))), (b2, .inl (cy 0, 8, .inl g2)), (b3, .inl (cy 0, 8, .inl g3)), (b4, .inl (cy 0, 8, .inl g4)), (b5, .inl (cy 1, 8, .inl g5)), (mp, .inr (4, [.int 0, .ref ed, .int 0])), (mq, .inr (4, [.int 0, .ref ed, .int 0])), (od, .inl (cy 4, 1, .inr (.inr (.inr (.inl (fun _ => 0)))))), (oa, .inl (cy 3, 1, .inr (.inl o2_586))), (m0, .inr (20, [.int tv_588, .ref mp, .int 0, .ref b1, .ref b2, .ref b3, .ref b4, .ref b5, .ref mq]))] H := hP
    have hD : va_D A [(pe, .inr (9, [.int 0, .ref a1, .ref a2, .ref a3, .ref a4, .ref a5, .ref a6, .ref a7, .ref a8, .ref a9])), (a1, .inl (cy 0, 20, .inl (fun _ => 0))), (a2, .inl (cy 0, 20, .inl (fun _ => 0))), (n2, .inl (cy 0, 8, .inl f2)), (n3, .inl (cy 0, 8, .inl f3)), (n4, .inl (cy 0, 8, .inl f4)), (n5, .inl (cy 1, 8, .inl f5)), (pa, .inr (4, [.int 0, .ref ed, .int 0])), (ro, .inl (cy 0, 20, .inl (fun _ => 0))), (b2, .inl (cy 0, 8, .inl g2)), (b3, .inl (cy 0, 8, .inl g3)), (b4, .inl (cy 0, 8, .inl g4)), (b5, .inl (cy 1, 8, .inl g5)), (mp, .inr (4, [.int 0, .ref ed, .int 0])), (mq, .inr (4, [.int 0, .ref ed, .int 0])), (od, .inl (cy 4, 1, .inr (.inr (.inr (.inl (fun _ => 0)))))), (oa, .inl (cy 3, 1, .inr (.inl o2_586))), (m0, .inr (20, [.int tv_588, .ref mp, .int 0, .ref b1, .ref b2, .ref b3, .ref b4, .ref b5, .ref mq]))] := hD
    refine W.widen (k := 33) (n := 904) (Nat.le_of_ble_eq_true rfl) (Nat.le_of_ble_eq_true rfl) ?_
    refine lv_iload hx hb dL_law_770 (lv_at hl 1 rfl) ?_
    refine lv_icmp_eq (tgt := 777) hx hb dL_law_772 (by decide) (fun c_591 => ?_) (fun c_591 => ?_)
    ·
      refine lv_iload hx hb dL_law_777 (lv_at hl 1 rfl) ?_
      refine lv_if_ne (tgt := 794) hx hb dL_law_779 (by decide) (fun c_592 => ?_) (fun c_592 => ?_)
      ·
        refine lv_goto (tgt := 4257) hx hb dL_law_794 (by decide) ?_
        refine W.widen (k := 60) (n := 1200) (Nat.le_of_ble_eq_true rfl) (Nat.le_of_ble_eq_true rfl) ?_
        exact hend _ _ _ hS (lv_sub hl [7, 2] rfl)
      ·
        obtain rfl : r_589 = zx_near ((1 : Int32) <<< ((xs (1 : Int32).toNatClampNeg) &&& 31)) (xs (2 : Int32).toNatClampNeg) := h_590.2 c_592
        refine lv_aload_n hx hb dL_law_782 rfl (lv_at hl 4 rfl) ?_
        refine lv_iconst (v := 0) hx hb dL_law_783 (by decide) ?_
        refine va_lald hx hb hK hP 16 3 rfl rfl (zx_bn (by decide)) dL_law_784 ?_
        refine lv_iload hx hb dL_law_785 (lv_at hl 0 rfl) ?_
        refine lv_i2l (v := (zx_near ((1 : Int32) <<< ((xs (1 : Int32).toNatClampNeg) &&& 31)) (xs (2 : Int32).toNatClampNeg)).toInt64) hx hb dL_law_787 rfl ?_
        refine W.lcmp hx hb dL_law_788 ?_
        refine lv_topi (fun y9 ey9 => ?_)
        obtain rfl : y9 = 0 := ey9.trans (zx_lcmpe (h_587 c_592))
        refine lv_if_eq (tgt := 794) hx hb dL_law_789 (by decide) (fun _ => ?_) (fun c_593 => absurd (by decide) c_593)
        refine lv_goto (tgt := 4257) hx hb dL_law_794 (by decide) ?_
        refine W.widen (k := 60) (n := 1200) (Nat.le_of_ble_eq_true rfl) (Nat.le_of_ble_eq_true rfl) ?_
        exact hend _ _ _ hS (lv_sub hl [7, 2] rfl)
    ·
      exact absurd h_590.1 c_591
set_option maxHeartbeats 4000000 in
set_option maxRecDepth 100000 in
theorem law_case_7 {p : Program} {l : Launch} {e : Env} {s : State} {m : MethodId} {below : List Frame} {meth : Method} {c : Code} {D : va_G} {cy : Nat → ClassId} {ed b : Nat} {xs : Nat → Int32} {A : Nat → Prop} {Q : State → Prop} (C0 : zx_LW p l s m c D cy ed b xs A)
    {h pe ne pa ro a1 a2 a3 a4 a5 a6 a7 a8 a9 n1 n2 n3 n4 n5 m0 mp b1 b2 b3 b4 b5 mq oa od : Nat} {f2 f3 f4 f5 g2 g3 g4 g5 : Nat → Int32} (hf5 : ∀ j, j < 8 → f5 j = 115) (hg5 : ∀ j, j < 8 → g5 j = 115) {H : Heap} {locs : List Loc} {ls : Array Slot}
    (hP : va_P D vwCl [(h, .inr (13, [.ref pe, .ref ne, .ref pa, .ref ro, .int 0])), (pe, .inr (9, [.int 0, .ref a1, .ref a2, .ref a3, .ref a4, .ref a5, .ref a6, .ref a7, .ref a8, .ref a9])), (a1, .inl (cy 0, 20, .inl (fun _ => 0))), (a2, .inl (cy 0, 20, .inl (fun _ => 0))), (ne, .inr (6, [.ref n1, .ref n2, .ref n3, .ref n4, .ref n5])), (n1, .inl (cy 0, 8, .inl (fun _ => 0))), (n2, .inl (cy 0, 8, .inl f2)), (n3, .inl (cy 0, 8, .inl f3)), (n4, .inl (cy 0, 8, .inl f4)), (n5, .inl (cy 1, 8, .inl f5)), (pa, .inr (4, [.int 0, .ref ed, .int 0])), (ro, .inl (cy 0, 20, .inl (fun _ => 0))), (m0, .inr (20, [.int 0, .ref mp, .int 0, .ref b1, .ref b2, .ref b3, .ref b4, .ref b5, .ref mq])), (b1, .inl (cy 0, 8, .inl (fun _ => 0))), (b2, .inl (cy 0, 8, .inl g2)), (b3, .inl (cy 0, 8, .inl g3)), (b4, .inl (cy 0, 8, .inl g4)), (b5, .inl (cy 1, 8, .inl g5)), (mp, .inr (4, [.int 0, .ref ed, .int 0])), (mq, .inr (4, [.int 0, .ref ed, .int 0])), (oa, .inl (cy 3, 1, .inr (.inl (fun _ => 0)))), (od, .inl (cy 4, 1, .inr (.inr (.inr (.inl (fun _ => 0))))))] H) (hD : va_D A [(h, .inr (13, [.ref pe, .ref ne, .ref pa, .ref ro, .int 0])), (pe, .inr (9, [.int 0, .ref a1, .ref a2, .ref a3, .ref a4, .ref a5, .ref a6, .ref a7, .ref a8, .ref a9])), (a1, .inl (cy 0, 20, .inl (fun _ => 0))), (a2, .inl (cy 0, 20, .inl (fun _ => 0))), (ne, .inr (6, [.ref n1, .ref n2, .ref n3, .ref n4, .ref n5])), (n1, .inl (cy 0, 8, .inl (fun _ => 0))), (n2, .inl (cy 0, 8, .inl f2)), (n3, .inl (cy 0, 8, .inl f3)), (n4, .inl (cy 0, 8, .inl f4)), (n5, .inl (cy 1, 8, .inl f5)), (pa, .inr (4, [.int 0, .ref ed, .int 0])), (ro, .inl (cy 0, 20, .inl (fun _ => 0))), (m0, .inr (20, [.int 0, .ref mp, .int 0, .ref b1, .ref b2, .ref b3, .ref b4, .ref b5, .ref mq])), (b1, .inl (cy 0, 8, .inl (fun _ => 0))), (b2, .inl (cy 0, 8, .inl g2)), (b3, .inl (cy 0, 8, .inl g3)), (b4, .inl (cy 0, 8, .inl g4)), (b5, .inl (cy 1, 8, .inl g5)), (mp, .inr (4, [.int 0, .ref ed, .int 0])), (mq, .inr (4, [.int 0, .ref ed, .int 0])), (oa, .inl (cy 3, 1, .inr (.inl (fun _ => 0)))), (od, .inl (cy 4, 1, .inr (.inr (.inr (.inl (fun _ => 0))))))]) (hS : va_S A s.heap H locs) (hl : lv_has ls 9 [(5, .int 0), (4, .ref od), (3, .ref oa), (2, .ref m0), (1, .ref h), (0, .ref b)])
    (hend : ∀ (H : Heap) (locs : List Loc) (ls : Array Slot), va_S A s.heap H locs → lv_has ls 9 [(0, .ref b), (5, .int 0)] → W p l e room_1 s m #[Value.ref b] below meth c H locs 60 1200 Q (F0 m 4257 ls [])) :
    W p l e room_1 s m #[Value.ref b] below meth c H locs 29 880 Q (F0 m 797 ls []) := by
  obtain ⟨hx, hb, hml, hst, hown, hts, hX, hbl, hbA, hA, hK, hZ, hN⟩ := C0
  refine lv_aload_n hx hb dL_law_797 rfl (lv_at hl 4 rfl) ?_
  refine lv_aload_n hx hb dL_law_798 rfl (lv_at hl 5 rfl) ?_
  refine lv_iload hx hb dL_law_799 (lv_at hl 0 rfl) ?_
  refine lv_iconst (v := 1) hx hb dL_law_801 (by decide) ?_
  refine lv_iadd hx hb dL_law_802 ?_
  refine lv_topi (fun y9 ey9 => ?_)
  obtain rfl : y9 = 1 := by rw [ey9] <;> decide
  refine va_sld hx hb hX hbl hbA hS (zx_bn (by decide)) dL_law_803 ?_
  refine lv_aload_n hx hb dL_law_804 rfl (lv_at hl 5 rfl) ?_
  refine lv_iload hx hb dL_law_805 (lv_at hl 0 rfl) ?_
  refine lv_iconst (v := 2) hx hb dL_law_807 (by decide) ?_
  refine lv_iadd hx hb dL_law_808 ?_
  refine lv_topi (fun y9 ey9 => ?_)
  obtain rfl : y9 = 2 := by rw [ey9] <;> decide
  refine va_sld hx hb hX hbl hbA hS (zx_bn (by decide)) dL_law_809 ?_
  refine lv_aload_n hx hb dL_law_810 rfl (lv_at hl 5 rfl) ?_
  refine lv_iload hx hb dL_law_811 (lv_at hl 0 rfl) ?_
  refine lv_iconst (v := 3) hx hb dL_law_813 (by decide) ?_
  refine lv_iadd hx hb dL_law_814 ?_
  refine lv_topi (fun y9 ey9 => ?_)
  obtain rfl : y9 = 3 := by rw [ey9] <;> decide
  refine va_sld hx hb hX hbl hbA hS (zx_bn (by decide)) dL_law_815 ?_
  refine lv_aload_n hx hb dL_law_816 rfl (lv_at hl 2 rfl) ?_
  have hPc := hP.sub (ws' := [(h, .inr (13, [.ref pe, .ref ne, .ref pa, .ref ro, .int 0])), (pe, .inr (9, [.int 0, .ref a1, .ref a2, .ref a3, .ref a4, .ref a5, .ref a6, .ref a7, .ref a8, .ref a9])), (oa, .inl (cy 3, 1, .inr (.inl (fun _ => 0))))]) [0, 1, 20] rfl
  have hDc := hD.sub (ws' := [(h, .inr (13, [.ref pe, .ref ne, .ref pa, .ref ro, .int 0])), (pe, .inr (9, [.int 0, .ref a1, .ref a2, .ref a3, .ref a4, .ref a5, .ref a6, .ref a7, .ref a8, .ref a9])), (oa, .inl (cy 3, 1, .inr (.inl (fun _ => 0))))]) [0, 1, 20] (by decide) rfl
  have hFc := va_free (wc := [(h, .inr (13, [.ref pe, .ref ne, .ref pa, .ref ro, .int 0])), (pe, .inr (9, [.int 0, .ref a1, .ref a2, .ref a3, .ref a4, .ref a5, .ref a6, .ref a7, .ref a8, .ref a9])), (oa, .inl (cy 3, 1, .inr (.inl (fun _ => 0))))]) hD hS hA [0, 1, 20] rfl
  refine vx_calli (vx_runSX (As := [.ref h, .int (xs (1 : Int32).toNatClampNeg), .int (xs (2 : Int32).toNatClampNeg), .int (xs (3 : Int32).toNatClampNeg), .ref oa]) (rest := []) ⟨hx, hb, hml, hown, hts⟩ (c_L_begin l hst D cy ed H.size h pe ne pa ro 0 a1 a2 a3 a4 a5 a6 a7 a8 a9 oa (fun _ => 0) (xs (1 : Int32).toNatClampNeg) (xs (2 : Int32).toNatClampNeg) (xs (3 : Int32).toNatClampNeg)) (vx_cwSW 5 hts (zx_GS mm_565 mm_566 mm_70 mm_567) rfl rfl rfl (by decide +kernel) ⟨(Nat.le_of_ble_eq_true rfl), (Nat.le_of_ble_eq_true rfl)⟩) ⟨zx_blind, zx_give hPc hK hDc hS hFc hZ hN⟩ rfl rfl hl.1 rfl (lv_room (Nat.le_of_ble_eq_true rfl)) dL_law_817 ⟨(Nat.le_of_ble_eq_true rfl), (Nat.le_of_ble_eq_true rfl)⟩) hS (fun q _ h => hFc q h) hFc (fun q _ h => hFc q h) (fun E9 ce9 q9 _ t H locs ht hvm _ hBX hz1 hk1 hS hce hcv hcl => ?_) (fun r9 u t H locs ht hvm hw hB hz1 hk1 hS => ?_)
  · exact hBX.elim
  ·
    obtain rfl : r9 = 1 := hw
    obtain ⟨hP, hD⟩ := zx_join (wr := [(a1, .inl (cy 0, 20, .inl (fun _ => 0))), (a2, .inl (cy 0, 20, .inl (fun _ => 0))), (ne, .inr (6, [.ref n1, .ref n2, .ref n3, .ref n4, .ref n5])), (n1, .inl (cy 0, 8, .inl (fun _ => 0))), (n2, .inl (cy 0, 8, .inl f2)), (n3, .inl (cy 0, 8, .inl f3)), (n4, .inl (cy 0, 8, .inl f4)), (n5, .inl (cy 1, 8, .inl f5)), (pa, .inr (4, [.int 0, .ref ed, .int 0])), (ro, .inl (cy 0, 20, .inl (fun _ => 0))), (m0, .inr (20, [.int 0, .ref mp, .int 0, .ref b1, .ref b2, .ref b3, .ref b4, .ref b5, .ref mq])), (b1, .inl (cy 0, 8, .inl (fun _ => 0))), (b2, .inl (cy 0, 8, .inl g2)), (b3, .inl (cy 0, 8, .inl g3)), (b4, .inl (cy 0, 8, .inl g4)), (b5, .inl (cy 1, 8, .inl g5)), (mp, .inr (4, [.int 0, .ref ed, .int 0])), (mq, .inr (4, [.int 0, .ref ed, .int 0])), (od, .inl (cy 4, 1, .inr (.inr (.inr (.inl (fun _ => 0))))))]) (w1 := []) [0, 1, 20] [2, 3, 4, 5, 6, 7, 8, 9, 10, 11, 12, 13, 14, 15, 16, 17, 18, 19, 21] rfl rfl (by decide) (by decide) hP hD hk1 hFc hB ht
    have hP : va_P D vwCl [(a1, .inl (cy 0, 20, .inl (fun _ => 0))), (a2, .inl (cy 0, 20, .inl (fun _ => 0))), (ne, .inr (6, [.ref n1, .ref n2, .ref n3, .ref n4, .ref n5])), (n1, .inl (cy 0, 8, .inl (fun _ => 0))), (n2, .inl (cy 0, 8, .inl f2)), (n3, .inl (cy 0, 8, .inl f3)), (n4, .inl (cy 0, 8, .inl f4)), (n5, .inl (cy 1, 8, .inl f5)), (pa, .inr (4, [.int 0, .ref ed, .int 0])), (ro, .inl (cy 0, 20, .inl (fun _ => 0))), (m0, .inr (20, [.int 0, .ref mp, .int 0, .ref b1, .ref b2, .ref b3, .ref b4, .ref b5, .ref mq])), (b1, .inl (cy 0, 8, .inl (fun _ => 0))), (b2, .inl (cy 0, 8, .inl g2)), (b3, .inl (cy 0, 8, .inl g3)), (b4, .inl (cy 0, 8, .inl g4)), (b5, .inl (cy 1, 8, .inl g5)), (mp, .inr (4, [.int 0, .ref ed, .int 0])), (mq, .inr (4, [.int 0, .ref ed, .int 0])), (od, .inl (cy 4, 1, .inr (.inr (.inr (.inl (fun _ => 0))))))] H := hP
    have hD : va_D A [(a1, .inl (cy 0, 20, .inl (fun _ => 0))), (a2, .inl (cy 0, 20, .inl (fun _ => 0))), (ne, .inr (6, [.ref n1, .ref n2, .ref n3, .ref n4, .ref n5])), (n1, .inl (cy 0, 8, .inl (fun _ => 0))), (n2, .inl (cy 0, 8, .inl f2)), (n3, .inl (cy 0, 8, .inl f3)), (n4, .inl (cy 0, 8, .inl f4)), (n5, .inl (cy 1, 8, .inl f5)), (pa, .inr (4, [.int 0, .ref ed, .int 0])), (ro, .inl (cy 0, 20, .inl (fun _ => 0))), (m0, .inr (20, [.int 0, .ref mp, .int 0, .ref b1, .ref b2, .ref b3, .ref b4, .ref b5, .ref mq])), (b1, .inl (cy 0, 8, .inl (fun _ => 0))), (b2, .inl (cy 0, 8, .inl g2)), (b3, .inl (cy 0, 8, .inl g3)), (b4, .inl (cy 0, 8, .inl g4)), (b5, .inl (cy 1, 8, .inl g5)), (mp, .inr (4, [.int 0, .ref ed, .int 0])), (mq, .inr (4, [.int 0, .ref ed, .int 0])), (od, .inl (cy 4, 1, .inr (.inr (.inr (.inl (fun _ => 0))))))] := hD
    refine W.widen (k := 30) (n := 886) (Nat.le_of_ble_eq_true rfl) (Nat.le_of_ble_eq_true rfl) ?_
    refine lv_istore (lv' := [(6, .int 1), (5, .int 0), (4, .ref od), (3, .ref oa), (2, .ref m0), (1, .ref h), (0, .ref b)]) hx hb dL_law_820 hl (by decide) rfl (fun ls hl => ?_)
    refine lv_aload_n hx hb dL_law_822 rfl (lv_at hl 4 rfl) ?_
    refine lv_aload_n hx hb dL_law_823 rfl (lv_at hl 6 rfl) ?_
    refine lv_iload hx hb dL_law_824 (lv_at hl 1 rfl) ?_
    refine lv_iconst (v := 1) hx hb dL_law_826 (by decide) ?_
    refine lv_iadd hx hb dL_law_827 ?_
    refine lv_topi (fun y9 ey9 => ?_)
    obtain rfl : y9 = 1 := by rw [ey9] <;> decide
    refine va_sld hx hb hX hbl hbA hS (zx_bn (by decide)) dL_law_828 ?_
    refine lv_aload_n hx hb dL_law_829 rfl (lv_at hl 6 rfl) ?_
    refine lv_iload hx hb dL_law_830 (lv_at hl 1 rfl) ?_
    refine lv_iconst (v := 2) hx hb dL_law_832 (by decide) ?_
    refine lv_iadd hx hb dL_law_833 ?_
    refine lv_topi (fun y9 ey9 => ?_)
    obtain rfl : y9 = 2 := by rw [ey9] <;> decide
    refine va_sld hx hb hX hbl hbA hS (zx_bn (by decide)) dL_law_834 ?_
    refine lv_aload_n hx hb dL_law_835 rfl (lv_at hl 6 rfl) ?_
    refine lv_iload hx hb dL_law_836 (lv_at hl 1 rfl) ?_
    refine lv_iconst (v := 3) hx hb dL_law_838 (by decide) ?_
    refine lv_iadd hx hb dL_law_839 ?_
    refine lv_topi (fun y9 ey9 => ?_)
    obtain rfl : y9 = 3 := by rw [ey9] <;> decide
    refine va_sld hx hb hX hbl hbA hS (zx_bn (by decide)) dL_law_840 ?_
    have hPc := hP.sub (ws' := [(m0, .inr (20, [.int 0, .ref mp, .int 0, .ref b1, .ref b2, .ref b3, .ref b4, .ref b5, .ref mq])), (mp, .inr (4, [.int 0, .ref ed, .int 0])), (mq, .inr (4, [.int 0, .ref ed, .int 0]))]) [10, 16, 17] rfl
    have hDc := hD.sub (ws' := [(m0, .inr (20, [.int 0, .ref mp, .int 0, .ref b1, .ref b2, .ref b3, .ref b4, .ref b5, .ref mq])), (mp, .inr (4, [.int 0, .ref ed, .int 0])), (mq, .inr (4, [.int 0, .ref ed, .int 0]))]) [10, 16, 17] (by decide) rfl
    have hFc := va_free (wc := [(m0, .inr (20, [.int 0, .ref mp, .int 0, .ref b1, .ref b2, .ref b3, .ref b4, .ref b5, .ref mq])), (mp, .inr (4, [.int 0, .ref ed, .int 0])), (mq, .inr (4, [.int 0, .ref ed, .int 0]))]) hD hS hA [10, 16, 17] rfl
    refine va_calli (va_runV (As := [.int (xs (1 : Int32).toNatClampNeg), .int (xs (2 : Int32).toNatClampNeg), .int (xs (3 : Int32).toNatClampNeg)]) (rest := []) ⟨hx, hb, hml, hown, hts⟩ (c_X15_begin l hst D cy ed H.size m0 mp mq b1 b2 b3 b4 b5 0 0 0 ed 0 ed (xs (1 : Int32).toNatClampNeg) (xs (2 : Int32).toNatClampNeg) (xs (3 : Int32).toNatClampNeg)) (cwV 3 hts (zx_GV mm_1783 mm_1784 mm_1785 mm_78 mm_1786) rfl rfl rfl (by decide +kernel) ⟨(Nat.le_of_ble_eq_true rfl), (Nat.le_of_ble_eq_true rfl)⟩) ⟨zx_blind, va_recv hK hPc (ci := 20) (q0 := 0) rfl rfl, zx_give hPc hK hDc hS hFc hZ hN⟩ rfl rfl hl.1 rfl (lv_room (Nat.le_of_ble_eq_true rfl)) dL_law_841 ⟨(Nat.le_of_ble_eq_true rfl), (Nat.le_of_ble_eq_true rfl)⟩) hS (fun q _ h => hFc q h) hFc (fun r9 u t H1 locs ht hvm hw hB hz1 hk1 hS => ?_)
    obtain ⟨r_594, rfl⟩ : ∃ z9, z9 = r9 := ⟨_, rfl⟩
    have h_595 := hw
    obtain ⟨hP, hD⟩ := zx_join (wr := [(a1, .inl (cy 0, 20, .inl (fun _ => 0))), (a2, .inl (cy 0, 20, .inl (fun _ => 0))), (ne, .inr (6, [.ref n1, .ref n2, .ref n3, .ref n4, .ref n5])), (n1, .inl (cy 0, 8, .inl (fun _ => 0))), (n2, .inl (cy 0, 8, .inl f2)), (n3, .inl (cy 0, 8, .inl f3)), (n4, .inl (cy 0, 8, .inl f4)), (n5, .inl (cy 1, 8, .inl f5)), (pa, .inr (4, [.int 0, .ref ed, .int 0])), (ro, .inl (cy 0, 20, .inl (fun _ => 0))), (b1, .inl (cy 0, 8, .inl (fun _ => 0))), (b2, .inl (cy 0, 8, .inl g2)), (b3, .inl (cy 0, 8, .inl g3)), (b4, .inl (cy 0, 8, .inl g4)), (b5, .inl (cy 1, 8, .inl g5)), (od, .inl (cy 4, 1, .inr (.inr (.inr (.inl (fun _ => 0))))))]) (w1 := [(m0, .inr (20, [.int 1, .ref mp, .int 0, .ref b1, .ref b2, .ref b3, .ref b4, .ref b5, .ref mq]))]) [10, 16, 17] [0, 1, 2, 3, 4, 5, 6, 7, 8, 9, 11, 12, 13, 14, 15, 18] rfl rfl (by decide) (by decide) hP hD hk1 hFc hB ht
    generalize H1 = H at hP hS ⊢
    have hP : va_P D vwCl [(a1, .inl (cy 0, 20, .inl (fun _ => 0))), (a2, .inl (cy 0, 20, .inl (fun _ => 0))), (ne, .inr (6, [.ref n1, .ref n2, .ref n3, .ref n4, .ref n5])), (n1, .inl (cy 0, 8, .inl (fun _ => 0))), (n2, .inl (cy 0, 8, .inl f2)), (n3, .inl (cy 0, 8, .inl f3)), (n4, .inl (cy 0, 8, .inl f4)), (n5, .inl (cy 1, 8, .inl f5)), (pa, .inr (4, [.int 0, .ref ed, .int 0])), (ro, .inl (cy 0, 20, .inl (fun _ => 0))), (b1, .inl (cy 0, 8, .inl (fun _ => 0))), (b2, .inl (cy 0, 8, .inl g2)), (b3, .inl (cy 0, 8, .inl g3)), (b4, .inl (cy 0, 8, .inl g4)), (b5, .inl (cy 1, 8, .inl g5)), (od, .inl (cy 4, 1, .inr (.inr (.inr (.inl (fun _ => 0)))))), (m0, .inr (20, [.int 1, .ref mp, .int 0, .ref b1, .ref b2, .ref b3, .ref b4, .ref b5, .ref mq]))] H := hP
    have hD : va_D A [(a1, .inl (cy 0, 20, .inl (fun _ => 0))), (a2, .inl (cy 0, 20, .inl (fun _ => 0))), (ne, .inr (6, [.ref n1, .ref n2, .ref n3, .ref n4, .ref n5])), (n1, .inl (cy 0, 8, .inl (fun _ => 0))), (n2, .inl (cy 0, 8, .inl f2)), (n3, .inl (cy 0, 8, .inl f3)), (n4, .inl (cy 0, 8, .inl f4)), (n5, .inl (cy 1, 8, .inl f5)), (pa, .inr (4, [.int 0, .ref ed, .int 0])), (ro, .inl (cy 0, 20, .inl (fun _ => 0))), (b1, .inl (cy 0, 8, .inl (fun _ => 0))), (b2, .inl (cy 0, 8, .inl g2)), (b3, .inl (cy 0, 8, .inl g3)), (b4, .inl (cy 0, 8, .inl g4)), (b5, .inl (cy 1, 8, .inl g5)), (od, .inl (cy 4, 1, .inr (.inr (.inr (.inl (fun _ => 0)))))), (m0, .inr (20, [.int 1, .ref mp, .int 0, .ref b1, .ref b2, .ref b3, .ref b4, .ref b5, .ref mq]))] := hD
    refine W.widen (k := 30) (n := 886) (Nat.le_of_ble_eq_true rfl) (Nat.le_of_ble_eq_true rfl) ?_
    refine lv_istore (lv' := [(7, .int r_594), (6, .int 1), (5, .int 0), (4, .ref od), (3, .ref oa), (2, .ref m0), (1, .ref h), (0, .ref b)]) hx hb dL_law_844 hl (by decide) rfl (fun ls hl => ?_)
    refine lv_aload_n hx hb dL_law_846 rfl (lv_at hl 5 rfl) ?_
    have hPc := hP.sub (ws' := [(m0, .inr (20, [.int 1, .ref mp, .int 0, .ref b1, .ref b2, .ref b3, .ref b4, .ref b5, .ref mq]))]) [16] rfl
    have hDc := hD.sub (ws' := [(m0, .inr (20, [.int 1, .ref mp, .int 0, .ref b1, .ref b2, .ref b3, .ref b4, .ref b5, .ref mq]))]) [16] (by decide) rfl
    have hFc := va_free (wc := [(m0, .inr (20, [.int 1, .ref mp, .int 0, .ref b1, .ref b2, .ref b3, .ref b4, .ref b5, .ref mq]))]) hD hS hA [16] rfl
    refine va_calli (va_runV (As := []) (rest := []) ⟨hx, hb, hml, hown, hts⟩ (c_X15_thrown l hst D cy ed H.size m0 mp mq b1 b2 b3 b4 b5 1 0) (cwV 0 hts (zx_GV mm_1599 mm_1600 mm_1601 mm_78 mm_1602) rfl rfl rfl (by decide +kernel) ⟨(Nat.le_of_ble_eq_true rfl), (Nat.le_of_ble_eq_true rfl)⟩) ⟨zx_blind, va_recv hK hPc (ci := 20) (q0 := 0) rfl rfl, zx_give hPc hK hDc hS hFc hZ hN⟩ rfl rfl hl.1 rfl (lv_room (Nat.le_of_ble_eq_true rfl)) dL_law_847 ⟨(Nat.le_of_ble_eq_true rfl), (Nat.le_of_ble_eq_true rfl)⟩) hS (fun q _ h => hFc q h) hFc (fun r9 u t H1 locs ht hvm hw hB hz1 hk1 hS => ?_)
    obtain rfl : r9 = 1 := hw
    obtain ⟨hP, hD⟩ := zx_join (wr := [(a1, .inl (cy 0, 20, .inl (fun _ => 0))), (a2, .inl (cy 0, 20, .inl (fun _ => 0))), (ne, .inr (6, [.ref n1, .ref n2, .ref n3, .ref n4, .ref n5])), (n1, .inl (cy 0, 8, .inl (fun _ => 0))), (n2, .inl (cy 0, 8, .inl f2)), (n3, .inl (cy 0, 8, .inl f3)), (n4, .inl (cy 0, 8, .inl f4)), (n5, .inl (cy 1, 8, .inl f5)), (pa, .inr (4, [.int 0, .ref ed, .int 0])), (ro, .inl (cy 0, 20, .inl (fun _ => 0))), (b1, .inl (cy 0, 8, .inl (fun _ => 0))), (b2, .inl (cy 0, 8, .inl g2)), (b3, .inl (cy 0, 8, .inl g3)), (b4, .inl (cy 0, 8, .inl g4)), (b5, .inl (cy 1, 8, .inl g5)), (od, .inl (cy 4, 1, .inr (.inr (.inr (.inl (fun _ => 0))))))]) (w1 := [(m0, .inr (20, [.int 1, .ref mp, .int 0, .ref b1, .ref b2, .ref b3, .ref b4, .ref b5, .ref mq]))]) [16] [0, 1, 2, 3, 4, 5, 6, 7, 8, 9, 10, 11, 12, 13, 14, 15] rfl rfl (by decide) (by decide) hP hD hk1 hFc hB ht
    generalize H1 = H at hP hS ⊢
    have hP : va_P D vwCl [(a1, .inl (cy 0, 20, .inl (fun _ => 0))), (a2, .inl (cy 0, 20, .inl (fun _ => 0))), (ne, .inr (6, [.ref n1, .ref n2, .ref n3, .ref n4, .ref n5])), (n1, .inl (cy 0, 8, .inl (fun _ => 0))), (n2, .inl (cy 0, 8, .inl f2)), (n3, .inl (cy 0, 8, .inl f3)), (n4, .inl (cy 0, 8, .inl f4)), (n5, .inl (cy 1, 8, .inl f5)), (pa, .inr (4, [.int 0, .ref ed, .int 0])), (ro, .inl (cy 0, 20, .inl (fun _ => 0))), (b1, .inl (cy 0, 8, .inl (fun _ => 0))), (b2, .inl (cy 0, 8, .inl g2)), (b3, .inl (cy 0, 8, .inl g3)), (b4, .inl (cy 0, 8, .inl g4)), (b5, .inl (cy 1, 8, .inl g5)), (od, .inl (cy 4, 1, .inr (.inr (.inr (.inl (fun _ => 0)))))), (m0, .inr (20, [.int 1, .ref mp, .int 0, .ref b1, .ref b2, .ref b3, .ref b4, .ref b5, .ref mq]))] H := hP
    have hD : va_D A [(a1, .inl (cy 0, 20, .inl (fun _ => 0))), (a2, .inl (cy 0, 20, .inl (fun _ => 0))), (ne, .inr (6, [.ref n1, .ref n2, .ref n3, .ref n4, .ref n5])), (n1, .inl (cy 0, 8, .inl (fun _ => 0))), (n2, .inl (cy 0, 8, .inl f2)), (n3, .inl (cy 0, 8, .inl f3)), (n4, .inl (cy 0, 8, .inl f4)), (n5, .inl (cy 1, 8, .inl f5)), (pa, .inr (4, [.int 0, .ref ed, .int 0])), (ro, .inl (cy 0, 20, .inl (fun _ => 0))), (b1, .inl (cy 0, 8, .inl (fun _ => 0))), (b2, .inl (cy 0, 8, .inl g2)), (b3, .inl (cy 0, 8, .inl g3)), (b4, .inl (cy 0, 8, .inl g4)), (b5, .inl (cy 1, 8, .inl g5)), (od, .inl (cy 4, 1, .inr (.inr (.inr (.inl (fun _ => 0)))))), (m0, .inr (20, [.int 1, .ref mp, .int 0, .ref b1, .ref b2, .ref b3, .ref b4, .ref b5, .ref mq]))] := hD
    refine W.widen (k := 30) (n := 886) (Nat.le_of_ble_eq_true rfl) (Nat.le_of_ble_eq_true rfl) ?_
    refine lv_iload hx hb dL_law_850 (lv_at hl 1 rfl) ?_
    refine lv_icmp_eq (tgt := 857) hx hb dL_law_852 (by decide) (fun _ => ?_) (fun c_596 => absurd (by decide) c_596)
    refine lv_iload hx hb dL_law_857 (lv_at hl 1 rfl) ?_
    refine lv_if_ne (tgt := 874) hx hb dL_law_859 (by decide) (fun _ => ?_) (fun c_597 => absurd c_597 (by decide))
    refine lv_goto (tgt := 4257) hx hb dL_law_874 (by decide) ?_
    refine W.widen (k := 60) (n := 1200) (Nat.le_of_ble_eq_true rfl) (Nat.le_of_ble_eq_true rfl) ?_
    exact hend _ _ _ hS (lv_sub hl [7, 2] rfl)
set_option maxHeartbeats 4000000 in
set_option maxRecDepth 100000 in
theorem law_case_8 {p : Program} {l : Launch} {e : Env} {s : State} {m : MethodId} {below : List Frame} {meth : Method} {c : Code} {D : va_G} {cy : Nat → ClassId} {ed b : Nat} {xs : Nat → Int32} {A : Nat → Prop} {Q : State → Prop} (C0 : zx_LW p l s m c D cy ed b xs A)
    {h pe ne pa ro a1 a2 a3 a4 a5 a6 a7 a8 a9 n1 n2 n3 n4 n5 m0 mp b1 b2 b3 b4 b5 mq oa od : Nat} {f2 f3 f4 f5 g2 g3 g4 g5 : Nat → Int32} (hf5 : ∀ j, j < 8 → f5 j = 115) (hg5 : ∀ j, j < 8 → g5 j = 115) {H : Heap} {locs : List Loc} {ls : Array Slot}
    (hP : va_P D vwCl [(h, .inr (13, [.ref pe, .ref ne, .ref pa, .ref ro, .int 0])), (pe, .inr (9, [.int 0, .ref a1, .ref a2, .ref a3, .ref a4, .ref a5, .ref a6, .ref a7, .ref a8, .ref a9])), (a1, .inl (cy 0, 20, .inl (fun _ => 0))), (a2, .inl (cy 0, 20, .inl (fun _ => 0))), (ne, .inr (6, [.ref n1, .ref n2, .ref n3, .ref n4, .ref n5])), (n1, .inl (cy 0, 8, .inl (fun _ => 0))), (n2, .inl (cy 0, 8, .inl f2)), (n3, .inl (cy 0, 8, .inl f3)), (n4, .inl (cy 0, 8, .inl f4)), (n5, .inl (cy 1, 8, .inl f5)), (pa, .inr (4, [.int 0, .ref ed, .int 0])), (ro, .inl (cy 0, 20, .inl (fun _ => 0))), (m0, .inr (20, [.int 0, .ref mp, .int 0, .ref b1, .ref b2, .ref b3, .ref b4, .ref b5, .ref mq])), (b1, .inl (cy 0, 8, .inl (fun _ => 0))), (b2, .inl (cy 0, 8, .inl g2)), (b3, .inl (cy 0, 8, .inl g3)), (b4, .inl (cy 0, 8, .inl g4)), (b5, .inl (cy 1, 8, .inl g5)), (mp, .inr (4, [.int 0, .ref ed, .int 0])), (mq, .inr (4, [.int 0, .ref ed, .int 0])), (oa, .inl (cy 3, 1, .inr (.inl (fun _ => 0)))), (od, .inl (cy 4, 1, .inr (.inr (.inr (.inl (fun _ => 0))))))] H) (hD : va_D A [(h, .inr (13, [.ref pe, .ref ne, .ref pa, .ref ro, .int 0])), (pe, .inr (9, [.int 0, .ref a1, .ref a2, .ref a3, .ref a4, .ref a5, .ref a6, .ref a7, .ref a8, .ref a9])), (a1, .inl (cy 0, 20, .inl (fun _ => 0))), (a2, .inl (cy 0, 20, .inl (fun _ => 0))), (ne, .inr (6, [.ref n1, .ref n2, .ref n3, .ref n4, .ref n5])), (n1, .inl (cy 0, 8, .inl (fun _ => 0))), (n2, .inl (cy 0, 8, .inl f2)), (n3, .inl (cy 0, 8, .inl f3)), (n4, .inl (cy 0, 8, .inl f4)), (n5, .inl (cy 1, 8, .inl f5)), (pa, .inr (4, [.int 0, .ref ed, .int 0])), (ro, .inl (cy 0, 20, .inl (fun _ => 0))), (m0, .inr (20, [.int 0, .ref mp, .int 0, .ref b1, .ref b2, .ref b3, .ref b4, .ref b5, .ref mq])), (b1, .inl (cy 0, 8, .inl (fun _ => 0))), (b2, .inl (cy 0, 8, .inl g2)), (b3, .inl (cy 0, 8, .inl g3)), (b4, .inl (cy 0, 8, .inl g4)), (b5, .inl (cy 1, 8, .inl g5)), (mp, .inr (4, [.int 0, .ref ed, .int 0])), (mq, .inr (4, [.int 0, .ref ed, .int 0])), (oa, .inl (cy 3, 1, .inr (.inl (fun _ => 0)))), (od, .inl (cy 4, 1, .inr (.inr (.inr (.inl (fun _ => 0))))))]) (hS : va_S A s.heap H locs) (hl : lv_has ls 9 [(5, .int 0), (4, .ref od), (3, .ref oa), (2, .ref m0), (1, .ref h), (0, .ref b)])
    (hend : ∀ (H : Heap) (locs : List Loc) (ls : Array Slot), va_S A s.heap H locs → lv_has ls 9 [(0, .ref b), (5, .int 0)] → W p l e room_1 s m #[Value.ref b] below meth c H locs 60 1200 Q (F0 m 4257 ls [])) :
    W p l e room_1 s m #[Value.ref b] below meth c H locs 29 880 Q (F0 m 877 ls []) := by
  obtain ⟨hx, hb, hml, hst, hown, hts, hX, hbl, hbA, hA, hK, hZ, hN⟩ := C0
  refine lv_aload_n hx hb dL_law_877 rfl (lv_at hl 4 rfl) ?_
  refine lv_aload_n hx hb dL_law_878 rfl (lv_at hl 5 rfl) ?_
  refine lv_iload hx hb dL_law_879 (lv_at hl 0 rfl) ?_
  refine lv_iconst (v := 1) hx hb dL_law_881 (by decide) ?_
  refine lv_iadd hx hb dL_law_882 ?_
  refine lv_topi (fun y9 ey9 => ?_)
  obtain rfl : y9 = 1 := by rw [ey9] <;> decide
  refine va_sld hx hb hX hbl hbA hS (zx_bn (by decide)) dL_law_883 ?_
  refine lv_aload_n hx hb dL_law_884 rfl (lv_at hl 5 rfl) ?_
  refine lv_iload hx hb dL_law_885 (lv_at hl 0 rfl) ?_
  refine lv_iconst (v := 2) hx hb dL_law_887 (by decide) ?_
  refine lv_iadd hx hb dL_law_888 ?_
  refine lv_topi (fun y9 ey9 => ?_)
  obtain rfl : y9 = 2 := by rw [ey9] <;> decide
  refine va_sld hx hb hX hbl hbA hS (zx_bn (by decide)) dL_law_889 ?_
  refine lv_aload_n hx hb dL_law_890 rfl (lv_at hl 2 rfl) ?_
  have hPc := hP.sub (ws' := [(h, .inr (13, [.ref pe, .ref ne, .ref pa, .ref ro, .int 0])), (pa, .inr (4, [.int 0, .ref ed, .int 0])), (oa, .inl (cy 3, 1, .inr (.inl (fun _ => 0))))]) [0, 10, 20] rfl
  have hDc := hD.sub (ws' := [(h, .inr (13, [.ref pe, .ref ne, .ref pa, .ref ro, .int 0])), (pa, .inr (4, [.int 0, .ref ed, .int 0])), (oa, .inl (cy 3, 1, .inr (.inl (fun _ => 0))))]) [0, 10, 20] (by decide) rfl
  have hFc := va_free (wc := [(h, .inr (13, [.ref pe, .ref ne, .ref pa, .ref ro, .int 0])), (pa, .inr (4, [.int 0, .ref ed, .int 0])), (oa, .inl (cy 3, 1, .inr (.inl (fun _ => 0))))]) hD hS hA [0, 10, 20] rfl
  refine vx_calli (vx_runSX (As := [.ref h, .int (xs (1 : Int32).toNatClampNeg), .int (xs (2 : Int32).toNatClampNeg), .ref oa]) (rest := []) ⟨hx, hb, hml, hown, hts⟩ (c_L_addAuthor l hst D cy ed H.size h pe ne pa ro 0 0 ed oa (fun _ => 0) (xs (1 : Int32).toNatClampNeg) (xs (2 : Int32).toNatClampNeg)) (vx_cwSW 4 hts (zx_GS mm_837 mm_838 mm_70 mm_839) rfl rfl rfl (by decide +kernel) ⟨(Nat.le_of_ble_eq_true rfl), (Nat.le_of_ble_eq_true rfl)⟩) ⟨zx_blind, zx_give hPc hK hDc hS hFc hZ hN⟩ rfl rfl hl.1 rfl (lv_room (Nat.le_of_ble_eq_true rfl)) dL_law_891 ⟨(Nat.le_of_ble_eq_true rfl), (Nat.le_of_ble_eq_true rfl)⟩) hS (fun q _ h => hFc q h) hFc (fun q _ h => hFc q h) (fun E9 ce9 q9 _ t H locs ht hvm _ hBX hz1 hk1 hS hce hcv hcl => ?_) (fun r9 u t H locs ht hvm hw hB hz1 hk1 hS => ?_)
  · exact hBX.elim
  ·
    obtain rfl : r9 = 1 := hw
    obtain ⟨hP, hD⟩ := zx_join (wr := [(pe, .inr (9, [.int 0, .ref a1, .ref a2, .ref a3, .ref a4, .ref a5, .ref a6, .ref a7, .ref a8, .ref a9])), (a1, .inl (cy 0, 20, .inl (fun _ => 0))), (a2, .inl (cy 0, 20, .inl (fun _ => 0))), (ne, .inr (6, [.ref n1, .ref n2, .ref n3, .ref n4, .ref n5])), (n1, .inl (cy 0, 8, .inl (fun _ => 0))), (n2, .inl (cy 0, 8, .inl f2)), (n3, .inl (cy 0, 8, .inl f3)), (n4, .inl (cy 0, 8, .inl f4)), (n5, .inl (cy 1, 8, .inl f5)), (ro, .inl (cy 0, 20, .inl (fun _ => 0))), (m0, .inr (20, [.int 0, .ref mp, .int 0, .ref b1, .ref b2, .ref b3, .ref b4, .ref b5, .ref mq])), (b1, .inl (cy 0, 8, .inl (fun _ => 0))), (b2, .inl (cy 0, 8, .inl g2)), (b3, .inl (cy 0, 8, .inl g3)), (b4, .inl (cy 0, 8, .inl g4)), (b5, .inl (cy 1, 8, .inl g5)), (mp, .inr (4, [.int 0, .ref ed, .int 0])), (mq, .inr (4, [.int 0, .ref ed, .int 0])), (od, .inl (cy 4, 1, .inr (.inr (.inr (.inl (fun _ => 0))))))]) (w1 := []) [0, 10, 20] [1, 2, 3, 4, 5, 6, 7, 8, 9, 11, 12, 13, 14, 15, 16, 17, 18, 19, 21] rfl rfl (by decide) (by decide) hP hD hk1 hFc hB ht
    have hP : va_P D vwCl [(pe, .inr (9, [.int 0, .ref a1, .ref a2, .ref a3, .ref a4, .ref a5, .ref a6, .ref a7, .ref a8, .ref a9])), (a1, .inl (cy 0, 20, .inl (fun _ => 0))), (a2, .inl (cy 0, 20, .inl (fun _ => 0))), (ne, .inr (6, [.ref n1, .ref n2, .ref n3, .ref n4, .ref n5])), (n1, .inl (cy 0, 8, .inl (fun _ => 0))), (n2, .inl (cy 0, 8, .inl f2)), (n3, .inl (cy 0, 8, .inl f3)), (n4, .inl (cy 0, 8, .inl f4)), (n5, .inl (cy 1, 8, .inl f5)), (ro, .inl (cy 0, 20, .inl (fun _ => 0))), (m0, .inr (20, [.int 0, .ref mp, .int 0, .ref b1, .ref b2, .ref b3, .ref b4, .ref b5, .ref mq])), (b1, .inl (cy 0, 8, .inl (fun _ => 0))), (b2, .inl (cy 0, 8, .inl g2)), (b3, .inl (cy 0, 8, .inl g3)), (b4, .inl (cy 0, 8, .inl g4)), (b5, .inl (cy 1, 8, .inl g5)), (mp, .inr (4, [.int 0, .ref ed, .int 0])), (mq, .inr (4, [.int 0, .ref ed, .int 0])), (od, .inl (cy 4, 1, .inr (.inr (.inr (.inl (fun _ => 0))))))] H := hP
    have hD : va_D A [(pe, .inr (9, [.int 0, .ref a1, .ref a2, .ref a3, .ref a4, .ref a5, .ref a6, .ref a7, .ref a8, .ref a9])), (a1, .inl (cy 0, 20, .inl (fun _ => 0))), (a2, .inl (cy 0, 20, .inl (fun _ => 0))), (ne, .inr (6, [.ref n1, .ref n2, .ref n3, .ref n4, .ref n5])), (n1, .inl (cy 0, 8, .inl (fun _ => 0))), (n2, .inl (cy 0, 8, .inl f2)), (n3, .inl (cy 0, 8, .inl f3)), (n4, .inl (cy 0, 8, .inl f4)), (n5, .inl (cy 1, 8, .inl f5)), (ro, .inl (cy 0, 20, .inl (fun _ => 0))), (m0, .inr (20, [.int 0, .ref mp, .int 0, .ref b1, .ref b2, .ref b3, .ref b4, .ref b5, .ref mq])), (b1, .inl (cy 0, 8, .inl (fun _ => 0))), (b2, .inl (cy 0, 8, .inl g2)), (b3, .inl (cy 0, 8, .inl g3)), (b4, .inl (cy 0, 8, .inl g4)), (b5, .inl (cy 1, 8, .inl g5)), (mp, .inr (4, [.int 0, .ref ed, .int 0])), (mq, .inr (4, [.int 0, .ref ed, .int 0])), (od, .inl (cy 4, 1, .inr (.inr (.inr (.inl (fun _ => 0))))))] := hD
    refine W.widen (k := 30) (n := 886) (Nat.le_of_ble_eq_true rfl) (Nat.le_of_ble_eq_true rfl) ?_
    refine lv_istore (lv' := [(6, .int 1), (5, .int 0), (4, .ref od), (3, .ref oa), (2, .ref m0), (1, .ref h), (0, .ref b)]) hx hb dL_law_894 hl (by decide) rfl (fun ls hl => ?_)
    refine lv_aload_n hx hb dL_law_896 rfl (lv_at hl 4 rfl) ?_
    refine lv_aload_n hx hb dL_law_897 rfl (lv_at hl 6 rfl) ?_
    refine lv_iload hx hb dL_law_898 (lv_at hl 1 rfl) ?_
    refine lv_iconst (v := 1) hx hb dL_law_900 (by decide) ?_
    refine lv_iadd hx hb dL_law_901 ?_
    refine lv_topi (fun y9 ey9 => ?_)
    obtain rfl : y9 = 1 := by rw [ey9] <;> decide
    refine va_sld hx hb hX hbl hbA hS (zx_bn (by decide)) dL_law_902 ?_
    refine lv_aload_n hx hb dL_law_903 rfl (lv_at hl 6 rfl) ?_
    refine lv_iload hx hb dL_law_904 (lv_at hl 1 rfl) ?_
    refine lv_iconst (v := 2) hx hb dL_law_906 (by decide) ?_
    refine lv_iadd hx hb dL_law_907 ?_
    refine lv_topi (fun y9 ey9 => ?_)
    obtain rfl : y9 = 2 := by rw [ey9] <;> decide
    refine va_sld hx hb hX hbl hbA hS (zx_bn (by decide)) dL_law_908 ?_
    have hPc := hP.sub (ws' := [(m0, .inr (20, [.int 0, .ref mp, .int 0, .ref b1, .ref b2, .ref b3, .ref b4, .ref b5, .ref mq])), (mp, .inr (4, [.int 0, .ref ed, .int 0])), (mq, .inr (4, [.int 0, .ref ed, .int 0]))]) [10, 16, 17] rfl
    have hDc := hD.sub (ws' := [(m0, .inr (20, [.int 0, .ref mp, .int 0, .ref b1, .ref b2, .ref b3, .ref b4, .ref b5, .ref mq])), (mp, .inr (4, [.int 0, .ref ed, .int 0])), (mq, .inr (4, [.int 0, .ref ed, .int 0]))]) [10, 16, 17] (by decide) rfl
    have hFc := va_free (wc := [(m0, .inr (20, [.int 0, .ref mp, .int 0, .ref b1, .ref b2, .ref b3, .ref b4, .ref b5, .ref mq])), (mp, .inr (4, [.int 0, .ref ed, .int 0])), (mq, .inr (4, [.int 0, .ref ed, .int 0]))]) hD hS hA [10, 16, 17] rfl
    refine va_calli (va_runV (As := [.int (xs (1 : Int32).toNatClampNeg), .int (xs (2 : Int32).toNatClampNeg)]) (rest := []) ⟨hx, hb, hml, hown, hts⟩ (c_X15_addAuthor l hst D cy ed H.size m0 mp mq b1 b2 b3 b4 b5 0 0 0 ed 0 ed (xs (1 : Int32).toNatClampNeg) (xs (2 : Int32).toNatClampNeg)) (cwV 2 hts (zx_GV mm_2012 mm_2013 mm_2014 mm_78 mm_2015) rfl rfl rfl (by decide +kernel) ⟨(Nat.le_of_ble_eq_true rfl), (Nat.le_of_ble_eq_true rfl)⟩) ⟨zx_blind, va_recv hK hPc (ci := 20) (q0 := 0) rfl rfl, zx_give hPc hK hDc hS hFc hZ hN⟩ rfl rfl hl.1 rfl (lv_room (Nat.le_of_ble_eq_true rfl)) dL_law_909 ⟨(Nat.le_of_ble_eq_true rfl), (Nat.le_of_ble_eq_true rfl)⟩) hS (fun q _ h => hFc q h) hFc (fun r9 u t H1 locs ht hvm hw hB hz1 hk1 hS => ?_)
    obtain ⟨r_598, rfl⟩ : ∃ z9, z9 = r9 := ⟨_, rfl⟩
    have h_599 := hw
    obtain ⟨hP, hD⟩ := zx_join (wr := [(pe, .inr (9, [.int 0, .ref a1, .ref a2, .ref a3, .ref a4, .ref a5, .ref a6, .ref a7, .ref a8, .ref a9])), (a1, .inl (cy 0, 20, .inl (fun _ => 0))), (a2, .inl (cy 0, 20, .inl (fun _ => 0))), (ne, .inr (6, [.ref n1, .ref n2, .ref n3, .ref n4, .ref n5])), (n1, .inl (cy 0, 8, .inl (fun _ => 0))), (n2, .inl (cy 0, 8, .inl f2)), (n3, .inl (cy 0, 8, .inl f3)), (n4, .inl (cy 0, 8, .inl f4)), (n5, .inl (cy 1, 8, .inl f5)), (ro, .inl (cy 0, 20, .inl (fun _ => 0))), (b1, .inl (cy 0, 8, .inl (fun _ => 0))), (b2, .inl (cy 0, 8, .inl g2)), (b3, .inl (cy 0, 8, .inl g3)), (b4, .inl (cy 0, 8, .inl g4)), (b5, .inl (cy 1, 8, .inl g5)), (od, .inl (cy 4, 1, .inr (.inr (.inr (.inl (fun _ => 0))))))]) (w1 := [(m0, .inr (20, [.int 1, .ref mp, .int 0, .ref b1, .ref b2, .ref b3, .ref b4, .ref b5, .ref mq]))]) [10, 16, 17] [0, 1, 2, 3, 4, 5, 6, 7, 8, 9, 11, 12, 13, 14, 15, 18] rfl rfl (by decide) (by decide) hP hD hk1 hFc hB ht
    generalize H1 = H at hP hS ⊢
    have hP : va_P D vwCl [(pe, .inr (9, [.int 0, .ref a1, .ref a2, .ref a3, .ref a4, .ref a5, .ref a6, .ref a7, .ref a8, .ref a9])), (a1, .inl (cy 0, 20, .inl (fun _ => 0))), (a2, .inl (cy 0, 20, .inl (fun _ => 0))), (ne, .inr (6, [.ref n1, .ref n2, .ref n3, .ref n4, .ref n5])), (n1, .inl (cy 0, 8, .inl (fun _ => 0))), (n2, .inl (cy 0, 8, .inl f2)), (n3, .inl (cy 0, 8, .inl f3)), (n4, .inl (cy 0, 8, .inl f4)), (n5, .inl (cy 1, 8, .inl f5)), (ro, .inl (cy 0, 20, .inl (fun _ => 0))), (b1, .inl (cy 0, 8, .inl (fun _ => 0))), (b2, .inl (cy 0, 8, .inl g2)), (b3, .inl (cy 0, 8, .inl g3)), (b4, .inl (cy 0, 8, .inl g4)), (b5, .inl (cy 1, 8, .inl g5)), (od, .inl (cy 4, 1, .inr (.inr (.inr (.inl (fun _ => 0)))))), (m0, .inr (20, [.int 1, .ref mp, .int 0, .ref b1, .ref b2, .ref b3, .ref b4, .ref b5, .ref mq]))] H := hP
    have hD : va_D A [(pe, .inr (9, [.int 0, .ref a1, .ref a2, .ref a3, .ref a4, .ref a5, .ref a6, .ref a7, .ref a8, .ref a9])), (a1, .inl (cy 0, 20, .inl (fun _ => 0))), (a2, .inl (cy 0, 20, .inl (fun _ => 0))), (ne, .inr (6, [.ref n1, .ref n2, .ref n3, .ref n4, .ref n5])), (n1, .inl (cy 0, 8, .inl (fun _ => 0))), (n2, .inl (cy 0, 8, .inl f2)), (n3, .inl (cy 0, 8, .inl f3)), (n4, .inl (cy 0, 8, .inl f4)), (n5, .inl (cy 1, 8, .inl f5)), (ro, .inl (cy 0, 20, .inl (fun _ => 0))), (b1, .inl (cy 0, 8, .inl (fun _ => 0))), (b2, .inl (cy 0, 8, .inl g2)), (b3, .inl (cy 0, 8, .inl g3)), (b4, .inl (cy 0, 8, .inl g4)), (b5, .inl (cy 1, 8, .inl g5)), (od, .inl (cy 4, 1, .inr (.inr (.inr (.inl (fun _ => 0)))))), (m0, .inr (20, [.int 1, .ref mp, .int 0, .ref b1, .ref b2, .ref b3, .ref b4, .ref b5, .ref mq]))] := hD
    refine W.widen (k := 30) (n := 886) (Nat.le_of_ble_eq_true rfl) (Nat.le_of_ble_eq_true rfl) ?_
    refine lv_istore (lv' := [(7, .int r_598), (6, .int 1), (5, .int 0), (4, .ref od), (3, .ref oa), (2, .ref m0), (1, .ref h), (0, .ref b)]) hx hb dL_law_912 hl (by decide) rfl (fun ls hl => ?_)
    refine lv_aload_n hx hb dL_law_914 rfl (lv_at hl 5 rfl) ?_
    have hPc := hP.sub (ws' := [(m0, .inr (20, [.int 1, .ref mp, .int 0, .ref b1, .ref b2, .ref b3, .ref b4, .ref b5, .ref mq]))]) [16] rfl
    have hDc := hD.sub (ws' := [(m0, .inr (20, [.int 1, .ref mp, .int 0, .ref b1, .ref b2, .ref b3, .ref b4, .ref b5, .ref mq]))]) [16] (by decide) rfl
    have hFc := va_free (wc := [(m0, .inr (20, [.int 1, .ref mp, .int 0, .ref b1, .ref b2, .ref b3, .ref b4, .ref b5, .ref mq]))]) hD hS hA [16] rfl
    refine va_calli (va_runV (As := []) (rest := []) ⟨hx, hb, hml, hown, hts⟩ (c_X15_thrown l hst D cy ed H.size m0 mp mq b1 b2 b3 b4 b5 1 0) (cwV 0 hts (zx_GV mm_1599 mm_1600 mm_1601 mm_78 mm_1602) rfl rfl rfl (by decide +kernel) ⟨(Nat.le_of_ble_eq_true rfl), (Nat.le_of_ble_eq_true rfl)⟩) ⟨zx_blind, va_recv hK hPc (ci := 20) (q0 := 0) rfl rfl, zx_give hPc hK hDc hS hFc hZ hN⟩ rfl rfl hl.1 rfl (lv_room (Nat.le_of_ble_eq_true rfl)) dL_law_915 ⟨(Nat.le_of_ble_eq_true rfl), (Nat.le_of_ble_eq_true rfl)⟩) hS (fun q _ h => hFc q h) hFc (fun r9 u t H1 locs ht hvm hw hB hz1 hk1 hS => ?_)
    obtain rfl : r9 = 1 := hw
    obtain ⟨hP, hD⟩ := zx_join (wr := [(pe, .inr (9, [.int 0, .ref a1, .ref a2, .ref a3, .ref a4, .ref a5, .ref a6, .ref a7, .ref a8, .ref a9])), (a1, .inl (cy 0, 20, .inl (fun _ => 0))), (a2, .inl (cy 0, 20, .inl (fun _ => 0))), (ne, .inr (6, [.ref n1, .ref n2, .ref n3, .ref n4, .ref n5])), (n1, .inl (cy 0, 8, .inl (fun _ => 0))), (n2, .inl (cy 0, 8, .inl f2)), (n3, .inl (cy 0, 8, .inl f3)), (n4, .inl (cy 0, 8, .inl f4)), (n5, .inl (cy 1, 8, .inl f5)), (ro, .inl (cy 0, 20, .inl (fun _ => 0))), (b1, .inl (cy 0, 8, .inl (fun _ => 0))), (b2, .inl (cy 0, 8, .inl g2)), (b3, .inl (cy 0, 8, .inl g3)), (b4, .inl (cy 0, 8, .inl g4)), (b5, .inl (cy 1, 8, .inl g5)), (od, .inl (cy 4, 1, .inr (.inr (.inr (.inl (fun _ => 0))))))]) (w1 := [(m0, .inr (20, [.int 1, .ref mp, .int 0, .ref b1, .ref b2, .ref b3, .ref b4, .ref b5, .ref mq]))]) [16] [0, 1, 2, 3, 4, 5, 6, 7, 8, 9, 10, 11, 12, 13, 14, 15] rfl rfl (by decide) (by decide) hP hD hk1 hFc hB ht
    generalize H1 = H at hP hS ⊢
    have hP : va_P D vwCl [(pe, .inr (9, [.int 0, .ref a1, .ref a2, .ref a3, .ref a4, .ref a5, .ref a6, .ref a7, .ref a8, .ref a9])), (a1, .inl (cy 0, 20, .inl (fun _ => 0))), (a2, .inl (cy 0, 20, .inl (fun _ => 0))), (ne, .inr (6, [.ref n1, .ref n2, .ref n3, .ref n4, .ref n5])), (n1, .inl (cy 0, 8, .inl (fun _ => 0))), (n2, .inl (cy 0, 8, .inl f2)), (n3, .inl (cy 0, 8, .inl f3)), (n4, .inl (cy 0, 8, .inl f4)), (n5, .inl (cy 1, 8, .inl f5)), (ro, .inl (cy 0, 20, .inl (fun _ => 0))), (b1, .inl (cy 0, 8, .inl (fun _ => 0))), (b2, .inl (cy 0, 8, .inl g2)), (b3, .inl (cy 0, 8, .inl g3)), (b4, .inl (cy 0, 8, .inl g4)), (b5, .inl (cy 1, 8, .inl g5)), (od, .inl (cy 4, 1, .inr (.inr (.inr (.inl (fun _ => 0)))))), (m0, .inr (20, [.int 1, .ref mp, .int 0, .ref b1, .ref b2, .ref b3, .ref b4, .ref b5, .ref mq]))] H := hP
    have hD : va_D A [(pe, .inr (9, [.int 0, .ref a1, .ref a2, .ref a3, .ref a4, .ref a5, .ref a6, .ref a7, .ref a8, .ref a9])), (a1, .inl (cy 0, 20, .inl (fun _ => 0))), (a2, .inl (cy 0, 20, .inl (fun _ => 0))), (ne, .inr (6, [.ref n1, .ref n2, .ref n3, .ref n4, .ref n5])), (n1, .inl (cy 0, 8, .inl (fun _ => 0))), (n2, .inl (cy 0, 8, .inl f2)), (n3, .inl (cy 0, 8, .inl f3)), (n4, .inl (cy 0, 8, .inl f4)), (n5, .inl (cy 1, 8, .inl f5)), (ro, .inl (cy 0, 20, .inl (fun _ => 0))), (b1, .inl (cy 0, 8, .inl (fun _ => 0))), (b2, .inl (cy 0, 8, .inl g2)), (b3, .inl (cy 0, 8, .inl g3)), (b4, .inl (cy 0, 8, .inl g4)), (b5, .inl (cy 1, 8, .inl g5)), (od, .inl (cy 4, 1, .inr (.inr (.inr (.inl (fun _ => 0)))))), (m0, .inr (20, [.int 1, .ref mp, .int 0, .ref b1, .ref b2, .ref b3, .ref b4, .ref b5, .ref mq]))] := hD
    refine W.widen (k := 30) (n := 886) (Nat.le_of_ble_eq_true rfl) (Nat.le_of_ble_eq_true rfl) ?_
    refine lv_iload hx hb dL_law_918 (lv_at hl 1 rfl) ?_
    refine lv_icmp_eq (tgt := 925) hx hb dL_law_920 (by decide) (fun _ => ?_) (fun c_600 => absurd (by decide) c_600)
    refine lv_iload hx hb dL_law_925 (lv_at hl 1 rfl) ?_
    refine lv_if_ne (tgt := 942) hx hb dL_law_927 (by decide) (fun _ => ?_) (fun c_601 => absurd c_601 (by decide))
    refine lv_goto (tgt := 4257) hx hb dL_law_942 (by decide) ?_
    refine W.widen (k := 60) (n := 1200) (Nat.le_of_ble_eq_true rfl) (Nat.le_of_ble_eq_true rfl) ?_
    exact hend _ _ _ hS (lv_sub hl [7, 2] rfl)
set_option maxHeartbeats 4000000 in
set_option maxRecDepth 100000 in
theorem law_case_9 {p : Program} {l : Launch} {e : Env} {s : State} {m : MethodId} {below : List Frame} {meth : Method} {c : Code} {D : va_G} {cy : Nat → ClassId} {ed b : Nat} {xs : Nat → Int32} {A : Nat → Prop} {Q : State → Prop} (C0 : zx_LW p l s m c D cy ed b xs A)
    {h pe ne pa ro a1 a2 a3 a4 a5 a6 a7 a8 a9 n1 n2 n3 n4 n5 m0 mp b1 b2 b3 b4 b5 mq oa od : Nat} {f2 f3 f4 f5 g2 g3 g4 g5 : Nat → Int32} (hf5 : ∀ j, j < 8 → f5 j = 115) (hg5 : ∀ j, j < 8 → g5 j = 115) {H : Heap} {locs : List Loc} {ls : Array Slot}
    (hP : va_P D vwCl [(h, .inr (13, [.ref pe, .ref ne, .ref pa, .ref ro, .int 0])), (pe, .inr (9, [.int 0, .ref a1, .ref a2, .ref a3, .ref a4, .ref a5, .ref a6, .ref a7, .ref a8, .ref a9])), (a1, .inl (cy 0, 20, .inl (fun _ => 0))), (a2, .inl (cy 0, 20, .inl (fun _ => 0))), (ne, .inr (6, [.ref n1, .ref n2, .ref n3, .ref n4, .ref n5])), (n1, .inl (cy 0, 8, .inl (fun _ => 0))), (n2, .inl (cy 0, 8, .inl f2)), (n3, .inl (cy 0, 8, .inl f3)), (n4, .inl (cy 0, 8, .inl f4)), (n5, .inl (cy 1, 8, .inl f5)), (pa, .inr (4, [.int 0, .ref ed, .int 0])), (ro, .inl (cy 0, 20, .inl (fun _ => 0))), (m0, .inr (20, [.int 0, .ref mp, .int 0, .ref b1, .ref b2, .ref b3, .ref b4, .ref b5, .ref mq])), (b1, .inl (cy 0, 8, .inl (fun _ => 0))), (b2, .inl (cy 0, 8, .inl g2)), (b3, .inl (cy 0, 8, .inl g3)), (b4, .inl (cy 0, 8, .inl g4)), (b5, .inl (cy 1, 8, .inl g5)), (mp, .inr (4, [.int 0, .ref ed, .int 0])), (mq, .inr (4, [.int 0, .ref ed, .int 0])), (oa, .inl (cy 3, 1, .inr (.inl (fun _ => 0)))), (od, .inl (cy 4, 1, .inr (.inr (.inr (.inl (fun _ => 0))))))] H) (hD : va_D A [(h, .inr (13, [.ref pe, .ref ne, .ref pa, .ref ro, .int 0])), (pe, .inr (9, [.int 0, .ref a1, .ref a2, .ref a3, .ref a4, .ref a5, .ref a6, .ref a7, .ref a8, .ref a9])), (a1, .inl (cy 0, 20, .inl (fun _ => 0))), (a2, .inl (cy 0, 20, .inl (fun _ => 0))), (ne, .inr (6, [.ref n1, .ref n2, .ref n3, .ref n4, .ref n5])), (n1, .inl (cy 0, 8, .inl (fun _ => 0))), (n2, .inl (cy 0, 8, .inl f2)), (n3, .inl (cy 0, 8, .inl f3)), (n4, .inl (cy 0, 8, .inl f4)), (n5, .inl (cy 1, 8, .inl f5)), (pa, .inr (4, [.int 0, .ref ed, .int 0])), (ro, .inl (cy 0, 20, .inl (fun _ => 0))), (m0, .inr (20, [.int 0, .ref mp, .int 0, .ref b1, .ref b2, .ref b3, .ref b4, .ref b5, .ref mq])), (b1, .inl (cy 0, 8, .inl (fun _ => 0))), (b2, .inl (cy 0, 8, .inl g2)), (b3, .inl (cy 0, 8, .inl g3)), (b4, .inl (cy 0, 8, .inl g4)), (b5, .inl (cy 1, 8, .inl g5)), (mp, .inr (4, [.int 0, .ref ed, .int 0])), (mq, .inr (4, [.int 0, .ref ed, .int 0])), (oa, .inl (cy 3, 1, .inr (.inl (fun _ => 0)))), (od, .inl (cy 4, 1, .inr (.inr (.inr (.inl (fun _ => 0))))))]) (hS : va_S A s.heap H locs) (hl : lv_has ls 9 [(5, .int 0), (4, .ref od), (3, .ref oa), (2, .ref m0), (1, .ref h), (0, .ref b)])
    (hend : ∀ (H : Heap) (locs : List Loc) (ls : Array Slot), va_S A s.heap H locs → lv_has ls 9 [(0, .ref b), (5, .int 0)] → W p l e room_1 s m #[Value.ref b] below meth c H locs 60 1200 Q (F0 m 4257 ls [])) :
    W p l e room_1 s m #[Value.ref b] below meth c H locs 29 880 Q (F0 m 945 ls []) := by
  obtain ⟨hx, hb, hml, hst, hown, hts, hX, hbl, hbA, hA, hK, hZ, hN⟩ := C0
  refine lv_aload_n hx hb dL_law_945 rfl (lv_at hl 4 rfl) ?_
  refine lv_aload_n hx hb dL_law_946 rfl (lv_at hl 5 rfl) ?_
  refine lv_iload hx hb dL_law_947 (lv_at hl 0 rfl) ?_
  refine lv_iconst (v := 1) hx hb dL_law_949 (by decide) ?_
  refine lv_iadd hx hb dL_law_950 ?_
  refine lv_topi (fun y9 ey9 => ?_)
  obtain rfl : y9 = 1 := by rw [ey9] <;> decide
  refine va_sld hx hb hX hbl hbA hS (zx_bn (by decide)) dL_law_951 ?_
  refine lv_aload_n hx hb dL_law_952 rfl (lv_at hl 5 rfl) ?_
  refine lv_iload hx hb dL_law_953 (lv_at hl 0 rfl) ?_
  refine lv_iconst (v := 2) hx hb dL_law_955 (by decide) ?_
  refine lv_iadd hx hb dL_law_956 ?_
  refine lv_topi (fun y9 ey9 => ?_)
  obtain rfl : y9 = 2 := by rw [ey9] <;> decide
  refine va_sld hx hb hX hbl hbA hS (zx_bn (by decide)) dL_law_957 ?_
  refine lv_aload_n hx hb dL_law_958 rfl (lv_at hl 2 rfl) ?_
  have hPc := hP.sub (ws' := [(h, .inr (13, [.ref pe, .ref ne, .ref pa, .ref ro, .int 0])), (pa, .inr (4, [.int 0, .ref ed, .int 0])), (oa, .inl (cy 3, 1, .inr (.inl (fun _ => 0))))]) [0, 10, 20] rfl
  have hDc := hD.sub (ws' := [(h, .inr (13, [.ref pe, .ref ne, .ref pa, .ref ro, .int 0])), (pa, .inr (4, [.int 0, .ref ed, .int 0])), (oa, .inl (cy 3, 1, .inr (.inl (fun _ => 0))))]) [0, 10, 20] (by decide) rfl
  have hFc := va_free (wc := [(h, .inr (13, [.ref pe, .ref ne, .ref pa, .ref ro, .int 0])), (pa, .inr (4, [.int 0, .ref ed, .int 0])), (oa, .inl (cy 3, 1, .inr (.inl (fun _ => 0))))]) hD hS hA [0, 10, 20] rfl
  refine vx_calli (vx_runSX (As := [.ref h, .int (xs (1 : Int32).toNatClampNeg), .int (xs (2 : Int32).toNatClampNeg), .ref oa]) (rest := []) ⟨hx, hb, hml, hown, hts⟩ (c_L_dropAuthor l hst D cy ed H.size h pe ne pa ro 0 0 ed oa (fun _ => 0) (xs (1 : Int32).toNatClampNeg) (xs (2 : Int32).toNatClampNeg)) (vx_cwSW 4 hts (zx_GS mm_880 mm_881 mm_70 mm_882) rfl rfl rfl (by decide +kernel) ⟨(Nat.le_of_ble_eq_true rfl), (Nat.le_of_ble_eq_true rfl)⟩) ⟨zx_blind, zx_give hPc hK hDc hS hFc hZ hN⟩ rfl rfl hl.1 rfl (lv_room (Nat.le_of_ble_eq_true rfl)) dL_law_959 ⟨(Nat.le_of_ble_eq_true rfl), (Nat.le_of_ble_eq_true rfl)⟩) hS (fun q _ h => hFc q h) hFc (fun q _ h => hFc q h) (fun E9 ce9 q9 _ t H locs ht hvm _ hBX hz1 hk1 hS hce hcv hcl => ?_) (fun r9 u t H locs ht hvm hw hB hz1 hk1 hS => ?_)
  · exact hBX.elim
  ·
    obtain rfl : r9 = 1 := hw
    obtain ⟨hP, hD⟩ := zx_join (wr := [(pe, .inr (9, [.int 0, .ref a1, .ref a2, .ref a3, .ref a4, .ref a5, .ref a6, .ref a7, .ref a8, .ref a9])), (a1, .inl (cy 0, 20, .inl (fun _ => 0))), (a2, .inl (cy 0, 20, .inl (fun _ => 0))), (ne, .inr (6, [.ref n1, .ref n2, .ref n3, .ref n4, .ref n5])), (n1, .inl (cy 0, 8, .inl (fun _ => 0))), (n2, .inl (cy 0, 8, .inl f2)), (n3, .inl (cy 0, 8, .inl f3)), (n4, .inl (cy 0, 8, .inl f4)), (n5, .inl (cy 1, 8, .inl f5)), (ro, .inl (cy 0, 20, .inl (fun _ => 0))), (m0, .inr (20, [.int 0, .ref mp, .int 0, .ref b1, .ref b2, .ref b3, .ref b4, .ref b5, .ref mq])), (b1, .inl (cy 0, 8, .inl (fun _ => 0))), (b2, .inl (cy 0, 8, .inl g2)), (b3, .inl (cy 0, 8, .inl g3)), (b4, .inl (cy 0, 8, .inl g4)), (b5, .inl (cy 1, 8, .inl g5)), (mp, .inr (4, [.int 0, .ref ed, .int 0])), (mq, .inr (4, [.int 0, .ref ed, .int 0])), (od, .inl (cy 4, 1, .inr (.inr (.inr (.inl (fun _ => 0))))))]) (w1 := []) [0, 10, 20] [1, 2, 3, 4, 5, 6, 7, 8, 9, 11, 12, 13, 14, 15, 16, 17, 18, 19, 21] rfl rfl (by decide) (by decide) hP hD hk1 hFc hB ht
    have hP : va_P D vwCl [(pe, .inr (9, [.int 0, .ref a1, .ref a2, .ref a3, .ref a4, .ref a5, .ref a6, .ref a7, .ref a8, .ref a9])), (a1, .inl (cy 0, 20, .inl (fun _ => 0))), (a2, .inl (cy 0, 20, .inl (fun _ => 0))), (ne, .inr (6, [.ref n1, .ref n2, .ref n3, .ref n4, .ref n5])), (n1, .inl (cy 0, 8, .inl (fun _ => 0))), (n2, .inl (cy 0, 8, .inl f2)), (n3, .inl (cy 0, 8, .inl f3)), (n4, .inl (cy 0, 8, .inl f4)), (n5, .inl (cy 1, 8, .inl f5)), (ro, .inl (cy 0, 20, .inl (fun _ => 0))), (m0, .inr (20, [.int 0, .ref mp, .int 0, .ref b1, .ref b2, .ref b3, .ref b4, .ref b5, .ref mq])), (b1, .inl (cy 0, 8, .inl (fun _ => 0))), (b2, .inl (cy 0, 8, .inl g2)), (b3, .inl (cy 0, 8, .inl g3)), (b4, .inl (cy 0, 8, .inl g4)), (b5, .inl (cy 1, 8, .inl g5)), (mp, .inr (4, [.int 0, .ref ed, .int 0])), (mq, .inr (4, [.int 0, .ref ed, .int 0])), (od, .inl (cy 4, 1, .inr (.inr (.inr (.inl (fun _ => 0))))))] H := hP
    have hD : va_D A [(pe, .inr (9, [.int 0, .ref a1, .ref a2, .ref a3, .ref a4, .ref a5, .ref a6, .ref a7, .ref a8, .ref a9])), (a1, .inl (cy 0, 20, .inl (fun _ => 0))), (a2, .inl (cy 0, 20, .inl (fun _ => 0))), (ne, .inr (6, [.ref n1, .ref n2, .ref n3, .ref n4, .ref n5])), (n1, .inl (cy 0, 8, .inl (fun _ => 0))), (n2, .inl (cy 0, 8, .inl f2)), (n3, .inl (cy 0, 8, .inl f3)), (n4, .inl (cy 0, 8, .inl f4)), (n5, .inl (cy 1, 8, .inl f5)), (ro, .inl (cy 0, 20, .inl (fun _ => 0))), (m0, .inr (20, [.int 0, .ref mp, .int 0, .ref b1, .ref b2, .ref b3, .ref b4, .ref b5, .ref mq])), (b1, .inl (cy 0, 8, .inl (fun _ => 0))), (b2, .inl (cy 0, 8, .inl g2)), (b3, .inl (cy 0, 8, .inl g3)), (b4, .inl (cy 0, 8, .inl g4)), (b5, .inl (cy 1, 8, .inl g5)), (mp, .inr (4, [.int 0, .ref ed, .int 0])), (mq, .inr (4, [.int 0, .ref ed, .int 0])), (od, .inl (cy 4, 1, .inr (.inr (.inr (.inl (fun _ => 0))))))] := hD
    refine W.widen (k := 30) (n := 886) (Nat.le_of_ble_eq_true rfl) (Nat.le_of_ble_eq_true rfl) ?_
    refine lv_istore (lv' := [(6, .int 1), (5, .int 0), (4, .ref od), (3, .ref oa), (2, .ref m0), (1, .ref h), (0, .ref b)]) hx hb dL_law_962 hl (by decide) rfl (fun ls hl => ?_)
    refine lv_aload_n hx hb dL_law_964 rfl (lv_at hl 4 rfl) ?_
    refine lv_aload_n hx hb dL_law_965 rfl (lv_at hl 6 rfl) ?_
    refine lv_iload hx hb dL_law_966 (lv_at hl 1 rfl) ?_
    refine lv_iconst (v := 1) hx hb dL_law_968 (by decide) ?_
    refine lv_iadd hx hb dL_law_969 ?_
    refine lv_topi (fun y9 ey9 => ?_)
    obtain rfl : y9 = 1 := by rw [ey9] <;> decide
    refine va_sld hx hb hX hbl hbA hS (zx_bn (by decide)) dL_law_970 ?_
    refine lv_aload_n hx hb dL_law_971 rfl (lv_at hl 6 rfl) ?_
    refine lv_iload hx hb dL_law_972 (lv_at hl 1 rfl) ?_
    refine lv_iconst (v := 2) hx hb dL_law_974 (by decide) ?_
    refine lv_iadd hx hb dL_law_975 ?_
    refine lv_topi (fun y9 ey9 => ?_)
    obtain rfl : y9 = 2 := by rw [ey9] <;> decide
    refine va_sld hx hb hX hbl hbA hS (zx_bn (by decide)) dL_law_976 ?_
    have hPc := hP.sub (ws' := [(m0, .inr (20, [.int 0, .ref mp, .int 0, .ref b1, .ref b2, .ref b3, .ref b4, .ref b5, .ref mq])), (mp, .inr (4, [.int 0, .ref ed, .int 0])), (mq, .inr (4, [.int 0, .ref ed, .int 0]))]) [10, 16, 17] rfl
    have hDc := hD.sub (ws' := [(m0, .inr (20, [.int 0, .ref mp, .int 0, .ref b1, .ref b2, .ref b3, .ref b4, .ref b5, .ref mq])), (mp, .inr (4, [.int 0, .ref ed, .int 0])), (mq, .inr (4, [.int 0, .ref ed, .int 0]))]) [10, 16, 17] (by decide) rfl
    have hFc := va_free (wc := [(m0, .inr (20, [.int 0, .ref mp, .int 0, .ref b1, .ref b2, .ref b3, .ref b4, .ref b5, .ref mq])), (mp, .inr (4, [.int 0, .ref ed, .int 0])), (mq, .inr (4, [.int 0, .ref ed, .int 0]))]) hD hS hA [10, 16, 17] rfl
    refine va_calli (va_runV (As := [.int (xs (1 : Int32).toNatClampNeg), .int (xs (2 : Int32).toNatClampNeg)]) (rest := []) ⟨hx, hb, hml, hown, hts⟩ (c_X15_dropAuthor l hst D cy ed H.size m0 mp mq b1 b2 b3 b4 b5 0 0 0 ed 0 ed (xs (1 : Int32).toNatClampNeg) (xs (2 : Int32).toNatClampNeg)) (cwV 2 hts (zx_GV mm_2045 mm_2046 mm_2047 mm_78 mm_2048) rfl rfl rfl (by decide +kernel) ⟨(Nat.le_of_ble_eq_true rfl), (Nat.le_of_ble_eq_true rfl)⟩) ⟨zx_blind, va_recv hK hPc (ci := 20) (q0 := 0) rfl rfl, zx_give hPc hK hDc hS hFc hZ hN⟩ rfl rfl hl.1 rfl (lv_room (Nat.le_of_ble_eq_true rfl)) dL_law_977 ⟨(Nat.le_of_ble_eq_true rfl), (Nat.le_of_ble_eq_true rfl)⟩) hS (fun q _ h => hFc q h) hFc (fun r9 u t H1 locs ht hvm hw hB hz1 hk1 hS => ?_)
    obtain ⟨r_602, rfl⟩ : ∃ z9, z9 = r9 := ⟨_, rfl⟩
    have h_603 := hw
    obtain ⟨hP, hD⟩ := zx_join (wr := [(pe, .inr (9, [.int 0, .ref a1, .ref a2, .ref a3, .ref a4, .ref a5, .ref a6, .ref a7, .ref a8, .ref a9])), (a1, .inl (cy 0, 20, .inl (fun _ => 0))), (a2, .inl (cy 0, 20, .inl (fun _ => 0))), (ne, .inr (6, [.ref n1, .ref n2, .ref n3, .ref n4, .ref n5])), (n1, .inl (cy 0, 8, .inl (fun _ => 0))), (n2, .inl (cy 0, 8, .inl f2)), (n3, .inl (cy 0, 8, .inl f3)), (n4, .inl (cy 0, 8, .inl f4)), (n5, .inl (cy 1, 8, .inl f5)), (ro, .inl (cy 0, 20, .inl (fun _ => 0))), (b1, .inl (cy 0, 8, .inl (fun _ => 0))), (b2, .inl (cy 0, 8, .inl g2)), (b3, .inl (cy 0, 8, .inl g3)), (b4, .inl (cy 0, 8, .inl g4)), (b5, .inl (cy 1, 8, .inl g5)), (od, .inl (cy 4, 1, .inr (.inr (.inr (.inl (fun _ => 0))))))]) (w1 := [(m0, .inr (20, [.int 1, .ref mp, .int 0, .ref b1, .ref b2, .ref b3, .ref b4, .ref b5, .ref mq]))]) [10, 16, 17] [0, 1, 2, 3, 4, 5, 6, 7, 8, 9, 11, 12, 13, 14, 15, 18] rfl rfl (by decide) (by decide) hP hD hk1 hFc hB ht
    generalize H1 = H at hP hS ⊢
    have hP : va_P D vwCl [(pe, .inr (9, [.int 0, .ref a1, .ref a2, .ref a3, .ref a4, .ref a5, .ref a6, .ref a7, .ref a8, .ref a9])), (a1, .inl (cy 0, 20, .inl (fun _ => 0))), (a2, .inl (cy 0, 20, .inl (fun _ => 0))), (ne, .inr (6, [.ref n1, .ref n2, .ref n3, .ref n4, .ref n5])), (n1, .inl (cy 0, 8, .inl (fun _ => 0))), (n2, .inl (cy 0, 8, .inl f2)), (n3, .inl (cy 0, 8, .inl f3)), (n4, .inl (cy 0, 8, .inl f4)), (n5, .inl (cy 1, 8, .inl f5)), (ro, .inl (cy 0, 20, .inl (fun _ => 0))), (b1, .inl (cy 0, 8, .inl (fun _ => 0))), (b2, .inl (cy 0, 8, .inl g2)), (b3, .inl (cy 0, 8, .inl g3)), (b4, .inl (cy 0, 8, .inl g4)), (b5, .inl (cy 1, 8, .inl g5)), (od, .inl (cy 4, 1, .inr (.inr (.inr (.inl (fun _ => 0)))))), (m0, .inr (20, [.int 1, .ref mp, .int 0, .ref b1, .ref b2, .ref b3, .ref b4, .ref b5, .ref mq]))] H := hP
    have hD : va_D A [(pe, .inr (9, [.int 0, .ref a1, .ref a2, .ref a3, .ref a4, .ref a5, .ref a6, .ref a7, .ref a8, .ref a9])), (a1, .inl (cy 0, 20, .inl (fun _ => 0))), (a2, .inl (cy 0, 20, .inl (fun _ => 0))), (ne, .inr (6, [.ref n1, .ref n2, .ref n3, .ref n4, .ref n5])), (n1, .inl (cy 0, 8, .inl (fun _ => 0))), (n2, .inl (cy 0, 8, .inl f2)), (n3, .inl (cy 0, 8, .inl f3)), (n4, .inl (cy 0, 8, .inl f4)), (n5, .inl (cy 1, 8, .inl f5)), (ro, .inl (cy 0, 20, .inl (fun _ => 0))), (b1, .inl (cy 0, 8, .inl (fun _ => 0))), (b2, .inl (cy 0, 8, .inl g2)), (b3, .inl (cy 0, 8, .inl g3)), (b4, .inl (cy 0, 8, .inl g4)), (b5, .inl (cy 1, 8, .inl g5)), (od, .inl (cy 4, 1, .inr (.inr (.inr (.inl (fun _ => 0)))))), (m0, .inr (20, [.int 1, .ref mp, .int 0, .ref b1, .ref b2, .ref b3, .ref b4, .ref b5, .ref mq]))] := hD
    refine W.widen (k := 30) (n := 886) (Nat.le_of_ble_eq_true rfl) (Nat.le_of_ble_eq_true rfl) ?_
    refine lv_istore (lv' := [(7, .int r_602), (6, .int 1), (5, .int 0), (4, .ref od), (3, .ref oa), (2, .ref m0), (1, .ref h), (0, .ref b)]) hx hb dL_law_980 hl (by decide) rfl (fun ls hl => ?_)
    refine lv_aload_n hx hb dL_law_982 rfl (lv_at hl 5 rfl) ?_
    have hPc := hP.sub (ws' := [(m0, .inr (20, [.int 1, .ref mp, .int 0, .ref b1, .ref b2, .ref b3, .ref b4, .ref b5, .ref mq]))]) [16] rfl
    have hDc := hD.sub (ws' := [(m0, .inr (20, [.int 1, .ref mp, .int 0, .ref b1, .ref b2, .ref b3, .ref b4, .ref b5, .ref mq]))]) [16] (by decide) rfl
    have hFc := va_free (wc := [(m0, .inr (20, [.int 1, .ref mp, .int 0, .ref b1, .ref b2, .ref b3, .ref b4, .ref b5, .ref mq]))]) hD hS hA [16] rfl
    refine va_calli (va_runV (As := []) (rest := []) ⟨hx, hb, hml, hown, hts⟩ (c_X15_thrown l hst D cy ed H.size m0 mp mq b1 b2 b3 b4 b5 1 0) (cwV 0 hts (zx_GV mm_1599 mm_1600 mm_1601 mm_78 mm_1602) rfl rfl rfl (by decide +kernel) ⟨(Nat.le_of_ble_eq_true rfl), (Nat.le_of_ble_eq_true rfl)⟩) ⟨zx_blind, va_recv hK hPc (ci := 20) (q0 := 0) rfl rfl, zx_give hPc hK hDc hS hFc hZ hN⟩ rfl rfl hl.1 rfl (lv_room (Nat.le_of_ble_eq_true rfl)) dL_law_983 ⟨(Nat.le_of_ble_eq_true rfl), (Nat.le_of_ble_eq_true rfl)⟩) hS (fun q _ h => hFc q h) hFc (fun r9 u t H1 locs ht hvm hw hB hz1 hk1 hS => ?_)
    obtain rfl : r9 = 1 := hw
    obtain ⟨hP, hD⟩ := zx_join (wr := [(pe, .inr (9, [.int 0, .ref a1, .ref a2, .ref a3, .ref a4, .ref a5, .ref a6, .ref a7, .ref a8, .ref a9])), (a1, .inl (cy 0, 20, .inl (fun _ => 0))), (a2, .inl (cy 0, 20, .inl (fun _ => 0))), (ne, .inr (6, [.ref n1, .ref n2, .ref n3, .ref n4, .ref n5])), (n1, .inl (cy 0, 8, .inl (fun _ => 0))), (n2, .inl (cy 0, 8, .inl f2)), (n3, .inl (cy 0, 8, .inl f3)), (n4, .inl (cy 0, 8, .inl f4)), (n5, .inl (cy 1, 8, .inl f5)), (ro, .inl (cy 0, 20, .inl (fun _ => 0))), (b1, .inl (cy 0, 8, .inl (fun _ => 0))), (b2, .inl (cy 0, 8, .inl g2)), (b3, .inl (cy 0, 8, .inl g3)), (b4, .inl (cy 0, 8, .inl g4)), (b5, .inl (cy 1, 8, .inl g5)), (od, .inl (cy 4, 1, .inr (.inr (.inr (.inl (fun _ => 0))))))]) (w1 := [(m0, .inr (20, [.int 1, .ref mp, .int 0, .ref b1, .ref b2, .ref b3, .ref b4, .ref b5, .ref mq]))]) [16] [0, 1, 2, 3, 4, 5, 6, 7, 8, 9, 10, 11, 12, 13, 14, 15] rfl rfl (by decide) (by decide) hP hD hk1 hFc hB ht
    generalize H1 = H at hP hS ⊢
    have hP : va_P D vwCl [(pe, .inr (9, [.int 0, .ref a1, .ref a2, .ref a3, .ref a4, .ref a5, .ref a6, .ref a7, .ref a8, .ref a9])), (a1, .inl (cy 0, 20, .inl (fun _ => 0))), (a2, .inl (cy 0, 20, .inl (fun _ => 0))), (ne, .inr (6, [.ref n1, .ref n2, .ref n3, .ref n4, .ref n5])), (n1, .inl (cy 0, 8, .inl (fun _ => 0))), (n2, .inl (cy 0, 8, .inl f2)), (n3, .inl (cy 0, 8, .inl f3)), (n4, .inl (cy 0, 8, .inl f4)), (n5, .inl (cy 1, 8, .inl f5)), (ro, .inl (cy 0, 20, .inl (fun _ => 0))), (b1, .inl (cy 0, 8, .inl (fun _ => 0))), (b2, .inl (cy 0, 8, .inl g2)), (b3, .inl (cy 0, 8, .inl g3)), (b4, .inl (cy 0, 8, .inl g4)), (b5, .inl (cy 1, 8, .inl g5)), (od, .inl (cy 4, 1, .inr (.inr (.inr (.inl (fun _ => 0)))))), (m0, .inr (20, [.int 1, .ref mp, .int 0, .ref b1, .ref b2, .ref b3, .ref b4, .ref b5, .ref mq]))] H := hP
    have hD : va_D A [(pe, .inr (9, [.int 0, .ref a1, .ref a2, .ref a3, .ref a4, .ref a5, .ref a6, .ref a7, .ref a8, .ref a9])), (a1, .inl (cy 0, 20, .inl (fun _ => 0))), (a2, .inl (cy 0, 20, .inl (fun _ => 0))), (ne, .inr (6, [.ref n1, .ref n2, .ref n3, .ref n4, .ref n5])), (n1, .inl (cy 0, 8, .inl (fun _ => 0))), (n2, .inl (cy 0, 8, .inl f2)), (n3, .inl (cy 0, 8, .inl f3)), (n4, .inl (cy 0, 8, .inl f4)), (n5, .inl (cy 1, 8, .inl f5)), (ro, .inl (cy 0, 20, .inl (fun _ => 0))), (b1, .inl (cy 0, 8, .inl (fun _ => 0))), (b2, .inl (cy 0, 8, .inl g2)), (b3, .inl (cy 0, 8, .inl g3)), (b4, .inl (cy 0, 8, .inl g4)), (b5, .inl (cy 1, 8, .inl g5)), (od, .inl (cy 4, 1, .inr (.inr (.inr (.inl (fun _ => 0)))))), (m0, .inr (20, [.int 1, .ref mp, .int 0, .ref b1, .ref b2, .ref b3, .ref b4, .ref b5, .ref mq]))] := hD
    refine W.widen (k := 30) (n := 886) (Nat.le_of_ble_eq_true rfl) (Nat.le_of_ble_eq_true rfl) ?_
    refine lv_iload hx hb dL_law_986 (lv_at hl 1 rfl) ?_
    refine lv_icmp_eq (tgt := 993) hx hb dL_law_988 (by decide) (fun _ => ?_) (fun c_604 => absurd (by decide) c_604)
    refine lv_iload hx hb dL_law_993 (lv_at hl 1 rfl) ?_
    refine lv_if_ne (tgt := 1010) hx hb dL_law_995 (by decide) (fun _ => ?_) (fun c_605 => absurd c_605 (by decide))
    refine lv_goto (tgt := 4257) hx hb dL_law_1010 (by decide) ?_
    refine W.widen (k := 60) (n := 1200) (Nat.le_of_ble_eq_true rfl) (Nat.le_of_ble_eq_true rfl) ?_
    exact hend _ _ _ hS (lv_sub hl [7, 2] rfl)
set_option maxHeartbeats 4000000 in
set_option maxRecDepth 100000 in
theorem law_case_10 {p : Program} {l : Launch} {e : Env} {s : State} {m : MethodId} {below : List Frame} {meth : Method} {c : Code} {D : va_G} {cy : Nat → ClassId} {ed b : Nat} {xs : Nat → Int32} {A : Nat → Prop} {Q : State → Prop} (C0 : zx_LW p l s m c D cy ed b xs A)
    {h pe ne pa ro a1 a2 a3 a4 a5 a6 a7 a8 a9 n1 n2 n3 n4 n5 m0 mp b1 b2 b3 b4 b5 mq oa od : Nat} {f2 f3 f4 f5 g2 g3 g4 g5 : Nat → Int32} (hf5 : ∀ j, j < 8 → f5 j = 115) (hg5 : ∀ j, j < 8 → g5 j = 115) {H : Heap} {locs : List Loc} {ls : Array Slot}
    (hP : va_P D vwCl [(h, .inr (13, [.ref pe, .ref ne, .ref pa, .ref ro, .int 0])), (pe, .inr (9, [.int 0, .ref a1, .ref a2, .ref a3, .ref a4, .ref a5, .ref a6, .ref a7, .ref a8, .ref a9])), (a1, .inl (cy 0, 20, .inl (fun _ => 0))), (a2, .inl (cy 0, 20, .inl (fun _ => 0))), (ne, .inr (6, [.ref n1, .ref n2, .ref n3, .ref n4, .ref n5])), (n1, .inl (cy 0, 8, .inl (fun _ => 0))), (n2, .inl (cy 0, 8, .inl f2)), (n3, .inl (cy 0, 8, .inl f3)), (n4, .inl (cy 0, 8, .inl f4)), (n5, .inl (cy 1, 8, .inl f5)), (pa, .inr (4, [.int 0, .ref ed, .int 0])), (ro, .inl (cy 0, 20, .inl (fun _ => 0))), (m0, .inr (20, [.int 0, .ref mp, .int 0, .ref b1, .ref b2, .ref b3, .ref b4, .ref b5, .ref mq])), (b1, .inl (cy 0, 8, .inl (fun _ => 0))), (b2, .inl (cy 0, 8, .inl g2)), (b3, .inl (cy 0, 8, .inl g3)), (b4, .inl (cy 0, 8, .inl g4)), (b5, .inl (cy 1, 8, .inl g5)), (mp, .inr (4, [.int 0, .ref ed, .int 0])), (mq, .inr (4, [.int 0, .ref ed, .int 0])), (oa, .inl (cy 3, 1, .inr (.inl (fun _ => 0)))), (od, .inl (cy 4, 1, .inr (.inr (.inr (.inl (fun _ => 0))))))] H) (hD : va_D A [(h, .inr (13, [.ref pe, .ref ne, .ref pa, .ref ro, .int 0])), (pe, .inr (9, [.int 0, .ref a1, .ref a2, .ref a3, .ref a4, .ref a5, .ref a6, .ref a7, .ref a8, .ref a9])), (a1, .inl (cy 0, 20, .inl (fun _ => 0))), (a2, .inl (cy 0, 20, .inl (fun _ => 0))), (ne, .inr (6, [.ref n1, .ref n2, .ref n3, .ref n4, .ref n5])), (n1, .inl (cy 0, 8, .inl (fun _ => 0))), (n2, .inl (cy 0, 8, .inl f2)), (n3, .inl (cy 0, 8, .inl f3)), (n4, .inl (cy 0, 8, .inl f4)), (n5, .inl (cy 1, 8, .inl f5)), (pa, .inr (4, [.int 0, .ref ed, .int 0])), (ro, .inl (cy 0, 20, .inl (fun _ => 0))), (m0, .inr (20, [.int 0, .ref mp, .int 0, .ref b1, .ref b2, .ref b3, .ref b4, .ref b5, .ref mq])), (b1, .inl (cy 0, 8, .inl (fun _ => 0))), (b2, .inl (cy 0, 8, .inl g2)), (b3, .inl (cy 0, 8, .inl g3)), (b4, .inl (cy 0, 8, .inl g4)), (b5, .inl (cy 1, 8, .inl g5)), (mp, .inr (4, [.int 0, .ref ed, .int 0])), (mq, .inr (4, [.int 0, .ref ed, .int 0])), (oa, .inl (cy 3, 1, .inr (.inl (fun _ => 0)))), (od, .inl (cy 4, 1, .inr (.inr (.inr (.inl (fun _ => 0))))))]) (hS : va_S A s.heap H locs) (hl : lv_has ls 9 [(5, .int 0), (4, .ref od), (3, .ref oa), (2, .ref m0), (1, .ref h), (0, .ref b)])
    (hend : ∀ (H : Heap) (locs : List Loc) (ls : Array Slot), va_S A s.heap H locs → lv_has ls 9 [(0, .ref b), (5, .int 0)] → W p l e room_1 s m #[Value.ref b] below meth c H locs 60 1200 Q (F0 m 4257 ls [])) :
    W p l e room_1 s m #[Value.ref b] below meth c H locs 29 880 Q (F0 m 1013 ls []) := by
  obtain ⟨hx, hb, hml, hst, hown, hts, hX, hbl, hbA, hA, hK, hZ, hN⟩ := C0
  refine lv_aload_n hx hb dL_law_1013 rfl (lv_at hl 4 rfl) ?_
  refine lv_aload_n hx hb dL_law_1014 rfl (lv_at hl 5 rfl) ?_
  refine lv_iload hx hb dL_law_1015 (lv_at hl 0 rfl) ?_
  refine lv_iconst (v := 1) hx hb dL_law_1017 (by decide) ?_
  refine lv_iadd hx hb dL_law_1018 ?_
  refine lv_topi (fun y9 ey9 => ?_)
  obtain rfl : y9 = 1 := by rw [ey9] <;> decide
  refine va_sld hx hb hX hbl hbA hS (zx_bn (by decide)) dL_law_1019 ?_
  refine lv_aload_n hx hb dL_law_1020 rfl (lv_at hl 5 rfl) ?_
  refine lv_iload hx hb dL_law_1021 (lv_at hl 0 rfl) ?_
  refine lv_iconst (v := 2) hx hb dL_law_1023 (by decide) ?_
  refine lv_iadd hx hb dL_law_1024 ?_
  refine lv_topi (fun y9 ey9 => ?_)
  obtain rfl : y9 = 2 := by rw [ey9] <;> decide
  refine va_sld hx hb hX hbl hbA hS (zx_bn (by decide)) dL_law_1025 ?_
  refine lv_aload_n hx hb dL_law_1026 rfl (lv_at hl 2 rfl) ?_
  have hPc := hP.sub (ws' := [(h, .inr (13, [.ref pe, .ref ne, .ref pa, .ref ro, .int 0])), (pa, .inr (4, [.int 0, .ref ed, .int 0])), (oa, .inl (cy 3, 1, .inr (.inl (fun _ => 0))))]) [0, 10, 20] rfl
  have hDc := hD.sub (ws' := [(h, .inr (13, [.ref pe, .ref ne, .ref pa, .ref ro, .int 0])), (pa, .inr (4, [.int 0, .ref ed, .int 0])), (oa, .inl (cy 3, 1, .inr (.inl (fun _ => 0))))]) [0, 10, 20] (by decide) rfl
  have hFc := va_free (wc := [(h, .inr (13, [.ref pe, .ref ne, .ref pa, .ref ro, .int 0])), (pa, .inr (4, [.int 0, .ref ed, .int 0])), (oa, .inl (cy 3, 1, .inr (.inl (fun _ => 0))))]) hD hS hA [0, 10, 20] rfl
  refine vx_calli (vx_runSX (As := [.ref h, .int (xs (1 : Int32).toNatClampNeg), .int (xs (2 : Int32).toNatClampNeg), .ref oa]) (rest := []) ⟨hx, hb, hml, hown, hts⟩ (c_L_sign l hst D cy ed H.size h pe ne pa ro 0 0 ed oa (fun _ => 0) (xs (1 : Int32).toNatClampNeg) (xs (2 : Int32).toNatClampNeg)) (vx_cwSW 4 hts (zx_GS mm_887 mm_888 mm_70 mm_889) rfl rfl rfl (by decide +kernel) ⟨(Nat.le_of_ble_eq_true rfl), (Nat.le_of_ble_eq_true rfl)⟩) ⟨zx_blind, zx_give hPc hK hDc hS hFc hZ hN⟩ rfl rfl hl.1 rfl (lv_room (Nat.le_of_ble_eq_true rfl)) dL_law_1027 ⟨(Nat.le_of_ble_eq_true rfl), (Nat.le_of_ble_eq_true rfl)⟩) hS (fun q _ h => hFc q h) hFc (fun q _ h => hFc q h) (fun E9 ce9 q9 _ t H locs ht hvm _ hBX hz1 hk1 hS hce hcv hcl => ?_) (fun r9 u t H locs ht hvm hw hB hz1 hk1 hS => ?_)
  · exact hBX.elim
  ·
    obtain rfl : r9 = 1 := hw
    obtain ⟨hP, hD⟩ := zx_join (wr := [(pe, .inr (9, [.int 0, .ref a1, .ref a2, .ref a3, .ref a4, .ref a5, .ref a6, .ref a7, .ref a8, .ref a9])), (a1, .inl (cy 0, 20, .inl (fun _ => 0))), (a2, .inl (cy 0, 20, .inl (fun _ => 0))), (ne, .inr (6, [.ref n1, .ref n2, .ref n3, .ref n4, .ref n5])), (n1, .inl (cy 0, 8, .inl (fun _ => 0))), (n2, .inl (cy 0, 8, .inl f2)), (n3, .inl (cy 0, 8, .inl f3)), (n4, .inl (cy 0, 8, .inl f4)), (n5, .inl (cy 1, 8, .inl f5)), (ro, .inl (cy 0, 20, .inl (fun _ => 0))), (m0, .inr (20, [.int 0, .ref mp, .int 0, .ref b1, .ref b2, .ref b3, .ref b4, .ref b5, .ref mq])), (b1, .inl (cy 0, 8, .inl (fun _ => 0))), (b2, .inl (cy 0, 8, .inl g2)), (b3, .inl (cy 0, 8, .inl g3)), (b4, .inl (cy 0, 8, .inl g4)), (b5, .inl (cy 1, 8, .inl g5)), (mp, .inr (4, [.int 0, .ref ed, .int 0])), (mq, .inr (4, [.int 0, .ref ed, .int 0])), (od, .inl (cy 4, 1, .inr (.inr (.inr (.inl (fun _ => 0))))))]) (w1 := []) [0, 10, 20] [1, 2, 3, 4, 5, 6, 7, 8, 9, 11, 12, 13, 14, 15, 16, 17, 18, 19, 21] rfl rfl (by decide) (by decide) hP hD hk1 hFc hB ht
    have hP : va_P D vwCl [(pe, .inr (9, [.int 0, .ref a1, .ref a2, .ref a3, .ref a4, .ref a5, .ref a6, .ref a7, .ref a8, .ref a9])), (a1, .inl (cy 0, 20, .inl (fun _ => 0))), (a2, .inl (cy 0, 20, .inl (fun _ => 0))), (ne, .inr (6, [.ref n1, .ref n2, .ref n3, .ref n4, .ref n5])), (n1, .inl (cy 0, 8, .inl (fun _ => 0))), (n2, .inl (cy 0, 8, .inl f2)), (n3, .inl (cy 0, 8, .inl f3)), (n4, .inl (cy 0, 8, .inl f4)), (n5, .inl (cy 1, 8, .inl f5)), (ro, .inl (cy 0, 20, .inl (fun _ => 0))), (m0, .inr (20, [.int 0, .ref mp, .int 0, .ref b1, .ref b2, .ref b3, .ref b4, .ref b5, .ref mq])), (b1, .inl (cy 0, 8, .inl (fun _ => 0))), (b2, .inl (cy 0, 8, .inl g2)), (b3, .inl (cy 0, 8, .inl g3)), (b4, .inl (cy 0, 8, .inl g4)), (b5, .inl (cy 1, 8, .inl g5)), (mp, .inr (4, [.int 0, .ref ed, .int 0])), (mq, .inr (4, [.int 0, .ref ed, .int 0])), (od, .inl (cy 4, 1, .inr (.inr (.inr (.inl (fun _ => 0))))))] H := hP
    have hD : va_D A [(pe, .inr (9, [.int 0, .ref a1, .ref a2, .ref a3, .ref a4, .ref a5, .ref a6, .ref a7, .ref a8, .ref a9])), (a1, .inl (cy 0, 20, .inl (fun _ => 0))), (a2, .inl (cy 0, 20, .inl (fun _ => 0))), (ne, .inr (6, [.ref n1, .ref n2, .ref n3, .ref n4, .ref n5])), (n1, .inl (cy 0, 8, .inl (fun _ => 0))), (n2, .inl (cy 0, 8, .inl f2)), (n3, .inl (cy 0, 8, .inl f3)), (n4, .inl (cy 0, 8, .inl f4)), (n5, .inl (cy 1, 8, .inl f5)), (ro, .inl (cy 0, 20, .inl (fun _ => 0))), (m0, .inr (20, [.int 0, .ref mp, .int 0, .ref b1, .ref b2, .ref b3, .ref b4, .ref b5, .ref mq])), (b1, .inl (cy 0, 8, .inl (fun _ => 0))), (b2, .inl (cy 0, 8, .inl g2)), (b3, .inl (cy 0, 8, .inl g3)), (b4, .inl (cy 0, 8, .inl g4)), (b5, .inl (cy 1, 8, .inl g5)), (mp, .inr (4, [.int 0, .ref ed, .int 0])), (mq, .inr (4, [.int 0, .ref ed, .int 0])), (od, .inl (cy 4, 1, .inr (.inr (.inr (.inl (fun _ => 0))))))] := hD
    refine W.widen (k := 30) (n := 886) (Nat.le_of_ble_eq_true rfl) (Nat.le_of_ble_eq_true rfl) ?_
    refine lv_istore (lv' := [(6, .int 1), (5, .int 0), (4, .ref od), (3, .ref oa), (2, .ref m0), (1, .ref h), (0, .ref b)]) hx hb dL_law_1030 hl (by decide) rfl (fun ls hl => ?_)
    refine lv_aload_n hx hb dL_law_1032 rfl (lv_at hl 4 rfl) ?_
    refine lv_aload_n hx hb dL_law_1033 rfl (lv_at hl 6 rfl) ?_
    refine lv_iload hx hb dL_law_1034 (lv_at hl 1 rfl) ?_
    refine lv_iconst (v := 1) hx hb dL_law_1036 (by decide) ?_
    refine lv_iadd hx hb dL_law_1037 ?_
    refine lv_topi (fun y9 ey9 => ?_)
    obtain rfl : y9 = 1 := by rw [ey9] <;> decide
    refine va_sld hx hb hX hbl hbA hS (zx_bn (by decide)) dL_law_1038 ?_
    refine lv_aload_n hx hb dL_law_1039 rfl (lv_at hl 6 rfl) ?_
    refine lv_iload hx hb dL_law_1040 (lv_at hl 1 rfl) ?_
    refine lv_iconst (v := 2) hx hb dL_law_1042 (by decide) ?_
    refine lv_iadd hx hb dL_law_1043 ?_
    refine lv_topi (fun y9 ey9 => ?_)
    obtain rfl : y9 = 2 := by rw [ey9] <;> decide
    refine va_sld hx hb hX hbl hbA hS (zx_bn (by decide)) dL_law_1044 ?_
    have hPc := hP.sub (ws' := [(m0, .inr (20, [.int 0, .ref mp, .int 0, .ref b1, .ref b2, .ref b3, .ref b4, .ref b5, .ref mq])), (mp, .inr (4, [.int 0, .ref ed, .int 0])), (mq, .inr (4, [.int 0, .ref ed, .int 0]))]) [10, 16, 17] rfl
    have hDc := hD.sub (ws' := [(m0, .inr (20, [.int 0, .ref mp, .int 0, .ref b1, .ref b2, .ref b3, .ref b4, .ref b5, .ref mq])), (mp, .inr (4, [.int 0, .ref ed, .int 0])), (mq, .inr (4, [.int 0, .ref ed, .int 0]))]) [10, 16, 17] (by decide) rfl
    have hFc := va_free (wc := [(m0, .inr (20, [.int 0, .ref mp, .int 0, .ref b1, .ref b2, .ref b3, .ref b4, .ref b5, .ref mq])), (mp, .inr (4, [.int 0, .ref ed, .int 0])), (mq, .inr (4, [.int 0, .ref ed, .int 0]))]) hD hS hA [10, 16, 17] rfl
    refine va_calli (va_runV (As := [.int (xs (1 : Int32).toNatClampNeg), .int (xs (2 : Int32).toNatClampNeg)]) (rest := []) ⟨hx, hb, hml, hown, hts⟩ (c_X15_sign l hst D cy ed H.size m0 mp mq b1 b2 b3 b4 b5 0 0 0 ed 0 ed (xs (1 : Int32).toNatClampNeg) (xs (2 : Int32).toNatClampNeg)) (cwV 2 hts (zx_GV mm_2049 mm_2050 mm_2051 mm_78 mm_2052) rfl rfl rfl (by decide +kernel) ⟨(Nat.le_of_ble_eq_true rfl), (Nat.le_of_ble_eq_true rfl)⟩) ⟨zx_blind, va_recv hK hPc (ci := 20) (q0 := 0) rfl rfl, zx_give hPc hK hDc hS hFc hZ hN⟩ rfl rfl hl.1 rfl (lv_room (Nat.le_of_ble_eq_true rfl)) dL_law_1045 ⟨(Nat.le_of_ble_eq_true rfl), (Nat.le_of_ble_eq_true rfl)⟩) hS (fun q _ h => hFc q h) hFc (fun r9 u t H1 locs ht hvm hw hB hz1 hk1 hS => ?_)
    obtain ⟨r_606, rfl⟩ : ∃ z9, z9 = r9 := ⟨_, rfl⟩
    have h_607 := hw
    obtain ⟨hP, hD⟩ := zx_join (wr := [(pe, .inr (9, [.int 0, .ref a1, .ref a2, .ref a3, .ref a4, .ref a5, .ref a6, .ref a7, .ref a8, .ref a9])), (a1, .inl (cy 0, 20, .inl (fun _ => 0))), (a2, .inl (cy 0, 20, .inl (fun _ => 0))), (ne, .inr (6, [.ref n1, .ref n2, .ref n3, .ref n4, .ref n5])), (n1, .inl (cy 0, 8, .inl (fun _ => 0))), (n2, .inl (cy 0, 8, .inl f2)), (n3, .inl (cy 0, 8, .inl f3)), (n4, .inl (cy 0, 8, .inl f4)), (n5, .inl (cy 1, 8, .inl f5)), (ro, .inl (cy 0, 20, .inl (fun _ => 0))), (b1, .inl (cy 0, 8, .inl (fun _ => 0))), (b2, .inl (cy 0, 8, .inl g2)), (b3, .inl (cy 0, 8, .inl g3)), (b4, .inl (cy 0, 8, .inl g4)), (b5, .inl (cy 1, 8, .inl g5)), (od, .inl (cy 4, 1, .inr (.inr (.inr (.inl (fun _ => 0))))))]) (w1 := [(m0, .inr (20, [.int 1, .ref mp, .int 0, .ref b1, .ref b2, .ref b3, .ref b4, .ref b5, .ref mq]))]) [10, 16, 17] [0, 1, 2, 3, 4, 5, 6, 7, 8, 9, 11, 12, 13, 14, 15, 18] rfl rfl (by decide) (by decide) hP hD hk1 hFc hB ht
    generalize H1 = H at hP hS ⊢
    have hP : va_P D vwCl [(pe, .inr (9, [.int 0, .ref a1, .ref a2, .ref a3, .ref a4, .ref a5, .ref a6, .ref a7, .ref a8, .ref a9])), (a1, .inl (cy 0, 20, .inl (fun _ => 0))), (a2, .inl (cy 0, 20, .inl (fun _ => 0))), (ne, .inr (6, [.ref n1, .ref n2, .ref n3, .ref n4, .ref n5])), (n1, .inl (cy 0, 8, .inl (fun _ => 0))), (n2, .inl (cy 0, 8, .inl f2)), (n3, .inl (cy 0, 8, .inl f3)), (n4, .inl (cy 0, 8, .inl f4)), (n5, .inl (cy 1, 8, .inl f5)), (ro, .inl (cy 0, 20, .inl (fun _ => 0))), (b1, .inl (cy 0, 8, .inl (fun _ => 0))), (b2, .inl (cy 0, 8, .inl g2)), (b3, .inl (cy 0, 8, .inl g3)), (b4, .inl (cy 0, 8, .inl g4)), (b5, .inl (cy 1, 8, .inl g5)), (od, .inl (cy 4, 1, .inr (.inr (.inr (.inl (fun _ => 0)))))), (m0, .inr (20, [.int 1, .ref mp, .int 0, .ref b1, .ref b2, .ref b3, .ref b4, .ref b5, .ref mq]))] H := hP
    have hD : va_D A [(pe, .inr (9, [.int 0, .ref a1, .ref a2, .ref a3, .ref a4, .ref a5, .ref a6, .ref a7, .ref a8, .ref a9])), (a1, .inl (cy 0, 20, .inl (fun _ => 0))), (a2, .inl (cy 0, 20, .inl (fun _ => 0))), (ne, .inr (6, [.ref n1, .ref n2, .ref n3, .ref n4, .ref n5])), (n1, .inl (cy 0, 8, .inl (fun _ => 0))), (n2, .inl (cy 0, 8, .inl f2)), (n3, .inl (cy 0, 8, .inl f3)), (n4, .inl (cy 0, 8, .inl f4)), (n5, .inl (cy 1, 8, .inl f5)), (ro, .inl (cy 0, 20, .inl (fun _ => 0))), (b1, .inl (cy 0, 8, .inl (fun _ => 0))), (b2, .inl (cy 0, 8, .inl g2)), (b3, .inl (cy 0, 8, .inl g3)), (b4, .inl (cy 0, 8, .inl g4)), (b5, .inl (cy 1, 8, .inl g5)), (od, .inl (cy 4, 1, .inr (.inr (.inr (.inl (fun _ => 0)))))), (m0, .inr (20, [.int 1, .ref mp, .int 0, .ref b1, .ref b2, .ref b3, .ref b4, .ref b5, .ref mq]))] := hD
    refine W.widen (k := 30) (n := 886) (Nat.le_of_ble_eq_true rfl) (Nat.le_of_ble_eq_true rfl) ?_
    refine lv_istore (lv' := [(7, .int r_606), (6, .int 1), (5, .int 0), (4, .ref od), (3, .ref oa), (2, .ref m0), (1, .ref h), (0, .ref b)]) hx hb dL_law_1048 hl (by decide) rfl (fun ls hl => ?_)
    refine lv_aload_n hx hb dL_law_1050 rfl (lv_at hl 5 rfl) ?_
    have hPc := hP.sub (ws' := [(m0, .inr (20, [.int 1, .ref mp, .int 0, .ref b1, .ref b2, .ref b3, .ref b4, .ref b5, .ref mq]))]) [16] rfl
    have hDc := hD.sub (ws' := [(m0, .inr (20, [.int 1, .ref mp, .int 0, .ref b1, .ref b2, .ref b3, .ref b4, .ref b5, .ref mq]))]) [16] (by decide) rfl
    have hFc := va_free (wc := [(m0, .inr (20, [.int 1, .ref mp, .int 0, .ref b1, .ref b2, .ref b3, .ref b4, .ref b5, .ref mq]))]) hD hS hA [16] rfl
    refine va_calli (va_runV (As := []) (rest := []) ⟨hx, hb, hml, hown, hts⟩ (c_X15_thrown l hst D cy ed H.size m0 mp mq b1 b2 b3 b4 b5 1 0) (cwV 0 hts (zx_GV mm_1599 mm_1600 mm_1601 mm_78 mm_1602) rfl rfl rfl (by decide +kernel) ⟨(Nat.le_of_ble_eq_true rfl), (Nat.le_of_ble_eq_true rfl)⟩) ⟨zx_blind, va_recv hK hPc (ci := 20) (q0 := 0) rfl rfl, zx_give hPc hK hDc hS hFc hZ hN⟩ rfl rfl hl.1 rfl (lv_room (Nat.le_of_ble_eq_true rfl)) dL_law_1051 ⟨(Nat.le_of_ble_eq_true rfl), (Nat.le_of_ble_eq_true rfl)⟩) hS (fun q _ h => hFc q h) hFc (fun r9 u t H1 locs ht hvm hw hB hz1 hk1 hS => ?_)
    obtain rfl : r9 = 1 := hw
    obtain ⟨hP, hD⟩ := zx_join (wr := [(pe, .inr (9, [.int 0, .ref a1, .ref a2, .ref a3, .ref a4, .ref a5, .ref a6, .ref a7, .ref a8, .ref a9])), (a1, .inl (cy 0, 20, .inl (fun _ => 0))), (a2, .inl (cy 0, 20, .inl (fun _ => 0))), (ne, .inr (6, [.ref n1, .ref n2, .ref n3, .ref n4, .ref n5])), (n1, .inl (cy 0, 8, .inl (fun _ => 0))), (n2, .inl (cy 0, 8, .inl f2)), (n3, .inl (cy 0, 8, .inl f3)), (n4, .inl (cy 0, 8, .inl f4)), (n5, .inl (cy 1, 8, .inl f5)), (ro, .inl (cy 0, 20, .inl (fun _ => 0))), (b1, .inl (cy 0, 8, .inl (fun _ => 0))), (b2, .inl (cy 0, 8, .inl g2)), (b3, .inl (cy 0, 8, .inl g3)), (b4, .inl (cy 0, 8, .inl g4)), (b5, .inl (cy 1, 8, .inl g5)), (od, .inl (cy 4, 1, .inr (.inr (.inr (.inl (fun _ => 0))))))]) (w1 := [(m0, .inr (20, [.int 1, .ref mp, .int 0, .ref b1, .ref b2, .ref b3, .ref b4, .ref b5, .ref mq]))]) [16] [0, 1, 2, 3, 4, 5, 6, 7, 8, 9, 10, 11, 12, 13, 14, 15] rfl rfl (by decide) (by decide) hP hD hk1 hFc hB ht
    generalize H1 = H at hP hS ⊢
    have hP : va_P D vwCl [(pe, .inr (9, [.int 0, .ref a1, .ref a2, .ref a3, .ref a4, .ref a5, .ref a6, .ref a7, .ref a8, .ref a9])), (a1, .inl (cy 0, 20, .inl (fun _ => 0))), (a2, .inl (cy 0, 20, .inl (fun _ => 0))), (ne, .inr (6, [.ref n1, .ref n2, .ref n3, .ref n4, .ref n5])), (n1, .inl (cy 0, 8, .inl (fun _ => 0))), (n2, .inl (cy 0, 8, .inl f2)), (n3, .inl (cy 0, 8, .inl f3)), (n4, .inl (cy 0, 8, .inl f4)), (n5, .inl (cy 1, 8, .inl f5)), (ro, .inl (cy 0, 20, .inl (fun _ => 0))), (b1, .inl (cy 0, 8, .inl (fun _ => 0))), (b2, .inl (cy 0, 8, .inl g2)), (b3, .inl (cy 0, 8, .inl g3)), (b4, .inl (cy 0, 8, .inl g4)), (b5, .inl (cy 1, 8, .inl g5)), (od, .inl (cy 4, 1, .inr (.inr (.inr (.inl (fun _ => 0)))))), (m0, .inr (20, [.int 1, .ref mp, .int 0, .ref b1, .ref b2, .ref b3, .ref b4, .ref b5, .ref mq]))] H := hP
    have hD : va_D A [(pe, .inr (9, [.int 0, .ref a1, .ref a2, .ref a3, .ref a4, .ref a5, .ref a6, .ref a7, .ref a8, .ref a9])), (a1, .inl (cy 0, 20, .inl (fun _ => 0))), (a2, .inl (cy 0, 20, .inl (fun _ => 0))), (ne, .inr (6, [.ref n1, .ref n2, .ref n3, .ref n4, .ref n5])), (n1, .inl (cy 0, 8, .inl (fun _ => 0))), (n2, .inl (cy 0, 8, .inl f2)), (n3, .inl (cy 0, 8, .inl f3)), (n4, .inl (cy 0, 8, .inl f4)), (n5, .inl (cy 1, 8, .inl f5)), (ro, .inl (cy 0, 20, .inl (fun _ => 0))), (b1, .inl (cy 0, 8, .inl (fun _ => 0))), (b2, .inl (cy 0, 8, .inl g2)), (b3, .inl (cy 0, 8, .inl g3)), (b4, .inl (cy 0, 8, .inl g4)), (b5, .inl (cy 1, 8, .inl g5)), (od, .inl (cy 4, 1, .inr (.inr (.inr (.inl (fun _ => 0)))))), (m0, .inr (20, [.int 1, .ref mp, .int 0, .ref b1, .ref b2, .ref b3, .ref b4, .ref b5, .ref mq]))] := hD
    refine W.widen (k := 30) (n := 886) (Nat.le_of_ble_eq_true rfl) (Nat.le_of_ble_eq_true rfl) ?_
    refine lv_iload hx hb dL_law_1054 (lv_at hl 1 rfl) ?_
    refine lv_icmp_eq (tgt := 1061) hx hb dL_law_1056 (by decide) (fun _ => ?_) (fun c_608 => absurd (by decide) c_608)
    refine lv_iload hx hb dL_law_1061 (lv_at hl 1 rfl) ?_
    refine lv_if_ne (tgt := 1085) hx hb dL_law_1063 (by decide) (fun _ => ?_) (fun c_609 => absurd c_609 (by decide))
    refine lv_goto (tgt := 4257) hx hb dL_law_1085 (by decide) ?_
    refine W.widen (k := 60) (n := 1200) (Nat.le_of_ble_eq_true rfl) (Nat.le_of_ble_eq_true rfl) ?_
    exact hend _ _ _ hS (lv_sub hl [7, 2] rfl)
set_option maxHeartbeats 4000000 in
set_option maxRecDepth 100000 in
theorem law_case_11 {p : Program} {l : Launch} {e : Env} {s : State} {m : MethodId} {below : List Frame} {meth : Method} {c : Code} {D : va_G} {cy : Nat → ClassId} {ed b : Nat} {xs : Nat → Int32} {A : Nat → Prop} {Q : State → Prop} (C0 : zx_LW p l s m c D cy ed b xs A)
    {h pe ne pa ro a1 a2 a3 a4 a5 a6 a7 a8 a9 n1 n2 n3 n4 n5 m0 mp b1 b2 b3 b4 b5 mq oa od : Nat} {f2 f3 f4 f5 g2 g3 g4 g5 : Nat → Int32} (hf5 : ∀ j, j < 8 → f5 j = 115) (hg5 : ∀ j, j < 8 → g5 j = 115) {H : Heap} {locs : List Loc} {ls : Array Slot}
    (hP : va_P D vwCl [(h, .inr (13, [.ref pe, .ref ne, .ref pa, .ref ro, .int 0])), (pe, .inr (9, [.int 0, .ref a1, .ref a2, .ref a3, .ref a4, .ref a5, .ref a6, .ref a7, .ref a8, .ref a9])), (a1, .inl (cy 0, 20, .inl (fun _ => 0))), (a2, .inl (cy 0, 20, .inl (fun _ => 0))), (ne, .inr (6, [.ref n1, .ref n2, .ref n3, .ref n4, .ref n5])), (n1, .inl (cy 0, 8, .inl (fun _ => 0))), (n2, .inl (cy 0, 8, .inl f2)), (n3, .inl (cy 0, 8, .inl f3)), (n4, .inl (cy 0, 8, .inl f4)), (n5, .inl (cy 1, 8, .inl f5)), (pa, .inr (4, [.int 0, .ref ed, .int 0])), (ro, .inl (cy 0, 20, .inl (fun _ => 0))), (m0, .inr (20, [.int 0, .ref mp, .int 0, .ref b1, .ref b2, .ref b3, .ref b4, .ref b5, .ref mq])), (b1, .inl (cy 0, 8, .inl (fun _ => 0))), (b2, .inl (cy 0, 8, .inl g2)), (b3, .inl (cy 0, 8, .inl g3)), (b4, .inl (cy 0, 8, .inl g4)), (b5, .inl (cy 1, 8, .inl g5)), (mp, .inr (4, [.int 0, .ref ed, .int 0])), (mq, .inr (4, [.int 0, .ref ed, .int 0])), (oa, .inl (cy 3, 1, .inr (.inl (fun _ => 0)))), (od, .inl (cy 4, 1, .inr (.inr (.inr (.inl (fun _ => 0))))))] H) (hD : va_D A [(h, .inr (13, [.ref pe, .ref ne, .ref pa, .ref ro, .int 0])), (pe, .inr (9, [.int 0, .ref a1, .ref a2, .ref a3, .ref a4, .ref a5, .ref a6, .ref a7, .ref a8, .ref a9])), (a1, .inl (cy 0, 20, .inl (fun _ => 0))), (a2, .inl (cy 0, 20, .inl (fun _ => 0))), (ne, .inr (6, [.ref n1, .ref n2, .ref n3, .ref n4, .ref n5])), (n1, .inl (cy 0, 8, .inl (fun _ => 0))), (n2, .inl (cy 0, 8, .inl f2)), (n3, .inl (cy 0, 8, .inl f3)), (n4, .inl (cy 0, 8, .inl f4)), (n5, .inl (cy 1, 8, .inl f5)), (pa, .inr (4, [.int 0, .ref ed, .int 0])), (ro, .inl (cy 0, 20, .inl (fun _ => 0))), (m0, .inr (20, [.int 0, .ref mp, .int 0, .ref b1, .ref b2, .ref b3, .ref b4, .ref b5, .ref mq])), (b1, .inl (cy 0, 8, .inl (fun _ => 0))), (b2, .inl (cy 0, 8, .inl g2)), (b3, .inl (cy 0, 8, .inl g3)), (b4, .inl (cy 0, 8, .inl g4)), (b5, .inl (cy 1, 8, .inl g5)), (mp, .inr (4, [.int 0, .ref ed, .int 0])), (mq, .inr (4, [.int 0, .ref ed, .int 0])), (oa, .inl (cy 3, 1, .inr (.inl (fun _ => 0)))), (od, .inl (cy 4, 1, .inr (.inr (.inr (.inl (fun _ => 0))))))]) (hS : va_S A s.heap H locs) (hl : lv_has ls 9 [(5, .int 0), (4, .ref od), (3, .ref oa), (2, .ref m0), (1, .ref h), (0, .ref b)])
    (hend : ∀ (H : Heap) (locs : List Loc) (ls : Array Slot), va_S A s.heap H locs → lv_has ls 9 [(0, .ref b), (5, .int 0)] → W p l e room_1 s m #[Value.ref b] below meth c H locs 60 1200 Q (F0 m 4257 ls [])) :
    W p l e room_1 s m #[Value.ref b] below meth c H locs 29 880 Q (F0 m 1088 ls []) := by
  obtain ⟨hx, hb, hml, hst, hown, hts, hX, hbl, hbA, hA, hK, hZ, hN⟩ := C0
  refine lv_aload_n hx hb dL_law_1088 rfl (lv_at hl 4 rfl) ?_
  refine lv_aload_n hx hb dL_law_1089 rfl (lv_at hl 5 rfl) ?_
  refine lv_iload hx hb dL_law_1090 (lv_at hl 0 rfl) ?_
  refine lv_iconst (v := 1) hx hb dL_law_1092 (by decide) ?_
  refine lv_iadd hx hb dL_law_1093 ?_
  refine lv_topi (fun y9 ey9 => ?_)
  obtain rfl : y9 = 1 := by rw [ey9] <;> decide
  refine va_sld hx hb hX hbl hbA hS (zx_bn (by decide)) dL_law_1094 ?_
  refine lv_aload_n hx hb dL_law_1095 rfl (lv_at hl 5 rfl) ?_
  refine lv_iload hx hb dL_law_1096 (lv_at hl 0 rfl) ?_
  refine lv_iconst (v := 2) hx hb dL_law_1098 (by decide) ?_
  refine lv_iadd hx hb dL_law_1099 ?_
  refine lv_topi (fun y9 ey9 => ?_)
  obtain rfl : y9 = 2 := by rw [ey9] <;> decide
  refine va_sld hx hb hX hbl hbA hS (zx_bn (by decide)) dL_law_1100 ?_
  refine lv_aload_n hx hb dL_law_1101 rfl (lv_at hl 2 rfl) ?_
  have hPc := hP.sub (ws' := [(h, .inr (13, [.ref pe, .ref ne, .ref pa, .ref ro, .int 0])), (pa, .inr (4, [.int 0, .ref ed, .int 0])), (oa, .inl (cy 3, 1, .inr (.inl (fun _ => 0))))]) [0, 10, 20] rfl
  have hDc := hD.sub (ws' := [(h, .inr (13, [.ref pe, .ref ne, .ref pa, .ref ro, .int 0])), (pa, .inr (4, [.int 0, .ref ed, .int 0])), (oa, .inl (cy 3, 1, .inr (.inl (fun _ => 0))))]) [0, 10, 20] (by decide) rfl
  have hFc := va_free (wc := [(h, .inr (13, [.ref pe, .ref ne, .ref pa, .ref ro, .int 0])), (pa, .inr (4, [.int 0, .ref ed, .int 0])), (oa, .inl (cy 3, 1, .inr (.inl (fun _ => 0))))]) hD hS hA [0, 10, 20] rfl
  refine vx_calli (vx_runSX (As := [.ref h, .int (xs (1 : Int32).toNatClampNeg), .int (xs (2 : Int32).toNatClampNeg), .ref oa]) (rest := []) ⟨hx, hb, hml, hown, hts⟩ (c_L_revise l hst D cy ed H.size h pe ne pa ro 0 0 ed oa (fun _ => 0) (xs (1 : Int32).toNatClampNeg) (xs (2 : Int32).toNatClampNeg)) (vx_cwSW 4 hts (zx_GS mm_912 mm_913 mm_70 mm_914) rfl rfl rfl (by decide +kernel) ⟨(Nat.le_of_ble_eq_true rfl), (Nat.le_of_ble_eq_true rfl)⟩) ⟨zx_blind, zx_give hPc hK hDc hS hFc hZ hN⟩ rfl rfl hl.1 rfl (lv_room (Nat.le_of_ble_eq_true rfl)) dL_law_1102 ⟨(Nat.le_of_ble_eq_true rfl), (Nat.le_of_ble_eq_true rfl)⟩) hS (fun q _ h => hFc q h) hFc (fun q _ h => hFc q h) (fun E9 ce9 q9 _ t H locs ht hvm _ hBX hz1 hk1 hS hce hcv hcl => ?_) (fun r9 u t H locs ht hvm hw hB hz1 hk1 hS => ?_)
  · exact hBX.elim
  ·
    obtain rfl : r9 = 1 := hw
    obtain ⟨hP, hD⟩ := zx_join (wr := [(pe, .inr (9, [.int 0, .ref a1, .ref a2, .ref a3, .ref a4, .ref a5, .ref a6, .ref a7, .ref a8, .ref a9])), (a1, .inl (cy 0, 20, .inl (fun _ => 0))), (a2, .inl (cy 0, 20, .inl (fun _ => 0))), (ne, .inr (6, [.ref n1, .ref n2, .ref n3, .ref n4, .ref n5])), (n1, .inl (cy 0, 8, .inl (fun _ => 0))), (n2, .inl (cy 0, 8, .inl f2)), (n3, .inl (cy 0, 8, .inl f3)), (n4, .inl (cy 0, 8, .inl f4)), (n5, .inl (cy 1, 8, .inl f5)), (ro, .inl (cy 0, 20, .inl (fun _ => 0))), (m0, .inr (20, [.int 0, .ref mp, .int 0, .ref b1, .ref b2, .ref b3, .ref b4, .ref b5, .ref mq])), (b1, .inl (cy 0, 8, .inl (fun _ => 0))), (b2, .inl (cy 0, 8, .inl g2)), (b3, .inl (cy 0, 8, .inl g3)), (b4, .inl (cy 0, 8, .inl g4)), (b5, .inl (cy 1, 8, .inl g5)), (mp, .inr (4, [.int 0, .ref ed, .int 0])), (mq, .inr (4, [.int 0, .ref ed, .int 0])), (od, .inl (cy 4, 1, .inr (.inr (.inr (.inl (fun _ => 0))))))]) (w1 := []) [0, 10, 20] [1, 2, 3, 4, 5, 6, 7, 8, 9, 11, 12, 13, 14, 15, 16, 17, 18, 19, 21] rfl rfl (by decide) (by decide) hP hD hk1 hFc hB ht
    have hP : va_P D vwCl [(pe, .inr (9, [.int 0, .ref a1, .ref a2, .ref a3, .ref a4, .ref a5, .ref a6, .ref a7, .ref a8, .ref a9])), (a1, .inl (cy 0, 20, .inl (fun _ => 0))), (a2, .inl (cy 0, 20, .inl (fun _ => 0))), (ne, .inr (6, [.ref n1, .ref n2, .ref n3, .ref n4, .ref n5])), (n1, .inl (cy 0, 8, .inl (fun _ => 0))), (n2, .inl (cy 0, 8, .inl f2)), (n3, .inl (cy 0, 8, .inl f3)), (n4, .inl (cy 0, 8, .inl f4)), (n5, .inl (cy 1, 8, .inl f5)), (ro, .inl (cy 0, 20, .inl (fun _ => 0))), (m0, .inr (20, [.int 0, .ref mp, .int 0, .ref b1, .ref b2, .ref b3, .ref b4, .ref b5, .ref mq])), (b1, .inl (cy 0, 8, .inl (fun _ => 0))), (b2, .inl (cy 0, 8, .inl g2)), (b3, .inl (cy 0, 8, .inl g3)), (b4, .inl (cy 0, 8, .inl g4)), (b5, .inl (cy 1, 8, .inl g5)), (mp, .inr (4, [.int 0, .ref ed, .int 0])), (mq, .inr (4, [.int 0, .ref ed, .int 0])), (od, .inl (cy 4, 1, .inr (.inr (.inr (.inl (fun _ => 0))))))] H := hP
    have hD : va_D A [(pe, .inr (9, [.int 0, .ref a1, .ref a2, .ref a3, .ref a4, .ref a5, .ref a6, .ref a7, .ref a8, .ref a9])), (a1, .inl (cy 0, 20, .inl (fun _ => 0))), (a2, .inl (cy 0, 20, .inl (fun _ => 0))), (ne, .inr (6, [.ref n1, .ref n2, .ref n3, .ref n4, .ref n5])), (n1, .inl (cy 0, 8, .inl (fun _ => 0))), (n2, .inl (cy 0, 8, .inl f2)), (n3, .inl (cy 0, 8, .inl f3)), (n4, .inl (cy 0, 8, .inl f4)), (n5, .inl (cy 1, 8, .inl f5)), (ro, .inl (cy 0, 20, .inl (fun _ => 0))), (m0, .inr (20, [.int 0, .ref mp, .int 0, .ref b1, .ref b2, .ref b3, .ref b4, .ref b5, .ref mq])), (b1, .inl (cy 0, 8, .inl (fun _ => 0))), (b2, .inl (cy 0, 8, .inl g2)), (b3, .inl (cy 0, 8, .inl g3)), (b4, .inl (cy 0, 8, .inl g4)), (b5, .inl (cy 1, 8, .inl g5)), (mp, .inr (4, [.int 0, .ref ed, .int 0])), (mq, .inr (4, [.int 0, .ref ed, .int 0])), (od, .inl (cy 4, 1, .inr (.inr (.inr (.inl (fun _ => 0))))))] := hD
    refine W.widen (k := 30) (n := 886) (Nat.le_of_ble_eq_true rfl) (Nat.le_of_ble_eq_true rfl) ?_
    refine lv_istore (lv' := [(6, .int 1), (5, .int 0), (4, .ref od), (3, .ref oa), (2, .ref m0), (1, .ref h), (0, .ref b)]) hx hb dL_law_1105 hl (by decide) rfl (fun ls hl => ?_)
    refine lv_aload_n hx hb dL_law_1107 rfl (lv_at hl 4 rfl) ?_
    refine lv_aload_n hx hb dL_law_1108 rfl (lv_at hl 6 rfl) ?_
    refine lv_iload hx hb dL_law_1109 (lv_at hl 1 rfl) ?_
    refine lv_iconst (v := 1) hx hb dL_law_1111 (by decide) ?_
    refine lv_iadd hx hb dL_law_1112 ?_
    refine lv_topi (fun y9 ey9 => ?_)
    obtain rfl : y9 = 1 := by rw [ey9] <;> decide
    refine va_sld hx hb hX hbl hbA hS (zx_bn (by decide)) dL_law_1113 ?_
    refine lv_aload_n hx hb dL_law_1114 rfl (lv_at hl 6 rfl) ?_
    refine lv_iload hx hb dL_law_1115 (lv_at hl 1 rfl) ?_
    refine lv_iconst (v := 2) hx hb dL_law_1117 (by decide) ?_
    refine lv_iadd hx hb dL_law_1118 ?_
    refine lv_topi (fun y9 ey9 => ?_)
    obtain rfl : y9 = 2 := by rw [ey9] <;> decide
    refine va_sld hx hb hX hbl hbA hS (zx_bn (by decide)) dL_law_1119 ?_
    have hPc := hP.sub (ws' := [(m0, .inr (20, [.int 0, .ref mp, .int 0, .ref b1, .ref b2, .ref b3, .ref b4, .ref b5, .ref mq])), (mp, .inr (4, [.int 0, .ref ed, .int 0])), (mq, .inr (4, [.int 0, .ref ed, .int 0]))]) [10, 16, 17] rfl
    have hDc := hD.sub (ws' := [(m0, .inr (20, [.int 0, .ref mp, .int 0, .ref b1, .ref b2, .ref b3, .ref b4, .ref b5, .ref mq])), (mp, .inr (4, [.int 0, .ref ed, .int 0])), (mq, .inr (4, [.int 0, .ref ed, .int 0]))]) [10, 16, 17] (by decide) rfl
    have hFc := va_free (wc := [(m0, .inr (20, [.int 0, .ref mp, .int 0, .ref b1, .ref b2, .ref b3, .ref b4, .ref b5, .ref mq])), (mp, .inr (4, [.int 0, .ref ed, .int 0])), (mq, .inr (4, [.int 0, .ref ed, .int 0]))]) hD hS hA [10, 16, 17] rfl
    refine va_calli (va_runV (As := [.int (xs (1 : Int32).toNatClampNeg), .int (xs (2 : Int32).toNatClampNeg)]) (rest := []) ⟨hx, hb, hml, hown, hts⟩ (c_X15_revise l hst D cy ed H.size m0 mp mq b1 b2 b3 b4 b5 0 0 0 ed 0 ed (xs (1 : Int32).toNatClampNeg) (xs (2 : Int32).toNatClampNeg)) (cwV 2 hts (zx_GV mm_2060 mm_2061 mm_2062 mm_78 mm_2063) rfl rfl rfl (by decide +kernel) ⟨(Nat.le_of_ble_eq_true rfl), (Nat.le_of_ble_eq_true rfl)⟩) ⟨zx_blind, va_recv hK hPc (ci := 20) (q0 := 0) rfl rfl, zx_give hPc hK hDc hS hFc hZ hN⟩ rfl rfl hl.1 rfl (lv_room (Nat.le_of_ble_eq_true rfl)) dL_law_1120 ⟨(Nat.le_of_ble_eq_true rfl), (Nat.le_of_ble_eq_true rfl)⟩) hS (fun q _ h => hFc q h) hFc (fun r9 u t H1 locs ht hvm hw hB hz1 hk1 hS => ?_)
    obtain ⟨r_610, rfl⟩ : ∃ z9, z9 = r9 := ⟨_, rfl⟩
    have h_611 := hw
    obtain ⟨hP, hD⟩ := zx_join (wr := [(pe, .inr (9, [.int 0, .ref a1, .ref a2, .ref a3, .ref a4, .ref a5, .ref a6, .ref a7, .ref a8, .ref a9])), (a1, .inl (cy 0, 20, .inl (fun _ => 0))), (a2, .inl (cy 0, 20, .inl (fun _ => 0))), (ne, .inr (6, [.ref n1, .ref n2, .ref n3, .ref n4, .ref n5])), (n1, .inl (cy 0, 8, .inl (fun _ => 0))), (n2, .inl (cy 0, 8, .inl f2)), (n3, .inl (cy 0, 8, .inl f3)), (n4, .inl (cy 0, 8, .inl f4)), (n5, .inl (cy 1, 8, .inl f5)), (ro, .inl (cy 0, 20, .inl (fun _ => 0))), (b1, .inl (cy 0, 8, .inl (fun _ => 0))), (b2, .inl (cy 0, 8, .inl g2)), (b3, .inl (cy 0, 8, .inl g3)), (b4, .inl (cy 0, 8, .inl g4)), (b5, .inl (cy 1, 8, .inl g5)), (od, .inl (cy 4, 1, .inr (.inr (.inr (.inl (fun _ => 0))))))]) (w1 := [(m0, .inr (20, [.int 1, .ref mp, .int 0, .ref b1, .ref b2, .ref b3, .ref b4, .ref b5, .ref mq]))]) [10, 16, 17] [0, 1, 2, 3, 4, 5, 6, 7, 8, 9, 11, 12, 13, 14, 15, 18] rfl rfl (by decide) (by decide) hP hD hk1 hFc hB ht
    generalize H1 = H at hP hS ⊢
    have hP : va_P D vwCl [(pe, .inr (9, [.int 0, .ref a1, .ref a2, .ref a3, .ref a4, .ref a5, .ref a6, .ref a7, .ref a8, .ref a9])), (a1, .inl (cy 0, 20, .inl (fun _ => 0))), (a2, .inl (cy 0, 20, .inl (fun _ => 0))), (ne, .inr (6, [.ref n1, .ref n2, .ref n3, .ref n4, .ref n5])), (n1, .inl (cy 0, 8, .inl (fun _ => 0))), (n2, .inl (cy 0, 8, .inl f2)), (n3, .inl (cy 0, 8, .inl f3)), (n4, .inl (cy 0, 8, .inl f4)), (n5, .inl (cy 1, 8, .inl f5)), (ro, .inl (cy 0, 20, .inl (fun _ => 0))), (b1, .inl (cy 0, 8, .inl (fun _ => 0))), (b2, .inl (cy 0, 8, .inl g2)), (b3, .inl (cy 0, 8, .inl g3)), (b4, .inl (cy 0, 8, .inl g4)), (b5, .inl (cy 1, 8, .inl g5)), (od, .inl (cy 4, 1, .inr (.inr (.inr (.inl (fun _ => 0)))))), (m0, .inr (20, [.int 1, .ref mp, .int 0, .ref b1, .ref b2, .ref b3, .ref b4, .ref b5, .ref mq]))] H := hP
    have hD : va_D A [(pe, .inr (9, [.int 0, .ref a1, .ref a2, .ref a3, .ref a4, .ref a5, .ref a6, .ref a7, .ref a8, .ref a9])), (a1, .inl (cy 0, 20, .inl (fun _ => 0))), (a2, .inl (cy 0, 20, .inl (fun _ => 0))), (ne, .inr (6, [.ref n1, .ref n2, .ref n3, .ref n4, .ref n5])), (n1, .inl (cy 0, 8, .inl (fun _ => 0))), (n2, .inl (cy 0, 8, .inl f2)), (n3, .inl (cy 0, 8, .inl f3)), (n4, .inl (cy 0, 8, .inl f4)), (n5, .inl (cy 1, 8, .inl f5)), (ro, .inl (cy 0, 20, .inl (fun _ => 0))), (b1, .inl (cy 0, 8, .inl (fun _ => 0))), (b2, .inl (cy 0, 8, .inl g2)), (b3, .inl (cy 0, 8, .inl g3)), (b4, .inl (cy 0, 8, .inl g4)), (b5, .inl (cy 1, 8, .inl g5)), (od, .inl (cy 4, 1, .inr (.inr (.inr (.inl (fun _ => 0)))))), (m0, .inr (20, [.int 1, .ref mp, .int 0, .ref b1, .ref b2, .ref b3, .ref b4, .ref b5, .ref mq]))] := hD
    refine W.widen (k := 30) (n := 886) (Nat.le_of_ble_eq_true rfl) (Nat.le_of_ble_eq_true rfl) ?_
    refine lv_istore (lv' := [(7, .int r_610), (6, .int 1), (5, .int 0), (4, .ref od), (3, .ref oa), (2, .ref m0), (1, .ref h), (0, .ref b)]) hx hb dL_law_1123 hl (by decide) rfl (fun ls hl => ?_)
    refine lv_aload_n hx hb dL_law_1125 rfl (lv_at hl 5 rfl) ?_
    have hPc := hP.sub (ws' := [(m0, .inr (20, [.int 1, .ref mp, .int 0, .ref b1, .ref b2, .ref b3, .ref b4, .ref b5, .ref mq]))]) [16] rfl
    have hDc := hD.sub (ws' := [(m0, .inr (20, [.int 1, .ref mp, .int 0, .ref b1, .ref b2, .ref b3, .ref b4, .ref b5, .ref mq]))]) [16] (by decide) rfl
    have hFc := va_free (wc := [(m0, .inr (20, [.int 1, .ref mp, .int 0, .ref b1, .ref b2, .ref b3, .ref b4, .ref b5, .ref mq]))]) hD hS hA [16] rfl
    refine va_calli (va_runV (As := []) (rest := []) ⟨hx, hb, hml, hown, hts⟩ (c_X15_thrown l hst D cy ed H.size m0 mp mq b1 b2 b3 b4 b5 1 0) (cwV 0 hts (zx_GV mm_1599 mm_1600 mm_1601 mm_78 mm_1602) rfl rfl rfl (by decide +kernel) ⟨(Nat.le_of_ble_eq_true rfl), (Nat.le_of_ble_eq_true rfl)⟩) ⟨zx_blind, va_recv hK hPc (ci := 20) (q0 := 0) rfl rfl, zx_give hPc hK hDc hS hFc hZ hN⟩ rfl rfl hl.1 rfl (lv_room (Nat.le_of_ble_eq_true rfl)) dL_law_1126 ⟨(Nat.le_of_ble_eq_true rfl), (Nat.le_of_ble_eq_true rfl)⟩) hS (fun q _ h => hFc q h) hFc (fun r9 u t H1 locs ht hvm hw hB hz1 hk1 hS => ?_)
    obtain rfl : r9 = 1 := hw
    obtain ⟨hP, hD⟩ := zx_join (wr := [(pe, .inr (9, [.int 0, .ref a1, .ref a2, .ref a3, .ref a4, .ref a5, .ref a6, .ref a7, .ref a8, .ref a9])), (a1, .inl (cy 0, 20, .inl (fun _ => 0))), (a2, .inl (cy 0, 20, .inl (fun _ => 0))), (ne, .inr (6, [.ref n1, .ref n2, .ref n3, .ref n4, .ref n5])), (n1, .inl (cy 0, 8, .inl (fun _ => 0))), (n2, .inl (cy 0, 8, .inl f2)), (n3, .inl (cy 0, 8, .inl f3)), (n4, .inl (cy 0, 8, .inl f4)), (n5, .inl (cy 1, 8, .inl f5)), (ro, .inl (cy 0, 20, .inl (fun _ => 0))), (b1, .inl (cy 0, 8, .inl (fun _ => 0))), (b2, .inl (cy 0, 8, .inl g2)), (b3, .inl (cy 0, 8, .inl g3)), (b4, .inl (cy 0, 8, .inl g4)), (b5, .inl (cy 1, 8, .inl g5)), (od, .inl (cy 4, 1, .inr (.inr (.inr (.inl (fun _ => 0))))))]) (w1 := [(m0, .inr (20, [.int 1, .ref mp, .int 0, .ref b1, .ref b2, .ref b3, .ref b4, .ref b5, .ref mq]))]) [16] [0, 1, 2, 3, 4, 5, 6, 7, 8, 9, 10, 11, 12, 13, 14, 15] rfl rfl (by decide) (by decide) hP hD hk1 hFc hB ht
    generalize H1 = H at hP hS ⊢
    have hP : va_P D vwCl [(pe, .inr (9, [.int 0, .ref a1, .ref a2, .ref a3, .ref a4, .ref a5, .ref a6, .ref a7, .ref a8, .ref a9])), (a1, .inl (cy 0, 20, .inl (fun _ => 0))), (a2, .inl (cy 0, 20, .inl (fun _ => 0))), (ne, .inr (6, [.ref n1, .ref n2, .ref n3, .ref n4, .ref n5])), (n1, .inl (cy 0, 8, .inl (fun _ => 0))), (n2, .inl (cy 0, 8, .inl f2)), (n3, .inl (cy 0, 8, .inl f3)), (n4, .inl (cy 0, 8, .inl f4)), (n5, .inl (cy 1, 8, .inl f5)), (ro, .inl (cy 0, 20, .inl (fun _ => 0))), (b1, .inl (cy 0, 8, .inl (fun _ => 0))), (b2, .inl (cy 0, 8, .inl g2)), (b3, .inl (cy 0, 8, .inl g3)), (b4, .inl (cy 0, 8, .inl g4)), (b5, .inl (cy 1, 8, .inl g5)), (od, .inl (cy 4, 1, .inr (.inr (.inr (.inl (fun _ => 0)))))), (m0, .inr (20, [.int 1, .ref mp, .int 0, .ref b1, .ref b2, .ref b3, .ref b4, .ref b5, .ref mq]))] H := hP
    have hD : va_D A [(pe, .inr (9, [.int 0, .ref a1, .ref a2, .ref a3, .ref a4, .ref a5, .ref a6, .ref a7, .ref a8, .ref a9])), (a1, .inl (cy 0, 20, .inl (fun _ => 0))), (a2, .inl (cy 0, 20, .inl (fun _ => 0))), (ne, .inr (6, [.ref n1, .ref n2, .ref n3, .ref n4, .ref n5])), (n1, .inl (cy 0, 8, .inl (fun _ => 0))), (n2, .inl (cy 0, 8, .inl f2)), (n3, .inl (cy 0, 8, .inl f3)), (n4, .inl (cy 0, 8, .inl f4)), (n5, .inl (cy 1, 8, .inl f5)), (ro, .inl (cy 0, 20, .inl (fun _ => 0))), (b1, .inl (cy 0, 8, .inl (fun _ => 0))), (b2, .inl (cy 0, 8, .inl g2)), (b3, .inl (cy 0, 8, .inl g3)), (b4, .inl (cy 0, 8, .inl g4)), (b5, .inl (cy 1, 8, .inl g5)), (od, .inl (cy 4, 1, .inr (.inr (.inr (.inl (fun _ => 0)))))), (m0, .inr (20, [.int 1, .ref mp, .int 0, .ref b1, .ref b2, .ref b3, .ref b4, .ref b5, .ref mq]))] := hD
    refine W.widen (k := 30) (n := 886) (Nat.le_of_ble_eq_true rfl) (Nat.le_of_ble_eq_true rfl) ?_
    refine lv_iload hx hb dL_law_1129 (lv_at hl 1 rfl) ?_
    refine lv_icmp_eq (tgt := 1136) hx hb dL_law_1131 (by decide) (fun _ => ?_) (fun c_612 => absurd (by decide) c_612)
    refine lv_iload hx hb dL_law_1136 (lv_at hl 1 rfl) ?_
    refine lv_if_ne (tgt := 1153) hx hb dL_law_1138 (by decide) (fun _ => ?_) (fun c_613 => absurd c_613 (by decide))
    refine lv_goto (tgt := 4257) hx hb dL_law_1153 (by decide) ?_
    refine W.widen (k := 60) (n := 1200) (Nat.le_of_ble_eq_true rfl) (Nat.le_of_ble_eq_true rfl) ?_
    exact hend _ _ _ hS (lv_sub hl [7, 2] rfl)
set_option maxHeartbeats 4000000 in
set_option maxRecDepth 100000 in
theorem law_case_12 {p : Program} {l : Launch} {e : Env} {s : State} {m : MethodId} {below : List Frame} {meth : Method} {c : Code} {D : va_G} {cy : Nat → ClassId} {ed b : Nat} {xs : Nat → Int32} {A : Nat → Prop} {Q : State → Prop} (C0 : zx_LW p l s m c D cy ed b xs A)
    {h pe ne pa ro a1 a2 a3 a4 a5 a6 a7 a8 a9 n1 n2 n3 n4 n5 m0 mp b1 b2 b3 b4 b5 mq oa od : Nat} {f2 f3 f4 f5 g2 g3 g4 g5 : Nat → Int32} (hf5 : ∀ j, j < 8 → f5 j = 115) (hg5 : ∀ j, j < 8 → g5 j = 115) {H : Heap} {locs : List Loc} {ls : Array Slot}
    (hP : va_P D vwCl [(h, .inr (13, [.ref pe, .ref ne, .ref pa, .ref ro, .int 0])), (pe, .inr (9, [.int 0, .ref a1, .ref a2, .ref a3, .ref a4, .ref a5, .ref a6, .ref a7, .ref a8, .ref a9])), (a1, .inl (cy 0, 20, .inl (fun _ => 0))), (a2, .inl (cy 0, 20, .inl (fun _ => 0))), (ne, .inr (6, [.ref n1, .ref n2, .ref n3, .ref n4, .ref n5])), (n1, .inl (cy 0, 8, .inl (fun _ => 0))), (n2, .inl (cy 0, 8, .inl f2)), (n3, .inl (cy 0, 8, .inl f3)), (n4, .inl (cy 0, 8, .inl f4)), (n5, .inl (cy 1, 8, .inl f5)), (pa, .inr (4, [.int 0, .ref ed, .int 0])), (ro, .inl (cy 0, 20, .inl (fun _ => 0))), (m0, .inr (20, [.int 0, .ref mp, .int 0, .ref b1, .ref b2, .ref b3, .ref b4, .ref b5, .ref mq])), (b1, .inl (cy 0, 8, .inl (fun _ => 0))), (b2, .inl (cy 0, 8, .inl g2)), (b3, .inl (cy 0, 8, .inl g3)), (b4, .inl (cy 0, 8, .inl g4)), (b5, .inl (cy 1, 8, .inl g5)), (mp, .inr (4, [.int 0, .ref ed, .int 0])), (mq, .inr (4, [.int 0, .ref ed, .int 0])), (oa, .inl (cy 3, 1, .inr (.inl (fun _ => 0)))), (od, .inl (cy 4, 1, .inr (.inr (.inr (.inl (fun _ => 0))))))] H) (hD : va_D A [(h, .inr (13, [.ref pe, .ref ne, .ref pa, .ref ro, .int 0])), (pe, .inr (9, [.int 0, .ref a1, .ref a2, .ref a3, .ref a4, .ref a5, .ref a6, .ref a7, .ref a8, .ref a9])), (a1, .inl (cy 0, 20, .inl (fun _ => 0))), (a2, .inl (cy 0, 20, .inl (fun _ => 0))), (ne, .inr (6, [.ref n1, .ref n2, .ref n3, .ref n4, .ref n5])), (n1, .inl (cy 0, 8, .inl (fun _ => 0))), (n2, .inl (cy 0, 8, .inl f2)), (n3, .inl (cy 0, 8, .inl f3)), (n4, .inl (cy 0, 8, .inl f4)), (n5, .inl (cy 1, 8, .inl f5)), (pa, .inr (4, [.int 0, .ref ed, .int 0])), (ro, .inl (cy 0, 20, .inl (fun _ => 0))), (m0, .inr (20, [.int 0, .ref mp, .int 0, .ref b1, .ref b2, .ref b3, .ref b4, .ref b5, .ref mq])), (b1, .inl (cy 0, 8, .inl (fun _ => 0))), (b2, .inl (cy 0, 8, .inl g2)), (b3, .inl (cy 0, 8, .inl g3)), (b4, .inl (cy 0, 8, .inl g4)), (b5, .inl (cy 1, 8, .inl g5)), (mp, .inr (4, [.int 0, .ref ed, .int 0])), (mq, .inr (4, [.int 0, .ref ed, .int 0])), (oa, .inl (cy 3, 1, .inr (.inl (fun _ => 0)))), (od, .inl (cy 4, 1, .inr (.inr (.inr (.inl (fun _ => 0))))))]) (hS : va_S A s.heap H locs) (hl : lv_has ls 9 [(5, .int 0), (4, .ref od), (3, .ref oa), (2, .ref m0), (1, .ref h), (0, .ref b)])
    (hend : ∀ (H : Heap) (locs : List Loc) (ls : Array Slot), va_S A s.heap H locs → lv_has ls 9 [(0, .ref b), (5, .int 0)] → W p l e room_1 s m #[Value.ref b] below meth c H locs 60 1200 Q (F0 m 4257 ls [])) :
    W p l e room_1 s m #[Value.ref b] below meth c H locs 29 880 Q (F0 m 1156 ls []) := by
  obtain ⟨hx, hb, hml, hst, hown, hts, hX, hbl, hbA, hA, hK, hZ, hN⟩ := C0
  refine lv_aload_n hx hb dL_law_1156 rfl (lv_at hl 4 rfl) ?_
  refine lv_aload_n hx hb dL_law_1157 rfl (lv_at hl 5 rfl) ?_
  refine lv_iload hx hb dL_law_1158 (lv_at hl 0 rfl) ?_
  refine lv_iconst (v := 1) hx hb dL_law_1160 (by decide) ?_
  refine lv_iadd hx hb dL_law_1161 ?_
  refine lv_topi (fun y9 ey9 => ?_)
  obtain rfl : y9 = 1 := by rw [ey9] <;> decide
  refine va_sld hx hb hX hbl hbA hS (zx_bn (by decide)) dL_law_1162 ?_
  refine lv_aload_n hx hb dL_law_1163 rfl (lv_at hl 2 rfl) ?_
  have hPc := hP.sub (ws' := [(h, .inr (13, [.ref pe, .ref ne, .ref pa, .ref ro, .int 0])), (pa, .inr (4, [.int 0, .ref ed, .int 0])), (oa, .inl (cy 3, 1, .inr (.inl (fun _ => 0))))]) [0, 10, 20] rfl
  have hDc := hD.sub (ws' := [(h, .inr (13, [.ref pe, .ref ne, .ref pa, .ref ro, .int 0])), (pa, .inr (4, [.int 0, .ref ed, .int 0])), (oa, .inl (cy 3, 1, .inr (.inl (fun _ => 0))))]) [0, 10, 20] (by decide) rfl
  have hFc := va_free (wc := [(h, .inr (13, [.ref pe, .ref ne, .ref pa, .ref ro, .int 0])), (pa, .inr (4, [.int 0, .ref ed, .int 0])), (oa, .inl (cy 3, 1, .inr (.inl (fun _ => 0))))]) hD hS hA [0, 10, 20] rfl
  refine vx_calli (vx_runSX (As := [.ref h, .int (xs (1 : Int32).toNatClampNeg), .ref oa]) (rest := []) ⟨hx, hb, hml, hown, hts⟩ (c_L_withdraw l hst D cy ed H.size h pe ne pa ro 0 0 ed oa (fun _ => 0) (xs (1 : Int32).toNatClampNeg)) (vx_cwSW 3 hts (zx_GS mm_919 mm_920 mm_70 mm_921) rfl rfl rfl (by decide +kernel) ⟨(Nat.le_of_ble_eq_true rfl), (Nat.le_of_ble_eq_true rfl)⟩) ⟨zx_blind, zx_give hPc hK hDc hS hFc hZ hN⟩ rfl rfl hl.1 rfl (lv_room (Nat.le_of_ble_eq_true rfl)) dL_law_1164 ⟨(Nat.le_of_ble_eq_true rfl), (Nat.le_of_ble_eq_true rfl)⟩) hS (fun q _ h => hFc q h) hFc (fun q _ h => hFc q h) (fun E9 ce9 q9 _ t H locs ht hvm _ hBX hz1 hk1 hS hce hcv hcl => ?_) (fun r9 u t H locs ht hvm hw hB hz1 hk1 hS => ?_)
  · exact hBX.elim
  ·
    obtain rfl : r9 = 1 := hw
    obtain ⟨hP, hD⟩ := zx_join (wr := [(pe, .inr (9, [.int 0, .ref a1, .ref a2, .ref a3, .ref a4, .ref a5, .ref a6, .ref a7, .ref a8, .ref a9])), (a1, .inl (cy 0, 20, .inl (fun _ => 0))), (a2, .inl (cy 0, 20, .inl (fun _ => 0))), (ne, .inr (6, [.ref n1, .ref n2, .ref n3, .ref n4, .ref n5])), (n1, .inl (cy 0, 8, .inl (fun _ => 0))), (n2, .inl (cy 0, 8, .inl f2)), (n3, .inl (cy 0, 8, .inl f3)), (n4, .inl (cy 0, 8, .inl f4)), (n5, .inl (cy 1, 8, .inl f5)), (ro, .inl (cy 0, 20, .inl (fun _ => 0))), (m0, .inr (20, [.int 0, .ref mp, .int 0, .ref b1, .ref b2, .ref b3, .ref b4, .ref b5, .ref mq])), (b1, .inl (cy 0, 8, .inl (fun _ => 0))), (b2, .inl (cy 0, 8, .inl g2)), (b3, .inl (cy 0, 8, .inl g3)), (b4, .inl (cy 0, 8, .inl g4)), (b5, .inl (cy 1, 8, .inl g5)), (mp, .inr (4, [.int 0, .ref ed, .int 0])), (mq, .inr (4, [.int 0, .ref ed, .int 0])), (od, .inl (cy 4, 1, .inr (.inr (.inr (.inl (fun _ => 0))))))]) (w1 := []) [0, 10, 20] [1, 2, 3, 4, 5, 6, 7, 8, 9, 11, 12, 13, 14, 15, 16, 17, 18, 19, 21] rfl rfl (by decide) (by decide) hP hD hk1 hFc hB ht
    have hP : va_P D vwCl [(pe, .inr (9, [.int 0, .ref a1, .ref a2, .ref a3, .ref a4, .ref a5, .ref a6, .ref a7, .ref a8, .ref a9])), (a1, .inl (cy 0, 20, .inl (fun _ => 0))), (a2, .inl (cy 0, 20, .inl (fun _ => 0))), (ne, .inr (6, [.ref n1, .ref n2, .ref n3, .ref n4, .ref n5])), (n1, .inl (cy 0, 8, .inl (fun _ => 0))), (n2, .inl (cy 0, 8, .inl f2)), (n3, .inl (cy 0, 8, .inl f3)), (n4, .inl (cy 0, 8, .inl f4)), (n5, .inl (cy 1, 8, .inl f5)), (ro, .inl (cy 0, 20, .inl (fun _ => 0))), (m0, .inr (20, [.int 0, .ref mp, .int 0, .ref b1, .ref b2, .ref b3, .ref b4, .ref b5, .ref mq])), (b1, .inl (cy 0, 8, .inl (fun _ => 0))), (b2, .inl (cy 0, 8, .inl g2)), (b3, .inl (cy 0, 8, .inl g3)), (b4, .inl (cy 0, 8, .inl g4)), (b5, .inl (cy 1, 8, .inl g5)), (mp, .inr (4, [.int 0, .ref ed, .int 0])), (mq, .inr (4, [.int 0, .ref ed, .int 0])), (od, .inl (cy 4, 1, .inr (.inr (.inr (.inl (fun _ => 0))))))] H := hP
    have hD : va_D A [(pe, .inr (9, [.int 0, .ref a1, .ref a2, .ref a3, .ref a4, .ref a5, .ref a6, .ref a7, .ref a8, .ref a9])), (a1, .inl (cy 0, 20, .inl (fun _ => 0))), (a2, .inl (cy 0, 20, .inl (fun _ => 0))), (ne, .inr (6, [.ref n1, .ref n2, .ref n3, .ref n4, .ref n5])), (n1, .inl (cy 0, 8, .inl (fun _ => 0))), (n2, .inl (cy 0, 8, .inl f2)), (n3, .inl (cy 0, 8, .inl f3)), (n4, .inl (cy 0, 8, .inl f4)), (n5, .inl (cy 1, 8, .inl f5)), (ro, .inl (cy 0, 20, .inl (fun _ => 0))), (m0, .inr (20, [.int 0, .ref mp, .int 0, .ref b1, .ref b2, .ref b3, .ref b4, .ref b5, .ref mq])), (b1, .inl (cy 0, 8, .inl (fun _ => 0))), (b2, .inl (cy 0, 8, .inl g2)), (b3, .inl (cy 0, 8, .inl g3)), (b4, .inl (cy 0, 8, .inl g4)), (b5, .inl (cy 1, 8, .inl g5)), (mp, .inr (4, [.int 0, .ref ed, .int 0])), (mq, .inr (4, [.int 0, .ref ed, .int 0])), (od, .inl (cy 4, 1, .inr (.inr (.inr (.inl (fun _ => 0))))))] := hD
    refine W.widen (k := 30) (n := 886) (Nat.le_of_ble_eq_true rfl) (Nat.le_of_ble_eq_true rfl) ?_
    refine lv_istore (lv' := [(6, .int 1), (5, .int 0), (4, .ref od), (3, .ref oa), (2, .ref m0), (1, .ref h), (0, .ref b)]) hx hb dL_law_1167 hl (by decide) rfl (fun ls hl => ?_)
    refine lv_aload_n hx hb dL_law_1169 rfl (lv_at hl 4 rfl) ?_
    refine lv_aload_n hx hb dL_law_1170 rfl (lv_at hl 6 rfl) ?_
    refine lv_iload hx hb dL_law_1171 (lv_at hl 1 rfl) ?_
    refine lv_iconst (v := 1) hx hb dL_law_1173 (by decide) ?_
    refine lv_iadd hx hb dL_law_1174 ?_
    refine lv_topi (fun y9 ey9 => ?_)
    obtain rfl : y9 = 1 := by rw [ey9] <;> decide
    refine va_sld hx hb hX hbl hbA hS (zx_bn (by decide)) dL_law_1175 ?_
    have hPc := hP.sub (ws' := [(m0, .inr (20, [.int 0, .ref mp, .int 0, .ref b1, .ref b2, .ref b3, .ref b4, .ref b5, .ref mq])), (mp, .inr (4, [.int 0, .ref ed, .int 0])), (mq, .inr (4, [.int 0, .ref ed, .int 0]))]) [10, 16, 17] rfl
    have hDc := hD.sub (ws' := [(m0, .inr (20, [.int 0, .ref mp, .int 0, .ref b1, .ref b2, .ref b3, .ref b4, .ref b5, .ref mq])), (mp, .inr (4, [.int 0, .ref ed, .int 0])), (mq, .inr (4, [.int 0, .ref ed, .int 0]))]) [10, 16, 17] (by decide) rfl
    have hFc := va_free (wc := [(m0, .inr (20, [.int 0, .ref mp, .int 0, .ref b1, .ref b2, .ref b3, .ref b4, .ref b5, .ref mq])), (mp, .inr (4, [.int 0, .ref ed, .int 0])), (mq, .inr (4, [.int 0, .ref ed, .int 0]))]) hD hS hA [10, 16, 17] rfl
    refine va_calli (va_runV (As := [.int (xs (1 : Int32).toNatClampNeg)]) (rest := []) ⟨hx, hb, hml, hown, hts⟩ (c_X15_withdraw l hst D cy ed H.size m0 mp mq b1 b2 b3 b4 b5 0 0 0 ed 0 ed (xs (1 : Int32).toNatClampNeg)) (cwV 1 hts (zx_GV mm_2072 mm_2073 mm_2074 mm_78 mm_2075) rfl rfl rfl (by decide +kernel) ⟨(Nat.le_of_ble_eq_true rfl), (Nat.le_of_ble_eq_true rfl)⟩) ⟨zx_blind, va_recv hK hPc (ci := 20) (q0 := 0) rfl rfl, zx_give hPc hK hDc hS hFc hZ hN⟩ rfl rfl hl.1 rfl (lv_room (Nat.le_of_ble_eq_true rfl)) dL_law_1176 ⟨(Nat.le_of_ble_eq_true rfl), (Nat.le_of_ble_eq_true rfl)⟩) hS (fun q _ h => hFc q h) hFc (fun r9 u t H1 locs ht hvm hw hB hz1 hk1 hS => ?_)
    obtain ⟨r_614, rfl⟩ : ∃ z9, z9 = r9 := ⟨_, rfl⟩
    have h_615 := hw
    obtain ⟨hP, hD⟩ := zx_join (wr := [(pe, .inr (9, [.int 0, .ref a1, .ref a2, .ref a3, .ref a4, .ref a5, .ref a6, .ref a7, .ref a8, .ref a9])), (a1, .inl (cy 0, 20, .inl (fun _ => 0))), (a2, .inl (cy 0, 20, .inl (fun _ => 0))), (ne, .inr (6, [.ref n1, .ref n2, .ref n3, .ref n4, .ref n5])), (n1, .inl (cy 0, 8, .inl (fun _ => 0))), (n2, .inl (cy 0, 8, .inl f2)), (n3, .inl (cy 0, 8, .inl f3)), (n4, .inl (cy 0, 8, .inl f4)), (n5, .inl (cy 1, 8, .inl f5)), (ro, .inl (cy 0, 20, .inl (fun _ => 0))), (b1, .inl (cy 0, 8, .inl (fun _ => 0))), (b2, .inl (cy 0, 8, .inl g2)), (b3, .inl (cy 0, 8, .inl g3)), (b4, .inl (cy 0, 8, .inl g4)), (b5, .inl (cy 1, 8, .inl g5)), (od, .inl (cy 4, 1, .inr (.inr (.inr (.inl (fun _ => 0))))))]) (w1 := [(m0, .inr (20, [.int 1, .ref mp, .int 0, .ref b1, .ref b2, .ref b3, .ref b4, .ref b5, .ref mq]))]) [10, 16, 17] [0, 1, 2, 3, 4, 5, 6, 7, 8, 9, 11, 12, 13, 14, 15, 18] rfl rfl (by decide) (by decide) hP hD hk1 hFc hB ht
    generalize H1 = H at hP hS ⊢
    have hP : va_P D vwCl [(pe, .inr (9, [.int 0, .ref a1, .ref a2, .ref a3, .ref a4, .ref a5, .ref a6, .ref a7, .ref a8, .ref a9])), (a1, .inl (cy 0, 20, .inl (fun _ => 0))), (a2, .inl (cy 0, 20, .inl (fun _ => 0))), (ne, .inr (6, [.ref n1, .ref n2, .ref n3, .ref n4, .ref n5])), (n1, .inl (cy 0, 8, .inl (fun _ => 0))), (n2, .inl (cy 0, 8, .inl f2)), (n3, .inl (cy 0, 8, .inl f3)), (n4, .inl (cy 0, 8, .inl f4)), (n5, .inl (cy 1, 8, .inl f5)), (ro, .inl (cy 0, 20, .inl (fun _ => 0))), (b1, .inl (cy 0, 8, .inl (fun _ => 0))), (b2, .inl (cy 0, 8, .inl g2)), (b3, .inl (cy 0, 8, .inl g3)), (b4, .inl (cy 0, 8, .inl g4)), (b5, .inl (cy 1, 8, .inl g5)), (od, .inl (cy 4, 1, .inr (.inr (.inr (.inl (fun _ => 0)))))), (m0, .inr (20, [.int 1, .ref mp, .int 0, .ref b1, .ref b2, .ref b3, .ref b4, .ref b5, .ref mq]))] H := hP
    have hD : va_D A [(pe, .inr (9, [.int 0, .ref a1, .ref a2, .ref a3, .ref a4, .ref a5, .ref a6, .ref a7, .ref a8, .ref a9])), (a1, .inl (cy 0, 20, .inl (fun _ => 0))), (a2, .inl (cy 0, 20, .inl (fun _ => 0))), (ne, .inr (6, [.ref n1, .ref n2, .ref n3, .ref n4, .ref n5])), (n1, .inl (cy 0, 8, .inl (fun _ => 0))), (n2, .inl (cy 0, 8, .inl f2)), (n3, .inl (cy 0, 8, .inl f3)), (n4, .inl (cy 0, 8, .inl f4)), (n5, .inl (cy 1, 8, .inl f5)), (ro, .inl (cy 0, 20, .inl (fun _ => 0))), (b1, .inl (cy 0, 8, .inl (fun _ => 0))), (b2, .inl (cy 0, 8, .inl g2)), (b3, .inl (cy 0, 8, .inl g3)), (b4, .inl (cy 0, 8, .inl g4)), (b5, .inl (cy 1, 8, .inl g5)), (od, .inl (cy 4, 1, .inr (.inr (.inr (.inl (fun _ => 0)))))), (m0, .inr (20, [.int 1, .ref mp, .int 0, .ref b1, .ref b2, .ref b3, .ref b4, .ref b5, .ref mq]))] := hD
    refine W.widen (k := 30) (n := 886) (Nat.le_of_ble_eq_true rfl) (Nat.le_of_ble_eq_true rfl) ?_
    refine lv_istore (lv' := [(7, .int r_614), (6, .int 1), (5, .int 0), (4, .ref od), (3, .ref oa), (2, .ref m0), (1, .ref h), (0, .ref b)]) hx hb dL_law_1179 hl (by decide) rfl (fun ls hl => ?_)
    refine lv_aload_n hx hb dL_law_1181 rfl (lv_at hl 5 rfl) ?_
    have hPc := hP.sub (ws' := [(m0, .inr (20, [.int 1, .ref mp, .int 0, .ref b1, .ref b2, .ref b3, .ref b4, .ref b5, .ref mq]))]) [16] rfl
    have hDc := hD.sub (ws' := [(m0, .inr (20, [.int 1, .ref mp, .int 0, .ref b1, .ref b2, .ref b3, .ref b4, .ref b5, .ref mq]))]) [16] (by decide) rfl
    have hFc := va_free (wc := [(m0, .inr (20, [.int 1, .ref mp, .int 0, .ref b1, .ref b2, .ref b3, .ref b4, .ref b5, .ref mq]))]) hD hS hA [16] rfl
    refine va_calli (va_runV (As := []) (rest := []) ⟨hx, hb, hml, hown, hts⟩ (c_X15_thrown l hst D cy ed H.size m0 mp mq b1 b2 b3 b4 b5 1 0) (cwV 0 hts (zx_GV mm_1599 mm_1600 mm_1601 mm_78 mm_1602) rfl rfl rfl (by decide +kernel) ⟨(Nat.le_of_ble_eq_true rfl), (Nat.le_of_ble_eq_true rfl)⟩) ⟨zx_blind, va_recv hK hPc (ci := 20) (q0 := 0) rfl rfl, zx_give hPc hK hDc hS hFc hZ hN⟩ rfl rfl hl.1 rfl (lv_room (Nat.le_of_ble_eq_true rfl)) dL_law_1182 ⟨(Nat.le_of_ble_eq_true rfl), (Nat.le_of_ble_eq_true rfl)⟩) hS (fun q _ h => hFc q h) hFc (fun r9 u t H1 locs ht hvm hw hB hz1 hk1 hS => ?_)
    obtain rfl : r9 = 1 := hw
    obtain ⟨hP, hD⟩ := zx_join (wr := [(pe, .inr (9, [.int 0, .ref a1, .ref a2, .ref a3, .ref a4, .ref a5, .ref a6, .ref a7, .ref a8, .ref a9])), (a1, .inl (cy 0, 20, .inl (fun _ => 0))), (a2, .inl (cy 0, 20, .inl (fun _ => 0))), (ne, .inr (6, [.ref n1, .ref n2, .ref n3, .ref n4, .ref n5])), (n1, .inl (cy 0, 8, .inl (fun _ => 0))), (n2, .inl (cy 0, 8, .inl f2)), (n3, .inl (cy 0, 8, .inl f3)), (n4, .inl (cy 0, 8, .inl f4)), (n5, .inl (cy 1, 8, .inl f5)), (ro, .inl (cy 0, 20, .inl (fun _ => 0))), (b1, .inl (cy 0, 8, .inl (fun _ => 0))), (b2, .inl (cy 0, 8, .inl g2)), (b3, .inl (cy 0, 8, .inl g3)), (b4, .inl (cy 0, 8, .inl g4)), (b5, .inl (cy 1, 8, .inl g5)), (od, .inl (cy 4, 1, .inr (.inr (.inr (.inl (fun _ => 0))))))]) (w1 := [(m0, .inr (20, [.int 1, .ref mp, .int 0, .ref b1, .ref b2, .ref b3, .ref b4, .ref b5, .ref mq]))]) [16] [0, 1, 2, 3, 4, 5, 6, 7, 8, 9, 10, 11, 12, 13, 14, 15] rfl rfl (by decide) (by decide) hP hD hk1 hFc hB ht
    generalize H1 = H at hP hS ⊢
    have hP : va_P D vwCl [(pe, .inr (9, [.int 0, .ref a1, .ref a2, .ref a3, .ref a4, .ref a5, .ref a6, .ref a7, .ref a8, .ref a9])), (a1, .inl (cy 0, 20, .inl (fun _ => 0))), (a2, .inl (cy 0, 20, .inl (fun _ => 0))), (ne, .inr (6, [.ref n1, .ref n2, .ref n3, .ref n4, .ref n5])), (n1, .inl (cy 0, 8, .inl (fun _ => 0))), (n2, .inl (cy 0, 8, .inl f2)), (n3, .inl (cy 0, 8, .inl f3)), (n4, .inl (cy 0, 8, .inl f4)), (n5, .inl (cy 1, 8, .inl f5)), (ro, .inl (cy 0, 20, .inl (fun _ => 0))), (b1, .inl (cy 0, 8, .inl (fun _ => 0))), (b2, .inl (cy 0, 8, .inl g2)), (b3, .inl (cy 0, 8, .inl g3)), (b4, .inl (cy 0, 8, .inl g4)), (b5, .inl (cy 1, 8, .inl g5)), (od, .inl (cy 4, 1, .inr (.inr (.inr (.inl (fun _ => 0)))))), (m0, .inr (20, [.int 1, .ref mp, .int 0, .ref b1, .ref b2, .ref b3, .ref b4, .ref b5, .ref mq]))] H := hP
    have hD : va_D A [(pe, .inr (9, [.int 0, .ref a1, .ref a2, .ref a3, .ref a4, .ref a5, .ref a6, .ref a7, .ref a8, .ref a9])), (a1, .inl (cy 0, 20, .inl (fun _ => 0))), (a2, .inl (cy 0, 20, .inl (fun _ => 0))), (ne, .inr (6, [.ref n1, .ref n2, .ref n3, .ref n4, .ref n5])), (n1, .inl (cy 0, 8, .inl (fun _ => 0))), (n2, .inl (cy 0, 8, .inl f2)), (n3, .inl (cy 0, 8, .inl f3)), (n4, .inl (cy 0, 8, .inl f4)), (n5, .inl (cy 1, 8, .inl f5)), (ro, .inl (cy 0, 20, .inl (fun _ => 0))), (b1, .inl (cy 0, 8, .inl (fun _ => 0))), (b2, .inl (cy 0, 8, .inl g2)), (b3, .inl (cy 0, 8, .inl g3)), (b4, .inl (cy 0, 8, .inl g4)), (b5, .inl (cy 1, 8, .inl g5)), (od, .inl (cy 4, 1, .inr (.inr (.inr (.inl (fun _ => 0)))))), (m0, .inr (20, [.int 1, .ref mp, .int 0, .ref b1, .ref b2, .ref b3, .ref b4, .ref b5, .ref mq]))] := hD
    refine W.widen (k := 30) (n := 886) (Nat.le_of_ble_eq_true rfl) (Nat.le_of_ble_eq_true rfl) ?_
    refine lv_iload hx hb dL_law_1185 (lv_at hl 1 rfl) ?_
    refine lv_icmp_eq (tgt := 1192) hx hb dL_law_1187 (by decide) (fun _ => ?_) (fun c_616 => absurd (by decide) c_616)
    refine lv_iload hx hb dL_law_1192 (lv_at hl 1 rfl) ?_
    refine lv_if_ne (tgt := 1209) hx hb dL_law_1194 (by decide) (fun _ => ?_) (fun c_617 => absurd c_617 (by decide))
    refine lv_goto (tgt := 4257) hx hb dL_law_1209 (by decide) ?_
    refine W.widen (k := 60) (n := 1200) (Nat.le_of_ble_eq_true rfl) (Nat.le_of_ble_eq_true rfl) ?_
    exact hend _ _ _ hS (lv_sub hl [7, 2] rfl)
set_option maxHeartbeats 4000000 in
set_option maxRecDepth 100000 in
theorem law_case_13 {p : Program} {l : Launch} {e : Env} {s : State} {m : MethodId} {below : List Frame} {meth : Method} {c : Code} {D : va_G} {cy : Nat → ClassId} {ed b : Nat} {xs : Nat → Int32} {A : Nat → Prop} {Q : State → Prop} (C0 : zx_LW p l s m c D cy ed b xs A)
    {h pe ne pa ro a1 a2 a3 a4 a5 a6 a7 a8 a9 n1 n2 n3 n4 n5 m0 mp b1 b2 b3 b4 b5 mq oa od : Nat} {f2 f3 f4 f5 g2 g3 g4 g5 : Nat → Int32} (hf5 : ∀ j, j < 8 → f5 j = 115) (hg5 : ∀ j, j < 8 → g5 j = 115) {H : Heap} {locs : List Loc} {ls : Array Slot}
    (hP : va_P D vwCl [(h, .inr (13, [.ref pe, .ref ne, .ref pa, .ref ro, .int 0])), (pe, .inr (9, [.int 0, .ref a1, .ref a2, .ref a3, .ref a4, .ref a5, .ref a6, .ref a7, .ref a8, .ref a9])), (a1, .inl (cy 0, 20, .inl (fun _ => 0))), (a2, .inl (cy 0, 20, .inl (fun _ => 0))), (ne, .inr (6, [.ref n1, .ref n2, .ref n3, .ref n4, .ref n5])), (n1, .inl (cy 0, 8, .inl (fun _ => 0))), (n2, .inl (cy 0, 8, .inl f2)), (n3, .inl (cy 0, 8, .inl f3)), (n4, .inl (cy 0, 8, .inl f4)), (n5, .inl (cy 1, 8, .inl f5)), (pa, .inr (4, [.int 0, .ref ed, .int 0])), (ro, .inl (cy 0, 20, .inl (fun _ => 0))), (m0, .inr (20, [.int 0, .ref mp, .int 0, .ref b1, .ref b2, .ref b3, .ref b4, .ref b5, .ref mq])), (b1, .inl (cy 0, 8, .inl (fun _ => 0))), (b2, .inl (cy 0, 8, .inl g2)), (b3, .inl (cy 0, 8, .inl g3)), (b4, .inl (cy 0, 8, .inl g4)), (b5, .inl (cy 1, 8, .inl g5)), (mp, .inr (4, [.int 0, .ref ed, .int 0])), (mq, .inr (4, [.int 0, .ref ed, .int 0])), (oa, .inl (cy 3, 1, .inr (.inl (fun _ => 0)))), (od, .inl (cy 4, 1, .inr (.inr (.inr (.inl (fun _ => 0))))))] H) (hD : va_D A [(h, .inr (13, [.ref pe, .ref ne, .ref pa, .ref ro, .int 0])), (pe, .inr (9, [.int 0, .ref a1, .ref a2, .ref a3, .ref a4, .ref a5, .ref a6, .ref a7, .ref a8, .ref a9])), (a1, .inl (cy 0, 20, .inl (fun _ => 0))), (a2, .inl (cy 0, 20, .inl (fun _ => 0))), (ne, .inr (6, [.ref n1, .ref n2, .ref n3, .ref n4, .ref n5])), (n1, .inl (cy 0, 8, .inl (fun _ => 0))), (n2, .inl (cy 0, 8, .inl f2)), (n3, .inl (cy 0, 8, .inl f3)), (n4, .inl (cy 0, 8, .inl f4)), (n5, .inl (cy 1, 8, .inl f5)), (pa, .inr (4, [.int 0, .ref ed, .int 0])), (ro, .inl (cy 0, 20, .inl (fun _ => 0))), (m0, .inr (20, [.int 0, .ref mp, .int 0, .ref b1, .ref b2, .ref b3, .ref b4, .ref b5, .ref mq])), (b1, .inl (cy 0, 8, .inl (fun _ => 0))), (b2, .inl (cy 0, 8, .inl g2)), (b3, .inl (cy 0, 8, .inl g3)), (b4, .inl (cy 0, 8, .inl g4)), (b5, .inl (cy 1, 8, .inl g5)), (mp, .inr (4, [.int 0, .ref ed, .int 0])), (mq, .inr (4, [.int 0, .ref ed, .int 0])), (oa, .inl (cy 3, 1, .inr (.inl (fun _ => 0)))), (od, .inl (cy 4, 1, .inr (.inr (.inr (.inl (fun _ => 0))))))]) (hS : va_S A s.heap H locs) (hl : lv_has ls 9 [(5, .int 0), (4, .ref od), (3, .ref oa), (2, .ref m0), (1, .ref h), (0, .ref b)])
    (hend : ∀ (H : Heap) (locs : List Loc) (ls : Array Slot), va_S A s.heap H locs → lv_has ls 9 [(0, .ref b), (5, .int 0)] → W p l e room_1 s m #[Value.ref b] below meth c H locs 60 1200 Q (F0 m 4257 ls [])) :
    W p l e room_1 s m #[Value.ref b] below meth c H locs 29 880 Q (F0 m 1212 ls []) := by
  obtain ⟨hx, hb, hml, hst, hown, hts, hX, hbl, hbA, hA, hK, hZ, hN⟩ := C0
  refine lv_aload_n hx hb dL_law_1212 rfl (lv_at hl 4 rfl) ?_
  refine lv_aload_n hx hb dL_law_1213 rfl (lv_at hl 5 rfl) ?_
  refine lv_iload hx hb dL_law_1214 (lv_at hl 0 rfl) ?_
  refine lv_iconst (v := 1) hx hb dL_law_1216 (by decide) ?_
  refine lv_iadd hx hb dL_law_1217 ?_
  refine lv_topi (fun y9 ey9 => ?_)
  obtain rfl : y9 = 1 := by rw [ey9] <;> decide
  refine va_sld hx hb hX hbl hbA hS (zx_bn (by decide)) dL_law_1218 ?_
  refine lv_aload_n hx hb dL_law_1219 rfl (lv_at hl 2 rfl) ?_
  have hPc := hP.sub (ws' := [(h, .inr (13, [.ref pe, .ref ne, .ref pa, .ref ro, .int 0])), (pa, .inr (4, [.int 0, .ref ed, .int 0])), (oa, .inl (cy 3, 1, .inr (.inl (fun _ => 0))))]) [0, 10, 20] rfl
  have hDc := hD.sub (ws' := [(h, .inr (13, [.ref pe, .ref ne, .ref pa, .ref ro, .int 0])), (pa, .inr (4, [.int 0, .ref ed, .int 0])), (oa, .inl (cy 3, 1, .inr (.inl (fun _ => 0))))]) [0, 10, 20] (by decide) rfl
  have hFc := va_free (wc := [(h, .inr (13, [.ref pe, .ref ne, .ref pa, .ref ro, .int 0])), (pa, .inr (4, [.int 0, .ref ed, .int 0])), (oa, .inl (cy 3, 1, .inr (.inl (fun _ => 0))))]) hD hS hA [0, 10, 20] rfl
  refine vx_calli (vx_runSX (As := [.ref h, .int (xs (1 : Int32).toNatClampNeg), .ref oa]) (rest := []) ⟨hx, hb, hml, hown, hts⟩ (c_L_assign l hst D cy ed H.size h pe ne pa ro 0 0 ed oa (fun _ => 0) (xs (1 : Int32).toNatClampNeg)) (vx_cwSW 3 hts (zx_GS mm_930 mm_931 mm_70 mm_932) rfl rfl rfl (by decide +kernel) ⟨(Nat.le_of_ble_eq_true rfl), (Nat.le_of_ble_eq_true rfl)⟩) ⟨zx_blind, zx_give hPc hK hDc hS hFc hZ hN⟩ rfl rfl hl.1 rfl (lv_room (Nat.le_of_ble_eq_true rfl)) dL_law_1220 ⟨(Nat.le_of_ble_eq_true rfl), (Nat.le_of_ble_eq_true rfl)⟩) hS (fun q _ h => hFc q h) hFc (fun q _ h => hFc q h) (fun E9 ce9 q9 _ t H locs ht hvm _ hBX hz1 hk1 hS hce hcv hcl => ?_) (fun r9 u t H locs ht hvm hw hB hz1 hk1 hS => ?_)
  · exact hBX.elim
  ·
    obtain rfl : r9 = 1 := hw
    obtain ⟨hP, hD⟩ := zx_join (wr := [(pe, .inr (9, [.int 0, .ref a1, .ref a2, .ref a3, .ref a4, .ref a5, .ref a6, .ref a7, .ref a8, .ref a9])), (a1, .inl (cy 0, 20, .inl (fun _ => 0))), (a2, .inl (cy 0, 20, .inl (fun _ => 0))), (ne, .inr (6, [.ref n1, .ref n2, .ref n3, .ref n4, .ref n5])), (n1, .inl (cy 0, 8, .inl (fun _ => 0))), (n2, .inl (cy 0, 8, .inl f2)), (n3, .inl (cy 0, 8, .inl f3)), (n4, .inl (cy 0, 8, .inl f4)), (n5, .inl (cy 1, 8, .inl f5)), (ro, .inl (cy 0, 20, .inl (fun _ => 0))), (m0, .inr (20, [.int 0, .ref mp, .int 0, .ref b1, .ref b2, .ref b3, .ref b4, .ref b5, .ref mq])), (b1, .inl (cy 0, 8, .inl (fun _ => 0))), (b2, .inl (cy 0, 8, .inl g2)), (b3, .inl (cy 0, 8, .inl g3)), (b4, .inl (cy 0, 8, .inl g4)), (b5, .inl (cy 1, 8, .inl g5)), (mp, .inr (4, [.int 0, .ref ed, .int 0])), (mq, .inr (4, [.int 0, .ref ed, .int 0])), (od, .inl (cy 4, 1, .inr (.inr (.inr (.inl (fun _ => 0))))))]) (w1 := []) [0, 10, 20] [1, 2, 3, 4, 5, 6, 7, 8, 9, 11, 12, 13, 14, 15, 16, 17, 18, 19, 21] rfl rfl (by decide) (by decide) hP hD hk1 hFc hB ht
    have hP : va_P D vwCl [(pe, .inr (9, [.int 0, .ref a1, .ref a2, .ref a3, .ref a4, .ref a5, .ref a6, .ref a7, .ref a8, .ref a9])), (a1, .inl (cy 0, 20, .inl (fun _ => 0))), (a2, .inl (cy 0, 20, .inl (fun _ => 0))), (ne, .inr (6, [.ref n1, .ref n2, .ref n3, .ref n4, .ref n5])), (n1, .inl (cy 0, 8, .inl (fun _ => 0))), (n2, .inl (cy 0, 8, .inl f2)), (n3, .inl (cy 0, 8, .inl f3)), (n4, .inl (cy 0, 8, .inl f4)), (n5, .inl (cy 1, 8, .inl f5)), (ro, .inl (cy 0, 20, .inl (fun _ => 0))), (m0, .inr (20, [.int 0, .ref mp, .int 0, .ref b1, .ref b2, .ref b3, .ref b4, .ref b5, .ref mq])), (b1, .inl (cy 0, 8, .inl (fun _ => 0))), (b2, .inl (cy 0, 8, .inl g2)), (b3, .inl (cy 0, 8, .inl g3)), (b4, .inl (cy 0, 8, .inl g4)), (b5, .inl (cy 1, 8, .inl g5)), (mp, .inr (4, [.int 0, .ref ed, .int 0])), (mq, .inr (4, [.int 0, .ref ed, .int 0])), (od, .inl (cy 4, 1, .inr (.inr (.inr (.inl (fun _ => 0))))))] H := hP
    have hD : va_D A [(pe, .inr (9, [.int 0, .ref a1, .ref a2, .ref a3, .ref a4, .ref a5, .ref a6, .ref a7, .ref a8, .ref a9])), (a1, .inl (cy 0, 20, .inl (fun _ => 0))), (a2, .inl (cy 0, 20, .inl (fun _ => 0))), (ne, .inr (6, [.ref n1, .ref n2, .ref n3, .ref n4, .ref n5])), (n1, .inl (cy 0, 8, .inl (fun _ => 0))), (n2, .inl (cy 0, 8, .inl f2)), (n3, .inl (cy 0, 8, .inl f3)), (n4, .inl (cy 0, 8, .inl f4)), (n5, .inl (cy 1, 8, .inl f5)), (ro, .inl (cy 0, 20, .inl (fun _ => 0))), (m0, .inr (20, [.int 0, .ref mp, .int 0, .ref b1, .ref b2, .ref b3, .ref b4, .ref b5, .ref mq])), (b1, .inl (cy 0, 8, .inl (fun _ => 0))), (b2, .inl (cy 0, 8, .inl g2)), (b3, .inl (cy 0, 8, .inl g3)), (b4, .inl (cy 0, 8, .inl g4)), (b5, .inl (cy 1, 8, .inl g5)), (mp, .inr (4, [.int 0, .ref ed, .int 0])), (mq, .inr (4, [.int 0, .ref ed, .int 0])), (od, .inl (cy 4, 1, .inr (.inr (.inr (.inl (fun _ => 0))))))] := hD
    refine W.widen (k := 30) (n := 886) (Nat.le_of_ble_eq_true rfl) (Nat.le_of_ble_eq_true rfl) ?_
    refine lv_istore (lv' := [(6, .int 1), (5, .int 0), (4, .ref od), (3, .ref oa), (2, .ref m0), (1, .ref h), (0, .ref b)]) hx hb dL_law_1223 hl (by decide) rfl (fun ls hl => ?_)
    refine lv_aload_n hx hb dL_law_1225 rfl (lv_at hl 4 rfl) ?_
    refine lv_aload_n hx hb dL_law_1226 rfl (lv_at hl 6 rfl) ?_
    refine lv_iload hx hb dL_law_1227 (lv_at hl 1 rfl) ?_
    refine lv_iconst (v := 1) hx hb dL_law_1229 (by decide) ?_
    refine lv_iadd hx hb dL_law_1230 ?_
    refine lv_topi (fun y9 ey9 => ?_)
    obtain rfl : y9 = 1 := by rw [ey9] <;> decide
    refine va_sld hx hb hX hbl hbA hS (zx_bn (by decide)) dL_law_1231 ?_
    have hPc := hP.sub (ws' := [(m0, .inr (20, [.int 0, .ref mp, .int 0, .ref b1, .ref b2, .ref b3, .ref b4, .ref b5, .ref mq])), (mp, .inr (4, [.int 0, .ref ed, .int 0])), (mq, .inr (4, [.int 0, .ref ed, .int 0]))]) [10, 16, 17] rfl
    have hDc := hD.sub (ws' := [(m0, .inr (20, [.int 0, .ref mp, .int 0, .ref b1, .ref b2, .ref b3, .ref b4, .ref b5, .ref mq])), (mp, .inr (4, [.int 0, .ref ed, .int 0])), (mq, .inr (4, [.int 0, .ref ed, .int 0]))]) [10, 16, 17] (by decide) rfl
    have hFc := va_free (wc := [(m0, .inr (20, [.int 0, .ref mp, .int 0, .ref b1, .ref b2, .ref b3, .ref b4, .ref b5, .ref mq])), (mp, .inr (4, [.int 0, .ref ed, .int 0])), (mq, .inr (4, [.int 0, .ref ed, .int 0]))]) hD hS hA [10, 16, 17] rfl
    refine va_calli (va_runV (As := [.int (xs (1 : Int32).toNatClampNeg)]) (rest := []) ⟨hx, hb, hml, hown, hts⟩ (c_X15_assign l hst D cy ed H.size m0 mp mq b1 b2 b3 b4 b5 0 0 0 ed 0 ed (xs (1 : Int32).toNatClampNeg)) (cwV 1 hts (zx_GV mm_2080 mm_2081 mm_2082 mm_78 mm_2083) rfl rfl rfl (by decide +kernel) ⟨(Nat.le_of_ble_eq_true rfl), (Nat.le_of_ble_eq_true rfl)⟩) ⟨zx_blind, va_recv hK hPc (ci := 20) (q0 := 0) rfl rfl, zx_give hPc hK hDc hS hFc hZ hN⟩ rfl rfl hl.1 rfl (lv_room (Nat.le_of_ble_eq_true rfl)) dL_law_1232 ⟨(Nat.le_of_ble_eq_true rfl), (Nat.le_of_ble_eq_true rfl)⟩) hS (fun q _ h => hFc q h) hFc (fun r9 u t H1 locs ht hvm hw hB hz1 hk1 hS => ?_)
    obtain ⟨r_618, rfl⟩ : ∃ z9, z9 = r9 := ⟨_, rfl⟩
    have h_619 := hw
    obtain ⟨hP, hD⟩ := zx_join (wr := [(pe, .inr (9, [.int 0, .ref a1, .ref a2, .ref a3, .ref a4, .ref a5, .ref a6, .ref a7, .ref a8, .ref a9])), (a1, .inl (cy 0, 20, .inl (fun _ => 0))), (a2, .inl (cy 0, 20, .inl (fun _ => 0))), (ne, .inr (6, [.ref n1, .ref n2, .ref n3, .ref n4, .ref n5])), (n1, .inl (cy 0, 8, .inl (fun _ => 0))), (n2, .inl (cy 0, 8, .inl f2)), (n3, .inl (cy 0, 8, .inl f3)), (n4, .inl (cy 0, 8, .inl f4)), (n5, .inl (cy 1, 8, .inl f5)), (ro, .inl (cy 0, 20, .inl (fun _ => 0))), (b1, .inl (cy 0, 8, .inl (fun _ => 0))), (b2, .inl (cy 0, 8, .inl g2)), (b3, .inl (cy 0, 8, .inl g3)), (b4, .inl (cy 0, 8, .inl g4)), (b5, .inl (cy 1, 8, .inl g5)), (od, .inl (cy 4, 1, .inr (.inr (.inr (.inl (fun _ => 0))))))]) (w1 := [(m0, .inr (20, [.int 1, .ref mp, .int 0, .ref b1, .ref b2, .ref b3, .ref b4, .ref b5, .ref mq]))]) [10, 16, 17] [0, 1, 2, 3, 4, 5, 6, 7, 8, 9, 11, 12, 13, 14, 15, 18] rfl rfl (by decide) (by decide) hP hD hk1 hFc hB ht
    generalize H1 = H at hP hS ⊢
    have hP : va_P D vwCl [(pe, .inr (9, [.int 0, .ref a1, .ref a2, .ref a3, .ref a4, .ref a5, .ref a6, .ref a7, .ref a8, .ref a9])), (a1, .inl (cy 0, 20, .inl (fun _ => 0))), (a2, .inl (cy 0, 20, .inl (fun _ => 0))), (ne, .inr (6, [.ref n1, .ref n2, .ref n3, .ref n4, .ref n5])), (n1, .inl (cy 0, 8, .inl (fun _ => 0))), (n2, .inl (cy 0, 8, .inl f2)), (n3, .inl (cy 0, 8, .inl f3)), (n4, .inl (cy 0, 8, .inl f4)), (n5, .inl (cy 1, 8, .inl f5)), (ro, .inl (cy 0, 20, .inl (fun _ => 0))), (b1, .inl (cy 0, 8, .inl (fun _ => 0))), (b2, .inl (cy 0, 8, .inl g2)), (b3, .inl (cy 0, 8, .inl g3)), (b4, .inl (cy 0, 8, .inl g4)), (b5, .inl (cy 1, 8, .inl g5)), (od, .inl (cy 4, 1, .inr (.inr (.inr (.inl (fun _ => 0)))))), (m0, .inr (20, [.int 1, .ref mp, .int 0, .ref b1, .ref b2, .ref b3, .ref b4, .ref b5, .ref mq]))] H := hP
    have hD : va_D A [(pe, .inr (9, [.int 0, .ref a1, .ref a2, .ref a3, .ref a4, .ref a5, .ref a6, .ref a7, .ref a8, .ref a9])), (a1, .inl (cy 0, 20, .inl (fun _ => 0))), (a2, .inl (cy 0, 20, .inl (fun _ => 0))), (ne, .inr (6, [.ref n1, .ref n2, .ref n3, .ref n4, .ref n5])), (n1, .inl (cy 0, 8, .inl (fun _ => 0))), (n2, .inl (cy 0, 8, .inl f2)), (n3, .inl (cy 0, 8, .inl f3)), (n4, .inl (cy 0, 8, .inl f4)), (n5, .inl (cy 1, 8, .inl f5)), (ro, .inl (cy 0, 20, .inl (fun _ => 0))), (b1, .inl (cy 0, 8, .inl (fun _ => 0))), (b2, .inl (cy 0, 8, .inl g2)), (b3, .inl (cy 0, 8, .inl g3)), (b4, .inl (cy 0, 8, .inl g4)), (b5, .inl (cy 1, 8, .inl g5)), (od, .inl (cy 4, 1, .inr (.inr (.inr (.inl (fun _ => 0)))))), (m0, .inr (20, [.int 1, .ref mp, .int 0, .ref b1, .ref b2, .ref b3, .ref b4, .ref b5, .ref mq]))] := hD
    refine W.widen (k := 30) (n := 886) (Nat.le_of_ble_eq_true rfl) (Nat.le_of_ble_eq_true rfl) ?_
    refine lv_istore (lv' := [(7, .int r_618), (6, .int 1), (5, .int 0), (4, .ref od), (3, .ref oa), (2, .ref m0), (1, .ref h), (0, .ref b)]) hx hb dL_law_1235 hl (by decide) rfl (fun ls hl => ?_)
    refine lv_aload_n hx hb dL_law_1237 rfl (lv_at hl 5 rfl) ?_
    have hPc := hP.sub (ws' := [(m0, .inr (20, [.int 1, .ref mp, .int 0, .ref b1, .ref b2, .ref b3, .ref b4, .ref b5, .ref mq]))]) [16] rfl
    have hDc := hD.sub (ws' := [(m0, .inr (20, [.int 1, .ref mp, .int 0, .ref b1, .ref b2, .ref b3, .ref b4, .ref b5, .ref mq]))]) [16] (by decide) rfl
    have hFc := va_free (wc := [(m0, .inr (20, [.int 1, .ref mp, .int 0, .ref b1, .ref b2, .ref b3, .ref b4, .ref b5, .ref mq]))]) hD hS hA [16] rfl
    refine va_calli (va_runV (As := []) (rest := []) ⟨hx, hb, hml, hown, hts⟩ (c_X15_thrown l hst D cy ed H.size m0 mp mq b1 b2 b3 b4 b5 1 0) (cwV 0 hts (zx_GV mm_1599 mm_1600 mm_1601 mm_78 mm_1602) rfl rfl rfl (by decide +kernel) ⟨(Nat.le_of_ble_eq_true rfl), (Nat.le_of_ble_eq_true rfl)⟩) ⟨zx_blind, va_recv hK hPc (ci := 20) (q0 := 0) rfl rfl, zx_give hPc hK hDc hS hFc hZ hN⟩ rfl rfl hl.1 rfl (lv_room (Nat.le_of_ble_eq_true rfl)) dL_law_1238 ⟨(Nat.le_of_ble_eq_true rfl), (Nat.le_of_ble_eq_true rfl)⟩) hS (fun q _ h => hFc q h) hFc (fun r9 u t H1 locs ht hvm hw hB hz1 hk1 hS => ?_)
    obtain rfl : r9 = 1 := hw
    obtain ⟨hP, hD⟩ := zx_join (wr := [(pe, .inr (9, [.int 0, .ref a1, .ref a2, .ref a3, .ref a4, .ref a5, .ref a6, .ref a7, .ref a8, .ref a9])), (a1, .inl (cy 0, 20, .inl (fun _ => 0))), (a2, .inl (cy 0, 20, .inl (fun _ => 0))), (ne, .inr (6, [.ref n1, .ref n2, .ref n3, .ref n4, .ref n5])), (n1, .inl (cy 0, 8, .inl (fun _ => 0))), (n2, .inl (cy 0, 8, .inl f2)), (n3, .inl (cy 0, 8, .inl f3)), (n4, .inl (cy 0, 8, .inl f4)), (n5, .inl (cy 1, 8, .inl f5)), (ro, .inl (cy 0, 20, .inl (fun _ => 0))), (b1, .inl (cy 0, 8, .inl (fun _ => 0))), (b2, .inl (cy 0, 8, .inl g2)), (b3, .inl (cy 0, 8, .inl g3)), (b4, .inl (cy 0, 8, .inl g4)), (b5, .inl (cy 1, 8, .inl g5)), (od, .inl (cy 4, 1, .inr (.inr (.inr (.inl (fun _ => 0))))))]) (w1 := [(m0, .inr (20, [.int 1, .ref mp, .int 0, .ref b1, .ref b2, .ref b3, .ref b4, .ref b5, .ref mq]))]) [16] [0, 1, 2, 3, 4, 5, 6, 7, 8, 9, 10, 11, 12, 13, 14, 15] rfl rfl (by decide) (by decide) hP hD hk1 hFc hB ht
    generalize H1 = H at hP hS ⊢
    have hP : va_P D vwCl [(pe, .inr (9, [.int 0, .ref a1, .ref a2, .ref a3, .ref a4, .ref a5, .ref a6, .ref a7, .ref a8, .ref a9])), (a1, .inl (cy 0, 20, .inl (fun _ => 0))), (a2, .inl (cy 0, 20, .inl (fun _ => 0))), (ne, .inr (6, [.ref n1, .ref n2, .ref n3, .ref n4, .ref n5])), (n1, .inl (cy 0, 8, .inl (fun _ => 0))), (n2, .inl (cy 0, 8, .inl f2)), (n3, .inl (cy 0, 8, .inl f3)), (n4, .inl (cy 0, 8, .inl f4)), (n5, .inl (cy 1, 8, .inl f5)), (ro, .inl (cy 0, 20, .inl (fun _ => 0))), (b1, .inl (cy 0, 8, .inl (fun _ => 0))), (b2, .inl (cy 0, 8, .inl g2)), (b3, .inl (cy 0, 8, .inl g3)), (b4, .inl (cy 0, 8, .inl g4)), (b5, .inl (cy 1, 8, .inl g5)), (od, .inl (cy 4, 1, .inr (.inr (.inr (.inl (fun _ => 0)))))), (m0, .inr (20, [.int 1, .ref mp, .int 0, .ref b1, .ref b2, .ref b3, .ref b4, .ref b5, .ref mq]))] H := hP
    have hD : va_D A [(pe, .inr (9, [.int 0, .ref a1, .ref a2, .ref a3, .ref a4, .ref a5, .ref a6, .ref a7, .ref a8, .ref a9])), (a1, .inl (cy 0, 20, .inl (fun _ => 0))), (a2, .inl (cy 0, 20, .inl (fun _ => 0))), (ne, .inr (6, [.ref n1, .ref n2, .ref n3, .ref n4, .ref n5])), (n1, .inl (cy 0, 8, .inl (fun _ => 0))), (n2, .inl (cy 0, 8, .inl f2)), (n3, .inl (cy 0, 8, .inl f3)), (n4, .inl (cy 0, 8, .inl f4)), (n5, .inl (cy 1, 8, .inl f5)), (ro, .inl (cy 0, 20, .inl (fun _ => 0))), (b1, .inl (cy 0, 8, .inl (fun _ => 0))), (b2, .inl (cy 0, 8, .inl g2)), (b3, .inl (cy 0, 8, .inl g3)), (b4, .inl (cy 0, 8, .inl g4)), (b5, .inl (cy 1, 8, .inl g5)), (od, .inl (cy 4, 1, .inr (.inr (.inr (.inl (fun _ => 0)))))), (m0, .inr (20, [.int 1, .ref mp, .int 0, .ref b1, .ref b2, .ref b3, .ref b4, .ref b5, .ref mq]))] := hD
    refine W.widen (k := 30) (n := 886) (Nat.le_of_ble_eq_true rfl) (Nat.le_of_ble_eq_true rfl) ?_
    refine lv_iload hx hb dL_law_1241 (lv_at hl 1 rfl) ?_
    refine lv_icmp_eq (tgt := 1248) hx hb dL_law_1243 (by decide) (fun _ => ?_) (fun c_620 => absurd (by decide) c_620)
    refine lv_iload hx hb dL_law_1248 (lv_at hl 1 rfl) ?_
    refine lv_if_ne (tgt := 1265) hx hb dL_law_1250 (by decide) (fun _ => ?_) (fun c_621 => absurd c_621 (by decide))
    refine lv_goto (tgt := 4257) hx hb dL_law_1265 (by decide) ?_
    refine W.widen (k := 60) (n := 1200) (Nat.le_of_ble_eq_true rfl) (Nat.le_of_ble_eq_true rfl) ?_
    exact hend _ _ _ hS (lv_sub hl [7, 2] rfl)
set_option maxHeartbeats 4000000 in
set_option maxRecDepth 100000 in
theorem law_case_14 {p : Program} {l : Launch} {e : Env} {s : State} {m : MethodId} {below : List Frame} {meth : Method} {c : Code} {D : va_G} {cy : Nat → ClassId} {ed b : Nat} {xs : Nat → Int32} {A : Nat → Prop} {Q : State → Prop} (C0 : zx_LW p l s m c D cy ed b xs A)
    {h pe ne pa ro a1 a2 a3 a4 a5 a6 a7 a8 a9 n1 n2 n3 n4 n5 m0 mp b1 b2 b3 b4 b5 mq oa od : Nat} {f2 f3 f4 f5 g2 g3 g4 g5 : Nat → Int32} (hf5 : ∀ j, j < 8 → f5 j = 115) (hg5 : ∀ j, j < 8 → g5 j = 115) {H : Heap} {locs : List Loc} {ls : Array Slot}
    (hP : va_P D vwCl [(h, .inr (13, [.ref pe, .ref ne, .ref pa, .ref ro, .int 0])), (pe, .inr (9, [.int 0, .ref a1, .ref a2, .ref a3, .ref a4, .ref a5, .ref a6, .ref a7, .ref a8, .ref a9])), (a1, .inl (cy 0, 20, .inl (fun _ => 0))), (a2, .inl (cy 0, 20, .inl (fun _ => 0))), (ne, .inr (6, [.ref n1, .ref n2, .ref n3, .ref n4, .ref n5])), (n1, .inl (cy 0, 8, .inl (fun _ => 0))), (n2, .inl (cy 0, 8, .inl f2)), (n3, .inl (cy 0, 8, .inl f3)), (n4, .inl (cy 0, 8, .inl f4)), (n5, .inl (cy 1, 8, .inl f5)), (pa, .inr (4, [.int 0, .ref ed, .int 0])), (ro, .inl (cy 0, 20, .inl (fun _ => 0))), (m0, .inr (20, [.int 0, .ref mp, .int 0, .ref b1, .ref b2, .ref b3, .ref b4, .ref b5, .ref mq])), (b1, .inl (cy 0, 8, .inl (fun _ => 0))), (b2, .inl (cy 0, 8, .inl g2)), (b3, .inl (cy 0, 8, .inl g3)), (b4, .inl (cy 0, 8, .inl g4)), (b5, .inl (cy 1, 8, .inl g5)), (mp, .inr (4, [.int 0, .ref ed, .int 0])), (mq, .inr (4, [.int 0, .ref ed, .int 0])), (oa, .inl (cy 3, 1, .inr (.inl (fun _ => 0)))), (od, .inl (cy 4, 1, .inr (.inr (.inr (.inl (fun _ => 0))))))] H) (hD : va_D A [(h, .inr (13, [.ref pe, .ref ne, .ref pa, .ref ro, .int 0])), (pe, .inr (9, [.int 0, .ref a1, .ref a2, .ref a3, .ref a4, .ref a5, .ref a6, .ref a7, .ref a8, .ref a9])), (a1, .inl (cy 0, 20, .inl (fun _ => 0))), (a2, .inl (cy 0, 20, .inl (fun _ => 0))), (ne, .inr (6, [.ref n1, .ref n2, .ref n3, .ref n4, .ref n5])), (n1, .inl (cy 0, 8, .inl (fun _ => 0))), (n2, .inl (cy 0, 8, .inl f2)), (n3, .inl (cy 0, 8, .inl f3)), (n4, .inl (cy 0, 8, .inl f4)), (n5, .inl (cy 1, 8, .inl f5)), (pa, .inr (4, [.int 0, .ref ed, .int 0])), (ro, .inl (cy 0, 20, .inl (fun _ => 0))), (m0, .inr (20, [.int 0, .ref mp, .int 0, .ref b1, .ref b2, .ref b3, .ref b4, .ref b5, .ref mq])), (b1, .inl (cy 0, 8, .inl (fun _ => 0))), (b2, .inl (cy 0, 8, .inl g2)), (b3, .inl (cy 0, 8, .inl g3)), (b4, .inl (cy 0, 8, .inl g4)), (b5, .inl (cy 1, 8, .inl g5)), (mp, .inr (4, [.int 0, .ref ed, .int 0])), (mq, .inr (4, [.int 0, .ref ed, .int 0])), (oa, .inl (cy 3, 1, .inr (.inl (fun _ => 0)))), (od, .inl (cy 4, 1, .inr (.inr (.inr (.inl (fun _ => 0))))))]) (hS : va_S A s.heap H locs) (hl : lv_has ls 9 [(5, .int 0), (4, .ref od), (3, .ref oa), (2, .ref m0), (1, .ref h), (0, .ref b)])
    (hend : ∀ (H : Heap) (locs : List Loc) (ls : Array Slot), va_S A s.heap H locs → lv_has ls 9 [(0, .ref b), (5, .int 0)] → W p l e room_1 s m #[Value.ref b] below meth c H locs 60 1200 Q (F0 m 4257 ls [])) :
    W p l e room_1 s m #[Value.ref b] below meth c H locs 29 880 Q (F0 m 1268 ls []) := by
  obtain ⟨hx, hb, hml, hst, hown, hts, hX, hbl, hbA, hA, hK, hZ, hN⟩ := C0
  refine lv_aload_n hx hb dL_law_1268 rfl (lv_at hl 4 rfl) ?_
  refine lv_aload_n hx hb dL_law_1269 rfl (lv_at hl 5 rfl) ?_
  refine lv_iload hx hb dL_law_1270 (lv_at hl 0 rfl) ?_
  refine lv_iconst (v := 1) hx hb dL_law_1272 (by decide) ?_
  refine lv_iadd hx hb dL_law_1273 ?_
  refine lv_topi (fun y9 ey9 => ?_)
  obtain rfl : y9 = 1 := by rw [ey9] <;> decide
  refine va_sld hx hb hX hbl hbA hS (zx_bn (by decide)) dL_law_1274 ?_
  refine lv_aload_n hx hb dL_law_1275 rfl (lv_at hl 2 rfl) ?_
  have hPc := hP.sub (ws' := [(h, .inr (13, [.ref pe, .ref ne, .ref pa, .ref ro, .int 0])), (pa, .inr (4, [.int 0, .ref ed, .int 0])), (oa, .inl (cy 3, 1, .inr (.inl (fun _ => 0))))]) [0, 10, 20] rfl
  have hDc := hD.sub (ws' := [(h, .inr (13, [.ref pe, .ref ne, .ref pa, .ref ro, .int 0])), (pa, .inr (4, [.int 0, .ref ed, .int 0])), (oa, .inl (cy 3, 1, .inr (.inl (fun _ => 0))))]) [0, 10, 20] (by decide) rfl
  have hFc := va_free (wc := [(h, .inr (13, [.ref pe, .ref ne, .ref pa, .ref ro, .int 0])), (pa, .inr (4, [.int 0, .ref ed, .int 0])), (oa, .inl (cy 3, 1, .inr (.inl (fun _ => 0))))]) hD hS hA [0, 10, 20] rfl
  refine vx_calli (vx_runSX (As := [.ref h, .int (xs (1 : Int32).toNatClampNeg), .ref oa]) (rest := []) ⟨hx, hb, hml, hown, hts⟩ (c_L_editorOf l hst D cy ed H.size h pe ne pa ro 0 0 ed oa (fun _ => 0) (xs (1 : Int32).toNatClampNeg)) (vx_cwSW 3 hts (zx_GS mm_973 mm_974 mm_70 mm_975) rfl rfl rfl (by decide +kernel) ⟨(Nat.le_of_ble_eq_true rfl), (Nat.le_of_ble_eq_true rfl)⟩) ⟨zx_blind, zx_give hPc hK hDc hS hFc hZ hN⟩ rfl rfl hl.1 rfl (lv_room (Nat.le_of_ble_eq_true rfl)) dL_law_1276 ⟨(Nat.le_of_ble_eq_true rfl), (Nat.le_of_ble_eq_true rfl)⟩) hS (fun q _ h => hFc q h) hFc (fun q _ h => hFc q h) (fun E9 ce9 q9 _ t H locs ht hvm _ hBX hz1 hk1 hS hce hcv hcl => ?_) (fun r9 u t H locs ht hvm hw hB hz1 hk1 hS => ?_)
  · exact hBX.elim
  ·
    obtain rfl : r9 = 1 := hw
    obtain ⟨hP, hD⟩ := zx_join (wr := [(pe, .inr (9, [.int 0, .ref a1, .ref a2, .ref a3, .ref a4, .ref a5, .ref a6, .ref a7, .ref a8, .ref a9])), (a1, .inl (cy 0, 20, .inl (fun _ => 0))), (a2, .inl (cy 0, 20, .inl (fun _ => 0))), (ne, .inr (6, [.ref n1, .ref n2, .ref n3, .ref n4, .ref n5])), (n1, .inl (cy 0, 8, .inl (fun _ => 0))), (n2, .inl (cy 0, 8, .inl f2)), (n3, .inl (cy 0, 8, .inl f3)), (n4, .inl (cy 0, 8, .inl f4)), (n5, .inl (cy 1, 8, .inl f5)), (ro, .inl (cy 0, 20, .inl (fun _ => 0))), (m0, .inr (20, [.int 0, .ref mp, .int 0, .ref b1, .ref b2, .ref b3, .ref b4, .ref b5, .ref mq])), (b1, .inl (cy 0, 8, .inl (fun _ => 0))), (b2, .inl (cy 0, 8, .inl g2)), (b3, .inl (cy 0, 8, .inl g3)), (b4, .inl (cy 0, 8, .inl g4)), (b5, .inl (cy 1, 8, .inl g5)), (mp, .inr (4, [.int 0, .ref ed, .int 0])), (mq, .inr (4, [.int 0, .ref ed, .int 0])), (od, .inl (cy 4, 1, .inr (.inr (.inr (.inl (fun _ => 0))))))]) (w1 := []) [0, 10, 20] [1, 2, 3, 4, 5, 6, 7, 8, 9, 11, 12, 13, 14, 15, 16, 17, 18, 19, 21] rfl rfl (by decide) (by decide) hP hD hk1 hFc hB ht
    have hP : va_P D vwCl [(pe, .inr (9, [.int 0, .ref a1, .ref a2, .ref a3, .ref a4, .ref a5, .ref a6, .ref a7, .ref a8, .ref a9])), (a1, .inl (cy 0, 20, .inl (fun _ => 0))), (a2, .inl (cy 0, 20, .inl (fun _ => 0))), (ne, .inr (6, [.ref n1, .ref n2, .ref n3, .ref n4, .ref n5])), (n1, .inl (cy 0, 8, .inl (fun _ => 0))), (n2, .inl (cy 0, 8, .inl f2)), (n3, .inl (cy 0, 8, .inl f3)), (n4, .inl (cy 0, 8, .inl f4)), (n5, .inl (cy 1, 8, .inl f5)), (ro, .inl (cy 0, 20, .inl (fun _ => 0))), (m0, .inr (20, [.int 0, .ref mp, .int 0, .ref b1, .ref b2, .ref b3, .ref b4, .ref b5, .ref mq])), (b1, .inl (cy 0, 8, .inl (fun _ => 0))), (b2, .inl (cy 0, 8, .inl g2)), (b3, .inl (cy 0, 8, .inl g3)), (b4, .inl (cy 0, 8, .inl g4)), (b5, .inl (cy 1, 8, .inl g5)), (mp, .inr (4, [.int 0, .ref ed, .int 0])), (mq, .inr (4, [.int 0, .ref ed, .int 0])), (od, .inl (cy 4, 1, .inr (.inr (.inr (.inl (fun _ => 0))))))] H := hP
    have hD : va_D A [(pe, .inr (9, [.int 0, .ref a1, .ref a2, .ref a3, .ref a4, .ref a5, .ref a6, .ref a7, .ref a8, .ref a9])), (a1, .inl (cy 0, 20, .inl (fun _ => 0))), (a2, .inl (cy 0, 20, .inl (fun _ => 0))), (ne, .inr (6, [.ref n1, .ref n2, .ref n3, .ref n4, .ref n5])), (n1, .inl (cy 0, 8, .inl (fun _ => 0))), (n2, .inl (cy 0, 8, .inl f2)), (n3, .inl (cy 0, 8, .inl f3)), (n4, .inl (cy 0, 8, .inl f4)), (n5, .inl (cy 1, 8, .inl f5)), (ro, .inl (cy 0, 20, .inl (fun _ => 0))), (m0, .inr (20, [.int 0, .ref mp, .int 0, .ref b1, .ref b2, .ref b3, .ref b4, .ref b5, .ref mq])), (b1, .inl (cy 0, 8, .inl (fun _ => 0))), (b2, .inl (cy 0, 8, .inl g2)), (b3, .inl (cy 0, 8, .inl g3)), (b4, .inl (cy 0, 8, .inl g4)), (b5, .inl (cy 1, 8, .inl g5)), (mp, .inr (4, [.int 0, .ref ed, .int 0])), (mq, .inr (4, [.int 0, .ref ed, .int 0])), (od, .inl (cy 4, 1, .inr (.inr (.inr (.inl (fun _ => 0))))))] := hD
    refine W.widen (k := 30) (n := 886) (Nat.le_of_ble_eq_true rfl) (Nat.le_of_ble_eq_true rfl) ?_
    refine lv_istore (lv' := [(6, .int 1), (5, .int 0), (4, .ref od), (3, .ref oa), (2, .ref m0), (1, .ref h), (0, .ref b)]) hx hb dL_law_1279 hl (by decide) rfl (fun ls hl => ?_)
    refine lv_aload_n hx hb dL_law_1281 rfl (lv_at hl 4 rfl) ?_
    refine lv_aload_n hx hb dL_law_1282 rfl (lv_at hl 6 rfl) ?_
    refine lv_iload hx hb dL_law_1283 (lv_at hl 1 rfl) ?_
    refine lv_iconst (v := 1) hx hb dL_law_1285 (by decide) ?_
    refine lv_iadd hx hb dL_law_1286 ?_
    refine lv_topi (fun y9 ey9 => ?_)
    obtain rfl : y9 = 1 := by rw [ey9] <;> decide
    refine va_sld hx hb hX hbl hbA hS (zx_bn (by decide)) dL_law_1287 ?_
    have hPc := hP.sub (ws' := [(m0, .inr (20, [.int 0, .ref mp, .int 0, .ref b1, .ref b2, .ref b3, .ref b4, .ref b5, .ref mq])), (mp, .inr (4, [.int 0, .ref ed, .int 0])), (mq, .inr (4, [.int 0, .ref ed, .int 0]))]) [10, 16, 17] rfl
    have hDc := hD.sub (ws' := [(m0, .inr (20, [.int 0, .ref mp, .int 0, .ref b1, .ref b2, .ref b3, .ref b4, .ref b5, .ref mq])), (mp, .inr (4, [.int 0, .ref ed, .int 0])), (mq, .inr (4, [.int 0, .ref ed, .int 0]))]) [10, 16, 17] (by decide) rfl
    have hFc := va_free (wc := [(m0, .inr (20, [.int 0, .ref mp, .int 0, .ref b1, .ref b2, .ref b3, .ref b4, .ref b5, .ref mq])), (mp, .inr (4, [.int 0, .ref ed, .int 0])), (mq, .inr (4, [.int 0, .ref ed, .int 0]))]) hD hS hA [10, 16, 17] rfl
    refine va_calli (va_runV (As := [.int (xs (1 : Int32).toNatClampNeg)]) (rest := []) ⟨hx, hb, hml, hown, hts⟩ (c_X15_editorOf l hst D cy ed H.size m0 mp mq b1 b2 b3 b4 b5 0 0 0 ed 0 ed (xs (1 : Int32).toNatClampNeg)) (cwV 1 hts (zx_GV mm_2105 mm_2106 mm_2107 mm_78 mm_2108) rfl rfl rfl (by decide +kernel) ⟨(Nat.le_of_ble_eq_true rfl), (Nat.le_of_ble_eq_true rfl)⟩) ⟨zx_blind, va_recv hK hPc (ci := 20) (q0 := 0) rfl rfl, zx_give hPc hK hDc hS hFc hZ hN⟩ rfl rfl hl.1 rfl (lv_room (Nat.le_of_ble_eq_true rfl)) dL_law_1288 ⟨(Nat.le_of_ble_eq_true rfl), (Nat.le_of_ble_eq_true rfl)⟩) hS (fun q _ h => hFc q h) hFc (fun r9 u t H1 locs ht hvm hw hB hz1 hk1 hS => ?_)
    obtain ⟨r_622, rfl⟩ : ∃ z9, z9 = r9 := ⟨_, rfl⟩
    have h_623 := hw
    obtain ⟨hP, hD⟩ := zx_join (wr := [(pe, .inr (9, [.int 0, .ref a1, .ref a2, .ref a3, .ref a4, .ref a5, .ref a6, .ref a7, .ref a8, .ref a9])), (a1, .inl (cy 0, 20, .inl (fun _ => 0))), (a2, .inl (cy 0, 20, .inl (fun _ => 0))), (ne, .inr (6, [.ref n1, .ref n2, .ref n3, .ref n4, .ref n5])), (n1, .inl (cy 0, 8, .inl (fun _ => 0))), (n2, .inl (cy 0, 8, .inl f2)), (n3, .inl (cy 0, 8, .inl f3)), (n4, .inl (cy 0, 8, .inl f4)), (n5, .inl (cy 1, 8, .inl f5)), (ro, .inl (cy 0, 20, .inl (fun _ => 0))), (b1, .inl (cy 0, 8, .inl (fun _ => 0))), (b2, .inl (cy 0, 8, .inl g2)), (b3, .inl (cy 0, 8, .inl g3)), (b4, .inl (cy 0, 8, .inl g4)), (b5, .inl (cy 1, 8, .inl g5)), (od, .inl (cy 4, 1, .inr (.inr (.inr (.inl (fun _ => 0))))))]) (w1 := [(m0, .inr (20, [.int 1, .ref mp, .int 0, .ref b1, .ref b2, .ref b3, .ref b4, .ref b5, .ref mq]))]) [10, 16, 17] [0, 1, 2, 3, 4, 5, 6, 7, 8, 9, 11, 12, 13, 14, 15, 18] rfl rfl (by decide) (by decide) hP hD hk1 hFc hB ht
    generalize H1 = H at hP hS ⊢
    have hP : va_P D vwCl [(pe, .inr (9, [.int 0, .ref a1, .ref a2, .ref a3, .ref a4, .ref a5, .ref a6, .ref a7, .ref a8, .ref a9])), (a1, .inl (cy 0, 20, .inl (fun _ => 0))), (a2, .inl (cy 0, 20, .inl (fun _ => 0))), (ne, .inr (6, [.ref n1, .ref n2, .ref n3, .ref n4, .ref n5])), (n1, .inl (cy 0, 8, .inl (fun _ => 0))), (n2, .inl (cy 0, 8, .inl f2)), (n3, .inl (cy 0, 8, .inl f3)), (n4, .inl (cy 0, 8, .inl f4)), (n5, .inl (cy 1, 8, .inl f5)), (ro, .inl (cy 0, 20, .inl (fun _ => 0))), (b1, .inl (cy 0, 8, .inl (fun _ => 0))), (b2, .inl (cy 0, 8, .inl g2)), (b3, .inl (cy 0, 8, .inl g3)), (b4, .inl (cy 0, 8, .inl g4)), (b5, .inl (cy 1, 8, .inl g5)), (od, .inl (cy 4, 1, .inr (.inr (.inr (.inl (fun _ => 0)))))), (m0, .inr (20, [.int 1, .ref mp, .int 0, .ref b1, .ref b2, .ref b3, .ref b4, .ref b5, .ref mq]))] H := hP
    have hD : va_D A [(pe, .inr (9, [.int 0, .ref a1, .ref a2, .ref a3, .ref a4, .ref a5, .ref a6, .ref a7, .ref a8, .ref a9])), (a1, .inl (cy 0, 20, .inl (fun _ => 0))), (a2, .inl (cy 0, 20, .inl (fun _ => 0))), (ne, .inr (6, [.ref n1, .ref n2, .ref n3, .ref n4, .ref n5])), (n1, .inl (cy 0, 8, .inl (fun _ => 0))), (n2, .inl (cy 0, 8, .inl f2)), (n3, .inl (cy 0, 8, .inl f3)), (n4, .inl (cy 0, 8, .inl f4)), (n5, .inl (cy 1, 8, .inl f5)), (ro, .inl (cy 0, 20, .inl (fun _ => 0))), (b1, .inl (cy 0, 8, .inl (fun _ => 0))), (b2, .inl (cy 0, 8, .inl g2)), (b3, .inl (cy 0, 8, .inl g3)), (b4, .inl (cy 0, 8, .inl g4)), (b5, .inl (cy 1, 8, .inl g5)), (od, .inl (cy 4, 1, .inr (.inr (.inr (.inl (fun _ => 0)))))), (m0, .inr (20, [.int 1, .ref mp, .int 0, .ref b1, .ref b2, .ref b3, .ref b4, .ref b5, .ref mq]))] := hD
    refine W.widen (k := 30) (n := 886) (Nat.le_of_ble_eq_true rfl) (Nat.le_of_ble_eq_true rfl) ?_
    refine lv_istore (lv' := [(7, .int r_622), (6, .int 1), (5, .int 0), (4, .ref od), (3, .ref oa), (2, .ref m0), (1, .ref h), (0, .ref b)]) hx hb dL_law_1291 hl (by decide) rfl (fun ls hl => ?_)
    refine lv_aload_n hx hb dL_law_1293 rfl (lv_at hl 5 rfl) ?_
    have hPc := hP.sub (ws' := [(m0, .inr (20, [.int 1, .ref mp, .int 0, .ref b1, .ref b2, .ref b3, .ref b4, .ref b5, .ref mq]))]) [16] rfl
    have hDc := hD.sub (ws' := [(m0, .inr (20, [.int 1, .ref mp, .int 0, .ref b1, .ref b2, .ref b3, .ref b4, .ref b5, .ref mq]))]) [16] (by decide) rfl
    have hFc := va_free (wc := [(m0, .inr (20, [.int 1, .ref mp, .int 0, .ref b1, .ref b2, .ref b3, .ref b4, .ref b5, .ref mq]))]) hD hS hA [16] rfl
    refine va_calli (va_runV (As := []) (rest := []) ⟨hx, hb, hml, hown, hts⟩ (c_X15_thrown l hst D cy ed H.size m0 mp mq b1 b2 b3 b4 b5 1 0) (cwV 0 hts (zx_GV mm_1599 mm_1600 mm_1601 mm_78 mm_1602) rfl rfl rfl (by decide +kernel) ⟨(Nat.le_of_ble_eq_true rfl), (Nat.le_of_ble_eq_true rfl)⟩) ⟨zx_blind, va_recv hK hPc (ci := 20) (q0 := 0) rfl rfl, zx_give hPc hK hDc hS hFc hZ hN⟩ rfl rfl hl.1 rfl (lv_room (Nat.le_of_ble_eq_true rfl)) dL_law_1294 ⟨(Nat.le_of_ble_eq_true rfl), (Nat.le_of_ble_eq_true rfl)⟩) hS (fun q _ h => hFc q h) hFc (fun r9 u t H1 locs ht hvm hw hB hz1 hk1 hS => ?_)
    obtain rfl : r9 = 1 := hw
    obtain ⟨hP, hD⟩ := zx_join (wr := [(pe, .inr (9, [.int 0, .ref a1, .ref a2, .ref a3, .ref a4, .ref a5, .ref a6, .ref a7, .ref a8, .ref a9])), (a1, .inl (cy 0, 20, .inl (fun _ => 0))), (a2, .inl (cy 0, 20, .inl (fun _ => 0))), (ne, .inr (6, [.ref n1, .ref n2, .ref n3, .ref n4, .ref n5])), (n1, .inl (cy 0, 8, .inl (fun _ => 0))), (n2, .inl (cy 0, 8, .inl f2)), (n3, .inl (cy 0, 8, .inl f3)), (n4, .inl (cy 0, 8, .inl f4)), (n5, .inl (cy 1, 8, .inl f5)), (ro, .inl (cy 0, 20, .inl (fun _ => 0))), (b1, .inl (cy 0, 8, .inl (fun _ => 0))), (b2, .inl (cy 0, 8, .inl g2)), (b3, .inl (cy 0, 8, .inl g3)), (b4, .inl (cy 0, 8, .inl g4)), (b5, .inl (cy 1, 8, .inl g5)), (od, .inl (cy 4, 1, .inr (.inr (.inr (.inl (fun _ => 0))))))]) (w1 := [(m0, .inr (20, [.int 1, .ref mp, .int 0, .ref b1, .ref b2, .ref b3, .ref b4, .ref b5, .ref mq]))]) [16] [0, 1, 2, 3, 4, 5, 6, 7, 8, 9, 10, 11, 12, 13, 14, 15] rfl rfl (by decide) (by decide) hP hD hk1 hFc hB ht
    generalize H1 = H at hP hS ⊢
    have hP : va_P D vwCl [(pe, .inr (9, [.int 0, .ref a1, .ref a2, .ref a3, .ref a4, .ref a5, .ref a6, .ref a7, .ref a8, .ref a9])), (a1, .inl (cy 0, 20, .inl (fun _ => 0))), (a2, .inl (cy 0, 20, .inl (fun _ => 0))), (ne, .inr (6, [.ref n1, .ref n2, .ref n3, .ref n4, .ref n5])), (n1, .inl (cy 0, 8, .inl (fun _ => 0))), (n2, .inl (cy 0, 8, .inl f2)), (n3, .inl (cy 0, 8, .inl f3)), (n4, .inl (cy 0, 8, .inl f4)), (n5, .inl (cy 1, 8, .inl f5)), (ro, .inl (cy 0, 20, .inl (fun _ => 0))), (b1, .inl (cy 0, 8, .inl (fun _ => 0))), (b2, .inl (cy 0, 8, .inl g2)), (b3, .inl (cy 0, 8, .inl g3)), (b4, .inl (cy 0, 8, .inl g4)), (b5, .inl (cy 1, 8, .inl g5)), (od, .inl (cy 4, 1, .inr (.inr (.inr (.inl (fun _ => 0)))))), (m0, .inr (20, [.int 1, .ref mp, .int 0, .ref b1, .ref b2, .ref b3, .ref b4, .ref b5, .ref mq]))] H := hP
    have hD : va_D A [(pe, .inr (9, [.int 0, .ref a1, .ref a2, .ref a3, .ref a4, .ref a5, .ref a6, .ref a7, .ref a8, .ref a9])), (a1, .inl (cy 0, 20, .inl (fun _ => 0))), (a2, .inl (cy 0, 20, .inl (fun _ => 0))), (ne, .inr (6, [.ref n1, .ref n2, .ref n3, .ref n4, .ref n5])), (n1, .inl (cy 0, 8, .inl (fun _ => 0))), (n2, .inl (cy 0, 8, .inl f2)), (n3, .inl (cy 0, 8, .inl f3)), (n4, .inl (cy 0, 8, .inl f4)), (n5, .inl (cy 1, 8, .inl f5)), (ro, .inl (cy 0, 20, .inl (fun _ => 0))), (b1, .inl (cy 0, 8, .inl (fun _ => 0))), (b2, .inl (cy 0, 8, .inl g2)), (b3, .inl (cy 0, 8, .inl g3)), (b4, .inl (cy 0, 8, .inl g4)), (b5, .inl (cy 1, 8, .inl g5)), (od, .inl (cy 4, 1, .inr (.inr (.inr (.inl (fun _ => 0)))))), (m0, .inr (20, [.int 1, .ref mp, .int 0, .ref b1, .ref b2, .ref b3, .ref b4, .ref b5, .ref mq]))] := hD
    refine W.widen (k := 30) (n := 886) (Nat.le_of_ble_eq_true rfl) (Nat.le_of_ble_eq_true rfl) ?_
    refine lv_iload hx hb dL_law_1297 (lv_at hl 1 rfl) ?_
    refine lv_icmp_eq (tgt := 1304) hx hb dL_law_1299 (by decide) (fun _ => ?_) (fun c_624 => absurd (by decide) c_624)
    refine lv_iload hx hb dL_law_1304 (lv_at hl 1 rfl) ?_
    refine lv_if_ne (tgt := 1321) hx hb dL_law_1306 (by decide) (fun _ => ?_) (fun c_625 => absurd c_625 (by decide))
    refine lv_goto (tgt := 4257) hx hb dL_law_1321 (by decide) ?_
    refine W.widen (k := 60) (n := 1200) (Nat.le_of_ble_eq_true rfl) (Nat.le_of_ble_eq_true rfl) ?_
    exact hend _ _ _ hS (lv_sub hl [7, 2] rfl)
