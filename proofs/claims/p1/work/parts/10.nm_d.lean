theorem dL_law_379 : decode cL_law 379 = .ok (.iaload, 1) := by decide +kernel
theorem dL_law_380 : decode cL_law 380 = .ok (.invokevirtual 160, 3) := by decide +kernel
theorem dL_law_383 : decode cL_law 383 = .ok (.aload_n 2, 1) := by decide +kernel
theorem dL_law_384 : decode cL_law 384 = .ok (.aload_n 0, 1) := by decide +kernel
theorem dL_law_385 : decode cL_law 385 = .ok (.iload 4, 2) := by decide +kernel
theorem dL_law_387 : decode cL_law 387 = .ok (.iconst 1, 1) := by decide +kernel
theorem dL_law_388 : decode cL_law 388 = .ok (.iadd, 1) := by decide +kernel
theorem dL_law_389 : decode cL_law 389 = .ok (.iaload, 1) := by decide +kernel
theorem dL_law_390 : decode cL_law 390 = .ok (.invokevirtual 163, 3) := by decide +kernel
theorem dL_law_393 : decode cL_law 393 = .ok (.if_icmp .eq 2768, 3) := by decide +kernel
theorem dL_law_396 : decode cL_law 396 = .ok (.iconst 0, 1) := by decide +kernel
theorem dL_law_397 : decode cL_law 397 = .ok (.ireturn, 1) := by decide +kernel
theorem dL_law_398 : decode cL_law 398 = .ok (.aload_n 1, 1) := by decide +kernel
theorem dL_law_399 : decode cL_law 399 = .ok (.aload_n 0, 1) := by decide +kernel
theorem dL_law_400 : decode cL_law 400 = .ok (.iload 4, 2) := by decide +kernel
theorem dL_law_402 : decode cL_law 402 = .ok (.iconst 1, 1) := by decide +kernel
theorem dL_law_403 : decode cL_law 403 = .ok (.iadd, 1) := by decide +kernel
theorem dL_law_404 : decode cL_law 404 = .ok (.iaload, 1) := by decide +kernel
theorem dL_law_405 : decode cL_law 405 = .ok (.aload_n 0, 1) := by decide +kernel
theorem dL_law_406 : decode cL_law 406 = .ok (.iload 4, 2) := by decide +kernel
theorem dL_law_408 : decode cL_law 408 = .ok (.iconst 2, 1) := by decide +kernel
theorem dL_law_409 : decode cL_law 409 = .ok (.iadd, 1) := by decide +kernel
theorem dL_law_410 : decode cL_law 410 = .ok (.iaload, 1) := by decide +kernel
theorem dL_law_411 : decode cL_law 411 = .ok (.aload_n 3, 1) := by decide +kernel
theorem dL_law_412 : decode cL_law 412 = .ok (.invokestatic 164, 3) := by decide +kernel
theorem dL_law_415 : decode cL_law 415 = .ok (.istore 5, 2) := by decide +kernel
theorem dL_law_417 : decode cL_law 417 = .ok (.aload_n 2, 1) := by decide +kernel
theorem dL_law_418 : decode cL_law 418 = .ok (.aload_n 0, 1) := by decide +kernel
theorem dL_law_419 : decode cL_law 419 = .ok (.iload 4, 2) := by decide +kernel
theorem dL_law_421 : decode cL_law 421 = .ok (.iconst 1, 1) := by decide +kernel
theorem dL_law_422 : decode cL_law 422 = .ok (.iadd, 1) := by decide +kernel
theorem dL_law_423 : decode cL_law 423 = .ok (.iaload, 1) := by decide +kernel
theorem dL_law_424 : decode cL_law 424 = .ok (.aload_n 0, 1) := by decide +kernel
theorem dL_law_425 : decode cL_law 425 = .ok (.iload 4, 2) := by decide +kernel
theorem dL_law_427 : decode cL_law 427 = .ok (.iconst 2, 1) := by decide +kernel
theorem dL_law_428 : decode cL_law 428 = .ok (.iadd, 1) := by decide +kernel
theorem dL_law_429 : decode cL_law 429 = .ok (.iaload, 1) := by decide +kernel
theorem dL_law_430 : decode cL_law 430 = .ok (.invokevirtual 167, 3) := by decide +kernel
theorem dL_law_433 : decode cL_law 433 = .ok (.istore 6, 2) := by decide +kernel
theorem dL_law_435 : decode cL_law 435 = .ok (.aload_n 2, 1) := by decide +kernel
theorem dL_law_436 : decode cL_law 436 = .ok (.invokevirtual 156, 3) := by decide +kernel
theorem dL_law_439 : decode cL_law 439 = .ok (.iload 5, 2) := by decide +kernel
theorem dL_law_441 : decode cL_law 441 = .ok (.if_icmp .eq 5, 3) := by decide +kernel
theorem dL_law_444 : decode cL_law 444 = .ok (.iconst 0, 1) := by decide +kernel
theorem dL_law_445 : decode cL_law 445 = .ok (.ireturn, 1) := by decide +kernel
theorem dL_law_446 : decode cL_law 446 = .ok (.iload 5, 2) := by decide +kernel
theorem dL_law_448 : decode cL_law 448 = .ok (.ifCond .ne 15, 3) := by decide +kernel
theorem dL_law_451 : decode cL_law 451 = .ok (.aload_n 3, 1) := by decide +kernel
theorem dL_law_452 : decode cL_law 452 = .ok (.iconst 0, 1) := by decide +kernel
theorem dL_law_453 : decode cL_law 453 = .ok (.laload, 1) := by decide +kernel
theorem dL_law_454 : decode cL_law 454 = .ok (.iload 6, 2) := by decide +kernel
theorem dL_law_456 : decode cL_law 456 = .ok (.i2l, 1) := by decide +kernel
theorem dL_law_457 : decode cL_law 457 = .ok (.lcmp, 1) := by decide +kernel
theorem dL_law_458 : decode cL_law 458 = .ok (.ifCond .eq 5, 3) := by decide +kernel
theorem dL_law_461 : decode cL_law 461 = .ok (.iconst 0, 1) := by decide +kernel
theorem dL_law_462 : decode cL_law 462 = .ok (.ireturn, 1) := by decide +kernel
theorem dL_law_463 : decode cL_law 463 = .ok (.goto 2698, 3) := by decide +kernel
theorem dL_law_466 : decode cL_law 466 = .ok (.aload_n 1, 1) := by decide +kernel
theorem dL_law_467 : decode cL_law 467 = .ok (.aload_n 0, 1) := by decide +kernel
theorem dL_law_468 : decode cL_law 468 = .ok (.iload 4, 2) := by decide +kernel
theorem dL_law_470 : decode cL_law 470 = .ok (.iconst 1, 1) := by decide +kernel
theorem dL_law_471 : decode cL_law 471 = .ok (.iadd, 1) := by decide +kernel
theorem dL_law_472 : decode cL_law 472 = .ok (.iaload, 1) := by decide +kernel
theorem dL_law_473 : decode cL_law 473 = .ok (.aload_n 0, 1) := by decide +kernel
theorem dL_law_474 : decode cL_law 474 = .ok (.iload 4, 2) := by decide +kernel
theorem dL_law_476 : decode cL_law 476 = .ok (.iconst 2, 1) := by decide +kernel
theorem dL_law_477 : decode cL_law 477 = .ok (.iadd, 1) := by decide +kernel
theorem dL_law_478 : decode cL_law 478 = .ok (.iaload, 1) := by decide +kernel
theorem dL_law_479 : decode cL_law 479 = .ok (.aload_n 3, 1) := by decide +kernel
theorem dL_law_480 : decode cL_law 480 = .ok (.invokestatic 168, 3) := by decide +kernel
theorem dL_law_483 : decode cL_law 483 = .ok (.istore 5, 2) := by decide +kernel
theorem dL_law_485 : decode cL_law 485 = .ok (.aload_n 2, 1) := by decide +kernel
theorem dL_law_486 : decode cL_law 486 = .ok (.aload_n 0, 1) := by decide +kernel
theorem dL_law_487 : decode cL_law 487 = .ok (.iload 4, 2) := by decide +kernel
theorem dL_law_489 : decode cL_law 489 = .ok (.iconst 1, 1) := by decide +kernel
theorem dL_law_490 : decode cL_law 490 = .ok (.iadd, 1) := by decide +kernel
theorem dL_law_491 : decode cL_law 491 = .ok (.iaload, 1) := by decide +kernel
theorem dL_law_492 : decode cL_law 492 = .ok (.aload_n 0, 1) := by decide +kernel
theorem dL_law_493 : decode cL_law 493 = .ok (.iload 4, 2) := by decide +kernel
theorem dL_law_495 : decode cL_law 495 = .ok (.iconst 2, 1) := by decide +kernel
theorem dL_law_496 : decode cL_law 496 = .ok (.iadd, 1) := by decide +kernel
theorem dL_law_497 : decode cL_law 497 = .ok (.iaload, 1) := by decide +kernel
theorem dL_law_498 : decode cL_law 498 = .ok (.invokevirtual 170, 3) := by decide +kernel
theorem dL_law_501 : decode cL_law 501 = .ok (.istore 6, 2) := by decide +kernel
theorem dL_law_503 : decode cL_law 503 = .ok (.aload_n 2, 1) := by decide +kernel
theorem dL_law_504 : decode cL_law 504 = .ok (.invokevirtual 156, 3) := by decide +kernel
theorem dL_law_507 : decode cL_law 507 = .ok (.iload 5, 2) := by decide +kernel
theorem dL_law_509 : decode cL_law 509 = .ok (.if_icmp .eq 5, 3) := by decide +kernel
theorem dL_law_512 : decode cL_law 512 = .ok (.iconst 0, 1) := by decide +kernel
theorem dL_law_513 : decode cL_law 513 = .ok (.ireturn, 1) := by decide +kernel
theorem dL_law_514 : decode cL_law 514 = .ok (.iload 5, 2) := by decide +kernel
theorem dL_law_516 : decode cL_law 516 = .ok (.ifCond .ne 15, 3) := by decide +kernel
theorem dL_law_519 : decode cL_law 519 = .ok (.aload_n 3, 1) := by decide +kernel
theorem dL_law_520 : decode cL_law 520 = .ok (.iconst 0, 1) := by decide +kernel
theorem dL_law_521 : decode cL_law 521 = .ok (.laload, 1) := by decide +kernel
theorem dL_law_522 : decode cL_law 522 = .ok (.iload 6, 2) := by decide +kernel
theorem dL_law_524 : decode cL_law 524 = .ok (.i2l, 1) := by decide +kernel
theorem dL_law_525 : decode cL_law 525 = .ok (.lcmp, 1) := by decide +kernel
theorem dL_law_526 : decode cL_law 526 = .ok (.ifCond .eq 5, 3) := by decide +kernel
theorem dL_law_529 : decode cL_law 529 = .ok (.iconst 0, 1) := by decide +kernel
theorem dL_law_530 : decode cL_law 530 = .ok (.ireturn, 1) := by decide +kernel
theorem dL_law_531 : decode cL_law 531 = .ok (.goto 2630, 3) := by decide +kernel
theorem dL_law_534 : decode cL_law 534 = .ok (.aload_n 1, 1) := by decide +kernel
theorem dL_law_535 : decode cL_law 535 = .ok (.aload_n 0, 1) := by decide +kernel
theorem dL_law_536 : decode cL_law 536 = .ok (.iload 4, 2) := by decide +kernel
theorem dL_law_538 : decode cL_law 538 = .ok (.iconst 1, 1) := by decide +kernel
theorem dL_law_539 : decode cL_law 539 = .ok (.iadd, 1) := by decide +kernel
theorem dL_law_540 : decode cL_law 540 = .ok (.iaload, 1) := by decide +kernel
theorem dL_law_541 : decode cL_law 541 = .ok (.aload_n 3, 1) := by decide +kernel
theorem dL_law_542 : decode cL_law 542 = .ok (.invokestatic 171, 3) := by decide +kernel
theorem dL_law_545 : decode cL_law 545 = .ok (.istore 5, 2) := by decide +kernel
theorem dL_law_547 : decode cL_law 547 = .ok (.aload_n 2, 1) := by decide +kernel
theorem dL_law_548 : decode cL_law 548 = .ok (.aload_n 0, 1) := by decide +kernel
theorem dL_law_549 : decode cL_law 549 = .ok (.iload 4, 2) := by decide +kernel
theorem dL_law_551 : decode cL_law 551 = .ok (.iconst 1, 1) := by decide +kernel
theorem dL_law_552 : decode cL_law 552 = .ok (.iadd, 1) := by decide +kernel
theorem dL_law_553 : decode cL_law 553 = .ok (.iaload, 1) := by decide +kernel
theorem dL_law_554 : decode cL_law 554 = .ok (.invokevirtual 173, 3) := by decide +kernel
theorem dL_law_557 : decode cL_law 557 = .ok (.istore 6, 2) := by decide +kernel
theorem dL_law_559 : decode cL_law 559 = .ok (.aload_n 2, 1) := by decide +kernel
theorem dL_law_560 : decode cL_law 560 = .ok (.invokevirtual 156, 3) := by decide +kernel
theorem dL_law_563 : decode cL_law 563 = .ok (.iload 5, 2) := by decide +kernel
theorem dL_law_565 : decode cL_law 565 = .ok (.if_icmp .eq 5, 3) := by decide +kernel
theorem dL_law_568 : decode cL_law 568 = .ok (.iconst 0, 1) := by decide +kernel
theorem dL_law_569 : decode cL_law 569 = .ok (.ireturn, 1) := by decide +kernel
theorem dL_law_570 : decode cL_law 570 = .ok (.iload 5, 2) := by decide +kernel
theorem dL_law_572 : decode cL_law 572 = .ok (.ifCond .ne 15, 3) := by decide +kernel
theorem dL_law_575 : decode cL_law 575 = .ok (.aload_n 3, 1) := by decide +kernel
theorem dL_law_576 : decode cL_law 576 = .ok (.iconst 0, 1) := by decide +kernel
theorem dL_law_577 : decode cL_law 577 = .ok (.laload, 1) := by decide +kernel
theorem dL_law_578 : decode cL_law 578 = .ok (.iload 6, 2) := by decide +kernel
theorem dL_law_580 : decode cL_law 580 = .ok (.i2l, 1) := by decide +kernel
theorem dL_law_581 : decode cL_law 581 = .ok (.lcmp, 1) := by decide +kernel
theorem dL_law_582 : decode cL_law 582 = .ok (.ifCond .eq 5, 3) := by decide +kernel
theorem dL_law_585 : decode cL_law 585 = .ok (.iconst 0, 1) := by decide +kernel
theorem dL_law_586 : decode cL_law 586 = .ok (.ireturn, 1) := by decide +kernel
theorem dL_law_587 : decode cL_law 587 = .ok (.goto 2574, 3) := by decide +kernel
theorem dL_law_590 : decode cL_law 590 = .ok (.aload_n 1, 1) := by decide +kernel
theorem dL_law_591 : decode cL_law 591 = .ok (.aload_n 0, 1) := by decide +kernel
theorem dL_law_592 : decode cL_law 592 = .ok (.iload 4, 2) := by decide +kernel
theorem dL_law_594 : decode cL_law 594 = .ok (.iconst 1, 1) := by decide +kernel
theorem dL_law_595 : decode cL_law 595 = .ok (.iadd, 1) := by decide +kernel
theorem dL_law_596 : decode cL_law 596 = .ok (.iaload, 1) := by decide +kernel
theorem dL_law_597 : decode cL_law 597 = .ok (.aload_n 0, 1) := by decide +kernel
theorem dL_law_598 : decode cL_law 598 = .ok (.iload 4, 2) := by decide +kernel
theorem dL_law_600 : decode cL_law 600 = .ok (.iconst 2, 1) := by decide +kernel
theorem dL_law_601 : decode cL_law 601 = .ok (.iadd, 1) := by decide +kernel
theorem dL_law_602 : decode cL_law 602 = .ok (.iaload, 1) := by decide +kernel
theorem dL_law_603 : decode cL_law 603 = .ok (.aload_n 3, 1) := by decide +kernel
theorem dL_law_604 : decode cL_law 604 = .ok (.invokestatic 174, 3) := by decide +kernel
theorem dL_law_607 : decode cL_law 607 = .ok (.istore 5, 2) := by decide +kernel
theorem dL_law_609 : decode cL_law 609 = .ok (.aload_n 2, 1) := by decide +kernel
theorem dL_law_610 : decode cL_law 610 = .ok (.aload_n 0, 1) := by decide +kernel
theorem dL_law_611 : decode cL_law 611 = .ok (.iload 4, 2) := by decide +kernel
theorem dL_law_613 : decode cL_law 613 = .ok (.iconst 1, 1) := by decide +kernel
theorem dL_law_614 : decode cL_law 614 = .ok (.iadd, 1) := by decide +kernel
theorem dL_law_615 : decode cL_law 615 = .ok (.iaload, 1) := by decide +kernel
theorem dL_law_616 : decode cL_law 616 = .ok (.aload_n 0, 1) := by decide +kernel
theorem dL_law_617 : decode cL_law 617 = .ok (.iload 4, 2) := by decide +kernel
theorem dL_law_619 : decode cL_law 619 = .ok (.iconst 2, 1) := by decide +kernel
theorem dL_law_620 : decode cL_law 620 = .ok (.iadd, 1) := by decide +kernel
theorem dL_law_621 : decode cL_law 621 = .ok (.iaload, 1) := by decide +kernel
theorem dL_law_622 : decode cL_law 622 = .ok (.invokevirtual 176, 3) := by decide +kernel
theorem dL_law_625 : decode cL_law 625 = .ok (.istore 6, 2) := by decide +kernel
theorem dL_law_627 : decode cL_law 627 = .ok (.aload_n 2, 1) := by decide +kernel
theorem dL_law_628 : decode cL_law 628 = .ok (.invokevirtual 156, 3) := by decide +kernel
theorem dL_law_631 : decode cL_law 631 = .ok (.iload 5, 2) := by decide +kernel
theorem dL_law_633 : decode cL_law 633 = .ok (.if_icmp .eq 5, 3) := by decide +kernel
theorem dL_law_636 : decode cL_law 636 = .ok (.iconst 0, 1) := by decide +kernel
theorem dL_law_637 : decode cL_law 637 = .ok (.ireturn, 1) := by decide +kernel
theorem dL_law_638 : decode cL_law 638 = .ok (.iload 5, 2) := by decide +kernel
theorem dL_law_640 : decode cL_law 640 = .ok (.ifCond .ne 15, 3) := by decide +kernel
theorem dL_law_643 : decode cL_law 643 = .ok (.aload_n 3, 1) := by decide +kernel
theorem dL_law_644 : decode cL_law 644 = .ok (.iconst 0, 1) := by decide +kernel
theorem dL_law_645 : decode cL_law 645 = .ok (.laload, 1) := by decide +kernel
theorem dL_law_646 : decode cL_law 646 = .ok (.iload 6, 2) := by decide +kernel
theorem dL_law_648 : decode cL_law 648 = .ok (.i2l, 1) := by decide +kernel
theorem dL_law_649 : decode cL_law 649 = .ok (.lcmp, 1) := by decide +kernel
theorem dL_law_650 : decode cL_law 650 = .ok (.ifCond .eq 5, 3) := by decide +kernel
theorem dL_law_653 : decode cL_law 653 = .ok (.iconst 0, 1) := by decide +kernel
theorem dL_law_654 : decode cL_law 654 = .ok (.ireturn, 1) := by decide +kernel
theorem dL_law_655 : decode cL_law 655 = .ok (.goto 2506, 3) := by decide +kernel
theorem dL_law_658 : decode cL_law 658 = .ok (.aload_n 1, 1) := by decide +kernel
theorem dL_law_659 : decode cL_law 659 = .ok (.aload_n 0, 1) := by decide +kernel
theorem dL_law_660 : decode cL_law 660 = .ok (.iload 4, 2) := by decide +kernel
theorem dL_law_662 : decode cL_law 662 = .ok (.iconst 1, 1) := by decide +kernel
theorem dL_law_663 : decode cL_law 663 = .ok (.iadd, 1) := by decide +kernel
theorem dL_law_664 : decode cL_law 664 = .ok (.iaload, 1) := by decide +kernel
theorem dL_law_665 : decode cL_law 665 = .ok (.aload_n 0, 1) := by decide +kernel
theorem dL_law_666 : decode cL_law 666 = .ok (.iload 4, 2) := by decide +kernel
theorem dL_law_668 : decode cL_law 668 = .ok (.iconst 2, 1) := by decide +kernel
theorem dL_law_669 : decode cL_law 669 = .ok (.iadd, 1) := by decide +kernel
theorem dL_law_670 : decode cL_law 670 = .ok (.iaload, 1) := by decide +kernel
theorem dL_law_671 : decode cL_law 671 = .ok (.aload_n 0, 1) := by decide +kernel
theorem dL_law_672 : decode cL_law 672 = .ok (.iload 4, 2) := by decide +kernel
theorem dL_law_674 : decode cL_law 674 = .ok (.iconst 3, 1) := by decide +kernel
theorem dL_law_675 : decode cL_law 675 = .ok (.iadd, 1) := by decide +kernel
theorem dL_law_676 : decode cL_law 676 = .ok (.iaload, 1) := by decide +kernel
theorem dL_law_677 : decode cL_law 677 = .ok (.aload_n 0, 1) := by decide +kernel
theorem dL_law_678 : decode cL_law 678 = .ok (.iload 4, 2) := by decide +kernel
theorem dL_law_680 : decode cL_law 680 = .ok (.iconst 4, 1) := by decide +kernel
theorem dL_law_681 : decode cL_law 681 = .ok (.iadd, 1) := by decide +kernel
theorem dL_law_682 : decode cL_law 682 = .ok (.iaload, 1) := by decide +kernel
theorem dL_law_683 : decode cL_law 683 = .ok (.aload_n 3, 1) := by decide +kernel
theorem dL_law_684 : decode cL_law 684 = .ok (.invokestatic 177, 3) := by decide +kernel
theorem dL_law_687 : decode cL_law 687 = .ok (.istore 5, 2) := by decide +kernel
theorem dL_law_689 : decode cL_law 689 = .ok (.aload_n 2, 1) := by decide +kernel
theorem dL_law_690 : decode cL_law 690 = .ok (.aload_n 0, 1) := by decide +kernel
theorem dL_law_691 : decode cL_law 691 = .ok (.iload 4, 2) := by decide +kernel
theorem dL_law_693 : decode cL_law 693 = .ok (.iconst 1, 1) := by decide +kernel
theorem dL_law_694 : decode cL_law 694 = .ok (.iadd, 1) := by decide +kernel
theorem dL_law_695 : decode cL_law 695 = .ok (.iaload, 1) := by decide +kernel
theorem dL_law_696 : decode cL_law 696 = .ok (.aload_n 0, 1) := by decide +kernel
theorem dL_law_697 : decode cL_law 697 = .ok (.iload 4, 2) := by decide +kernel
theorem dL_law_699 : decode cL_law 699 = .ok (.iconst 2, 1) := by decide +kernel
theorem dL_law_700 : decode cL_law 700 = .ok (.iadd, 1) := by decide +kernel
theorem dL_law_701 : decode cL_law 701 = .ok (.iaload, 1) := by decide +kernel
theorem dL_law_702 : decode cL_law 702 = .ok (.aload_n 0, 1) := by decide +kernel
theorem dL_law_703 : decode cL_law 703 = .ok (.iload 4, 2) := by decide +kernel
theorem dL_law_705 : decode cL_law 705 = .ok (.iconst 3, 1) := by decide +kernel
theorem dL_law_706 : decode cL_law 706 = .ok (.iadd, 1) := by decide +kernel
theorem dL_law_707 : decode cL_law 707 = .ok (.iaload, 1) := by decide +kernel
theorem dL_law_708 : decode cL_law 708 = .ok (.aload_n 0, 1) := by decide +kernel
theorem dL_law_709 : decode cL_law 709 = .ok (.iload 4, 2) := by decide +kernel
theorem dL_law_711 : decode cL_law 711 = .ok (.iconst 4, 1) := by decide +kernel
theorem dL_law_712 : decode cL_law 712 = .ok (.iadd, 1) := by decide +kernel
theorem dL_law_713 : decode cL_law 713 = .ok (.iaload, 1) := by decide +kernel
theorem dL_law_714 : decode cL_law 714 = .ok (.invokevirtual 180, 3) := by decide +kernel
theorem dL_law_717 : decode cL_law 717 = .ok (.istore 6, 2) := by decide +kernel
theorem dL_law_719 : decode cL_law 719 = .ok (.aload_n 2, 1) := by decide +kernel
theorem dL_law_720 : decode cL_law 720 = .ok (.invokevirtual 156, 3) := by decide +kernel
theorem dL_law_723 : decode cL_law 723 = .ok (.iload 5, 2) := by decide +kernel
theorem dL_law_725 : decode cL_law 725 = .ok (.if_icmp .eq 5, 3) := by decide +kernel
theorem dL_law_728 : decode cL_law 728 = .ok (.iconst 0, 1) := by decide +kernel
theorem dL_law_729 : decode cL_law 729 = .ok (.ireturn, 1) := by decide +kernel
theorem dL_law_730 : decode cL_law 730 = .ok (.iload 5, 2) := by decide +kernel
theorem dL_law_732 : decode cL_law 732 = .ok (.ifCond .ne 15, 3) := by decide +kernel
theorem dL_law_735 : decode cL_law 735 = .ok (.aload_n 3, 1) := by decide +kernel
theorem dL_law_736 : decode cL_law 736 = .ok (.iconst 0, 1) := by decide +kernel
theorem dL_law_737 : decode cL_law 737 = .ok (.laload, 1) := by decide +kernel
theorem dL_law_738 : decode cL_law 738 = .ok (.iload 6, 2) := by decide +kernel
theorem dL_law_740 : decode cL_law 740 = .ok (.i2l, 1) := by decide +kernel
theorem dL_law_741 : decode cL_law 741 = .ok (.lcmp, 1) := by decide +kernel
theorem dL_law_742 : decode cL_law 742 = .ok (.ifCond .eq 5, 3) := by decide +kernel
theorem dL_law_745 : decode cL_law 745 = .ok (.iconst 0, 1) := by decide +kernel
theorem dL_law_746 : decode cL_law 746 = .ok (.ireturn, 1) := by decide +kernel
theorem dL_law_747 : decode cL_law 747 = .ok (.goto 2414, 3) := by decide +kernel
theorem dL_law_750 : decode cL_law 750 = .ok (.aload_n 1, 1) := by decide +kernel
theorem dL_law_751 : decode cL_law 751 = .ok (.aload_n 0, 1) := by decide +kernel
theorem dL_law_752 : decode cL_law 752 = .ok (.iload 4, 2) := by decide +kernel
theorem dL_law_754 : decode cL_law 754 = .ok (.iconst 1, 1) := by decide +kernel
theorem dL_law_755 : decode cL_law 755 = .ok (.iadd, 1) := by decide +kernel
theorem dL_law_756 : decode cL_law 756 = .ok (.iaload, 1) := by decide +kernel
theorem dL_law_757 : decode cL_law 757 = .ok (.aload_n 0, 1) := by decide +kernel
theorem dL_law_758 : decode cL_law 758 = .ok (.iload 4, 2) := by decide +kernel
theorem dL_law_760 : decode cL_law 760 = .ok (.iconst 2, 1) := by decide +kernel
theorem dL_law_761 : decode cL_law 761 = .ok (.iadd, 1) := by decide +kernel
theorem dL_law_762 : decode cL_law 762 = .ok (.iaload, 1) := by decide +kernel
theorem dL_law_763 : decode cL_law 763 = .ok (.aload_n 0, 1) := by decide +kernel
theorem dL_law_764 : decode cL_law 764 = .ok (.iload 4, 2) := by decide +kernel
theorem dL_law_766 : decode cL_law 766 = .ok (.iconst 3, 1) := by decide +kernel
theorem dL_law_767 : decode cL_law 767 = .ok (.iadd, 1) := by decide +kernel
theorem dL_law_768 : decode cL_law 768 = .ok (.iaload, 1) := by decide +kernel
theorem dL_law_769 : decode cL_law 769 = .ok (.invokevirtual 181, 3) := by decide +kernel
theorem dL_law_772 : decode cL_law 772 = .ok (.aload_n 2, 1) := by decide +kernel
theorem dL_law_773 : decode cL_law 773 = .ok (.aload_n 0, 1) := by decide +kernel
theorem dL_law_774 : decode cL_law 774 = .ok (.iload 4, 2) := by decide +kernel
theorem dL_law_776 : decode cL_law 776 = .ok (.iconst 1, 1) := by decide +kernel
theorem dL_law_777 : decode cL_law 777 = .ok (.iadd, 1) := by decide +kernel
theorem dL_law_778 : decode cL_law 778 = .ok (.iaload, 1) := by decide +kernel
theorem dL_law_779 : decode cL_law 779 = .ok (.aload_n 0, 1) := by decide +kernel
theorem dL_law_780 : decode cL_law 780 = .ok (.iload 4, 2) := by decide +kernel
theorem dL_law_782 : decode cL_law 782 = .ok (.iconst 2, 1) := by decide +kernel
theorem dL_law_783 : decode cL_law 783 = .ok (.iadd, 1) := by decide +kernel
theorem dL_law_784 : decode cL_law 784 = .ok (.iaload, 1) := by decide +kernel
theorem dL_law_785 : decode cL_law 785 = .ok (.aload_n 0, 1) := by decide +kernel
theorem dL_law_786 : decode cL_law 786 = .ok (.iload 4, 2) := by decide +kernel
theorem dL_law_788 : decode cL_law 788 = .ok (.iconst 3, 1) := by decide +kernel
theorem dL_law_789 : decode cL_law 789 = .ok (.iadd, 1) := by decide +kernel
theorem dL_law_790 : decode cL_law 790 = .ok (.iaload, 1) := by decide +kernel
theorem dL_law_791 : decode cL_law 791 = .ok (.invokevirtual 184, 3) := by decide +kernel
theorem dL_law_794 : decode cL_law 794 = .ok (.if_icmp .eq 2367, 3) := by decide +kernel
theorem dL_law_797 : decode cL_law 797 = .ok (.iconst 0, 1) := by decide +kernel
theorem dL_law_798 : decode cL_law 798 = .ok (.ireturn, 1) := by decide +kernel
theorem dL_law_799 : decode cL_law 799 = .ok (.aload_n 1, 1) := by decide +kernel
theorem dL_law_800 : decode cL_law 800 = .ok (.aload_n 0, 1) := by decide +kernel
theorem dL_law_801 : decode cL_law 801 = .ok (.iload 4, 2) := by decide +kernel
theorem dL_law_803 : decode cL_law 803 = .ok (.iconst 1, 1) := by decide +kernel
theorem dL_law_804 : decode cL_law 804 = .ok (.iadd, 1) := by decide +kernel
theorem dL_law_805 : decode cL_law 805 = .ok (.iaload, 1) := by decide +kernel
theorem dL_law_806 : decode cL_law 806 = .ok (.invokevirtual 185, 3) := by decide +kernel
theorem dL_law_809 : decode cL_law 809 = .ok (.aload_n 2, 1) := by decide +kernel
theorem dL_law_810 : decode cL_law 810 = .ok (.aload_n 0, 1) := by decide +kernel
theorem dL_law_811 : decode cL_law 811 = .ok (.iload 4, 2) := by decide +kernel
theorem dL_law_813 : decode cL_law 813 = .ok (.iconst 1, 1) := by decide +kernel
theorem dL_law_814 : decode cL_law 814 = .ok (.iadd, 1) := by decide +kernel
theorem dL_law_815 : decode cL_law 815 = .ok (.iaload, 1) := by decide +kernel
theorem dL_law_816 : decode cL_law 816 = .ok (.invokevirtual 188, 3) := by decide +kernel
theorem dL_law_819 : decode cL_law 819 = .ok (.if_icmp .eq 2342, 3) := by decide +kernel
theorem dL_law_822 : decode cL_law 822 = .ok (.iconst 0, 1) := by decide +kernel
theorem dL_law_823 : decode cL_law 823 = .ok (.ireturn, 1) := by decide +kernel
theorem dL_law_824 : decode cL_law 824 = .ok (.aload_n 1, 1) := by decide +kernel
theorem dL_law_825 : decode cL_law 825 = .ok (.invokevirtual 189, 3) := by decide +kernel
theorem dL_law_828 : decode cL_law 828 = .ok (.aload_n 2, 1) := by decide +kernel
theorem dL_law_829 : decode cL_law 829 = .ok (.invokevirtual 192, 3) := by decide +kernel
theorem dL_law_832 : decode cL_law 832 = .ok (.if_icmp .eq 2329, 3) := by decide +kernel
theorem dL_law_835 : decode cL_law 835 = .ok (.iconst 0, 1) := by decide +kernel
theorem dL_law_836 : decode cL_law 836 = .ok (.ireturn, 1) := by decide +kernel
theorem dL_law_837 : decode cL_law 837 = .ok (.aload_n 1, 1) := by decide +kernel
theorem dL_law_838 : decode cL_law 838 = .ok (.aload_n 0, 1) := by decide +kernel
theorem dL_law_839 : decode cL_law 839 = .ok (.iload 4, 2) := by decide +kernel
theorem dL_law_841 : decode cL_law 841 = .ok (.iconst 1, 1) := by decide +kernel
theorem dL_law_842 : decode cL_law 842 = .ok (.iadd, 1) := by decide +kernel
theorem dL_law_843 : decode cL_law 843 = .ok (.iaload, 1) := by decide +kernel
theorem dL_law_844 : decode cL_law 844 = .ok (.aload_n 3, 1) := by decide +kernel
theorem dL_law_845 : decode cL_law 845 = .ok (.invokestatic 193, 3) := by decide +kernel
theorem dL_law_848 : decode cL_law 848 = .ok (.istore 5, 2) := by decide +kernel
theorem dL_law_850 : decode cL_law 850 = .ok (.aload_n 2, 1) := by decide +kernel
theorem dL_law_851 : decode cL_law 851 = .ok (.aload_n 0, 1) := by decide +kernel
theorem dL_law_852 : decode cL_law 852 = .ok (.iload 4, 2) := by decide +kernel
theorem dL_law_854 : decode cL_law 854 = .ok (.iconst 1, 1) := by decide +kernel
theorem dL_law_855 : decode cL_law 855 = .ok (.iadd, 1) := by decide +kernel
theorem dL_law_856 : decode cL_law 856 = .ok (.iaload, 1) := by decide +kernel
theorem dL_law_857 : decode cL_law 857 = .ok (.invokevirtual 195, 3) := by decide +kernel
theorem dL_law_860 : decode cL_law 860 = .ok (.istore 6, 2) := by decide +kernel
theorem dL_law_862 : decode cL_law 862 = .ok (.aload_n 2, 1) := by decide +kernel
theorem dL_law_863 : decode cL_law 863 = .ok (.invokevirtual 156, 3) := by decide +kernel
theorem dL_law_866 : decode cL_law 866 = .ok (.iload 5, 2) := by decide +kernel
theorem dL_law_868 : decode cL_law 868 = .ok (.if_icmp .eq 5, 3) := by decide +kernel
theorem dL_law_871 : decode cL_law 871 = .ok (.iconst 0, 1) := by decide +kernel
theorem dL_law_872 : decode cL_law 872 = .ok (.ireturn, 1) := by decide +kernel
theorem dL_law_873 : decode cL_law 873 = .ok (.iload 5, 2) := by decide +kernel
theorem dL_law_875 : decode cL_law 875 = .ok (.ifCond .ne 15, 3) := by decide +kernel
theorem dL_law_878 : decode cL_law 878 = .ok (.aload_n 3, 1) := by decide +kernel
theorem dL_law_879 : decode cL_law 879 = .ok (.iconst 0, 1) := by decide +kernel
theorem dL_law_880 : decode cL_law 880 = .ok (.laload, 1) := by decide +kernel
theorem dL_law_881 : decode cL_law 881 = .ok (.iload 6, 2) := by decide +kernel
theorem dL_law_883 : decode cL_law 883 = .ok (.i2l, 1) := by decide +kernel
theorem dL_law_884 : decode cL_law 884 = .ok (.lcmp, 1) := by decide +kernel
theorem dL_law_885 : decode cL_law 885 = .ok (.ifCond .eq 5, 3) := by decide +kernel
theorem dL_law_888 : decode cL_law 888 = .ok (.iconst 0, 1) := by decide +kernel
theorem dL_law_889 : decode cL_law 889 = .ok (.ireturn, 1) := by decide +kernel
theorem dL_law_890 : decode cL_law 890 = .ok (.goto 2271, 3) := by decide +kernel
theorem dL_law_893 : decode cL_law 893 = .ok (.aload_n 1, 1) := by decide +kernel
theorem dL_law_894 : decode cL_law 894 = .ok (.aload_n 0, 1) := by decide +kernel
theorem dL_law_895 : decode cL_law 895 = .ok (.iload 4, 2) := by decide +kernel
theorem dL_law_897 : decode cL_law 897 = .ok (.iconst 1, 1) := by decide +kernel
theorem dL_law_898 : decode cL_law 898 = .ok (.iadd, 1) := by decide +kernel
theorem dL_law_899 : decode cL_law 899 = .ok (.iaload, 1) := by decide +kernel
theorem dL_law_900 : decode cL_law 900 = .ok (.aload_n 3, 1) := by decide +kernel
theorem dL_law_901 : decode cL_law 901 = .ok (.invokestatic 196, 3) := by decide +kernel
theorem dL_law_904 : decode cL_law 904 = .ok (.istore 5, 2) := by decide +kernel
theorem dL_law_906 : decode cL_law 906 = .ok (.aload_n 2, 1) := by decide +kernel
theorem dL_law_907 : decode cL_law 907 = .ok (.aload_n 0, 1) := by decide +kernel
theorem dL_law_908 : decode cL_law 908 = .ok (.iload 4, 2) := by decide +kernel
theorem dL_law_910 : decode cL_law 910 = .ok (.iconst 1, 1) := by decide +kernel
theorem dL_law_911 : decode cL_law 911 = .ok (.iadd, 1) := by decide +kernel
theorem dL_law_912 : decode cL_law 912 = .ok (.iaload, 1) := by decide +kernel
theorem dL_law_913 : decode cL_law 913 = .ok (.invokevirtual 198, 3) := by decide +kernel
theorem dL_law_916 : decode cL_law 916 = .ok (.istore 6, 2) := by decide +kernel
theorem dL_law_918 : decode cL_law 918 = .ok (.aload_n 2, 1) := by decide +kernel
theorem dL_law_919 : decode cL_law 919 = .ok (.invokevirtual 156, 3) := by decide +kernel
theorem dL_law_922 : decode cL_law 922 = .ok (.iload 5, 2) := by decide +kernel
theorem dL_law_924 : decode cL_law 924 = .ok (.if_icmp .eq 5, 3) := by decide +kernel
theorem dL_law_927 : decode cL_law 927 = .ok (.iconst 0, 1) := by decide +kernel
theorem dL_law_928 : decode cL_law 928 = .ok (.ireturn, 1) := by decide +kernel
theorem dL_law_929 : decode cL_law 929 = .ok (.iload 5, 2) := by decide +kernel
theorem dL_law_931 : decode cL_law 931 = .ok (.ifCond .ne 15, 3) := by decide +kernel
theorem dL_law_934 : decode cL_law 934 = .ok (.aload_n 3, 1) := by decide +kernel
theorem dL_law_935 : decode cL_law 935 = .ok (.iconst 0, 1) := by decide +kernel
theorem dL_law_936 : decode cL_law 936 = .ok (.laload, 1) := by decide +kernel
theorem dL_law_937 : decode cL_law 937 = .ok (.iload 6, 2) := by decide +kernel
theorem dL_law_939 : decode cL_law 939 = .ok (.i2l, 1) := by decide +kernel
theorem dL_law_940 : decode cL_law 940 = .ok (.lcmp, 1) := by decide +kernel
theorem dL_law_941 : decode cL_law 941 = .ok (.ifCond .eq 5, 3) := by decide +kernel
theorem dL_law_944 : decode cL_law 944 = .ok (.iconst 0, 1) := by decide +kernel
theorem dL_law_945 : decode cL_law 945 = .ok (.ireturn, 1) := by decide +kernel
theorem dL_law_946 : decode cL_law 946 = .ok (.goto 2215, 3) := by decide +kernel
theorem dL_law_949 : decode cL_law 949 = .ok (.aload_n 1, 1) := by decide +kernel
theorem dL_law_950 : decode cL_law 950 = .ok (.aload_n 0, 1) := by decide +kernel
theorem dL_law_951 : decode cL_law 951 = .ok (.iload 4, 2) := by decide +kernel
theorem dL_law_953 : decode cL_law 953 = .ok (.iconst 1, 1) := by decide +kernel
theorem dL_law_954 : decode cL_law 954 = .ok (.iadd, 1) := by decide +kernel
theorem dL_law_955 : decode cL_law 955 = .ok (.iaload, 1) := by decide +kernel
theorem dL_law_956 : decode cL_law 956 = .ok (.aload_n 0, 1) := by decide +kernel
theorem dL_law_957 : decode cL_law 957 = .ok (.iload 4, 2) := by decide +kernel
theorem dL_law_959 : decode cL_law 959 = .ok (.iconst 2, 1) := by decide +kernel
theorem dL_law_960 : decode cL_law 960 = .ok (.iadd, 1) := by decide +kernel
theorem dL_law_961 : decode cL_law 961 = .ok (.iaload, 1) := by decide +kernel
theorem dL_law_962 : decode cL_law 962 = .ok (.aload_n 3, 1) := by decide +kernel
theorem dL_law_963 : decode cL_law 963 = .ok (.invokestatic 199, 3) := by decide +kernel
theorem dL_law_966 : decode cL_law 966 = .ok (.istore 5, 2) := by decide +kernel
theorem dL_law_968 : decode cL_law 968 = .ok (.aload_n 2, 1) := by decide +kernel
theorem dL_law_969 : decode cL_law 969 = .ok (.aload_n 0, 1) := by decide +kernel
theorem dL_law_970 : decode cL_law 970 = .ok (.iload 4, 2) := by decide +kernel
theorem dL_law_972 : decode cL_law 972 = .ok (.iconst 1, 1) := by decide +kernel
theorem dL_law_973 : decode cL_law 973 = .ok (.iadd, 1) := by decide +kernel
theorem dL_law_974 : decode cL_law 974 = .ok (.iaload, 1) := by decide +kernel
theorem dL_law_975 : decode cL_law 975 = .ok (.aload_n 0, 1) := by decide +kernel
theorem dL_law_976 : decode cL_law 976 = .ok (.iload 4, 2) := by decide +kernel
theorem dL_law_978 : decode cL_law 978 = .ok (.iconst 2, 1) := by decide +kernel
theorem dL_law_979 : decode cL_law 979 = .ok (.iadd, 1) := by decide +kernel
theorem dL_law_980 : decode cL_law 980 = .ok (.iaload, 1) := by decide +kernel
theorem dL_law_981 : decode cL_law 981 = .ok (.invokevirtual 201, 3) := by decide +kernel
theorem dL_law_984 : decode cL_law 984 = .ok (.istore 6, 2) := by decide +kernel
theorem dL_law_986 : decode cL_law 986 = .ok (.aload_n 2, 1) := by decide +kernel
theorem dL_law_987 : decode cL_law 987 = .ok (.invokevirtual 156, 3) := by decide +kernel
theorem dL_law_990 : decode cL_law 990 = .ok (.iload 5, 2) := by decide +kernel
theorem dL_law_992 : decode cL_law 992 = .ok (.if_icmp .eq 5, 3) := by decide +kernel
theorem dL_law_995 : decode cL_law 995 = .ok (.iconst 0, 1) := by decide +kernel
theorem dL_law_996 : decode cL_law 996 = .ok (.ireturn, 1) := by decide +kernel
theorem dL_law_997 : decode cL_law 997 = .ok (.iload 5, 2) := by decide +kernel
theorem dL_law_999 : decode cL_law 999 = .ok (.ifCond .ne 15, 3) := by decide +kernel
theorem dL_law_1002 : decode cL_law 1002 = .ok (.aload_n 3, 1) := by decide +kernel
theorem dL_law_1003 : decode cL_law 1003 = .ok (.iconst 0, 1) := by decide +kernel
theorem dL_law_1004 : decode cL_law 1004 = .ok (.laload, 1) := by decide +kernel
theorem dL_law_1005 : decode cL_law 1005 = .ok (.iload 6, 2) := by decide +kernel
theorem dL_law_1007 : decode cL_law 1007 = .ok (.i2l, 1) := by decide +kernel
theorem dL_law_1008 : decode cL_law 1008 = .ok (.lcmp, 1) := by decide +kernel
theorem dL_law_1009 : decode cL_law 1009 = .ok (.ifCond .eq 5, 3) := by decide +kernel
theorem dL_law_1012 : decode cL_law 1012 = .ok (.iconst 0, 1) := by decide +kernel
theorem dL_law_1013 : decode cL_law 1013 = .ok (.ireturn, 1) := by decide +kernel
theorem dL_law_1014 : decode cL_law 1014 = .ok (.goto 2147, 3) := by decide +kernel
theorem dL_law_1017 : decode cL_law 1017 = .ok (.aload_n 1, 1) := by decide +kernel
theorem dL_law_1018 : decode cL_law 1018 = .ok (.aload_n 0, 1) := by decide +kernel
theorem dL_law_1019 : decode cL_law 1019 = .ok (.iload 4, 2) := by decide +kernel
theorem dL_law_1021 : decode cL_law 1021 = .ok (.iconst 1, 1) := by decide +kernel
theorem dL_law_1022 : decode cL_law 1022 = .ok (.iadd, 1) := by decide +kernel
theorem dL_law_1023 : decode cL_law 1023 = .ok (.iaload, 1) := by decide +kernel
theorem dL_law_1024 : decode cL_law 1024 = .ok (.aload_n 3, 1) := by decide +kernel
theorem dL_law_1025 : decode cL_law 1025 = .ok (.invokestatic 202, 3) := by decide +kernel
theorem dL_law_1028 : decode cL_law 1028 = .ok (.istore 5, 2) := by decide +kernel
theorem dL_law_1030 : decode cL_law 1030 = .ok (.aload_n 2, 1) := by decide +kernel
theorem dL_law_1031 : decode cL_law 1031 = .ok (.aload_n 0, 1) := by decide +kernel
theorem dL_law_1032 : decode cL_law 1032 = .ok (.iload 4, 2) := by decide +kernel
theorem dL_law_1034 : decode cL_law 1034 = .ok (.iconst 1, 1) := by decide +kernel
theorem dL_law_1035 : decode cL_law 1035 = .ok (.iadd, 1) := by decide +kernel
theorem dL_law_1036 : decode cL_law 1036 = .ok (.iaload, 1) := by decide +kernel
theorem dL_law_1037 : decode cL_law 1037 = .ok (.invokevirtual 204, 3) := by decide +kernel
theorem dL_law_1040 : decode cL_law 1040 = .ok (.istore 6, 2) := by decide +kernel
theorem dL_law_1042 : decode cL_law 1042 = .ok (.aload_n 2, 1) := by decide +kernel
theorem dL_law_1043 : decode cL_law 1043 = .ok (.invokevirtual 156, 3) := by decide +kernel
theorem dL_law_1046 : decode cL_law 1046 = .ok (.iload 5, 2) := by decide +kernel
theorem dL_law_1048 : decode cL_law 1048 = .ok (.if_icmp .eq 5, 3) := by decide +kernel
theorem dL_law_1051 : decode cL_law 1051 = .ok (.iconst 0, 1) := by decide +kernel
theorem dL_law_1052 : decode cL_law 1052 = .ok (.ireturn, 1) := by decide +kernel
theorem dL_law_1053 : decode cL_law 1053 = .ok (.iload 5, 2) := by decide +kernel
theorem dL_law_1055 : decode cL_law 1055 = .ok (.ifCond .ne 15, 3) := by decide +kernel
theorem dL_law_1058 : decode cL_law 1058 = .ok (.aload_n 3, 1) := by decide +kernel
theorem dL_law_1059 : decode cL_law 1059 = .ok (.iconst 0, 1) := by decide +kernel
theorem dL_law_1060 : decode cL_law 1060 = .ok (.laload, 1) := by decide +kernel
theorem dL_law_1061 : decode cL_law 1061 = .ok (.iload 6, 2) := by decide +kernel
theorem dL_law_1063 : decode cL_law 1063 = .ok (.i2l, 1) := by decide +kernel
theorem dL_law_1064 : decode cL_law 1064 = .ok (.lcmp, 1) := by decide +kernel
theorem dL_law_1065 : decode cL_law 1065 = .ok (.ifCond .eq 5, 3) := by decide +kernel
theorem dL_law_1068 : decode cL_law 1068 = .ok (.iconst 0, 1) := by decide +kernel
theorem dL_law_1069 : decode cL_law 1069 = .ok (.ireturn, 1) := by decide +kernel
theorem dL_law_1070 : decode cL_law 1070 = .ok (.goto 2091, 3) := by decide +kernel
theorem dL_law_1073 : decode cL_law 1073 = .ok (.aload_n 1, 1) := by decide +kernel
theorem dL_law_1074 : decode cL_law 1074 = .ok (.aload_n 0, 1) := by decide +kernel
theorem dL_law_1075 : decode cL_law 1075 = .ok (.iload 4, 2) := by decide +kernel
theorem dL_law_1077 : decode cL_law 1077 = .ok (.iconst 1, 1) := by decide +kernel
theorem dL_law_1078 : decode cL_law 1078 = .ok (.iadd, 1) := by decide +kernel
theorem dL_law_1079 : decode cL_law 1079 = .ok (.iaload, 1) := by decide +kernel
theorem dL_law_1080 : decode cL_law 1080 = .ok (.aload_n 0, 1) := by decide +kernel
theorem dL_law_1081 : decode cL_law 1081 = .ok (.iload 4, 2) := by decide +kernel
theorem dL_law_1083 : decode cL_law 1083 = .ok (.iconst 2, 1) := by decide +kernel
theorem dL_law_1084 : decode cL_law 1084 = .ok (.iadd, 1) := by decide +kernel
theorem dL_law_1085 : decode cL_law 1085 = .ok (.iaload, 1) := by decide +kernel
theorem dL_law_1086 : decode cL_law 1086 = .ok (.aload_n 3, 1) := by decide +kernel
theorem dL_law_1087 : decode cL_law 1087 = .ok (.invokestatic 205, 3) := by decide +kernel
theorem dL_law_1090 : decode cL_law 1090 = .ok (.istore 5, 2) := by decide +kernel
theorem dL_law_1092 : decode cL_law 1092 = .ok (.aload_n 2, 1) := by decide +kernel
theorem dL_law_1093 : decode cL_law 1093 = .ok (.aload_n 0, 1) := by decide +kernel
theorem dL_law_1094 : decode cL_law 1094 = .ok (.iload 4, 2) := by decide +kernel
theorem dL_law_1096 : decode cL_law 1096 = .ok (.iconst 1, 1) := by decide +kernel
theorem dL_law_1097 : decode cL_law 1097 = .ok (.iadd, 1) := by decide +kernel
theorem dL_law_1098 : decode cL_law 1098 = .ok (.iaload, 1) := by decide +kernel
theorem dL_law_1099 : decode cL_law 1099 = .ok (.aload_n 0, 1) := by decide +kernel
theorem dL_law_1100 : decode cL_law 1100 = .ok (.iload 4, 2) := by decide +kernel
theorem dL_law_1102 : decode cL_law 1102 = .ok (.iconst 2, 1) := by decide +kernel
theorem dL_law_1103 : decode cL_law 1103 = .ok (.iadd, 1) := by decide +kernel
theorem dL_law_1104 : decode cL_law 1104 = .ok (.iaload, 1) := by decide +kernel
theorem dL_law_1105 : decode cL_law 1105 = .ok (.invokevirtual 207, 3) := by decide +kernel
theorem dL_law_1108 : decode cL_law 1108 = .ok (.istore 6, 2) := by decide +kernel
theorem dL_law_1110 : decode cL_law 1110 = .ok (.aload_n 2, 1) := by decide +kernel
theorem dL_law_1111 : decode cL_law 1111 = .ok (.invokevirtual 156, 3) := by decide +kernel
theorem dL_law_1114 : decode cL_law 1114 = .ok (.iload 5, 2) := by decide +kernel
theorem dL_law_1116 : decode cL_law 1116 = .ok (.if_icmp .eq 5, 3) := by decide +kernel
theorem dL_law_1119 : decode cL_law 1119 = .ok (.iconst 0, 1) := by decide +kernel
theorem dL_law_1120 : decode cL_law 1120 = .ok (.ireturn, 1) := by decide +kernel
theorem dL_law_1121 : decode cL_law 1121 = .ok (.iload 5, 2) := by decide +kernel
theorem dL_law_1123 : decode cL_law 1123 = .ok (.ifCond .ne 15, 3) := by decide +kernel
theorem dL_law_1126 : decode cL_law 1126 = .ok (.aload_n 3, 1) := by decide +kernel
theorem dL_law_1127 : decode cL_law 1127 = .ok (.iconst 0, 1) := by decide +kernel
theorem dL_law_1128 : decode cL_law 1128 = .ok (.laload, 1) := by decide +kernel
theorem dL_law_1129 : decode cL_law 1129 = .ok (.iload 6, 2) := by decide +kernel
theorem dL_law_1131 : decode cL_law 1131 = .ok (.i2l, 1) := by decide +kernel
theorem dL_law_1132 : decode cL_law 1132 = .ok (.lcmp, 1) := by decide +kernel
theorem dL_law_1133 : decode cL_law 1133 = .ok (.ifCond .eq 5, 3) := by decide +kernel
theorem dL_law_1136 : decode cL_law 1136 = .ok (.iconst 0, 1) := by decide +kernel
theorem dL_law_1137 : decode cL_law 1137 = .ok (.ireturn, 1) := by decide +kernel
theorem dL_law_1138 : decode cL_law 1138 = .ok (.goto 2023, 3) := by decide +kernel
theorem dL_law_1141 : decode cL_law 1141 = .ok (.aload_n 1, 1) := by decide +kernel
theorem dL_law_1142 : decode cL_law 1142 = .ok (.aload_n 0, 1) := by decide +kernel
theorem dL_law_1143 : decode cL_law 1143 = .ok (.iload 4, 2) := by decide +kernel
theorem dL_law_1145 : decode cL_law 1145 = .ok (.iconst 1, 1) := by decide +kernel
theorem dL_law_1146 : decode cL_law 1146 = .ok (.iadd, 1) := by decide +kernel
theorem dL_law_1147 : decode cL_law 1147 = .ok (.iaload, 1) := by decide +kernel
theorem dL_law_1148 : decode cL_law 1148 = .ok (.aload_n 3, 1) := by decide +kernel
theorem dL_law_1149 : decode cL_law 1149 = .ok (.invokestatic 208, 3) := by decide +kernel
theorem dL_law_1152 : decode cL_law 1152 = .ok (.istore 5, 2) := by decide +kernel
theorem dL_law_1154 : decode cL_law 1154 = .ok (.aload_n 2, 1) := by decide +kernel
theorem dL_law_1155 : decode cL_law 1155 = .ok (.aload_n 0, 1) := by decide +kernel
theorem dL_law_1156 : decode cL_law 1156 = .ok (.iload 4, 2) := by decide +kernel
theorem dL_law_1158 : decode cL_law 1158 = .ok (.iconst 1, 1) := by decide +kernel
theorem dL_law_1159 : decode cL_law 1159 = .ok (.iadd, 1) := by decide +kernel
theorem dL_law_1160 : decode cL_law 1160 = .ok (.iaload, 1) := by decide +kernel
theorem dL_law_1161 : decode cL_law 1161 = .ok (.invokevirtual 210, 3) := by decide +kernel
theorem dL_law_1164 : decode cL_law 1164 = .ok (.istore 6, 2) := by decide +kernel
theorem dL_law_1166 : decode cL_law 1166 = .ok (.aload_n 2, 1) := by decide +kernel
theorem dL_law_1167 : decode cL_law 1167 = .ok (.invokevirtual 156, 3) := by decide +kernel
theorem dL_law_1170 : decode cL_law 1170 = .ok (.iload 5, 2) := by decide +kernel
theorem dL_law_1172 : decode cL_law 1172 = .ok (.if_icmp .eq 5, 3) := by decide +kernel
theorem dL_law_1175 : decode cL_law 1175 = .ok (.iconst 0, 1) := by decide +kernel
theorem dL_law_1176 : decode cL_law 1176 = .ok (.ireturn, 1) := by decide +kernel
theorem dL_law_1177 : decode cL_law 1177 = .ok (.iload 5, 2) := by decide +kernel
theorem dL_law_1179 : decode cL_law 1179 = .ok (.ifCond .ne 15, 3) := by decide +kernel
theorem dL_law_1182 : decode cL_law 1182 = .ok (.aload_n 3, 1) := by decide +kernel
theorem dL_law_1183 : decode cL_law 1183 = .ok (.iconst 0, 1) := by decide +kernel
theorem dL_law_1184 : decode cL_law 1184 = .ok (.laload, 1) := by decide +kernel
theorem dL_law_1185 : decode cL_law 1185 = .ok (.iload 6, 2) := by decide +kernel
theorem dL_law_1187 : decode cL_law 1187 = .ok (.i2l, 1) := by decide +kernel
theorem dL_law_1188 : decode cL_law 1188 = .ok (.lcmp, 1) := by decide +kernel
theorem dL_law_1189 : decode cL_law 1189 = .ok (.ifCond .eq 5, 3) := by decide +kernel
theorem dL_law_1192 : decode cL_law 1192 = .ok (.iconst 0, 1) := by decide +kernel
theorem dL_law_1193 : decode cL_law 1193 = .ok (.ireturn, 1) := by decide +kernel
theorem dL_law_1194 : decode cL_law 1194 = .ok (.goto 1967, 3) := by decide +kernel
theorem dL_law_1197 : decode cL_law 1197 = .ok (.aload_n 1, 1) := by decide +kernel
theorem dL_law_1198 : decode cL_law 1198 = .ok (.aload_n 0, 1) := by decide +kernel
theorem dL_law_1199 : decode cL_law 1199 = .ok (.iload 4, 2) := by decide +kernel
theorem dL_law_1201 : decode cL_law 1201 = .ok (.iconst 1, 1) := by decide +kernel
theorem dL_law_1202 : decode cL_law 1202 = .ok (.iadd, 1) := by decide +kernel
theorem dL_law_1203 : decode cL_law 1203 = .ok (.iaload, 1) := by decide +kernel
theorem dL_law_1204 : decode cL_law 1204 = .ok (.aload_n 3, 1) := by decide +kernel
theorem dL_law_1205 : decode cL_law 1205 = .ok (.invokestatic 211, 3) := by decide +kernel
theorem dL_law_1208 : decode cL_law 1208 = .ok (.istore 5, 2) := by decide +kernel
theorem dL_law_1210 : decode cL_law 1210 = .ok (.aload_n 2, 1) := by decide +kernel
theorem dL_law_1211 : decode cL_law 1211 = .ok (.aload_n 0, 1) := by decide +kernel
theorem dL_law_1212 : decode cL_law 1212 = .ok (.iload 4, 2) := by decide +kernel
theorem dL_law_1214 : decode cL_law 1214 = .ok (.iconst 1, 1) := by decide +kernel
theorem dL_law_1215 : decode cL_law 1215 = .ok (.iadd, 1) := by decide +kernel
theorem dL_law_1216 : decode cL_law 1216 = .ok (.iaload, 1) := by decide +kernel
theorem dL_law_1217 : decode cL_law 1217 = .ok (.invokevirtual 213, 3) := by decide +kernel
theorem dL_law_1220 : decode cL_law 1220 = .ok (.istore 6, 2) := by decide +kernel
theorem dL_law_1222 : decode cL_law 1222 = .ok (.aload_n 2, 1) := by decide +kernel
theorem dL_law_1223 : decode cL_law 1223 = .ok (.invokevirtual 156, 3) := by decide +kernel
theorem dL_law_1226 : decode cL_law 1226 = .ok (.iload 5, 2) := by decide +kernel
theorem dL_law_1228 : decode cL_law 1228 = .ok (.if_icmp .eq 5, 3) := by decide +kernel
theorem dL_law_1231 : decode cL_law 1231 = .ok (.iconst 0, 1) := by decide +kernel
theorem dL_law_1232 : decode cL_law 1232 = .ok (.ireturn, 1) := by decide +kernel
theorem dL_law_1233 : decode cL_law 1233 = .ok (.iload 5, 2) := by decide +kernel
theorem dL_law_1235 : decode cL_law 1235 = .ok (.ifCond .ne 15, 3) := by decide +kernel
theorem dL_law_1238 : decode cL_law 1238 = .ok (.aload_n 3, 1) := by decide +kernel
theorem dL_law_1239 : decode cL_law 1239 = .ok (.iconst 0, 1) := by decide +kernel
theorem dL_law_1240 : decode cL_law 1240 = .ok (.laload, 1) := by decide +kernel
theorem dL_law_1241 : decode cL_law 1241 = .ok (.iload 6, 2) := by decide +kernel
theorem dL_law_1243 : decode cL_law 1243 = .ok (.i2l, 1) := by decide +kernel
theorem dL_law_1244 : decode cL_law 1244 = .ok (.lcmp, 1) := by decide +kernel
theorem dL_law_1245 : decode cL_law 1245 = .ok (.ifCond .eq 5, 3) := by decide +kernel
theorem dL_law_1248 : decode cL_law 1248 = .ok (.iconst 0, 1) := by decide +kernel
theorem dL_law_1249 : decode cL_law 1249 = .ok (.ireturn, 1) := by decide +kernel
theorem dL_law_1250 : decode cL_law 1250 = .ok (.goto 1911, 3) := by decide +kernel
theorem dL_law_1253 : decode cL_law 1253 = .ok (.aload_n 1, 1) := by decide +kernel
theorem dL_law_1254 : decode cL_law 1254 = .ok (.aload_n 0, 1) := by decide +kernel
theorem dL_law_1255 : decode cL_law 1255 = .ok (.iload 4, 2) := by decide +kernel
theorem dL_law_1257 : decode cL_law 1257 = .ok (.iconst 1, 1) := by decide +kernel
theorem dL_law_1258 : decode cL_law 1258 = .ok (.iadd, 1) := by decide +kernel
theorem dL_law_1259 : decode cL_law 1259 = .ok (.iaload, 1) := by decide +kernel
theorem dL_law_1260 : decode cL_law 1260 = .ok (.aload_n 3, 1) := by decide +kernel
theorem dL_law_1261 : decode cL_law 1261 = .ok (.invokestatic 214, 3) := by decide +kernel
theorem dL_law_1264 : decode cL_law 1264 = .ok (.istore 5, 2) := by decide +kernel
theorem dL_law_1266 : decode cL_law 1266 = .ok (.aload_n 2, 1) := by decide +kernel
theorem dL_law_1267 : decode cL_law 1267 = .ok (.aload_n 0, 1) := by decide +kernel
theorem dL_law_1268 : decode cL_law 1268 = .ok (.iload 4, 2) := by decide +kernel
theorem dL_law_1270 : decode cL_law 1270 = .ok (.iconst 1, 1) := by decide +kernel
theorem dL_law_1271 : decode cL_law 1271 = .ok (.iadd, 1) := by decide +kernel
theorem dL_law_1272 : decode cL_law 1272 = .ok (.iaload, 1) := by decide +kernel
theorem dL_law_1273 : decode cL_law 1273 = .ok (.invokevirtual 216, 3) := by decide +kernel
theorem dL_law_1276 : decode cL_law 1276 = .ok (.istore 6, 2) := by decide +kernel
theorem dL_law_1278 : decode cL_law 1278 = .ok (.aload_n 2, 1) := by decide +kernel
theorem dL_law_1279 : decode cL_law 1279 = .ok (.invokevirtual 156, 3) := by decide +kernel
theorem dL_law_1282 : decode cL_law 1282 = .ok (.iload 5, 2) := by decide +kernel
theorem dL_law_1284 : decode cL_law 1284 = .ok (.if_icmp .eq 5, 3) := by decide +kernel
theorem dL_law_1287 : decode cL_law 1287 = .ok (.iconst 0, 1) := by decide +kernel
theorem dL_law_1288 : decode cL_law 1288 = .ok (.ireturn, 1) := by decide +kernel
theorem dL_law_1289 : decode cL_law 1289 = .ok (.iload 5, 2) := by decide +kernel
theorem dL_law_1291 : decode cL_law 1291 = .ok (.ifCond .ne 15, 3) := by decide +kernel
theorem dL_law_1294 : decode cL_law 1294 = .ok (.aload_n 3, 1) := by decide +kernel
theorem dL_law_1295 : decode cL_law 1295 = .ok (.iconst 0, 1) := by decide +kernel
theorem dL_law_1296 : decode cL_law 1296 = .ok (.laload, 1) := by decide +kernel
theorem dL_law_1297 : decode cL_law 1297 = .ok (.iload 6, 2) := by decide +kernel
theorem dL_law_1299 : decode cL_law 1299 = .ok (.i2l, 1) := by decide +kernel
theorem dL_law_1300 : decode cL_law 1300 = .ok (.lcmp, 1) := by decide +kernel
theorem dL_law_1301 : decode cL_law 1301 = .ok (.ifCond .eq 5, 3) := by decide +kernel
theorem dL_law_1304 : decode cL_law 1304 = .ok (.iconst 0, 1) := by decide +kernel
theorem dL_law_1305 : decode cL_law 1305 = .ok (.ireturn, 1) := by decide +kernel
theorem dL_law_1306 : decode cL_law 1306 = .ok (.goto 1855, 3) := by decide +kernel
theorem dL_law_1309 : decode cL_law 1309 = .ok (.aload_n 1, 1) := by decide +kernel
theorem dL_law_1310 : decode cL_law 1310 = .ok (.invokevirtual 217, 3) := by decide +kernel
theorem dL_law_1313 : decode cL_law 1313 = .ok (.aload_n 2, 1) := by decide +kernel
theorem dL_law_1314 : decode cL_law 1314 = .ok (.invokevirtual 220, 3) := by decide +kernel
theorem dL_law_1317 : decode cL_law 1317 = .ok (.if_icmp .eq 1844, 3) := by decide +kernel
theorem dL_law_1320 : decode cL_law 1320 = .ok (.iconst 0, 1) := by decide +kernel
theorem dL_law_1321 : decode cL_law 1321 = .ok (.ireturn, 1) := by decide +kernel
theorem dL_law_1322 : decode cL_law 1322 = .ok (.aload_n 1, 1) := by decide +kernel
theorem dL_law_1323 : decode cL_law 1323 = .ok (.invokevirtual 221, 3) := by decide +kernel
theorem dL_law_1326 : decode cL_law 1326 = .ok (.aload_n 2, 1) := by decide +kernel
theorem dL_law_1327 : decode cL_law 1327 = .ok (.invokevirtual 224, 3) := by decide +kernel
theorem dL_law_1330 : decode cL_law 1330 = .ok (.if_icmp .eq 1831, 3) := by decide +kernel
theorem dL_law_1333 : decode cL_law 1333 = .ok (.iconst 0, 1) := by decide +kernel
theorem dL_law_1334 : decode cL_law 1334 = .ok (.ireturn, 1) := by decide +kernel
theorem dL_law_1335 : decode cL_law 1335 = .ok (.aload_n 1, 1) := by decide +kernel
theorem dL_law_1336 : decode cL_law 1336 = .ok (.aload_n 0, 1) := by decide +kernel
theorem dL_law_1337 : decode cL_law 1337 = .ok (.iload 4, 2) := by decide +kernel
theorem dL_law_1339 : decode cL_law 1339 = .ok (.iconst 1, 1) := by decide +kernel
theorem dL_law_1340 : decode cL_law 1340 = .ok (.iadd, 1) := by decide +kernel
theorem dL_law_1341 : decode cL_law 1341 = .ok (.iaload, 1) := by decide +kernel
theorem dL_law_1342 : decode cL_law 1342 = .ok (.aload_n 3, 1) := by decide +kernel
theorem dL_law_1343 : decode cL_law 1343 = .ok (.invokestatic 225, 3) := by decide +kernel
theorem dL_law_1346 : decode cL_law 1346 = .ok (.istore 5, 2) := by decide +kernel
theorem dL_law_1348 : decode cL_law 1348 = .ok (.aload_n 2, 1) := by decide +kernel
theorem dL_law_1349 : decode cL_law 1349 = .ok (.aload_n 0, 1) := by decide +kernel
theorem dL_law_1350 : decode cL_law 1350 = .ok (.iload 4, 2) := by decide +kernel
theorem dL_law_1352 : decode cL_law 1352 = .ok (.iconst 1, 1) := by decide +kernel
theorem dL_law_1353 : decode cL_law 1353 = .ok (.iadd, 1) := by decide +kernel
theorem dL_law_1354 : decode cL_law 1354 = .ok (.iaload, 1) := by decide +kernel
theorem dL_law_1355 : decode cL_law 1355 = .ok (.invokevirtual 227, 3) := by decide +kernel
theorem dL_law_1358 : decode cL_law 1358 = .ok (.istore 6, 2) := by decide +kernel
theorem dL_law_1360 : decode cL_law 1360 = .ok (.aload_n 2, 1) := by decide +kernel
theorem dL_law_1361 : decode cL_law 1361 = .ok (.invokevirtual 156, 3) := by decide +kernel
theorem dL_law_1364 : decode cL_law 1364 = .ok (.iload 5, 2) := by decide +kernel
theorem dL_law_1366 : decode cL_law 1366 = .ok (.if_icmp .eq 5, 3) := by decide +kernel
theorem dL_law_1369 : decode cL_law 1369 = .ok (.iconst 0, 1) := by decide +kernel
theorem dL_law_1370 : decode cL_law 1370 = .ok (.ireturn, 1) := by decide +kernel
theorem dL_law_1371 : decode cL_law 1371 = .ok (.iload 5, 2) := by decide +kernel
theorem dL_law_1373 : decode cL_law 1373 = .ok (.ifCond .ne 15, 3) := by decide +kernel
theorem dL_law_1376 : decode cL_law 1376 = .ok (.aload_n 3, 1) := by decide +kernel
theorem dL_law_1377 : decode cL_law 1377 = .ok (.iconst 0, 1) := by decide +kernel
theorem dL_law_1378 : decode cL_law 1378 = .ok (.laload, 1) := by decide +kernel
theorem dL_law_1379 : decode cL_law 1379 = .ok (.iload 6, 2) := by decide +kernel
theorem dL_law_1381 : decode cL_law 1381 = .ok (.i2l, 1) := by decide +kernel
theorem dL_law_1382 : decode cL_law 1382 = .ok (.lcmp, 1) := by decide +kernel
theorem dL_law_1383 : decode cL_law 1383 = .ok (.ifCond .eq 5, 3) := by decide +kernel
theorem dL_law_1386 : decode cL_law 1386 = .ok (.iconst 0, 1) := by decide +kernel
theorem dL_law_1387 : decode cL_law 1387 = .ok (.ireturn, 1) := by decide +kernel
theorem dL_law_1388 : decode cL_law 1388 = .ok (.goto 1773, 3) := by decide +kernel
theorem dL_law_1391 : decode cL_law 1391 = .ok (.aload_n 1, 1) := by decide +kernel
theorem dL_law_1392 : decode cL_law 1392 = .ok (.aload_n 0, 1) := by decide +kernel
theorem dL_law_1393 : decode cL_law 1393 = .ok (.iload 4, 2) := by decide +kernel
theorem dL_law_1395 : decode cL_law 1395 = .ok (.iconst 1, 1) := by decide +kernel
theorem dL_law_1396 : decode cL_law 1396 = .ok (.iadd, 1) := by decide +kernel
theorem dL_law_1397 : decode cL_law 1397 = .ok (.iaload, 1) := by decide +kernel
theorem dL_law_1398 : decode cL_law 1398 = .ok (.aload_n 0, 1) := by decide +kernel
theorem dL_law_1399 : decode cL_law 1399 = .ok (.iload 4, 2) := by decide +kernel
theorem dL_law_1401 : decode cL_law 1401 = .ok (.iconst 2, 1) := by decide +kernel
theorem dL_law_1402 : decode cL_law 1402 = .ok (.iadd, 1) := by decide +kernel
theorem dL_law_1403 : decode cL_law 1403 = .ok (.iaload, 1) := by decide +kernel
theorem dL_law_1404 : decode cL_law 1404 = .ok (.aload_n 3, 1) := by decide +kernel
theorem dL_law_1405 : decode cL_law 1405 = .ok (.invokestatic 228, 3) := by decide +kernel
theorem dL_law_1408 : decode cL_law 1408 = .ok (.istore 5, 2) := by decide +kernel
theorem dL_law_1410 : decode cL_law 1410 = .ok (.aload_n 2, 1) := by decide +kernel
theorem dL_law_1411 : decode cL_law 1411 = .ok (.aload_n 0, 1) := by decide +kernel
theorem dL_law_1412 : decode cL_law 1412 = .ok (.iload 4, 2) := by decide +kernel
theorem dL_law_1414 : decode cL_law 1414 = .ok (.iconst 1, 1) := by decide +kernel
theorem dL_law_1415 : decode cL_law 1415 = .ok (.iadd, 1) := by decide +kernel
theorem dL_law_1416 : decode cL_law 1416 = .ok (.iaload, 1) := by decide +kernel
theorem dL_law_1417 : decode cL_law 1417 = .ok (.aload_n 0, 1) := by decide +kernel
theorem dL_law_1418 : decode cL_law 1418 = .ok (.iload 4, 2) := by decide +kernel
theorem dL_law_1420 : decode cL_law 1420 = .ok (.iconst 2, 1) := by decide +kernel
theorem dL_law_1421 : decode cL_law 1421 = .ok (.iadd, 1) := by decide +kernel
theorem dL_law_1422 : decode cL_law 1422 = .ok (.iaload, 1) := by decide +kernel
theorem dL_law_1423 : decode cL_law 1423 = .ok (.invokevirtual 230, 3) := by decide +kernel
theorem dL_law_1426 : decode cL_law 1426 = .ok (.istore 6, 2) := by decide +kernel
theorem dL_law_1428 : decode cL_law 1428 = .ok (.aload_n 2, 1) := by decide +kernel
theorem dL_law_1429 : decode cL_law 1429 = .ok (.invokevirtual 156, 3) := by decide +kernel
theorem dL_law_1432 : decode cL_law 1432 = .ok (.iload 5, 2) := by decide +kernel
theorem dL_law_1434 : decode cL_law 1434 = .ok (.if_icmp .eq 5, 3) := by decide +kernel
theorem dL_law_1437 : decode cL_law 1437 = .ok (.iconst 0, 1) := by decide +kernel
theorem dL_law_1438 : decode cL_law 1438 = .ok (.ireturn, 1) := by decide +kernel
theorem dL_law_1439 : decode cL_law 1439 = .ok (.iload 5, 2) := by decide +kernel
theorem dL_law_1441 : decode cL_law 1441 = .ok (.ifCond .ne 15, 3) := by decide +kernel
theorem dL_law_1444 : decode cL_law 1444 = .ok (.aload_n 3, 1) := by decide +kernel
theorem dL_law_1445 : decode cL_law 1445 = .ok (.iconst 0, 1) := by decide +kernel
theorem dL_law_1446 : decode cL_law 1446 = .ok (.laload, 1) := by decide +kernel
theorem dL_law_1447 : decode cL_law 1447 = .ok (.iload 6, 2) := by decide +kernel
theorem dL_law_1449 : decode cL_law 1449 = .ok (.i2l, 1) := by decide +kernel
theorem dL_law_1450 : decode cL_law 1450 = .ok (.lcmp, 1) := by decide +kernel
theorem dL_law_1451 : decode cL_law 1451 = .ok (.ifCond .eq 5, 3) := by decide +kernel
theorem dL_law_1454 : decode cL_law 1454 = .ok (.iconst 0, 1) := by decide +kernel
theorem dL_law_1455 : decode cL_law 1455 = .ok (.ireturn, 1) := by decide +kernel
theorem dL_law_1456 : decode cL_law 1456 = .ok (.goto 1705, 3) := by decide +kernel
theorem dL_law_1459 : decode cL_law 1459 = .ok (.aload_n 1, 1) := by decide +kernel
theorem dL_law_1460 : decode cL_law 1460 = .ok (.aload_n 0, 1) := by decide +kernel
theorem dL_law_1461 : decode cL_law 1461 = .ok (.iload 4, 2) := by decide +kernel
theorem dL_law_1463 : decode cL_law 1463 = .ok (.iconst 1, 1) := by decide +kernel
theorem dL_law_1464 : decode cL_law 1464 = .ok (.iadd, 1) := by decide +kernel
theorem dL_law_1465 : decode cL_law 1465 = .ok (.iaload, 1) := by decide +kernel
theorem dL_law_1466 : decode cL_law 1466 = .ok (.aload_n 3, 1) := by decide +kernel
theorem dL_law_1467 : decode cL_law 1467 = .ok (.invokestatic 231, 3) := by decide +kernel
theorem dL_law_1470 : decode cL_law 1470 = .ok (.istore 5, 2) := by decide +kernel
theorem dL_law_1472 : decode cL_law 1472 = .ok (.aload_n 2, 1) := by decide +kernel
theorem dL_law_1473 : decode cL_law 1473 = .ok (.aload_n 0, 1) := by decide +kernel
theorem dL_law_1474 : decode cL_law 1474 = .ok (.iload 4, 2) := by decide +kernel
theorem dL_law_1476 : decode cL_law 1476 = .ok (.iconst 1, 1) := by decide +kernel
theorem dL_law_1477 : decode cL_law 1477 = .ok (.iadd, 1) := by decide +kernel
theorem dL_law_1478 : decode cL_law 1478 = .ok (.iaload, 1) := by decide +kernel
theorem dL_law_1479 : decode cL_law 1479 = .ok (.invokevirtual 233, 3) := by decide +kernel
theorem dL_law_1482 : decode cL_law 1482 = .ok (.istore 6, 2) := by decide +kernel
theorem dL_law_1484 : decode cL_law 1484 = .ok (.aload_n 2, 1) := by decide +kernel
theorem dL_law_1485 : decode cL_law 1485 = .ok (.invokevirtual 156, 3) := by decide +kernel
theorem dL_law_1488 : decode cL_law 1488 = .ok (.iload 5, 2) := by decide +kernel
theorem dL_law_1490 : decode cL_law 1490 = .ok (.if_icmp .eq 5, 3) := by decide +kernel
theorem dL_law_1493 : decode cL_law 1493 = .ok (.iconst 0, 1) := by decide +kernel
theorem dL_law_1494 : decode cL_law 1494 = .ok (.ireturn, 1) := by decide +kernel
theorem dL_law_1495 : decode cL_law 1495 = .ok (.iload 5, 2) := by decide +kernel
theorem dL_law_1497 : decode cL_law 1497 = .ok (.ifCond .ne 15, 3) := by decide +kernel
theorem dL_law_1500 : decode cL_law 1500 = .ok (.aload_n 3, 1) := by decide +kernel
theorem dL_law_1501 : decode cL_law 1501 = .ok (.iconst 0, 1) := by decide +kernel
theorem dL_law_1502 : decode cL_law 1502 = .ok (.laload, 1) := by decide +kernel
theorem dL_law_1503 : decode cL_law 1503 = .ok (.iload 6, 2) := by decide +kernel
theorem dL_law_1505 : decode cL_law 1505 = .ok (.i2l, 1) := by decide +kernel
theorem dL_law_1506 : decode cL_law 1506 = .ok (.lcmp, 1) := by decide +kernel
theorem dL_law_1507 : decode cL_law 1507 = .ok (.ifCond .eq 5, 3) := by decide +kernel
theorem dL_law_1510 : decode cL_law 1510 = .ok (.iconst 0, 1) := by decide +kernel
theorem dL_law_1511 : decode cL_law 1511 = .ok (.ireturn, 1) := by decide +kernel
theorem dL_law_1512 : decode cL_law 1512 = .ok (.goto 1649, 3) := by decide +kernel
theorem dL_law_1515 : decode cL_law 1515 = .ok (.aload_n 1, 1) := by decide +kernel
theorem dL_law_1516 : decode cL_law 1516 = .ok (.aload_n 0, 1) := by decide +kernel
theorem dL_law_1517 : decode cL_law 1517 = .ok (.iload 4, 2) := by decide +kernel
theorem dL_law_1519 : decode cL_law 1519 = .ok (.iconst 1, 1) := by decide +kernel
theorem dL_law_1520 : decode cL_law 1520 = .ok (.iadd, 1) := by decide +kernel
theorem dL_law_1521 : decode cL_law 1521 = .ok (.iaload, 1) := by decide +kernel
theorem dL_law_1522 : decode cL_law 1522 = .ok (.aload_n 3, 1) := by decide +kernel
theorem dL_law_1523 : decode cL_law 1523 = .ok (.invokestatic 234, 3) := by decide +kernel
theorem dL_law_1526 : decode cL_law 1526 = .ok (.istore 5, 2) := by decide +kernel
theorem dL_law_1528 : decode cL_law 1528 = .ok (.aload_n 2, 1) := by decide +kernel
theorem dL_law_1529 : decode cL_law 1529 = .ok (.aload_n 0, 1) := by decide +kernel
theorem dL_law_1530 : decode cL_law 1530 = .ok (.iload 4, 2) := by decide +kernel
theorem dL_law_1532 : decode cL_law 1532 = .ok (.iconst 1, 1) := by decide +kernel
theorem dL_law_1533 : decode cL_law 1533 = .ok (.iadd, 1) := by decide +kernel
theorem dL_law_1534 : decode cL_law 1534 = .ok (.iaload, 1) := by decide +kernel
theorem dL_law_1535 : decode cL_law 1535 = .ok (.invokevirtual 236, 3) := by decide +kernel
theorem dL_law_1538 : decode cL_law 1538 = .ok (.istore 6, 2) := by decide +kernel
theorem dL_law_1540 : decode cL_law 1540 = .ok (.aload_n 2, 1) := by decide +kernel
theorem dL_law_1541 : decode cL_law 1541 = .ok (.invokevirtual 156, 3) := by decide +kernel
theorem dL_law_1544 : decode cL_law 1544 = .ok (.iload 5, 2) := by decide +kernel
theorem dL_law_1546 : decode cL_law 1546 = .ok (.if_icmp .eq 5, 3) := by decide +kernel
theorem dL_law_1549 : decode cL_law 1549 = .ok (.iconst 0, 1) := by decide +kernel
theorem dL_law_1550 : decode cL_law 1550 = .ok (.ireturn, 1) := by decide +kernel
theorem dL_law_1551 : decode cL_law 1551 = .ok (.iload 5, 2) := by decide +kernel
theorem dL_law_1553 : decode cL_law 1553 = .ok (.ifCond .ne 15, 3) := by decide +kernel
theorem dL_law_1556 : decode cL_law 1556 = .ok (.aload_n 3, 1) := by decide +kernel
theorem dL_law_1557 : decode cL_law 1557 = .ok (.iconst 0, 1) := by decide +kernel
theorem dL_law_1558 : decode cL_law 1558 = .ok (.laload, 1) := by decide +kernel
theorem dL_law_1559 : decode cL_law 1559 = .ok (.iload 6, 2) := by decide +kernel
theorem dL_law_1561 : decode cL_law 1561 = .ok (.i2l, 1) := by decide +kernel
theorem dL_law_1562 : decode cL_law 1562 = .ok (.lcmp, 1) := by decide +kernel
theorem dL_law_1563 : decode cL_law 1563 = .ok (.ifCond .eq 5, 3) := by decide +kernel
theorem dL_law_1566 : decode cL_law 1566 = .ok (.iconst 0, 1) := by decide +kernel
theorem dL_law_1567 : decode cL_law 1567 = .ok (.ireturn, 1) := by decide +kernel
theorem dL_law_1568 : decode cL_law 1568 = .ok (.goto 1593, 3) := by decide +kernel
theorem dL_law_1571 : decode cL_law 1571 = .ok (.aload_n 1, 1) := by decide +kernel
theorem dL_law_1572 : decode cL_law 1572 = .ok (.aload_n 0, 1) := by decide +kernel
theorem dL_law_1573 : decode cL_law 1573 = .ok (.iload 4, 2) := by decide +kernel
theorem dL_law_1575 : decode cL_law 1575 = .ok (.iconst 1, 1) := by decide +kernel
theorem dL_law_1576 : decode cL_law 1576 = .ok (.iadd, 1) := by decide +kernel
theorem dL_law_1577 : decode cL_law 1577 = .ok (.iaload, 1) := by decide +kernel
theorem dL_law_1578 : decode cL_law 1578 = .ok (.aload_n 0, 1) := by decide +kernel
theorem dL_law_1579 : decode cL_law 1579 = .ok (.iload 4, 2) := by decide +kernel
theorem dL_law_1581 : decode cL_law 1581 = .ok (.iconst 2, 1) := by decide +kernel
theorem dL_law_1582 : decode cL_law 1582 = .ok (.iadd, 1) := by decide +kernel
theorem dL_law_1583 : decode cL_law 1583 = .ok (.iaload, 1) := by decide +kernel
theorem dL_law_1584 : decode cL_law 1584 = .ok (.aload_n 3, 1) := by decide +kernel
theorem dL_law_1585 : decode cL_law 1585 = .ok (.invokestatic 237, 3) := by decide +kernel
theorem dL_law_1588 : decode cL_law 1588 = .ok (.istore 5, 2) := by decide +kernel
theorem dL_law_1590 : decode cL_law 1590 = .ok (.aload_n 2, 1) := by decide +kernel
theorem dL_law_1591 : decode cL_law 1591 = .ok (.aload_n 0, 1) := by decide +kernel
theorem dL_law_1592 : decode cL_law 1592 = .ok (.iload 4, 2) := by decide +kernel
theorem dL_law_1594 : decode cL_law 1594 = .ok (.iconst 1, 1) := by decide +kernel
theorem dL_law_1595 : decode cL_law 1595 = .ok (.iadd, 1) := by decide +kernel
theorem dL_law_1596 : decode cL_law 1596 = .ok (.iaload, 1) := by decide +kernel
theorem dL_law_1597 : decode cL_law 1597 = .ok (.aload_n 0, 1) := by decide +kernel
theorem dL_law_1598 : decode cL_law 1598 = .ok (.iload 4, 2) := by decide +kernel
theorem dL_law_1600 : decode cL_law 1600 = .ok (.iconst 2, 1) := by decide +kernel
theorem dL_law_1601 : decode cL_law 1601 = .ok (.iadd, 1) := by decide +kernel
theorem dL_law_1602 : decode cL_law 1602 = .ok (.iaload, 1) := by decide +kernel
theorem dL_law_1603 : decode cL_law 1603 = .ok (.invokevirtual 239, 3) := by decide +kernel
theorem dL_law_1606 : decode cL_law 1606 = .ok (.istore 6, 2) := by decide +kernel
theorem dL_law_1608 : decode cL_law 1608 = .ok (.aload_n 2, 1) := by decide +kernel
theorem dL_law_1609 : decode cL_law 1609 = .ok (.invokevirtual 156, 3) := by decide +kernel
theorem dL_law_1612 : decode cL_law 1612 = .ok (.iload 5, 2) := by decide +kernel
theorem dL_law_1614 : decode cL_law 1614 = .ok (.if_icmp .eq 5, 3) := by decide +kernel
theorem dL_law_1617 : decode cL_law 1617 = .ok (.iconst 0, 1) := by decide +kernel
theorem dL_law_1618 : decode cL_law 1618 = .ok (.ireturn, 1) := by decide +kernel
theorem dL_law_1619 : decode cL_law 1619 = .ok (.iload 5, 2) := by decide +kernel
theorem dL_law_1621 : decode cL_law 1621 = .ok (.ifCond .ne 15, 3) := by decide +kernel
theorem dL_law_1624 : decode cL_law 1624 = .ok (.aload_n 3, 1) := by decide +kernel
theorem dL_law_1625 : decode cL_law 1625 = .ok (.iconst 0, 1) := by decide +kernel
theorem dL_law_1626 : decode cL_law 1626 = .ok (.laload, 1) := by decide +kernel
theorem dL_law_1627 : decode cL_law 1627 = .ok (.iload 6, 2) := by decide +kernel
theorem dL_law_1629 : decode cL_law 1629 = .ok (.i2l, 1) := by decide +kernel
theorem dL_law_1630 : decode cL_law 1630 = .ok (.lcmp, 1) := by decide +kernel
theorem dL_law_1631 : decode cL_law 1631 = .ok (.ifCond .eq 5, 3) := by decide +kernel
theorem dL_law_1634 : decode cL_law 1634 = .ok (.iconst 0, 1) := by decide +kernel
theorem dL_law_1635 : decode cL_law 1635 = .ok (.ireturn, 1) := by decide +kernel
theorem dL_law_1636 : decode cL_law 1636 = .ok (.goto 1525, 3) := by decide +kernel
theorem dL_law_1639 : decode cL_law 1639 = .ok (.aload_n 1, 1) := by decide +kernel
theorem dL_law_1640 : decode cL_law 1640 = .ok (.aload_n 0, 1) := by decide +kernel
theorem dL_law_1641 : decode cL_law 1641 = .ok (.iload 4, 2) := by decide +kernel
theorem dL_law_1643 : decode cL_law 1643 = .ok (.iconst 1, 1) := by decide +kernel
theorem dL_law_1644 : decode cL_law 1644 = .ok (.iadd, 1) := by decide +kernel
theorem dL_law_1645 : decode cL_law 1645 = .ok (.iaload, 1) := by decide +kernel
theorem dL_law_1646 : decode cL_law 1646 = .ok (.aload_n 0, 1) := by decide +kernel
theorem dL_law_1647 : decode cL_law 1647 = .ok (.iload 4, 2) := by decide +kernel
theorem dL_law_1649 : decode cL_law 1649 = .ok (.iconst 2, 1) := by decide +kernel
theorem dL_law_1650 : decode cL_law 1650 = .ok (.iadd, 1) := by decide +kernel
theorem dL_law_1651 : decode cL_law 1651 = .ok (.iaload, 1) := by decide +kernel
theorem dL_law_1652 : decode cL_law 1652 = .ok (.aload_n 0, 1) := by decide +kernel
theorem dL_law_1653 : decode cL_law 1653 = .ok (.iload 4, 2) := by decide +kernel
theorem dL_law_1655 : decode cL_law 1655 = .ok (.iconst 3, 1) := by decide +kernel
theorem dL_law_1656 : decode cL_law 1656 = .ok (.iadd, 1) := by decide +kernel
theorem dL_law_1657 : decode cL_law 1657 = .ok (.iaload, 1) := by decide +kernel
theorem dL_law_1658 : decode cL_law 1658 = .ok (.aload_n 0, 1) := by decide +kernel
theorem dL_law_1659 : decode cL_law 1659 = .ok (.iload 4, 2) := by decide +kernel
theorem dL_law_1661 : decode cL_law 1661 = .ok (.iconst 4, 1) := by decide +kernel
theorem dL_law_1662 : decode cL_law 1662 = .ok (.iadd, 1) := by decide +kernel
theorem dL_law_1663 : decode cL_law 1663 = .ok (.iaload, 1) := by decide +kernel
theorem dL_law_1664 : decode cL_law 1664 = .ok (.aload_n 3, 1) := by decide +kernel
theorem dL_law_1665 : decode cL_law 1665 = .ok (.invokestatic 240, 3) := by decide +kernel
theorem dL_law_1668 : decode cL_law 1668 = .ok (.istore 5, 2) := by decide +kernel
theorem dL_law_1670 : decode cL_law 1670 = .ok (.aload_n 2, 1) := by decide +kernel
theorem dL_law_1671 : decode cL_law 1671 = .ok (.aload_n 0, 1) := by decide +kernel
theorem dL_law_1672 : decode cL_law 1672 = .ok (.iload 4, 2) := by decide +kernel
theorem dL_law_1674 : decode cL_law 1674 = .ok (.iconst 1, 1) := by decide +kernel
theorem dL_law_1675 : decode cL_law 1675 = .ok (.iadd, 1) := by decide +kernel
theorem dL_law_1676 : decode cL_law 1676 = .ok (.iaload, 1) := by decide +kernel
theorem dL_law_1677 : decode cL_law 1677 = .ok (.aload_n 0, 1) := by decide +kernel
theorem dL_law_1678 : decode cL_law 1678 = .ok (.iload 4, 2) := by decide +kernel
theorem dL_law_1680 : decode cL_law 1680 = .ok (.iconst 2, 1) := by decide +kernel
theorem dL_law_1681 : decode cL_law 1681 = .ok (.iadd, 1) := by decide +kernel
theorem dL_law_1682 : decode cL_law 1682 = .ok (.iaload, 1) := by decide +kernel
theorem dL_law_1683 : decode cL_law 1683 = .ok (.aload_n 0, 1) := by decide +kernel
theorem dL_law_1684 : decode cL_law 1684 = .ok (.iload 4, 2) := by decide +kernel
theorem dL_law_1686 : decode cL_law 1686 = .ok (.iconst 3, 1) := by decide +kernel
theorem dL_law_1687 : decode cL_law 1687 = .ok (.iadd, 1) := by decide +kernel
theorem dL_law_1688 : decode cL_law 1688 = .ok (.iaload, 1) := by decide +kernel
theorem dL_law_1689 : decode cL_law 1689 = .ok (.aload_n 0, 1) := by decide +kernel
theorem dL_law_1690 : decode cL_law 1690 = .ok (.iload 4, 2) := by decide +kernel
theorem dL_law_1692 : decode cL_law 1692 = .ok (.iconst 4, 1) := by decide +kernel
theorem dL_law_1693 : decode cL_law 1693 = .ok (.iadd, 1) := by decide +kernel
theorem dL_law_1694 : decode cL_law 1694 = .ok (.iaload, 1) := by decide +kernel
theorem dL_law_1695 : decode cL_law 1695 = .ok (.invokevirtual 242, 3) := by decide +kernel
theorem dL_law_1698 : decode cL_law 1698 = .ok (.istore 6, 2) := by decide +kernel
theorem dL_law_1700 : decode cL_law 1700 = .ok (.aload_n 2, 1) := by decide +kernel
theorem dL_law_1701 : decode cL_law 1701 = .ok (.invokevirtual 156, 3) := by decide +kernel
theorem dL_law_1704 : decode cL_law 1704 = .ok (.iload 5, 2) := by decide +kernel
theorem dL_law_1706 : decode cL_law 1706 = .ok (.if_icmp .eq 5, 3) := by decide +kernel
theorem dL_law_1709 : decode cL_law 1709 = .ok (.iconst 0, 1) := by decide +kernel
theorem dL_law_1710 : decode cL_law 1710 = .ok (.ireturn, 1) := by decide +kernel
theorem dL_law_1711 : decode cL_law 1711 = .ok (.iload 5, 2) := by decide +kernel
theorem dL_law_1713 : decode cL_law 1713 = .ok (.ifCond .ne 15, 3) := by decide +kernel
theorem dL_law_1716 : decode cL_law 1716 = .ok (.aload_n 3, 1) := by decide +kernel
theorem dL_law_1717 : decode cL_law 1717 = .ok (.iconst 0, 1) := by decide +kernel
theorem dL_law_1718 : decode cL_law 1718 = .ok (.laload, 1) := by decide +kernel
theorem dL_law_1719 : decode cL_law 1719 = .ok (.iload 6, 2) := by decide +kernel
theorem dL_law_1721 : decode cL_law 1721 = .ok (.i2l, 1) := by decide +kernel
theorem dL_law_1722 : decode cL_law 1722 = .ok (.lcmp, 1) := by decide +kernel
theorem dL_law_1723 : decode cL_law 1723 = .ok (.ifCond .eq 5, 3) := by decide +kernel
theorem dL_law_1726 : decode cL_law 1726 = .ok (.iconst 0, 1) := by decide +kernel
theorem dL_law_1727 : decode cL_law 1727 = .ok (.ireturn, 1) := by decide +kernel
theorem dL_law_1728 : decode cL_law 1728 = .ok (.goto 1433, 3) := by decide +kernel
theorem dL_law_1731 : decode cL_law 1731 = .ok (.aload_n 1, 1) := by decide +kernel
theorem dL_law_1732 : decode cL_law 1732 = .ok (.aload_n 0, 1) := by decide +kernel
theorem dL_law_1733 : decode cL_law 1733 = .ok (.iload 4, 2) := by decide +kernel
theorem dL_law_1735 : decode cL_law 1735 = .ok (.iconst 1, 1) := by decide +kernel
theorem dL_law_1736 : decode cL_law 1736 = .ok (.iadd, 1) := by decide +kernel
theorem dL_law_1737 : decode cL_law 1737 = .ok (.iaload, 1) := by decide +kernel
theorem dL_law_1738 : decode cL_law 1738 = .ok (.aload_n 0, 1) := by decide +kernel
theorem dL_law_1739 : decode cL_law 1739 = .ok (.iload 4, 2) := by decide +kernel
theorem dL_law_1741 : decode cL_law 1741 = .ok (.iconst 2, 1) := by decide +kernel
theorem dL_law_1742 : decode cL_law 1742 = .ok (.iadd, 1) := by decide +kernel
theorem dL_law_1743 : decode cL_law 1743 = .ok (.iaload, 1) := by decide +kernel
theorem dL_law_1744 : decode cL_law 1744 = .ok (.aload_n 0, 1) := by decide +kernel
theorem dL_law_1745 : decode cL_law 1745 = .ok (.iload 4, 2) := by decide +kernel
theorem dL_law_1747 : decode cL_law 1747 = .ok (.iconst 3, 1) := by decide +kernel
theorem dL_law_1748 : decode cL_law 1748 = .ok (.iadd, 1) := by decide +kernel
theorem dL_law_1749 : decode cL_law 1749 = .ok (.iaload, 1) := by decide +kernel
theorem dL_law_1750 : decode cL_law 1750 = .ok (.aload_n 0, 1) := by decide +kernel
theorem dL_law_1751 : decode cL_law 1751 = .ok (.iload 4, 2) := by decide +kernel
theorem dL_law_1753 : decode cL_law 1753 = .ok (.iconst 4, 1) := by decide +kernel
theorem dL_law_1754 : decode cL_law 1754 = .ok (.iadd, 1) := by decide +kernel
theorem dL_law_1755 : decode cL_law 1755 = .ok (.iaload, 1) := by decide +kernel
theorem dL_law_1756 : decode cL_law 1756 = .ok (.aload_n 3, 1) := by decide +kernel
theorem dL_law_1757 : decode cL_law 1757 = .ok (.invokestatic 243, 3) := by decide +kernel
theorem dL_law_1760 : decode cL_law 1760 = .ok (.istore 5, 2) := by decide +kernel
theorem dL_law_1762 : decode cL_law 1762 = .ok (.aload_n 2, 1) := by decide +kernel
theorem dL_law_1763 : decode cL_law 1763 = .ok (.aload_n 0, 1) := by decide +kernel
theorem dL_law_1764 : decode cL_law 1764 = .ok (.iload 4, 2) := by decide +kernel
theorem dL_law_1766 : decode cL_law 1766 = .ok (.iconst 1, 1) := by decide +kernel
theorem dL_law_1767 : decode cL_law 1767 = .ok (.iadd, 1) := by decide +kernel
theorem dL_law_1768 : decode cL_law 1768 = .ok (.iaload, 1) := by decide +kernel
theorem dL_law_1769 : decode cL_law 1769 = .ok (.aload_n 0, 1) := by decide +kernel
theorem dL_law_1770 : decode cL_law 1770 = .ok (.iload 4, 2) := by decide +kernel
theorem dL_law_1772 : decode cL_law 1772 = .ok (.iconst 2, 1) := by decide +kernel
theorem dL_law_1773 : decode cL_law 1773 = .ok (.iadd, 1) := by decide +kernel
theorem dL_law_1774 : decode cL_law 1774 = .ok (.iaload, 1) := by decide +kernel
theorem dL_law_1775 : decode cL_law 1775 = .ok (.aload_n 0, 1) := by decide +kernel
theorem dL_law_1776 : decode cL_law 1776 = .ok (.iload 4, 2) := by decide +kernel
theorem dL_law_1778 : decode cL_law 1778 = .ok (.iconst 3, 1) := by decide +kernel
theorem dL_law_1779 : decode cL_law 1779 = .ok (.iadd, 1) := by decide +kernel
theorem dL_law_1780 : decode cL_law 1780 = .ok (.iaload, 1) := by decide +kernel
theorem dL_law_1781 : decode cL_law 1781 = .ok (.aload_n 0, 1) := by decide +kernel
theorem dL_law_1782 : decode cL_law 1782 = .ok (.iload 4, 2) := by decide +kernel
theorem dL_law_1784 : decode cL_law 1784 = .ok (.iconst 4, 1) := by decide +kernel
theorem dL_law_1785 : decode cL_law 1785 = .ok (.iadd, 1) := by decide +kernel
theorem dL_law_1786 : decode cL_law 1786 = .ok (.iaload, 1) := by decide +kernel
theorem dL_law_1787 : decode cL_law 1787 = .ok (.invokevirtual 245, 3) := by decide +kernel
theorem dL_law_1790 : decode cL_law 1790 = .ok (.istore 6, 2) := by decide +kernel
theorem dL_law_1792 : decode cL_law 1792 = .ok (.aload_n 2, 1) := by decide +kernel
theorem dL_law_1793 : decode cL_law 1793 = .ok (.invokevirtual 156, 3) := by decide +kernel
theorem dL_law_1796 : decode cL_law 1796 = .ok (.iload 5, 2) := by decide +kernel
theorem dL_law_1798 : decode cL_law 1798 = .ok (.if_icmp .eq 5, 3) := by decide +kernel
theorem dL_law_1801 : decode cL_law 1801 = .ok (.iconst 0, 1) := by decide +kernel
theorem dL_law_1802 : decode cL_law 1802 = .ok (.ireturn, 1) := by decide +kernel
theorem dL_law_1803 : decode cL_law 1803 = .ok (.iload 5, 2) := by decide +kernel
theorem dL_law_1805 : decode cL_law 1805 = .ok (.ifCond .ne 15, 3) := by decide +kernel
theorem dL_law_1808 : decode cL_law 1808 = .ok (.aload_n 3, 1) := by decide +kernel
theorem dL_law_1809 : decode cL_law 1809 = .ok (.iconst 0, 1) := by decide +kernel
theorem dL_law_1810 : decode cL_law 1810 = .ok (.laload, 1) := by decide +kernel
theorem dL_law_1811 : decode cL_law 1811 = .ok (.iload 6, 2) := by decide +kernel
theorem dL_law_1813 : decode cL_law 1813 = .ok (.i2l, 1) := by decide +kernel
theorem dL_law_1814 : decode cL_law 1814 = .ok (.lcmp, 1) := by decide +kernel
theorem dL_law_1815 : decode cL_law 1815 = .ok (.ifCond .eq 5, 3) := by decide +kernel
theorem dL_law_1818 : decode cL_law 1818 = .ok (.iconst 0, 1) := by decide +kernel
theorem dL_law_1819 : decode cL_law 1819 = .ok (.ireturn, 1) := by decide +kernel
theorem dL_law_1820 : decode cL_law 1820 = .ok (.goto 1341, 3) := by decide +kernel
theorem dL_law_1823 : decode cL_law 1823 = .ok (.aload_n 1, 1) := by decide +kernel
theorem dL_law_1824 : decode cL_law 1824 = .ok (.aload_n 0, 1) := by decide +kernel
theorem dL_law_1825 : decode cL_law 1825 = .ok (.iload 4, 2) := by decide +kernel
theorem dL_law_1827 : decode cL_law 1827 = .ok (.iconst 1, 1) := by decide +kernel
theorem dL_law_1828 : decode cL_law 1828 = .ok (.iadd, 1) := by decide +kernel
theorem dL_law_1829 : decode cL_law 1829 = .ok (.iaload, 1) := by decide +kernel
theorem dL_law_1830 : decode cL_law 1830 = .ok (.aload_n 0, 1) := by decide +kernel
theorem dL_law_1831 : decode cL_law 1831 = .ok (.iload 4, 2) := by decide +kernel
theorem dL_law_1833 : decode cL_law 1833 = .ok (.iconst 2, 1) := by decide +kernel
theorem dL_law_1834 : decode cL_law 1834 = .ok (.iadd, 1) := by decide +kernel
theorem dL_law_1835 : decode cL_law 1835 = .ok (.iaload, 1) := by decide +kernel
theorem dL_law_1836 : decode cL_law 1836 = .ok (.aload_n 0, 1) := by decide +kernel
theorem dL_law_1837 : decode cL_law 1837 = .ok (.iload 4, 2) := by decide +kernel
theorem dL_law_1839 : decode cL_law 1839 = .ok (.iconst 3, 1) := by decide +kernel
theorem dL_law_1840 : decode cL_law 1840 = .ok (.iadd, 1) := by decide +kernel
theorem dL_law_1841 : decode cL_law 1841 = .ok (.iaload, 1) := by decide +kernel
theorem dL_law_1842 : decode cL_law 1842 = .ok (.aload_n 3, 1) := by decide +kernel
theorem dL_law_1843 : decode cL_law 1843 = .ok (.invokestatic 246, 3) := by decide +kernel
theorem dL_law_1846 : decode cL_law 1846 = .ok (.istore 5, 2) := by decide +kernel
theorem dL_law_1848 : decode cL_law 1848 = .ok (.aload_n 2, 1) := by decide +kernel
theorem dL_law_1849 : decode cL_law 1849 = .ok (.aload_n 0, 1) := by decide +kernel
theorem dL_law_1850 : decode cL_law 1850 = .ok (.iload 4, 2) := by decide +kernel
theorem dL_law_1852 : decode cL_law 1852 = .ok (.iconst 1, 1) := by decide +kernel
theorem dL_law_1853 : decode cL_law 1853 = .ok (.iadd, 1) := by decide +kernel
theorem dL_law_1854 : decode cL_law 1854 = .ok (.iaload, 1) := by decide +kernel
theorem dL_law_1855 : decode cL_law 1855 = .ok (.aload_n 0, 1) := by decide +kernel
theorem dL_law_1856 : decode cL_law 1856 = .ok (.iload 4, 2) := by decide +kernel
theorem dL_law_1858 : decode cL_law 1858 = .ok (.iconst 2, 1) := by decide +kernel
theorem dL_law_1859 : decode cL_law 1859 = .ok (.iadd, 1) := by decide +kernel
theorem dL_law_1860 : decode cL_law 1860 = .ok (.iaload, 1) := by decide +kernel
theorem dL_law_1861 : decode cL_law 1861 = .ok (.aload_n 0, 1) := by decide +kernel
theorem dL_law_1862 : decode cL_law 1862 = .ok (.iload 4, 2) := by decide +kernel
theorem dL_law_1864 : decode cL_law 1864 = .ok (.iconst 3, 1) := by decide +kernel
theorem dL_law_1865 : decode cL_law 1865 = .ok (.iadd, 1) := by decide +kernel
theorem dL_law_1866 : decode cL_law 1866 = .ok (.iaload, 1) := by decide +kernel
theorem dL_law_1867 : decode cL_law 1867 = .ok (.invokevirtual 249, 3) := by decide +kernel
theorem dL_law_1870 : decode cL_law 1870 = .ok (.istore 6, 2) := by decide +kernel
theorem dL_law_1872 : decode cL_law 1872 = .ok (.aload_n 2, 1) := by decide +kernel
theorem dL_law_1873 : decode cL_law 1873 = .ok (.invokevirtual 156, 3) := by decide +kernel
theorem dL_law_1876 : decode cL_law 1876 = .ok (.iload 5, 2) := by decide +kernel
theorem dL_law_1878 : decode cL_law 1878 = .ok (.if_icmp .eq 5, 3) := by decide +kernel
theorem dL_law_1881 : decode cL_law 1881 = .ok (.iconst 0, 1) := by decide +kernel
theorem dL_law_1882 : decode cL_law 1882 = .ok (.ireturn, 1) := by decide +kernel
theorem dL_law_1883 : decode cL_law 1883 = .ok (.iload 5, 2) := by decide +kernel
theorem dL_law_1885 : decode cL_law 1885 = .ok (.ifCond .ne 15, 3) := by decide +kernel
theorem dL_law_1888 : decode cL_law 1888 = .ok (.aload_n 3, 1) := by decide +kernel
theorem dL_law_1889 : decode cL_law 1889 = .ok (.iconst 0, 1) := by decide +kernel
theorem dL_law_1890 : decode cL_law 1890 = .ok (.laload, 1) := by decide +kernel
theorem dL_law_1891 : decode cL_law 1891 = .ok (.iload 6, 2) := by decide +kernel
theorem dL_law_1893 : decode cL_law 1893 = .ok (.i2l, 1) := by decide +kernel
theorem dL_law_1894 : decode cL_law 1894 = .ok (.lcmp, 1) := by decide +kernel
theorem dL_law_1895 : decode cL_law 1895 = .ok (.ifCond .eq 5, 3) := by decide +kernel
theorem dL_law_1898 : decode cL_law 1898 = .ok (.iconst 0, 1) := by decide +kernel
