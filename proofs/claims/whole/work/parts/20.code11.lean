theorem dL_law_441 : decode (zcc mL_law) 441 = .ok (.invokevirtual 51, 3) := by decide +kernel
theorem dL_law_444 : decode (zcc mL_law) 444 = .ok (.aload_n 2, 1) := by decide +kernel
theorem dL_law_445 : decode (zcc mL_law) 445 = .ok (.aload_n 0, 1) := by decide +kernel
theorem dL_law_446 : decode (zcc mL_law) 446 = .ok (.iload_n 3, 1) := by decide +kernel
theorem dL_law_447 : decode (zcc mL_law) 447 = .ok (.iconst 1, 1) := by decide +kernel
theorem dL_law_448 : decode (zcc mL_law) 448 = .ok (.iadd, 1) := by decide +kernel
theorem dL_law_449 : decode (zcc mL_law) 449 = .ok (.iaload, 1) := by decide +kernel
theorem dL_law_450 : decode (zcc mL_law) 450 = .ok (.aload_n 0, 1) := by decide +kernel
theorem dL_law_451 : decode (zcc mL_law) 451 = .ok (.iload_n 3, 1) := by decide +kernel
theorem dL_law_452 : decode (zcc mL_law) 452 = .ok (.iconst 2, 1) := by decide +kernel
theorem dL_law_453 : decode (zcc mL_law) 453 = .ok (.iadd, 1) := by decide +kernel
theorem dL_law_454 : decode (zcc mL_law) 454 = .ok (.iaload, 1) := by decide +kernel
theorem dL_law_455 : decode (zcc mL_law) 455 = .ok (.ifCond .eq 7, 3) := by decide +kernel
theorem dL_law_458 : decode (zcc mL_law) 458 = .ok (.iconst 1, 1) := by decide +kernel
theorem dL_law_459 : decode (zcc mL_law) 459 = .ok (.goto 4, 3) := by decide +kernel
theorem dL_law_462 : decode (zcc mL_law) 462 = .ok (.iconst 0, 1) := by decide +kernel
theorem dL_law_463 : decode (zcc mL_law) 463 = .ok (.invokevirtual 55, 3) := by decide +kernel
theorem dL_law_466 : decode (zcc mL_law) 466 = .ok (.if_icmp .eq 287, 3) := by decide +kernel
theorem dL_law_469 : decode (zcc mL_law) 469 = .ok (.iconst 0, 1) := by decide +kernel
theorem dL_law_470 : decode (zcc mL_law) 470 = .ok (.ireturn, 1) := by decide +kernel
theorem dL_law_471 : decode (zcc mL_law) 471 = .ok (.aload_n 1, 1) := by decide +kernel
theorem dL_law_472 : decode (zcc mL_law) 472 = .ok (.aload_n 0, 1) := by decide +kernel
theorem dL_law_473 : decode (zcc mL_law) 473 = .ok (.iload_n 3, 1) := by decide +kernel
theorem dL_law_474 : decode (zcc mL_law) 474 = .ok (.iconst 1, 1) := by decide +kernel
theorem dL_law_475 : decode (zcc mL_law) 475 = .ok (.iadd, 1) := by decide +kernel
theorem dL_law_476 : decode (zcc mL_law) 476 = .ok (.iaload, 1) := by decide +kernel
theorem dL_law_477 : decode (zcc mL_law) 477 = .ok (.aload_n 0, 1) := by decide +kernel
theorem dL_law_478 : decode (zcc mL_law) 478 = .ok (.iload_n 3, 1) := by decide +kernel
theorem dL_law_479 : decode (zcc mL_law) 479 = .ok (.iconst 2, 1) := by decide +kernel
theorem dL_law_480 : decode (zcc mL_law) 480 = .ok (.iadd, 1) := by decide +kernel
theorem dL_law_481 : decode (zcc mL_law) 481 = .ok (.iaload, 1) := by decide +kernel
theorem dL_law_482 : decode (zcc mL_law) 482 = .ok (.ifCond .eq 7, 3) := by decide +kernel
theorem dL_law_485 : decode (zcc mL_law) 485 = .ok (.iconst 1, 1) := by decide +kernel
theorem dL_law_486 : decode (zcc mL_law) 486 = .ok (.goto 4, 3) := by decide +kernel
theorem dL_law_489 : decode (zcc mL_law) 489 = .ok (.iconst 0, 1) := by decide +kernel
theorem dL_law_490 : decode (zcc mL_law) 490 = .ok (.invokevirtual 56, 3) := by decide +kernel
theorem dL_law_493 : decode (zcc mL_law) 493 = .ok (.aload_n 2, 1) := by decide +kernel
theorem dL_law_494 : decode (zcc mL_law) 494 = .ok (.aload_n 0, 1) := by decide +kernel
theorem dL_law_495 : decode (zcc mL_law) 495 = .ok (.iload_n 3, 1) := by decide +kernel
theorem dL_law_496 : decode (zcc mL_law) 496 = .ok (.iconst 1, 1) := by decide +kernel
theorem dL_law_497 : decode (zcc mL_law) 497 = .ok (.iadd, 1) := by decide +kernel
theorem dL_law_498 : decode (zcc mL_law) 498 = .ok (.iaload, 1) := by decide +kernel
theorem dL_law_499 : decode (zcc mL_law) 499 = .ok (.aload_n 0, 1) := by decide +kernel
theorem dL_law_500 : decode (zcc mL_law) 500 = .ok (.iload_n 3, 1) := by decide +kernel
theorem dL_law_501 : decode (zcc mL_law) 501 = .ok (.iconst 2, 1) := by decide +kernel
theorem dL_law_502 : decode (zcc mL_law) 502 = .ok (.iadd, 1) := by decide +kernel
theorem dL_law_503 : decode (zcc mL_law) 503 = .ok (.iaload, 1) := by decide +kernel
theorem dL_law_504 : decode (zcc mL_law) 504 = .ok (.ifCond .eq 7, 3) := by decide +kernel
theorem dL_law_507 : decode (zcc mL_law) 507 = .ok (.iconst 1, 1) := by decide +kernel
theorem dL_law_508 : decode (zcc mL_law) 508 = .ok (.goto 4, 3) := by decide +kernel
theorem dL_law_511 : decode (zcc mL_law) 511 = .ok (.iconst 0, 1) := by decide +kernel
theorem dL_law_512 : decode (zcc mL_law) 512 = .ok (.invokevirtual 59, 3) := by decide +kernel
theorem dL_law_515 : decode (zcc mL_law) 515 = .ok (.if_icmp .eq 238, 3) := by decide +kernel
theorem dL_law_518 : decode (zcc mL_law) 518 = .ok (.iconst 0, 1) := by decide +kernel
theorem dL_law_519 : decode (zcc mL_law) 519 = .ok (.ireturn, 1) := by decide +kernel
theorem dL_law_520 : decode (zcc mL_law) 520 = .ok (.aload_n 1, 1) := by decide +kernel
theorem dL_law_521 : decode (zcc mL_law) 521 = .ok (.invokevirtual 60, 3) := by decide +kernel
theorem dL_law_524 : decode (zcc mL_law) 524 = .ok (.aload_n 2, 1) := by decide +kernel
theorem dL_law_525 : decode (zcc mL_law) 525 = .ok (.invokevirtual 63, 3) := by decide +kernel
theorem dL_law_528 : decode (zcc mL_law) 528 = .ok (.if_icmp .eq 225, 3) := by decide +kernel
theorem dL_law_531 : decode (zcc mL_law) 531 = .ok (.iconst 0, 1) := by decide +kernel
theorem dL_law_532 : decode (zcc mL_law) 532 = .ok (.ireturn, 1) := by decide +kernel
theorem dL_law_533 : decode (zcc mL_law) 533 = .ok (.aload_n 1, 1) := by decide +kernel
theorem dL_law_534 : decode (zcc mL_law) 534 = .ok (.aload_n 0, 1) := by decide +kernel
theorem dL_law_535 : decode (zcc mL_law) 535 = .ok (.iload_n 3, 1) := by decide +kernel
theorem dL_law_536 : decode (zcc mL_law) 536 = .ok (.iconst 1, 1) := by decide +kernel
theorem dL_law_537 : decode (zcc mL_law) 537 = .ok (.iadd, 1) := by decide +kernel
theorem dL_law_538 : decode (zcc mL_law) 538 = .ok (.iaload, 1) := by decide +kernel
theorem dL_law_539 : decode (zcc mL_law) 539 = .ok (.invokevirtual 64, 3) := by decide +kernel
theorem dL_law_542 : decode (zcc mL_law) 542 = .ok (.aload_n 2, 1) := by decide +kernel
theorem dL_law_543 : decode (zcc mL_law) 543 = .ok (.aload_n 0, 1) := by decide +kernel
theorem dL_law_544 : decode (zcc mL_law) 544 = .ok (.iload_n 3, 1) := by decide +kernel
theorem dL_law_545 : decode (zcc mL_law) 545 = .ok (.iconst 1, 1) := by decide +kernel
theorem dL_law_546 : decode (zcc mL_law) 546 = .ok (.iadd, 1) := by decide +kernel
theorem dL_law_547 : decode (zcc mL_law) 547 = .ok (.iaload, 1) := by decide +kernel
theorem dL_law_548 : decode (zcc mL_law) 548 = .ok (.invokevirtual 67, 3) := by decide +kernel
theorem dL_law_551 : decode (zcc mL_law) 551 = .ok (.if_icmp .eq 202, 3) := by decide +kernel
theorem dL_law_554 : decode (zcc mL_law) 554 = .ok (.iconst 0, 1) := by decide +kernel
theorem dL_law_555 : decode (zcc mL_law) 555 = .ok (.ireturn, 1) := by decide +kernel
theorem dL_law_556 : decode (zcc mL_law) 556 = .ok (.aload_n 1, 1) := by decide +kernel
theorem dL_law_557 : decode (zcc mL_law) 557 = .ok (.invokevirtual 68, 3) := by decide +kernel
theorem dL_law_560 : decode (zcc mL_law) 560 = .ok (.aload_n 2, 1) := by decide +kernel
theorem dL_law_561 : decode (zcc mL_law) 561 = .ok (.invokevirtual 71, 3) := by decide +kernel
theorem dL_law_564 : decode (zcc mL_law) 564 = .ok (.if_icmp .eq 189, 3) := by decide +kernel
theorem dL_law_567 : decode (zcc mL_law) 567 = .ok (.iconst 0, 1) := by decide +kernel
theorem dL_law_568 : decode (zcc mL_law) 568 = .ok (.ireturn, 1) := by decide +kernel
theorem dL_law_569 : decode (zcc mL_law) 569 = .ok (.aload_n 1, 1) := by decide +kernel
theorem dL_law_570 : decode (zcc mL_law) 570 = .ok (.aload_n 0, 1) := by decide +kernel
theorem dL_law_571 : decode (zcc mL_law) 571 = .ok (.iload_n 3, 1) := by decide +kernel
theorem dL_law_572 : decode (zcc mL_law) 572 = .ok (.iconst 1, 1) := by decide +kernel
theorem dL_law_573 : decode (zcc mL_law) 573 = .ok (.iadd, 1) := by decide +kernel
theorem dL_law_574 : decode (zcc mL_law) 574 = .ok (.iaload, 1) := by decide +kernel
theorem dL_law_575 : decode (zcc mL_law) 575 = .ok (.invokevirtual 72, 3) := by decide +kernel
theorem dL_law_578 : decode (zcc mL_law) 578 = .ok (.aload_n 2, 1) := by decide +kernel
theorem dL_law_579 : decode (zcc mL_law) 579 = .ok (.aload_n 0, 1) := by decide +kernel
theorem dL_law_580 : decode (zcc mL_law) 580 = .ok (.iload_n 3, 1) := by decide +kernel
theorem dL_law_581 : decode (zcc mL_law) 581 = .ok (.iconst 1, 1) := by decide +kernel
theorem dL_law_582 : decode (zcc mL_law) 582 = .ok (.iadd, 1) := by decide +kernel
theorem dL_law_583 : decode (zcc mL_law) 583 = .ok (.iaload, 1) := by decide +kernel
theorem dL_law_584 : decode (zcc mL_law) 584 = .ok (.invokevirtual 75, 3) := by decide +kernel
theorem dL_law_587 : decode (zcc mL_law) 587 = .ok (.if_icmp .eq 166, 3) := by decide +kernel
theorem dL_law_590 : decode (zcc mL_law) 590 = .ok (.iconst 0, 1) := by decide +kernel
theorem dL_law_591 : decode (zcc mL_law) 591 = .ok (.ireturn, 1) := by decide +kernel
theorem dL_law_592 : decode (zcc mL_law) 592 = .ok (.aload_n 1, 1) := by decide +kernel
theorem dL_law_593 : decode (zcc mL_law) 593 = .ok (.aload_n 0, 1) := by decide +kernel
theorem dL_law_594 : decode (zcc mL_law) 594 = .ok (.iload_n 3, 1) := by decide +kernel
theorem dL_law_595 : decode (zcc mL_law) 595 = .ok (.iconst 1, 1) := by decide +kernel
theorem dL_law_596 : decode (zcc mL_law) 596 = .ok (.iadd, 1) := by decide +kernel
theorem dL_law_597 : decode (zcc mL_law) 597 = .ok (.iaload, 1) := by decide +kernel
theorem dL_law_598 : decode (zcc mL_law) 598 = .ok (.aload_n 0, 1) := by decide +kernel
theorem dL_law_599 : decode (zcc mL_law) 599 = .ok (.iload_n 3, 1) := by decide +kernel
theorem dL_law_600 : decode (zcc mL_law) 600 = .ok (.iconst 2, 1) := by decide +kernel
theorem dL_law_601 : decode (zcc mL_law) 601 = .ok (.iadd, 1) := by decide +kernel
theorem dL_law_602 : decode (zcc mL_law) 602 = .ok (.iaload, 1) := by decide +kernel
theorem dL_law_603 : decode (zcc mL_law) 603 = .ok (.invokevirtual 76, 3) := by decide +kernel
theorem dL_law_606 : decode (zcc mL_law) 606 = .ok (.aload_n 2, 1) := by decide +kernel
theorem dL_law_607 : decode (zcc mL_law) 607 = .ok (.aload_n 0, 1) := by decide +kernel
theorem dL_law_608 : decode (zcc mL_law) 608 = .ok (.iload_n 3, 1) := by decide +kernel
theorem dL_law_609 : decode (zcc mL_law) 609 = .ok (.iconst 1, 1) := by decide +kernel
theorem dL_law_610 : decode (zcc mL_law) 610 = .ok (.iadd, 1) := by decide +kernel
theorem dL_law_611 : decode (zcc mL_law) 611 = .ok (.iaload, 1) := by decide +kernel
theorem dL_law_612 : decode (zcc mL_law) 612 = .ok (.aload_n 0, 1) := by decide +kernel
theorem dL_law_613 : decode (zcc mL_law) 613 = .ok (.iload_n 3, 1) := by decide +kernel
theorem dL_law_614 : decode (zcc mL_law) 614 = .ok (.iconst 2, 1) := by decide +kernel
theorem dL_law_615 : decode (zcc mL_law) 615 = .ok (.iadd, 1) := by decide +kernel
theorem dL_law_616 : decode (zcc mL_law) 616 = .ok (.iaload, 1) := by decide +kernel
theorem dL_law_617 : decode (zcc mL_law) 617 = .ok (.invokevirtual 79, 3) := by decide +kernel
theorem dL_law_620 : decode (zcc mL_law) 620 = .ok (.if_icmp .eq 133, 3) := by decide +kernel
theorem dL_law_623 : decode (zcc mL_law) 623 = .ok (.iconst 0, 1) := by decide +kernel
theorem dL_law_624 : decode (zcc mL_law) 624 = .ok (.ireturn, 1) := by decide +kernel
theorem dL_law_625 : decode (zcc mL_law) 625 = .ok (.aload_n 1, 1) := by decide +kernel
theorem dL_law_626 : decode (zcc mL_law) 626 = .ok (.aload_n 0, 1) := by decide +kernel
theorem dL_law_627 : decode (zcc mL_law) 627 = .ok (.iload_n 3, 1) := by decide +kernel
theorem dL_law_628 : decode (zcc mL_law) 628 = .ok (.iconst 1, 1) := by decide +kernel
theorem dL_law_629 : decode (zcc mL_law) 629 = .ok (.iadd, 1) := by decide +kernel
theorem dL_law_630 : decode (zcc mL_law) 630 = .ok (.iaload, 1) := by decide +kernel
theorem dL_law_631 : decode (zcc mL_law) 631 = .ok (.invokevirtual 80, 3) := by decide +kernel
theorem dL_law_634 : decode (zcc mL_law) 634 = .ok (.aload_n 2, 1) := by decide +kernel
theorem dL_law_635 : decode (zcc mL_law) 635 = .ok (.aload_n 0, 1) := by decide +kernel
theorem dL_law_636 : decode (zcc mL_law) 636 = .ok (.iload_n 3, 1) := by decide +kernel
theorem dL_law_637 : decode (zcc mL_law) 637 = .ok (.iconst 1, 1) := by decide +kernel
theorem dL_law_638 : decode (zcc mL_law) 638 = .ok (.iadd, 1) := by decide +kernel
theorem dL_law_639 : decode (zcc mL_law) 639 = .ok (.iaload, 1) := by decide +kernel
theorem dL_law_640 : decode (zcc mL_law) 640 = .ok (.invokevirtual 83, 3) := by decide +kernel
theorem dL_law_643 : decode (zcc mL_law) 643 = .ok (.if_icmp .eq 110, 3) := by decide +kernel
theorem dL_law_646 : decode (zcc mL_law) 646 = .ok (.iconst 0, 1) := by decide +kernel
theorem dL_law_647 : decode (zcc mL_law) 647 = .ok (.ireturn, 1) := by decide +kernel
theorem dL_law_648 : decode (zcc mL_law) 648 = .ok (.aload_n 1, 1) := by decide +kernel
theorem dL_law_649 : decode (zcc mL_law) 649 = .ok (.invokevirtual 84, 3) := by decide +kernel
theorem dL_law_652 : decode (zcc mL_law) 652 = .ok (.aload_n 2, 1) := by decide +kernel
theorem dL_law_653 : decode (zcc mL_law) 653 = .ok (.invokevirtual 87, 3) := by decide +kernel
theorem dL_law_656 : decode (zcc mL_law) 656 = .ok (.if_icmp .eq 97, 3) := by decide +kernel
theorem dL_law_659 : decode (zcc mL_law) 659 = .ok (.iconst 0, 1) := by decide +kernel
theorem dL_law_660 : decode (zcc mL_law) 660 = .ok (.ireturn, 1) := by decide +kernel
theorem dL_law_661 : decode (zcc mL_law) 661 = .ok (.aload_n 1, 1) := by decide +kernel
theorem dL_law_662 : decode (zcc mL_law) 662 = .ok (.aload_n 0, 1) := by decide +kernel
theorem dL_law_663 : decode (zcc mL_law) 663 = .ok (.iload_n 3, 1) := by decide +kernel
theorem dL_law_664 : decode (zcc mL_law) 664 = .ok (.iconst 1, 1) := by decide +kernel
theorem dL_law_665 : decode (zcc mL_law) 665 = .ok (.iadd, 1) := by decide +kernel
theorem dL_law_666 : decode (zcc mL_law) 666 = .ok (.iaload, 1) := by decide +kernel
theorem dL_law_667 : decode (zcc mL_law) 667 = .ok (.invokevirtual 88, 3) := by decide +kernel
theorem dL_law_670 : decode (zcc mL_law) 670 = .ok (.aload_n 2, 1) := by decide +kernel
theorem dL_law_671 : decode (zcc mL_law) 671 = .ok (.aload_n 0, 1) := by decide +kernel
theorem dL_law_672 : decode (zcc mL_law) 672 = .ok (.iload_n 3, 1) := by decide +kernel
theorem dL_law_673 : decode (zcc mL_law) 673 = .ok (.iconst 1, 1) := by decide +kernel
theorem dL_law_674 : decode (zcc mL_law) 674 = .ok (.iadd, 1) := by decide +kernel
theorem dL_law_675 : decode (zcc mL_law) 675 = .ok (.iaload, 1) := by decide +kernel
theorem dL_law_676 : decode (zcc mL_law) 676 = .ok (.invokevirtual 91, 3) := by decide +kernel
theorem dL_law_679 : decode (zcc mL_law) 679 = .ok (.if_icmp .eq 74, 3) := by decide +kernel
theorem dL_law_682 : decode (zcc mL_law) 682 = .ok (.iconst 0, 1) := by decide +kernel
theorem dL_law_683 : decode (zcc mL_law) 683 = .ok (.ireturn, 1) := by decide +kernel
theorem dL_law_684 : decode (zcc mL_law) 684 = .ok (.aload_n 1, 1) := by decide +kernel
theorem dL_law_685 : decode (zcc mL_law) 685 = .ok (.invokevirtual 92, 3) := by decide +kernel
theorem dL_law_688 : decode (zcc mL_law) 688 = .ok (.aload_n 2, 1) := by decide +kernel
theorem dL_law_689 : decode (zcc mL_law) 689 = .ok (.invokevirtual 95, 3) := by decide +kernel
theorem dL_law_692 : decode (zcc mL_law) 692 = .ok (.if_icmp .eq 61, 3) := by decide +kernel
theorem dL_law_695 : decode (zcc mL_law) 695 = .ok (.iconst 0, 1) := by decide +kernel
theorem dL_law_696 : decode (zcc mL_law) 696 = .ok (.ireturn, 1) := by decide +kernel
theorem dL_law_697 : decode (zcc mL_law) 697 = .ok (.aload_n 1, 1) := by decide +kernel
theorem dL_law_698 : decode (zcc mL_law) 698 = .ok (.aload_n 0, 1) := by decide +kernel
theorem dL_law_699 : decode (zcc mL_law) 699 = .ok (.iload_n 3, 1) := by decide +kernel
theorem dL_law_700 : decode (zcc mL_law) 700 = .ok (.iconst 1, 1) := by decide +kernel
theorem dL_law_701 : decode (zcc mL_law) 701 = .ok (.iadd, 1) := by decide +kernel
theorem dL_law_702 : decode (zcc mL_law) 702 = .ok (.iaload, 1) := by decide +kernel
theorem dL_law_703 : decode (zcc mL_law) 703 = .ok (.aload_n 0, 1) := by decide +kernel
theorem dL_law_704 : decode (zcc mL_law) 704 = .ok (.iload_n 3, 1) := by decide +kernel
theorem dL_law_705 : decode (zcc mL_law) 705 = .ok (.iconst 2, 1) := by decide +kernel
theorem dL_law_706 : decode (zcc mL_law) 706 = .ok (.iadd, 1) := by decide +kernel
theorem dL_law_707 : decode (zcc mL_law) 707 = .ok (.iaload, 1) := by decide +kernel
theorem dL_law_708 : decode (zcc mL_law) 708 = .ok (.invokevirtual 96, 3) := by decide +kernel
theorem dL_law_711 : decode (zcc mL_law) 711 = .ok (.aload_n 2, 1) := by decide +kernel
theorem dL_law_712 : decode (zcc mL_law) 712 = .ok (.aload_n 0, 1) := by decide +kernel
theorem dL_law_713 : decode (zcc mL_law) 713 = .ok (.iload_n 3, 1) := by decide +kernel
theorem dL_law_714 : decode (zcc mL_law) 714 = .ok (.iconst 1, 1) := by decide +kernel
theorem dL_law_715 : decode (zcc mL_law) 715 = .ok (.iadd, 1) := by decide +kernel
theorem dL_law_716 : decode (zcc mL_law) 716 = .ok (.iaload, 1) := by decide +kernel
theorem dL_law_717 : decode (zcc mL_law) 717 = .ok (.aload_n 0, 1) := by decide +kernel
theorem dL_law_718 : decode (zcc mL_law) 718 = .ok (.iload_n 3, 1) := by decide +kernel
theorem dL_law_719 : decode (zcc mL_law) 719 = .ok (.iconst 2, 1) := by decide +kernel
theorem dL_law_720 : decode (zcc mL_law) 720 = .ok (.iadd, 1) := by decide +kernel
theorem dL_law_721 : decode (zcc mL_law) 721 = .ok (.iaload, 1) := by decide +kernel
theorem dL_law_722 : decode (zcc mL_law) 722 = .ok (.invokevirtual 99, 3) := by decide +kernel
theorem dL_law_725 : decode (zcc mL_law) 725 = .ok (.if_icmp .eq 28, 3) := by decide +kernel
theorem dL_law_728 : decode (zcc mL_law) 728 = .ok (.iconst 0, 1) := by decide +kernel
theorem dL_law_729 : decode (zcc mL_law) 729 = .ok (.ireturn, 1) := by decide +kernel
theorem dL_law_730 : decode (zcc mL_law) 730 = .ok (.aload_n 1, 1) := by decide +kernel
theorem dL_law_731 : decode (zcc mL_law) 731 = .ok (.aload_n 0, 1) := by decide +kernel
theorem dL_law_732 : decode (zcc mL_law) 732 = .ok (.iload_n 3, 1) := by decide +kernel
theorem dL_law_733 : decode (zcc mL_law) 733 = .ok (.iconst 1, 1) := by decide +kernel
theorem dL_law_734 : decode (zcc mL_law) 734 = .ok (.iadd, 1) := by decide +kernel
theorem dL_law_735 : decode (zcc mL_law) 735 = .ok (.iaload, 1) := by decide +kernel
theorem dL_law_736 : decode (zcc mL_law) 736 = .ok (.invokevirtual 100, 3) := by decide +kernel
theorem dL_law_739 : decode (zcc mL_law) 739 = .ok (.aload_n 2, 1) := by decide +kernel
theorem dL_law_740 : decode (zcc mL_law) 740 = .ok (.aload_n 0, 1) := by decide +kernel
theorem dL_law_741 : decode (zcc mL_law) 741 = .ok (.iload_n 3, 1) := by decide +kernel
theorem dL_law_742 : decode (zcc mL_law) 742 = .ok (.iconst 1, 1) := by decide +kernel
theorem dL_law_743 : decode (zcc mL_law) 743 = .ok (.iadd, 1) := by decide +kernel
theorem dL_law_744 : decode (zcc mL_law) 744 = .ok (.iaload, 1) := by decide +kernel
theorem dL_law_745 : decode (zcc mL_law) 745 = .ok (.invokevirtual 103, 3) := by decide +kernel
theorem dL_law_748 : decode (zcc mL_law) 748 = .ok (.if_icmp .eq 5, 3) := by decide +kernel
theorem dL_law_751 : decode (zcc mL_law) 751 = .ok (.iconst 0, 1) := by decide +kernel
theorem dL_law_752 : decode (zcc mL_law) 752 = .ok (.ireturn, 1) := by decide +kernel
theorem dL_law_753 : decode (zcc mL_law) 753 = .ok (.iinc 3 6, 3) := by decide +kernel
theorem dL_law_756 : decode (zcc mL_law) 756 = .ok (.goto (-738), 3) := by decide +kernel
theorem dL_law_759 : decode (zcc mL_law) 759 = .ok (.iconst 1, 1) := by decide +kernel
theorem dL_law_760 : decode (zcc mL_law) 760 = .ok (.ireturn, 1) := by decide +kernel
