theorem d_LW_law_537 : decode code 537 = .ok (.iconst 0, 1) := by decide +kernel
theorem d_LW_law_538 : decode code 538 = .ok (.ireturn, 1) := by decide +kernel
theorem d_LW_law_539 : decode code 539 = .ok (.aload_n 1, 1) := by decide +kernel
theorem d_LW_law_540 : decode code 540 = .ok (.aload_n 0, 1) := by decide +kernel
theorem d_LW_law_541 : decode code 541 = .ok (.iload_n 3, 1) := by decide +kernel
theorem d_LW_law_542 : decode code 542 = .ok (.iconst 1, 1) := by decide +kernel
theorem d_LW_law_543 : decode code 543 = .ok (.iadd, 1) := by decide +kernel
theorem d_LW_law_544 : decode code 544 = .ok (.iaload, 1) := by decide +kernel
theorem d_LW_law_545 : decode code 545 = .ok (.aload_n 0, 1) := by decide +kernel
theorem d_LW_law_546 : decode code 546 = .ok (.iload_n 3, 1) := by decide +kernel
theorem d_LW_law_547 : decode code 547 = .ok (.iconst 2, 1) := by decide +kernel
theorem d_LW_law_548 : decode code 548 = .ok (.iadd, 1) := by decide +kernel
theorem d_LW_law_549 : decode code 549 = .ok (.iaload, 1) := by decide +kernel
theorem d_LW_law_550 : decode code 550 = .ok (.invokevirtual 79, 3) := by decide +kernel
theorem d_LW_law_553 : decode code 553 = .ok (.aload_n 2, 1) := by decide +kernel
theorem d_LW_law_554 : decode code 554 = .ok (.aload_n 0, 1) := by decide +kernel
theorem d_LW_law_555 : decode code 555 = .ok (.iload_n 3, 1) := by decide +kernel
theorem d_LW_law_556 : decode code 556 = .ok (.iconst 1, 1) := by decide +kernel
theorem d_LW_law_557 : decode code 557 = .ok (.iadd, 1) := by decide +kernel
theorem d_LW_law_558 : decode code 558 = .ok (.iaload, 1) := by decide +kernel
theorem d_LW_law_559 : decode code 559 = .ok (.aload_n 0, 1) := by decide +kernel
theorem d_LW_law_560 : decode code 560 = .ok (.iload_n 3, 1) := by decide +kernel
theorem d_LW_law_561 : decode code 561 = .ok (.iconst 2, 1) := by decide +kernel
theorem d_LW_law_562 : decode code 562 = .ok (.iadd, 1) := by decide +kernel
theorem d_LW_law_563 : decode code 563 = .ok (.iaload, 1) := by decide +kernel
theorem d_LW_law_564 : decode code 564 = .ok (.invokevirtual 82, 3) := by decide +kernel
theorem d_LW_law_567 : decode code 567 = .ok (.if_icmp .eq 104, 3) := by decide +kernel
theorem d_LW_law_570 : decode code 570 = .ok (.iconst 0, 1) := by decide +kernel
theorem d_LW_law_571 : decode code 571 = .ok (.ireturn, 1) := by decide +kernel
theorem d_LW_law_572 : decode code 572 = .ok (.aload_n 1, 1) := by decide +kernel
theorem d_LW_law_573 : decode code 573 = .ok (.aload_n 0, 1) := by decide +kernel
theorem d_LW_law_574 : decode code 574 = .ok (.iload_n 3, 1) := by decide +kernel
theorem d_LW_law_575 : decode code 575 = .ok (.iconst 1, 1) := by decide +kernel
theorem d_LW_law_576 : decode code 576 = .ok (.iadd, 1) := by decide +kernel
theorem d_LW_law_577 : decode code 577 = .ok (.iaload, 1) := by decide +kernel
theorem d_LW_law_578 : decode code 578 = .ok (.aload_n 0, 1) := by decide +kernel
theorem d_LW_law_579 : decode code 579 = .ok (.iload_n 3, 1) := by decide +kernel
theorem d_LW_law_580 : decode code 580 = .ok (.iconst 2, 1) := by decide +kernel
theorem d_LW_law_581 : decode code 581 = .ok (.iadd, 1) := by decide +kernel
theorem d_LW_law_582 : decode code 582 = .ok (.iaload, 1) := by decide +kernel
theorem d_LW_law_583 : decode code 583 = .ok (.aload_n 0, 1) := by decide +kernel
theorem d_LW_law_584 : decode code 584 = .ok (.iload_n 3, 1) := by decide +kernel
theorem d_LW_law_585 : decode code 585 = .ok (.iconst 3, 1) := by decide +kernel
theorem d_LW_law_586 : decode code 586 = .ok (.iadd, 1) := by decide +kernel
theorem d_LW_law_587 : decode code 587 = .ok (.iaload, 1) := by decide +kernel
theorem d_LW_law_588 : decode code 588 = .ok (.aload_n 0, 1) := by decide +kernel
theorem d_LW_law_589 : decode code 589 = .ok (.iload_n 3, 1) := by decide +kernel
theorem d_LW_law_590 : decode code 590 = .ok (.iconst 4, 1) := by decide +kernel
theorem d_LW_law_591 : decode code 591 = .ok (.iadd, 1) := by decide +kernel
theorem d_LW_law_592 : decode code 592 = .ok (.iaload, 1) := by decide +kernel
theorem d_LW_law_593 : decode code 593 = .ok (.invokevirtual 83, 3) := by decide +kernel
theorem d_LW_law_596 : decode code 596 = .ok (.aload_n 2, 1) := by decide +kernel
theorem d_LW_law_597 : decode code 597 = .ok (.aload_n 0, 1) := by decide +kernel
theorem d_LW_law_598 : decode code 598 = .ok (.iload_n 3, 1) := by decide +kernel
theorem d_LW_law_599 : decode code 599 = .ok (.iconst 1, 1) := by decide +kernel
theorem d_LW_law_600 : decode code 600 = .ok (.iadd, 1) := by decide +kernel
theorem d_LW_law_601 : decode code 601 = .ok (.iaload, 1) := by decide +kernel
theorem d_LW_law_602 : decode code 602 = .ok (.aload_n 0, 1) := by decide +kernel
theorem d_LW_law_603 : decode code 603 = .ok (.iload_n 3, 1) := by decide +kernel
theorem d_LW_law_604 : decode code 604 = .ok (.iconst 2, 1) := by decide +kernel
theorem d_LW_law_605 : decode code 605 = .ok (.iadd, 1) := by decide +kernel
theorem d_LW_law_606 : decode code 606 = .ok (.iaload, 1) := by decide +kernel
theorem d_LW_law_607 : decode code 607 = .ok (.aload_n 0, 1) := by decide +kernel
theorem d_LW_law_608 : decode code 608 = .ok (.iload_n 3, 1) := by decide +kernel
theorem d_LW_law_609 : decode code 609 = .ok (.iconst 3, 1) := by decide +kernel
theorem d_LW_law_610 : decode code 610 = .ok (.iadd, 1) := by decide +kernel
theorem d_LW_law_611 : decode code 611 = .ok (.iaload, 1) := by decide +kernel
theorem d_LW_law_612 : decode code 612 = .ok (.aload_n 0, 1) := by decide +kernel
theorem d_LW_law_613 : decode code 613 = .ok (.iload_n 3, 1) := by decide +kernel
theorem d_LW_law_614 : decode code 614 = .ok (.iconst 4, 1) := by decide +kernel
theorem d_LW_law_615 : decode code 615 = .ok (.iadd, 1) := by decide +kernel
theorem d_LW_law_616 : decode code 616 = .ok (.iaload, 1) := by decide +kernel
theorem d_LW_law_617 : decode code 617 = .ok (.invokevirtual 87, 3) := by decide +kernel
theorem d_LW_law_620 : decode code 620 = .ok (.if_icmp .eq 51, 3) := by decide +kernel
theorem d_LW_law_623 : decode code 623 = .ok (.iconst 0, 1) := by decide +kernel
theorem d_LW_law_624 : decode code 624 = .ok (.ireturn, 1) := by decide +kernel
theorem d_LW_law_625 : decode code 625 = .ok (.aload_n 1, 1) := by decide +kernel
theorem d_LW_law_626 : decode code 626 = .ok (.aload_n 0, 1) := by decide +kernel
theorem d_LW_law_627 : decode code 627 = .ok (.iload_n 3, 1) := by decide +kernel
theorem d_LW_law_628 : decode code 628 = .ok (.iconst 1, 1) := by decide +kernel
theorem d_LW_law_629 : decode code 629 = .ok (.iadd, 1) := by decide +kernel
theorem d_LW_law_630 : decode code 630 = .ok (.iaload, 1) := by decide +kernel
theorem d_LW_law_631 : decode code 631 = .ok (.invokevirtual 88, 3) := by decide +kernel
theorem d_LW_law_634 : decode code 634 = .ok (.aload_n 2, 1) := by decide +kernel
theorem d_LW_law_635 : decode code 635 = .ok (.aload_n 0, 1) := by decide +kernel
theorem d_LW_law_636 : decode code 636 = .ok (.iload_n 3, 1) := by decide +kernel
theorem d_LW_law_637 : decode code 637 = .ok (.iconst 1, 1) := by decide +kernel
theorem d_LW_law_638 : decode code 638 = .ok (.iadd, 1) := by decide +kernel
theorem d_LW_law_639 : decode code 639 = .ok (.iaload, 1) := by decide +kernel
theorem d_LW_law_640 : decode code 640 = .ok (.invokevirtual 91, 3) := by decide +kernel
theorem d_LW_law_643 : decode code 643 = .ok (.if_icmp .eq 28, 3) := by decide +kernel
theorem d_LW_law_646 : decode code 646 = .ok (.iconst 0, 1) := by decide +kernel
theorem d_LW_law_647 : decode code 647 = .ok (.ireturn, 1) := by decide +kernel
theorem d_LW_law_648 : decode code 648 = .ok (.aload_n 1, 1) := by decide +kernel
theorem d_LW_law_649 : decode code 649 = .ok (.aload_n 0, 1) := by decide +kernel
theorem d_LW_law_650 : decode code 650 = .ok (.iload_n 3, 1) := by decide +kernel
theorem d_LW_law_651 : decode code 651 = .ok (.iconst 1, 1) := by decide +kernel
theorem d_LW_law_652 : decode code 652 = .ok (.iadd, 1) := by decide +kernel
theorem d_LW_law_653 : decode code 653 = .ok (.iaload, 1) := by decide +kernel
theorem d_LW_law_654 : decode code 654 = .ok (.invokevirtual 92, 3) := by decide +kernel
theorem d_LW_law_657 : decode code 657 = .ok (.aload_n 2, 1) := by decide +kernel
theorem d_LW_law_658 : decode code 658 = .ok (.aload_n 0, 1) := by decide +kernel
theorem d_LW_law_659 : decode code 659 = .ok (.iload_n 3, 1) := by decide +kernel
theorem d_LW_law_660 : decode code 660 = .ok (.iconst 1, 1) := by decide +kernel
theorem d_LW_law_661 : decode code 661 = .ok (.iadd, 1) := by decide +kernel
theorem d_LW_law_662 : decode code 662 = .ok (.iaload, 1) := by decide +kernel
theorem d_LW_law_663 : decode code 663 = .ok (.invokevirtual 95, 3) := by decide +kernel
theorem d_LW_law_666 : decode code 666 = .ok (.if_icmp .eq 5, 3) := by decide +kernel
theorem d_LW_law_669 : decode code 669 = .ok (.iconst 0, 1) := by decide +kernel
theorem d_LW_law_670 : decode code 670 = .ok (.ireturn, 1) := by decide +kernel
theorem d_LW_law_671 : decode code 671 = .ok (.iinc 3 5, 3) := by decide +kernel
theorem d_LW_law_674 : decode code 674 = .ok (.goto (-656), 3) := by decide +kernel
theorem d_LW_law_677 : decode code 677 = .ok (.iconst 1, 1) := by decide +kernel
theorem d_LW_law_678 : decode code 678 = .ok (.ireturn, 1) := by decide +kernel
