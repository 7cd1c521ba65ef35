theorem d_L_law_543 : decode b_L_law 543 = .ok (.iaload, 1) := by decide +kernel
theorem d_L_law_544 : decode b_L_law 544 = .ok (.aload_n 0, 1) := by decide +kernel
theorem d_L_law_545 : decode b_L_law 545 = .ok (.iload_n 3, 1) := by decide +kernel
theorem d_L_law_546 : decode b_L_law 546 = .ok (.iconst 2, 1) := by decide +kernel
theorem d_L_law_547 : decode b_L_law 547 = .ok (.iadd, 1) := by decide +kernel
theorem d_L_law_548 : decode b_L_law 548 = .ok (.iaload, 1) := by decide +kernel
theorem d_L_law_549 : decode b_L_law 549 = .ok (.invokevirtual 67, 3) := by decide +kernel
theorem d_L_law_552 : decode b_L_law 552 = .ok (.aload_n 2, 1) := by decide +kernel
theorem d_L_law_553 : decode b_L_law 553 = .ok (.aload_n 0, 1) := by decide +kernel
theorem d_L_law_554 : decode b_L_law 554 = .ok (.iload_n 3, 1) := by decide +kernel
theorem d_L_law_555 : decode b_L_law 555 = .ok (.iconst 1, 1) := by decide +kernel
theorem d_L_law_556 : decode b_L_law 556 = .ok (.iadd, 1) := by decide +kernel
theorem d_L_law_557 : decode b_L_law 557 = .ok (.iaload, 1) := by decide +kernel
theorem d_L_law_558 : decode b_L_law 558 = .ok (.aload_n 0, 1) := by decide +kernel
theorem d_L_law_559 : decode b_L_law 559 = .ok (.iload_n 3, 1) := by decide +kernel
theorem d_L_law_560 : decode b_L_law 560 = .ok (.iconst 2, 1) := by decide +kernel
theorem d_L_law_561 : decode b_L_law 561 = .ok (.iadd, 1) := by decide +kernel
theorem d_L_law_562 : decode b_L_law 562 = .ok (.iaload, 1) := by decide +kernel
theorem d_L_law_563 : decode b_L_law 563 = .ok (.invokevirtual 70, 3) := by decide +kernel
theorem d_L_law_566 : decode b_L_law 566 = .ok (.if_icmp .eq 127, 3) := by decide +kernel
theorem d_L_law_569 : decode b_L_law 569 = .ok (.iconst 0, 1) := by decide +kernel
theorem d_L_law_570 : decode b_L_law 570 = .ok (.ireturn, 1) := by decide +kernel
theorem d_L_law_571 : decode b_L_law 571 = .ok (.aload_n 1, 1) := by decide +kernel
theorem d_L_law_572 : decode b_L_law 572 = .ok (.aload_n 0, 1) := by decide +kernel
theorem d_L_law_573 : decode b_L_law 573 = .ok (.iload_n 3, 1) := by decide +kernel
theorem d_L_law_574 : decode b_L_law 574 = .ok (.iconst 1, 1) := by decide +kernel
theorem d_L_law_575 : decode b_L_law 575 = .ok (.iadd, 1) := by decide +kernel
theorem d_L_law_576 : decode b_L_law 576 = .ok (.iaload, 1) := by decide +kernel
theorem d_L_law_577 : decode b_L_law 577 = .ok (.aload_n 0, 1) := by decide +kernel
theorem d_L_law_578 : decode b_L_law 578 = .ok (.iload_n 3, 1) := by decide +kernel
theorem d_L_law_579 : decode b_L_law 579 = .ok (.iconst 2, 1) := by decide +kernel
theorem d_L_law_580 : decode b_L_law 580 = .ok (.iadd, 1) := by decide +kernel
theorem d_L_law_581 : decode b_L_law 581 = .ok (.iaload, 1) := by decide +kernel
theorem d_L_law_582 : decode b_L_law 582 = .ok (.aload_n 0, 1) := by decide +kernel
theorem d_L_law_583 : decode b_L_law 583 = .ok (.iload_n 3, 1) := by decide +kernel
theorem d_L_law_584 : decode b_L_law 584 = .ok (.iconst 3, 1) := by decide +kernel
theorem d_L_law_585 : decode b_L_law 585 = .ok (.iadd, 1) := by decide +kernel
theorem d_L_law_586 : decode b_L_law 586 = .ok (.iaload, 1) := by decide +kernel
theorem d_L_law_587 : decode b_L_law 587 = .ok (.aload_n 0, 1) := by decide +kernel
theorem d_L_law_588 : decode b_L_law 588 = .ok (.iload_n 3, 1) := by decide +kernel
theorem d_L_law_589 : decode b_L_law 589 = .ok (.iconst 4, 1) := by decide +kernel
theorem d_L_law_590 : decode b_L_law 590 = .ok (.iadd, 1) := by decide +kernel
theorem d_L_law_591 : decode b_L_law 591 = .ok (.iaload, 1) := by decide +kernel
theorem d_L_law_592 : decode b_L_law 592 = .ok (.invokevirtual 71, 3) := by decide +kernel
theorem d_L_law_595 : decode b_L_law 595 = .ok (.aload_n 2, 1) := by decide +kernel
theorem d_L_law_596 : decode b_L_law 596 = .ok (.aload_n 0, 1) := by decide +kernel
theorem d_L_law_597 : decode b_L_law 597 = .ok (.iload_n 3, 1) := by decide +kernel
theorem d_L_law_598 : decode b_L_law 598 = .ok (.iconst 1, 1) := by decide +kernel
theorem d_L_law_599 : decode b_L_law 599 = .ok (.iadd, 1) := by decide +kernel
theorem d_L_law_600 : decode b_L_law 600 = .ok (.iaload, 1) := by decide +kernel
theorem d_L_law_601 : decode b_L_law 601 = .ok (.aload_n 0, 1) := by decide +kernel
theorem d_L_law_602 : decode b_L_law 602 = .ok (.iload_n 3, 1) := by decide +kernel
theorem d_L_law_603 : decode b_L_law 603 = .ok (.iconst 2, 1) := by decide +kernel
theorem d_L_law_604 : decode b_L_law 604 = .ok (.iadd, 1) := by decide +kernel
theorem d_L_law_605 : decode b_L_law 605 = .ok (.iaload, 1) := by decide +kernel
theorem d_L_law_606 : decode b_L_law 606 = .ok (.aload_n 0, 1) := by decide +kernel
theorem d_L_law_607 : decode b_L_law 607 = .ok (.iload_n 3, 1) := by decide +kernel
theorem d_L_law_608 : decode b_L_law 608 = .ok (.iconst 3, 1) := by decide +kernel
theorem d_L_law_609 : decode b_L_law 609 = .ok (.iadd, 1) := by decide +kernel
theorem d_L_law_610 : decode b_L_law 610 = .ok (.iaload, 1) := by decide +kernel
theorem d_L_law_611 : decode b_L_law 611 = .ok (.aload_n 0, 1) := by decide +kernel
theorem d_L_law_612 : decode b_L_law 612 = .ok (.iload_n 3, 1) := by decide +kernel
theorem d_L_law_613 : decode b_L_law 613 = .ok (.iconst 4, 1) := by decide +kernel
theorem d_L_law_614 : decode b_L_law 614 = .ok (.iadd, 1) := by decide +kernel
theorem d_L_law_615 : decode b_L_law 615 = .ok (.iaload, 1) := by decide +kernel
theorem d_L_law_616 : decode b_L_law 616 = .ok (.invokevirtual 75, 3) := by decide +kernel
theorem d_L_law_619 : decode b_L_law 619 = .ok (.if_icmp .eq 74, 3) := by decide +kernel
theorem d_L_law_622 : decode b_L_law 622 = .ok (.iconst 0, 1) := by decide +kernel
theorem d_L_law_623 : decode b_L_law 623 = .ok (.ireturn, 1) := by decide +kernel
theorem d_L_law_624 : decode b_L_law 624 = .ok (.aload_n 1, 1) := by decide +kernel
theorem d_L_law_625 : decode b_L_law 625 = .ok (.aload_n 0, 1) := by decide +kernel
theorem d_L_law_626 : decode b_L_law 626 = .ok (.iload_n 3, 1) := by decide +kernel
theorem d_L_law_627 : decode b_L_law 627 = .ok (.iconst 1, 1) := by decide +kernel
theorem d_L_law_628 : decode b_L_law 628 = .ok (.iadd, 1) := by decide +kernel
theorem d_L_law_629 : decode b_L_law 629 = .ok (.iaload, 1) := by decide +kernel
theorem d_L_law_630 : decode b_L_law 630 = .ok (.invokevirtual 76, 3) := by decide +kernel
theorem d_L_law_633 : decode b_L_law 633 = .ok (.aload_n 2, 1) := by decide +kernel
theorem d_L_law_634 : decode b_L_law 634 = .ok (.aload_n 0, 1) := by decide +kernel
theorem d_L_law_635 : decode b_L_law 635 = .ok (.iload_n 3, 1) := by decide +kernel
theorem d_L_law_636 : decode b_L_law 636 = .ok (.iconst 1, 1) := by decide +kernel
theorem d_L_law_637 : decode b_L_law 637 = .ok (.iadd, 1) := by decide +kernel
theorem d_L_law_638 : decode b_L_law 638 = .ok (.iaload, 1) := by decide +kernel
theorem d_L_law_639 : decode b_L_law 639 = .ok (.invokevirtual 80, 3) := by decide +kernel
theorem d_L_law_642 : decode b_L_law 642 = .ok (.if_icmp .eq 51, 3) := by decide +kernel
theorem d_L_law_645 : decode b_L_law 645 = .ok (.iconst 0, 1) := by decide +kernel
theorem d_L_law_646 : decode b_L_law 646 = .ok (.ireturn, 1) := by decide +kernel
theorem d_L_law_647 : decode b_L_law 647 = .ok (.aload_n 1, 1) := by decide +kernel
theorem d_L_law_648 : decode b_L_law 648 = .ok (.aload_n 0, 1) := by decide +kernel
theorem d_L_law_649 : decode b_L_law 649 = .ok (.iload_n 3, 1) := by decide +kernel
theorem d_L_law_650 : decode b_L_law 650 = .ok (.iconst 1, 1) := by decide +kernel
theorem d_L_law_651 : decode b_L_law 651 = .ok (.iadd, 1) := by decide +kernel
theorem d_L_law_652 : decode b_L_law 652 = .ok (.iaload, 1) := by decide +kernel
theorem d_L_law_653 : decode b_L_law 653 = .ok (.invokevirtual 81, 3) := by decide +kernel
theorem d_L_law_656 : decode b_L_law 656 = .ok (.aload_n 2, 1) := by decide +kernel
theorem d_L_law_657 : decode b_L_law 657 = .ok (.aload_n 0, 1) := by decide +kernel
theorem d_L_law_658 : decode b_L_law 658 = .ok (.iload_n 3, 1) := by decide +kernel
theorem d_L_law_659 : decode b_L_law 659 = .ok (.iconst 1, 1) := by decide +kernel
theorem d_L_law_660 : decode b_L_law 660 = .ok (.iadd, 1) := by decide +kernel
theorem d_L_law_661 : decode b_L_law 661 = .ok (.iaload, 1) := by decide +kernel
theorem d_L_law_662 : decode b_L_law 662 = .ok (.invokevirtual 84, 3) := by decide +kernel
theorem d_L_law_665 : decode b_L_law 665 = .ok (.if_icmp .eq 28, 3) := by decide +kernel
theorem d_L_law_668 : decode b_L_law 668 = .ok (.iconst 0, 1) := by decide +kernel
theorem d_L_law_669 : decode b_L_law 669 = .ok (.ireturn, 1) := by decide +kernel
theorem d_L_law_670 : decode b_L_law 670 = .ok (.aload_n 1, 1) := by decide +kernel
theorem d_L_law_671 : decode b_L_law 671 = .ok (.aload_n 0, 1) := by decide +kernel
theorem d_L_law_672 : decode b_L_law 672 = .ok (.iload_n 3, 1) := by decide +kernel
theorem d_L_law_673 : decode b_L_law 673 = .ok (.iconst 1, 1) := by decide +kernel
theorem d_L_law_674 : decode b_L_law 674 = .ok (.iadd, 1) := by decide +kernel
theorem d_L_law_675 : decode b_L_law 675 = .ok (.iaload, 1) := by decide +kernel
theorem d_L_law_676 : decode b_L_law 676 = .ok (.invokevirtual 85, 3) := by decide +kernel
theorem d_L_law_679 : decode b_L_law 679 = .ok (.aload_n 2, 1) := by decide +kernel
theorem d_L_law_680 : decode b_L_law 680 = .ok (.aload_n 0, 1) := by decide +kernel
theorem d_L_law_681 : decode b_L_law 681 = .ok (.iload_n 3, 1) := by decide +kernel
theorem d_L_law_682 : decode b_L_law 682 = .ok (.iconst 1, 1) := by decide +kernel
theorem d_L_law_683 : decode b_L_law 683 = .ok (.iadd, 1) := by decide +kernel
theorem d_L_law_684 : decode b_L_law 684 = .ok (.iaload, 1) := by decide +kernel
theorem d_L_law_685 : decode b_L_law 685 = .ok (.invokevirtual 88, 3) := by decide +kernel
theorem d_L_law_688 : decode b_L_law 688 = .ok (.if_icmp .eq 5, 3) := by decide +kernel
theorem d_L_law_691 : decode b_L_law 691 = .ok (.iconst 0, 1) := by decide +kernel
theorem d_L_law_692 : decode b_L_law 692 = .ok (.ireturn, 1) := by decide +kernel
theorem d_L_law_693 : decode b_L_law 693 = .ok (.iinc 3 5, 3) := by decide +kernel
theorem d_L_law_696 : decode b_L_law 696 = .ok (.goto (-678), 3) := by decide +kernel
theorem d_L_law_699 : decode b_L_law 699 = .ok (.iconst 1, 1) := by decide +kernel
theorem d_L_law_700 : decode b_L_law 700 = .ok (.ireturn, 1) := by decide +kernel
