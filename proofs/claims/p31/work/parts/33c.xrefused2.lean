theorem dL_refused_508 : decode cL_refused 508 = .ok (.iload 4, 2) := by decide +kernel
theorem dL_refused_510 : decode cL_refused 510 = .ok (.sipush 1000, 3) := by decide +kernel
theorem dL_refused_513 : decode cL_refused 513 = .ok (.iadd, 1) := by decide +kernel
theorem dL_refused_514 : decode cL_refused 514 = .ok (.iconst 2, 1) := by decide +kernel
theorem dL_refused_515 : decode cL_refused 515 = .ok (.iconst 0, 1) := by decide +kernel
theorem dL_refused_516 : decode cL_refused 516 = .ok (.iconst 0, 1) := by decide +kernel
theorem dL_refused_517 : decode cL_refused 517 = .ok (.invokestatic 150, 3) := by decide +kernel
theorem dL_refused_520 : decode cL_refused 520 = .ok (.sipush (-2051), 3) := by decide +kernel
theorem dL_refused_523 : decode cL_refused 523 = .ok (.if_icmp .ne 131, 3) := by decide +kernel
theorem dL_refused_526 : decode cL_refused 526 = .ok (.aload_n 0, 1) := by decide +kernel
theorem dL_refused_527 : decode cL_refused 527 = .ok (.iload 4, 2) := by decide +kernel
theorem dL_refused_529 : decode cL_refused 529 = .ok (.iconst 1, 1) := by decide +kernel
theorem dL_refused_530 : decode cL_refused 530 = .ok (.iadd, 1) := by decide +kernel
theorem dL_refused_531 : decode cL_refused 531 = .ok (.iconst 5, 1) := by decide +kernel
theorem dL_refused_532 : decode cL_refused 532 = .ok (.iconst 0, 1) := by decide +kernel
theorem dL_refused_533 : decode cL_refused 533 = .ok (.iconst 0, 1) := by decide +kernel
theorem dL_refused_534 : decode cL_refused 534 = .ok (.invokestatic 150, 3) := by decide +kernel
theorem dL_refused_537 : decode cL_refused 537 = .ok (.sipush (-2051), 3) := by decide +kernel
theorem dL_refused_540 : decode cL_refused 540 = .ok (.if_icmp .ne 114, 3) := by decide +kernel
theorem dL_refused_543 : decode cL_refused 543 = .ok (.aload_n 0, 1) := by decide +kernel
theorem dL_refused_544 : decode cL_refused 544 = .ok (.iload 4, 2) := by decide +kernel
theorem dL_refused_546 : decode cL_refused 546 = .ok (.iconst 1, 1) := by decide +kernel
theorem dL_refused_547 : decode cL_refused 547 = .ok (.iadd, 1) := by decide +kernel
theorem dL_refused_548 : decode cL_refused 548 = .ok (.iconst 0, 1) := by decide +kernel
theorem dL_refused_549 : decode cL_refused 549 = .ok (.iconst 0, 1) := by decide +kernel
theorem dL_refused_550 : decode cL_refused 550 = .ok (.iconst 0, 1) := by decide +kernel
theorem dL_refused_551 : decode cL_refused 551 = .ok (.invokestatic 150, 3) := by decide +kernel
theorem dL_refused_554 : decode cL_refused 554 = .ok (.sipush (-2051), 3) := by decide +kernel
theorem dL_refused_557 : decode cL_refused 557 = .ok (.if_icmp .ne 97, 3) := by decide +kernel
theorem dL_refused_560 : decode cL_refused 560 = .ok (.aload_n 0, 1) := by decide +kernel
theorem dL_refused_561 : decode cL_refused 561 = .ok (.iload 4, 2) := by decide +kernel
theorem dL_refused_563 : decode cL_refused 563 = .ok (.iconst 1, 1) := by decide +kernel
theorem dL_refused_564 : decode cL_refused 564 = .ok (.iadd, 1) := by decide +kernel
theorem dL_refused_565 : decode cL_refused 565 = .ok (.iconst 0, 1) := by decide +kernel
theorem dL_refused_566 : decode cL_refused 566 = .ok (.iload_n 3, 1) := by decide +kernel
theorem dL_refused_567 : decode cL_refused 567 = .ok (.iconst 0, 1) := by decide +kernel
theorem dL_refused_568 : decode cL_refused 568 = .ok (.invokestatic 150, 3) := by decide +kernel
theorem dL_refused_571 : decode cL_refused 571 = .ok (.sipush (-2051), 3) := by decide +kernel
theorem dL_refused_574 : decode cL_refused 574 = .ok (.if_icmp .ne 80, 3) := by decide +kernel
theorem dL_refused_577 : decode cL_refused 577 = .ok (.aload_n 0, 1) := by decide +kernel
theorem dL_refused_578 : decode cL_refused 578 = .ok (.iload 4, 2) := by decide +kernel
theorem dL_refused_580 : decode cL_refused 580 = .ok (.iconst 1, 1) := by decide +kernel
theorem dL_refused_581 : decode cL_refused 581 = .ok (.iadd, 1) := by decide +kernel
theorem dL_refused_582 : decode cL_refused 582 = .ok (.iconst 1, 1) := by decide +kernel
theorem dL_refused_583 : decode cL_refused 583 = .ok (.iconst 0, 1) := by decide +kernel
theorem dL_refused_584 : decode cL_refused 584 = .ok (.iconst 0, 1) := by decide +kernel
theorem dL_refused_585 : decode cL_refused 585 = .ok (.invokestatic 150, 3) := by decide +kernel
theorem dL_refused_588 : decode cL_refused 588 = .ok (.sipush (-2051), 3) := by decide +kernel
theorem dL_refused_591 : decode cL_refused 591 = .ok (.if_icmp .ne 63, 3) := by decide +kernel
theorem dL_refused_594 : decode cL_refused 594 = .ok (.aload_n 0, 1) := by decide +kernel
theorem dL_refused_595 : decode cL_refused 595 = .ok (.iload 4, 2) := by decide +kernel
theorem dL_refused_597 : decode cL_refused 597 = .ok (.iconst 1, 1) := by decide +kernel
theorem dL_refused_598 : decode cL_refused 598 = .ok (.iadd, 1) := by decide +kernel
theorem dL_refused_599 : decode cL_refused 599 = .ok (.iconst 2, 1) := by decide +kernel
theorem dL_refused_600 : decode cL_refused 600 = .ok (.iconst 0, 1) := by decide +kernel
theorem dL_refused_601 : decode cL_refused 601 = .ok (.iconst 1, 1) := by decide +kernel
theorem dL_refused_602 : decode cL_refused 602 = .ok (.invokestatic 150, 3) := by decide +kernel
theorem dL_refused_605 : decode cL_refused 605 = .ok (.sipush (-2051), 3) := by decide +kernel
theorem dL_refused_608 : decode cL_refused 608 = .ok (.if_icmp .ne 46, 3) := by decide +kernel
theorem dL_refused_611 : decode cL_refused 611 = .ok (.aload_n 0, 1) := by decide +kernel
theorem dL_refused_612 : decode cL_refused 612 = .ok (.iload 4, 2) := by decide +kernel
theorem dL_refused_614 : decode cL_refused 614 = .ok (.iconst 1, 1) := by decide +kernel
theorem dL_refused_615 : decode cL_refused 615 = .ok (.iadd, 1) := by decide +kernel
theorem dL_refused_616 : decode cL_refused 616 = .ok (.iconst 3, 1) := by decide +kernel
theorem dL_refused_617 : decode cL_refused 617 = .ok (.aload_n 0, 1) := by decide +kernel
theorem dL_refused_618 : decode cL_refused 618 = .ok (.bipush 12, 2) := by decide +kernel
theorem dL_refused_620 : decode cL_refused 620 = .ok (.invokestatic 103, 3) := by decide +kernel
theorem dL_refused_623 : decode cL_refused 623 = .ok (.iconst 0, 1) := by decide +kernel
theorem dL_refused_624 : decode cL_refused 624 = .ok (.invokestatic 150, 3) := by decide +kernel
theorem dL_refused_627 : decode cL_refused 627 = .ok (.sipush (-2051), 3) := by decide +kernel
theorem dL_refused_630 : decode cL_refused 630 = .ok (.if_icmp .ne 24, 3) := by decide +kernel
theorem dL_refused_633 : decode cL_refused 633 = .ok (.aload_n 0, 1) := by decide +kernel
theorem dL_refused_634 : decode cL_refused 634 = .ok (.iload 4, 2) := by decide +kernel
theorem dL_refused_636 : decode cL_refused 636 = .ok (.iconst 1, 1) := by decide +kernel
theorem dL_refused_637 : decode cL_refused 637 = .ok (.iadd, 1) := by decide +kernel
theorem dL_refused_638 : decode cL_refused 638 = .ok (.iconst 4, 1) := by decide +kernel
theorem dL_refused_639 : decode cL_refused 639 = .ok (.iconst 1, 1) := by decide +kernel
theorem dL_refused_640 : decode cL_refused 640 = .ok (.iconst 0, 1) := by decide +kernel
theorem dL_refused_641 : decode cL_refused 641 = .ok (.invokestatic 150, 3) := by decide +kernel
theorem dL_refused_644 : decode cL_refused 644 = .ok (.sipush (-2051), 3) := by decide +kernel
theorem dL_refused_647 : decode cL_refused 647 = .ok (.if_icmp .ne 7, 3) := by decide +kernel
theorem dL_refused_650 : decode cL_refused 650 = .ok (.iconst 1, 1) := by decide +kernel
theorem dL_refused_651 : decode cL_refused 651 = .ok (.goto 4, 3) := by decide +kernel
theorem dL_refused_654 : decode cL_refused 654 = .ok (.iconst 0, 1) := by decide +kernel
theorem dL_refused_655 : decode cL_refused 655 = .ok (.istore 5, 2) := by decide +kernel
theorem dL_refused_657 : decode cL_refused 657 = .ok (.iload 5, 2) := by decide +kernel
theorem dL_refused_659 : decode cL_refused 659 = .ok (.ifCond .eq 197, 3) := by decide +kernel
theorem dL_refused_662 : decode cL_refused 662 = .ok (.aload_n 0, 1) := by decide +kernel
theorem dL_refused_663 : decode cL_refused 663 = .ok (.iconst 0, 1) := by decide +kernel
theorem dL_refused_664 : decode cL_refused 664 = .ok (.iconst 4, 1) := by decide +kernel
theorem dL_refused_665 : decode cL_refused 665 = .ok (.invokestatic 152, 3) := by decide +kernel
theorem dL_refused_668 : decode cL_refused 668 = .ok (.sipush (-2051), 3) := by decide +kernel
theorem dL_refused_671 : decode cL_refused 671 = .ok (.if_icmp .ne 185, 3) := by decide +kernel
theorem dL_refused_674 : decode cL_refused 674 = .ok (.aload_n 0, 1) := by decide +kernel
theorem dL_refused_675 : decode cL_refused 675 = .ok (.aload_n 0, 1) := by decide +kernel
theorem dL_refused_676 : decode cL_refused 676 = .ok (.bipush 14, 2) := by decide +kernel
theorem dL_refused_678 : decode cL_refused 678 = .ok (.invokestatic 103, 3) := by decide +kernel
theorem dL_refused_681 : decode cL_refused 681 = .ok (.iconst 0, 1) := by decide +kernel
theorem dL_refused_682 : decode cL_refused 682 = .ok (.invokestatic 152, 3) := by decide +kernel
theorem dL_refused_685 : decode cL_refused 685 = .ok (.iconst (-1), 1) := by decide +kernel
theorem dL_refused_686 : decode cL_refused 686 = .ok (.if_icmp .ne 170, 3) := by decide +kernel
theorem dL_refused_689 : decode cL_refused 689 = .ok (.aload_n 0, 1) := by decide +kernel
theorem dL_refused_690 : decode cL_refused 690 = .ok (.iload_n 3, 1) := by decide +kernel
theorem dL_refused_691 : decode cL_refused 691 = .ok (.bipush 61, 2) := by decide +kernel
theorem dL_refused_693 : decode cL_refused 693 = .ok (.invokestatic 154, 3) := by decide +kernel
theorem dL_refused_696 : decode cL_refused 696 = .ok (.sipush (-2053), 3) := by decide +kernel
theorem dL_refused_699 : decode cL_refused 699 = .ok (.if_icmp .ne 157, 3) := by decide +kernel
theorem dL_refused_702 : decode cL_refused 702 = .ok (.aload_n 0, 1) := by decide +kernel
theorem dL_refused_703 : decode cL_refused 703 = .ok (.iconst 0, 1) := by decide +kernel
theorem dL_refused_704 : decode cL_refused 704 = .ok (.bipush 61, 2) := by decide +kernel
theorem dL_refused_706 : decode cL_refused 706 = .ok (.invokestatic 154, 3) := by decide +kernel
theorem dL_refused_709 : decode cL_refused 709 = .ok (.sipush (-2051), 3) := by decide +kernel
theorem dL_refused_712 : decode cL_refused 712 = .ok (.if_icmp .ne 144, 3) := by decide +kernel
theorem dL_refused_715 : decode cL_refused 715 = .ok (.aload_n 0, 1) := by decide +kernel
theorem dL_refused_716 : decode cL_refused 716 = .ok (.iconst 0, 1) := by decide +kernel
theorem dL_refused_717 : decode cL_refused 717 = .ok (.invokestatic 156, 3) := by decide +kernel
theorem dL_refused_720 : decode cL_refused 720 = .ok (.sipush (-2051), 3) := by decide +kernel
theorem dL_refused_723 : decode cL_refused 723 = .ok (.if_icmp .ne 133, 3) := by decide +kernel
theorem dL_refused_726 : decode cL_refused 726 = .ok (.aload_n 0, 1) := by decide +kernel
theorem dL_refused_727 : decode cL_refused 727 = .ok (.bipush 61, 2) := by decide +kernel
theorem dL_refused_729 : decode cL_refused 729 = .ok (.invokestatic 156, 3) := by decide +kernel
theorem dL_refused_732 : decode cL_refused 732 = .ok (.sipush (-2051), 3) := by decide +kernel
theorem dL_refused_735 : decode cL_refused 735 = .ok (.if_icmp .ne 121, 3) := by decide +kernel
theorem dL_refused_738 : decode cL_refused 738 = .ok (.aload_n 0, 1) := by decide +kernel
theorem dL_refused_739 : decode cL_refused 739 = .ok (.bipush 6, 2) := by decide +kernel
theorem dL_refused_741 : decode cL_refused 741 = .ok (.invokestatic 158, 3) := by decide +kernel
theorem dL_refused_744 : decode cL_refused 744 = .ok (.sipush (-2051), 3) := by decide +kernel
theorem dL_refused_747 : decode cL_refused 747 = .ok (.if_icmp .ne 109, 3) := by decide +kernel
theorem dL_refused_750 : decode cL_refused 750 = .ok (.aload_n 0, 1) := by decide +kernel
theorem dL_refused_751 : decode cL_refused 751 = .ok (.iload_n 3, 1) := by decide +kernel
