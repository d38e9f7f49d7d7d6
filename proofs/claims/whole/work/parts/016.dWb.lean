/-! decode rows -/
theorem dW_law_576 : decode cW_law 576 = .ok (.aload_n 0, 1) := by decide +kernel
theorem dW_law_577 : decode cW_law 577 = .ok (.iload 4, 2) := by decide +kernel
theorem dW_law_579 : decode cW_law 579 = .ok (.iconst 1, 1) := by decide +kernel
theorem dW_law_580 : decode cW_law 580 = .ok (.iadd, 1) := by decide +kernel
theorem dW_law_581 : decode cW_law 581 = .ok (.iaload, 1) := by decide +kernel
theorem dW_law_582 : decode cW_law 582 = .ok (.aload_n 3, 1) := by decide +kernel
theorem dW_law_583 : decode cW_law 583 = .ok (.invokestatic 97, 3) := by decide +kernel
theorem dW_law_586 : decode cW_law 586 = .ok (.istore 5, 2) := by decide +kernel
theorem dW_law_588 : decode cW_law 588 = .ok (.aload_n 2, 1) := by decide +kernel
theorem dW_law_589 : decode cW_law 589 = .ok (.aload_n 0, 1) := by decide +kernel
theorem dW_law_590 : decode cW_law 590 = .ok (.iload 4, 2) := by decide +kernel
theorem dW_law_592 : decode cW_law 592 = .ok (.iconst 1, 1) := by decide +kernel
theorem dW_law_593 : decode cW_law 593 = .ok (.iadd, 1) := by decide +kernel
theorem dW_law_594 : decode cW_law 594 = .ok (.iaload, 1) := by decide +kernel
theorem dW_law_595 : decode cW_law 595 = .ok (.invokevirtual 99, 3) := by decide +kernel
theorem dW_law_598 : decode cW_law 598 = .ok (.istore 6, 2) := by decide +kernel
theorem dW_law_600 : decode cW_law 600 = .ok (.aload_n 2, 1) := by decide +kernel
theorem dW_law_601 : decode cW_law 601 = .ok (.invokevirtual 58, 3) := by decide +kernel
theorem dW_law_604 : decode cW_law 604 = .ok (.iload 5, 2) := by decide +kernel
theorem dW_law_606 : decode cW_law 606 = .ok (.if_icmp .eq 5, 3) := by decide +kernel
theorem dW_law_609 : decode cW_law 609 = .ok (.iconst 0, 1) := by decide +kernel
theorem dW_law_610 : decode cW_law 610 = .ok (.ireturn, 1) := by decide +kernel
theorem dW_law_611 : decode cW_law 611 = .ok (.iload 5, 2) := by decide +kernel
theorem dW_law_613 : decode cW_law 613 = .ok (.ifCond .ne 15, 3) := by decide +kernel
theorem dW_law_616 : decode cW_law 616 = .ok (.aload_n 3, 1) := by decide +kernel
theorem dW_law_617 : decode cW_law 617 = .ok (.iconst 0, 1) := by decide +kernel
theorem dW_law_618 : decode cW_law 618 = .ok (.laload, 1) := by decide +kernel
theorem dW_law_619 : decode cW_law 619 = .ok (.iload 6, 2) := by decide +kernel
theorem dW_law_621 : decode cW_law 621 = .ok (.i2l, 1) := by decide +kernel
theorem dW_law_622 : decode cW_law 622 = .ok (.lcmp, 1) := by decide +kernel
theorem dW_law_623 : decode cW_law 623 = .ok (.ifCond .eq 5, 3) := by decide +kernel
theorem dW_law_626 : decode cW_law 626 = .ok (.iconst 0, 1) := by decide +kernel
theorem dW_law_627 : decode cW_law 627 = .ok (.ireturn, 1) := by decide +kernel
theorem dW_law_628 : decode cW_law 628 = .ok (.goto 155, 3) := by decide +kernel
theorem dW_law_631 : decode cW_law 631 = .ok (.aload_n 1, 1) := by decide +kernel
theorem dW_law_632 : decode cW_law 632 = .ok (.aload_n 0, 1) := by decide +kernel
theorem dW_law_633 : decode cW_law 633 = .ok (.iload 4, 2) := by decide +kernel
theorem dW_law_635 : decode cW_law 635 = .ok (.iconst 1, 1) := by decide +kernel
theorem dW_law_636 : decode cW_law 636 = .ok (.iadd, 1) := by decide +kernel
theorem dW_law_637 : decode cW_law 637 = .ok (.iaload, 1) := by decide +kernel
theorem dW_law_638 : decode cW_law 638 = .ok (.aload_n 0, 1) := by decide +kernel
theorem dW_law_639 : decode cW_law 639 = .ok (.iload 4, 2) := by decide +kernel
theorem dW_law_641 : decode cW_law 641 = .ok (.iconst 2, 1) := by decide +kernel
theorem dW_law_642 : decode cW_law 642 = .ok (.iadd, 1) := by decide +kernel
theorem dW_law_643 : decode cW_law 643 = .ok (.iaload, 1) := by decide +kernel
theorem dW_law_644 : decode cW_law 644 = .ok (.aload_n 0, 1) := by decide +kernel
theorem dW_law_645 : decode cW_law 645 = .ok (.iload 4, 2) := by decide +kernel
theorem dW_law_647 : decode cW_law 647 = .ok (.iconst 3, 1) := by decide +kernel
theorem dW_law_648 : decode cW_law 648 = .ok (.iadd, 1) := by decide +kernel
theorem dW_law_649 : decode cW_law 649 = .ok (.iaload, 1) := by decide +kernel
theorem dW_law_650 : decode cW_law 650 = .ok (.ifCond .eq 7, 3) := by decide +kernel
theorem dW_law_653 : decode cW_law 653 = .ok (.iconst 1, 1) := by decide +kernel
theorem dW_law_654 : decode cW_law 654 = .ok (.goto 4, 3) := by decide +kernel
theorem dW_law_657 : decode cW_law 657 = .ok (.iconst 0, 1) := by decide +kernel
theorem dW_law_658 : decode cW_law 658 = .ok (.aload_n 3, 1) := by decide +kernel
theorem dW_law_659 : decode cW_law 659 = .ok (.invokestatic 100, 3) := by decide +kernel
theorem dW_law_662 : decode cW_law 662 = .ok (.istore 5, 2) := by decide +kernel
theorem dW_law_664 : decode cW_law 664 = .ok (.aload_n 2, 1) := by decide +kernel
theorem dW_law_665 : decode cW_law 665 = .ok (.aload_n 0, 1) := by decide +kernel
theorem dW_law_666 : decode cW_law 666 = .ok (.iload 4, 2) := by decide +kernel
theorem dW_law_668 : decode cW_law 668 = .ok (.iconst 1, 1) := by decide +kernel
theorem dW_law_669 : decode cW_law 669 = .ok (.iadd, 1) := by decide +kernel
theorem dW_law_670 : decode cW_law 670 = .ok (.iaload, 1) := by decide +kernel
theorem dW_law_671 : decode cW_law 671 = .ok (.aload_n 0, 1) := by decide +kernel
theorem dW_law_672 : decode cW_law 672 = .ok (.iload 4, 2) := by decide +kernel
theorem dW_law_674 : decode cW_law 674 = .ok (.iconst 2, 1) := by decide +kernel
theorem dW_law_675 : decode cW_law 675 = .ok (.iadd, 1) := by decide +kernel
theorem dW_law_676 : decode cW_law 676 = .ok (.iaload, 1) := by decide +kernel
theorem dW_law_677 : decode cW_law 677 = .ok (.aload_n 0, 1) := by decide +kernel
theorem dW_law_678 : decode cW_law 678 = .ok (.iload 4, 2) := by decide +kernel
theorem dW_law_680 : decode cW_law 680 = .ok (.iconst 3, 1) := by decide +kernel
theorem dW_law_681 : decode cW_law 681 = .ok (.iadd, 1) := by decide +kernel
theorem dW_law_682 : decode cW_law 682 = .ok (.iaload, 1) := by decide +kernel
theorem dW_law_683 : decode cW_law 683 = .ok (.ifCond .eq 7, 3) := by decide +kernel
theorem dW_law_686 : decode cW_law 686 = .ok (.iconst 1, 1) := by decide +kernel
theorem dW_law_687 : decode cW_law 687 = .ok (.goto 4, 3) := by decide +kernel
theorem dW_law_690 : decode cW_law 690 = .ok (.iconst 0, 1) := by decide +kernel
theorem dW_law_691 : decode cW_law 691 = .ok (.invokevirtual 102, 3) := by decide +kernel
theorem dW_law_694 : decode cW_law 694 = .ok (.istore 6, 2) := by decide +kernel
theorem dW_law_696 : decode cW_law 696 = .ok (.aload_n 2, 1) := by decide +kernel
theorem dW_law_697 : decode cW_law 697 = .ok (.invokevirtual 58, 3) := by decide +kernel
theorem dW_law_700 : decode cW_law 700 = .ok (.iload 5, 2) := by decide +kernel
theorem dW_law_702 : decode cW_law 702 = .ok (.if_icmp .eq 5, 3) := by decide +kernel
theorem dW_law_705 : decode cW_law 705 = .ok (.iconst 0, 1) := by decide +kernel
theorem dW_law_706 : decode cW_law 706 = .ok (.ireturn, 1) := by decide +kernel
theorem dW_law_707 : decode cW_law 707 = .ok (.iload 5, 2) := by decide +kernel
theorem dW_law_709 : decode cW_law 709 = .ok (.ifCond .ne 15, 3) := by decide +kernel
theorem dW_law_712 : decode cW_law 712 = .ok (.aload_n 3, 1) := by decide +kernel
theorem dW_law_713 : decode cW_law 713 = .ok (.iconst 0, 1) := by decide +kernel
theorem dW_law_714 : decode cW_law 714 = .ok (.laload, 1) := by decide +kernel
theorem dW_law_715 : decode cW_law 715 = .ok (.iload 6, 2) := by decide +kernel
theorem dW_law_717 : decode cW_law 717 = .ok (.i2l, 1) := by decide +kernel
theorem dW_law_718 : decode cW_law 718 = .ok (.lcmp, 1) := by decide +kernel
theorem dW_law_719 : decode cW_law 719 = .ok (.ifCond .eq 5, 3) := by decide +kernel
theorem dW_law_722 : decode cW_law 722 = .ok (.iconst 0, 1) := by decide +kernel
theorem dW_law_723 : decode cW_law 723 = .ok (.ireturn, 1) := by decide +kernel
theorem dW_law_724 : decode cW_law 724 = .ok (.goto 59, 3) := by decide +kernel
theorem dW_law_727 : decode cW_law 727 = .ok (.aload_n 1, 1) := by decide +kernel
theorem dW_law_728 : decode cW_law 728 = .ok (.aload_n 0, 1) := by decide +kernel
theorem dW_law_729 : decode cW_law 729 = .ok (.iload 4, 2) := by decide +kernel
theorem dW_law_731 : decode cW_law 731 = .ok (.iconst 1, 1) := by decide +kernel
theorem dW_law_732 : decode cW_law 732 = .ok (.iadd, 1) := by decide +kernel
theorem dW_law_733 : decode cW_law 733 = .ok (.iaload, 1) := by decide +kernel
theorem dW_law_734 : decode cW_law 734 = .ok (.aload_n 3, 1) := by decide +kernel
theorem dW_law_735 : decode cW_law 735 = .ok (.invokestatic 103, 3) := by decide +kernel
theorem dW_law_738 : decode cW_law 738 = .ok (.istore 5, 2) := by decide +kernel
theorem dW_law_740 : decode cW_law 740 = .ok (.aload_n 2, 1) := by decide +kernel
theorem dW_law_741 : decode cW_law 741 = .ok (.aload_n 0, 1) := by decide +kernel
theorem dW_law_742 : decode cW_law 742 = .ok (.iload 4, 2) := by decide +kernel
theorem dW_law_744 : decode cW_law 744 = .ok (.iconst 1, 1) := by decide +kernel
theorem dW_law_745 : decode cW_law 745 = .ok (.iadd, 1) := by decide +kernel
theorem dW_law_746 : decode cW_law 746 = .ok (.iaload, 1) := by decide +kernel
theorem dW_law_747 : decode cW_law 747 = .ok (.invokevirtual 105, 3) := by decide +kernel
theorem dW_law_750 : decode cW_law 750 = .ok (.istore 6, 2) := by decide +kernel
theorem dW_law_752 : decode cW_law 752 = .ok (.aload_n 2, 1) := by decide +kernel
theorem dW_law_753 : decode cW_law 753 = .ok (.invokevirtual 58, 3) := by decide +kernel
theorem dW_law_756 : decode cW_law 756 = .ok (.iload 5, 2) := by decide +kernel
theorem dW_law_758 : decode cW_law 758 = .ok (.if_icmp .eq 5, 3) := by decide +kernel
theorem dW_law_761 : decode cW_law 761 = .ok (.iconst 0, 1) := by decide +kernel
theorem dW_law_762 : decode cW_law 762 = .ok (.ireturn, 1) := by decide +kernel
theorem dW_law_763 : decode cW_law 763 = .ok (.iload 5, 2) := by decide +kernel
theorem dW_law_765 : decode cW_law 765 = .ok (.ifCond .ne 15, 3) := by decide +kernel
theorem dW_law_768 : decode cW_law 768 = .ok (.aload_n 3, 1) := by decide +kernel
theorem dW_law_769 : decode cW_law 769 = .ok (.iconst 0, 1) := by decide +kernel
theorem dW_law_770 : decode cW_law 770 = .ok (.laload, 1) := by decide +kernel
theorem dW_law_771 : decode cW_law 771 = .ok (.iload 6, 2) := by decide +kernel
theorem dW_law_773 : decode cW_law 773 = .ok (.i2l, 1) := by decide +kernel
theorem dW_law_774 : decode cW_law 774 = .ok (.lcmp, 1) := by decide +kernel
theorem dW_law_775 : decode cW_law 775 = .ok (.ifCond .eq 5, 3) := by decide +kernel
theorem dW_law_778 : decode cW_law 778 = .ok (.iconst 0, 1) := by decide +kernel
theorem dW_law_779 : decode cW_law 779 = .ok (.ireturn, 1) := by decide +kernel
theorem dW_law_780 : decode cW_law 780 = .ok (.goto 3, 3) := by decide +kernel
theorem dW_law_783 : decode cW_law 783 = .ok (.iinc 4 4, 3) := by decide +kernel
theorem dW_law_786 : decode cW_law 786 = .ok (.goto (-763), 3) := by decide +kernel
theorem dW_law_789 : decode cW_law 789 = .ok (.iconst 1, 1) := by decide +kernel
theorem dW_law_790 : decode cW_law 790 = .ok (.ireturn, 1) := by decide +kernel
