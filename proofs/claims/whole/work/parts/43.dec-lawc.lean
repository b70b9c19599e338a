theorem dL_law_576 : decode code 576 = .ok (.invokestatic 94, 3) := by decide +kernel
theorem dL_law_579 : decode code 579 = .ok (.istore 5, 2) := by decide +kernel
theorem dL_law_581 : decode code 581 = .ok (.aload_n 2, 1) := by decide +kernel
theorem dL_law_582 : decode code 582 = .ok (.aload_n 0, 1) := by decide +kernel
theorem dL_law_583 : decode code 583 = .ok (.iload 4, 2) := by decide +kernel
theorem dL_law_585 : decode code 585 = .ok (.iconst 1, 1) := by decide +kernel
theorem dL_law_586 : decode code 586 = .ok (.iadd, 1) := by decide +kernel
theorem dL_law_587 : decode code 587 = .ok (.iaload, 1) := by decide +kernel
theorem dL_law_588 : decode code 588 = .ok (.aload_n 0, 1) := by decide +kernel
theorem dL_law_589 : decode code 589 = .ok (.iload 4, 2) := by decide +kernel
theorem dL_law_591 : decode code 591 = .ok (.iconst 2, 1) := by decide +kernel
theorem dL_law_592 : decode code 592 = .ok (.iadd, 1) := by decide +kernel
theorem dL_law_593 : decode code 593 = .ok (.iaload, 1) := by decide +kernel
theorem dL_law_594 : decode code 594 = .ok (.aload_n 0, 1) := by decide +kernel
theorem dL_law_595 : decode code 595 = .ok (.iload 4, 2) := by decide +kernel
theorem dL_law_597 : decode code 597 = .ok (.iconst 3, 1) := by decide +kernel
theorem dL_law_598 : decode code 598 = .ok (.iadd, 1) := by decide +kernel
theorem dL_law_599 : decode code 599 = .ok (.iaload, 1) := by decide +kernel
theorem dL_law_600 : decode code 600 = .ok (.invokevirtual 96, 3) := by decide +kernel
theorem dL_law_603 : decode code 603 = .ok (.istore 6, 2) := by decide +kernel
theorem dL_law_605 : decode code 605 = .ok (.aload_n 2, 1) := by decide +kernel
theorem dL_law_606 : decode code 606 = .ok (.invokevirtual 71, 3) := by decide +kernel
theorem dL_law_609 : decode code 609 = .ok (.iload 5, 2) := by decide +kernel
theorem dL_law_611 : decode code 611 = .ok (.if_icmp .eq 5, 3) := by decide +kernel
theorem dL_law_614 : decode code 614 = .ok (.iconst 0, 1) := by decide +kernel
theorem dL_law_615 : decode code 615 = .ok (.ireturn, 1) := by decide +kernel
theorem dL_law_616 : decode code 616 = .ok (.iload 5, 2) := by decide +kernel
theorem dL_law_618 : decode code 618 = .ok (.ifCond .ne 15, 3) := by decide +kernel
theorem dL_law_621 : decode code 621 = .ok (.aload_n 3, 1) := by decide +kernel
theorem dL_law_622 : decode code 622 = .ok (.iconst 0, 1) := by decide +kernel
theorem dL_law_623 : decode code 623 = .ok (.laload, 1) := by decide +kernel
theorem dL_law_624 : decode code 624 = .ok (.iload 6, 2) := by decide +kernel
theorem dL_law_626 : decode code 626 = .ok (.i2l, 1) := by decide +kernel
theorem dL_law_627 : decode code 627 = .ok (.lcmp, 1) := by decide +kernel
theorem dL_law_628 : decode code 628 = .ok (.ifCond .eq 5, 3) := by decide +kernel
theorem dL_law_631 : decode code 631 = .ok (.iconst 0, 1) := by decide +kernel
theorem dL_law_632 : decode code 632 = .ok (.ireturn, 1) := by decide +kernel
theorem dL_law_633 : decode code 633 = .ok (.goto 450, 3) := by decide +kernel
theorem dL_law_636 : decode code 636 = .ok (.aload_n 1, 1) := by decide +kernel
theorem dL_law_637 : decode code 637 = .ok (.aload_n 0, 1) := by decide +kernel
theorem dL_law_638 : decode code 638 = .ok (.iload 4, 2) := by decide +kernel
theorem dL_law_640 : decode code 640 = .ok (.iconst 1, 1) := by decide +kernel
theorem dL_law_641 : decode code 641 = .ok (.iadd, 1) := by decide +kernel
theorem dL_law_642 : decode code 642 = .ok (.iaload, 1) := by decide +kernel
theorem dL_law_643 : decode code 643 = .ok (.aload_n 0, 1) := by decide +kernel
theorem dL_law_644 : decode code 644 = .ok (.iload 4, 2) := by decide +kernel
theorem dL_law_646 : decode code 646 = .ok (.iconst 2, 1) := by decide +kernel
theorem dL_law_647 : decode code 647 = .ok (.iadd, 1) := by decide +kernel
theorem dL_law_648 : decode code 648 = .ok (.iaload, 1) := by decide +kernel
theorem dL_law_649 : decode code 649 = .ok (.aload_n 0, 1) := by decide +kernel
theorem dL_law_650 : decode code 650 = .ok (.iload 4, 2) := by decide +kernel
theorem dL_law_652 : decode code 652 = .ok (.iconst 3, 1) := by decide +kernel
theorem dL_law_653 : decode code 653 = .ok (.iadd, 1) := by decide +kernel
theorem dL_law_654 : decode code 654 = .ok (.iaload, 1) := by decide +kernel
theorem dL_law_655 : decode code 655 = .ok (.aload_n 3, 1) := by decide +kernel
theorem dL_law_656 : decode code 656 = .ok (.invokestatic 97, 3) := by decide +kernel
theorem dL_law_659 : decode code 659 = .ok (.istore 5, 2) := by decide +kernel
theorem dL_law_661 : decode code 661 = .ok (.aload_n 2, 1) := by decide +kernel
theorem dL_law_662 : decode code 662 = .ok (.aload_n 0, 1) := by decide +kernel
theorem dL_law_663 : decode code 663 = .ok (.iload 4, 2) := by decide +kernel
theorem dL_law_665 : decode code 665 = .ok (.iconst 1, 1) := by decide +kernel
theorem dL_law_666 : decode code 666 = .ok (.iadd, 1) := by decide +kernel
theorem dL_law_667 : decode code 667 = .ok (.iaload, 1) := by decide +kernel
theorem dL_law_668 : decode code 668 = .ok (.aload_n 0, 1) := by decide +kernel
theorem dL_law_669 : decode code 669 = .ok (.iload 4, 2) := by decide +kernel
theorem dL_law_671 : decode code 671 = .ok (.iconst 2, 1) := by decide +kernel
theorem dL_law_672 : decode code 672 = .ok (.iadd, 1) := by decide +kernel
theorem dL_law_673 : decode code 673 = .ok (.iaload, 1) := by decide +kernel
theorem dL_law_674 : decode code 674 = .ok (.aload_n 0, 1) := by decide +kernel
theorem dL_law_675 : decode code 675 = .ok (.iload 4, 2) := by decide +kernel
theorem dL_law_677 : decode code 677 = .ok (.iconst 3, 1) := by decide +kernel
theorem dL_law_678 : decode code 678 = .ok (.iadd, 1) := by decide +kernel
theorem dL_law_679 : decode code 679 = .ok (.iaload, 1) := by decide +kernel
theorem dL_law_680 : decode code 680 = .ok (.invokevirtual 99, 3) := by decide +kernel
theorem dL_law_683 : decode code 683 = .ok (.istore 6, 2) := by decide +kernel
theorem dL_law_685 : decode code 685 = .ok (.aload_n 2, 1) := by decide +kernel
theorem dL_law_686 : decode code 686 = .ok (.invokevirtual 71, 3) := by decide +kernel
theorem dL_law_689 : decode code 689 = .ok (.iload 5, 2) := by decide +kernel
theorem dL_law_691 : decode code 691 = .ok (.if_icmp .eq 5, 3) := by decide +kernel
theorem dL_law_694 : decode code 694 = .ok (.iconst 0, 1) := by decide +kernel
theorem dL_law_695 : decode code 695 = .ok (.ireturn, 1) := by decide +kernel
theorem dL_law_696 : decode code 696 = .ok (.iload 5, 2) := by decide +kernel
theorem dL_law_698 : decode code 698 = .ok (.ifCond .ne 15, 3) := by decide +kernel
theorem dL_law_701 : decode code 701 = .ok (.aload_n 3, 1) := by decide +kernel
theorem dL_law_702 : decode code 702 = .ok (.iconst 0, 1) := by decide +kernel
theorem dL_law_703 : decode code 703 = .ok (.laload, 1) := by decide +kernel
theorem dL_law_704 : decode code 704 = .ok (.iload 6, 2) := by decide +kernel
theorem dL_law_706 : decode code 706 = .ok (.i2l, 1) := by decide +kernel
theorem dL_law_707 : decode code 707 = .ok (.lcmp, 1) := by decide +kernel
theorem dL_law_708 : decode code 708 = .ok (.ifCond .eq 5, 3) := by decide +kernel
theorem dL_law_711 : decode code 711 = .ok (.iconst 0, 1) := by decide +kernel
theorem dL_law_712 : decode code 712 = .ok (.ireturn, 1) := by decide +kernel
theorem dL_law_713 : decode code 713 = .ok (.goto 370, 3) := by decide +kernel
theorem dL_law_716 : decode code 716 = .ok (.aload_n 1, 1) := by decide +kernel
theorem dL_law_717 : decode code 717 = .ok (.aload_n 0, 1) := by decide +kernel
theorem dL_law_718 : decode code 718 = .ok (.iload 4, 2) := by decide +kernel
theorem dL_law_720 : decode code 720 = .ok (.iconst 1, 1) := by decide +kernel
theorem dL_law_721 : decode code 721 = .ok (.iadd, 1) := by decide +kernel
theorem dL_law_722 : decode code 722 = .ok (.iaload, 1) := by decide +kernel
theorem dL_law_723 : decode code 723 = .ok (.aload_n 3, 1) := by decide +kernel
theorem dL_law_724 : decode code 724 = .ok (.invokestatic 100, 3) := by decide +kernel
theorem dL_law_727 : decode code 727 = .ok (.istore 5, 2) := by decide +kernel
theorem dL_law_729 : decode code 729 = .ok (.aload_n 2, 1) := by decide +kernel
theorem dL_law_730 : decode code 730 = .ok (.aload_n 0, 1) := by decide +kernel
theorem dL_law_731 : decode code 731 = .ok (.iload 4, 2) := by decide +kernel
theorem dL_law_733 : decode code 733 = .ok (.iconst 1, 1) := by decide +kernel
theorem dL_law_734 : decode code 734 = .ok (.iadd, 1) := by decide +kernel
theorem dL_law_735 : decode code 735 = .ok (.iaload, 1) := by decide +kernel
theorem dL_law_736 : decode code 736 = .ok (.invokevirtual 102, 3) := by decide +kernel
theorem dL_law_739 : decode code 739 = .ok (.istore 6, 2) := by decide +kernel
theorem dL_law_741 : decode code 741 = .ok (.aload_n 2, 1) := by decide +kernel
theorem dL_law_742 : decode code 742 = .ok (.invokevirtual 71, 3) := by decide +kernel
theorem dL_law_745 : decode code 745 = .ok (.iload 5, 2) := by decide +kernel
theorem dL_law_747 : decode code 747 = .ok (.if_icmp .eq 5, 3) := by decide +kernel
theorem dL_law_750 : decode code 750 = .ok (.iconst 0, 1) := by decide +kernel
theorem dL_law_751 : decode code 751 = .ok (.ireturn, 1) := by decide +kernel
theorem dL_law_752 : decode code 752 = .ok (.iload 5, 2) := by decide +kernel
theorem dL_law_754 : decode code 754 = .ok (.ifCond .ne 22, 3) := by decide +kernel
theorem dL_law_757 : decode code 757 = .ok (.aload_n 3, 1) := by decide +kernel
theorem dL_law_758 : decode code 758 = .ok (.iconst 0, 1) := by decide +kernel
theorem dL_law_759 : decode code 759 = .ok (.laload, 1) := by decide +kernel
theorem dL_law_760 : decode code 760 = .ok (.iload 6, 2) := by decide +kernel
theorem dL_law_762 : decode code 762 = .ok (.ifCond .eq 7, 3) := by decide +kernel
theorem dL_law_765 : decode code 765 = .ok (.lconst 1, 1) := by decide +kernel
theorem dL_law_766 : decode code 766 = .ok (.goto 4, 3) := by decide +kernel
theorem dL_law_769 : decode code 769 = .ok (.lconst 0, 1) := by decide +kernel
theorem dL_law_770 : decode code 770 = .ok (.lcmp, 1) := by decide +kernel
theorem dL_law_771 : decode code 771 = .ok (.ifCond .eq 5, 3) := by decide +kernel
theorem dL_law_774 : decode code 774 = .ok (.iconst 0, 1) := by decide +kernel
theorem dL_law_775 : decode code 775 = .ok (.ireturn, 1) := by decide +kernel
theorem dL_law_776 : decode code 776 = .ok (.goto 307, 3) := by decide +kernel
theorem dL_law_779 : decode code 779 = .ok (.aload_n 1, 1) := by decide +kernel
theorem dL_law_780 : decode code 780 = .ok (.aload_n 0, 1) := by decide +kernel
theorem dL_law_781 : decode code 781 = .ok (.iload 4, 2) := by decide +kernel
theorem dL_law_783 : decode code 783 = .ok (.iconst 1, 1) := by decide +kernel
theorem dL_law_784 : decode code 784 = .ok (.iadd, 1) := by decide +kernel
theorem dL_law_785 : decode code 785 = .ok (.iaload, 1) := by decide +kernel
theorem dL_law_786 : decode code 786 = .ok (.aload_n 3, 1) := by decide +kernel
theorem dL_law_787 : decode code 787 = .ok (.invokestatic 103, 3) := by decide +kernel
theorem dL_law_790 : decode code 790 = .ok (.istore 5, 2) := by decide +kernel
theorem dL_law_792 : decode code 792 = .ok (.aload_n 2, 1) := by decide +kernel
theorem dL_law_793 : decode code 793 = .ok (.aload_n 0, 1) := by decide +kernel
theorem dL_law_794 : decode code 794 = .ok (.iload 4, 2) := by decide +kernel
theorem dL_law_796 : decode code 796 = .ok (.iconst 1, 1) := by decide +kernel
theorem dL_law_797 : decode code 797 = .ok (.iadd, 1) := by decide +kernel
theorem dL_law_798 : decode code 798 = .ok (.iaload, 1) := by decide +kernel
theorem dL_law_799 : decode code 799 = .ok (.invokevirtual 105, 3) := by decide +kernel
theorem dL_law_802 : decode code 802 = .ok (.istore 6, 2) := by decide +kernel
theorem dL_law_804 : decode code 804 = .ok (.aload_n 2, 1) := by decide +kernel
theorem dL_law_805 : decode code 805 = .ok (.invokevirtual 71, 3) := by decide +kernel
theorem dL_law_808 : decode code 808 = .ok (.iload 5, 2) := by decide +kernel
theorem dL_law_810 : decode code 810 = .ok (.if_icmp .eq 5, 3) := by decide +kernel
theorem dL_law_813 : decode code 813 = .ok (.iconst 0, 1) := by decide +kernel
theorem dL_law_814 : decode code 814 = .ok (.ireturn, 1) := by decide +kernel
theorem dL_law_815 : decode code 815 = .ok (.iload 5, 2) := by decide +kernel
theorem dL_law_817 : decode code 817 = .ok (.ifCond .ne 15, 3) := by decide +kernel
theorem dL_law_820 : decode code 820 = .ok (.aload_n 3, 1) := by decide +kernel
theorem dL_law_821 : decode code 821 = .ok (.iconst 0, 1) := by decide +kernel
theorem dL_law_822 : decode code 822 = .ok (.laload, 1) := by decide +kernel
theorem dL_law_823 : decode code 823 = .ok (.iload 6, 2) := by decide +kernel
theorem dL_law_825 : decode code 825 = .ok (.i2l, 1) := by decide +kernel
theorem dL_law_826 : decode code 826 = .ok (.lcmp, 1) := by decide +kernel
theorem dL_law_827 : decode code 827 = .ok (.ifCond .eq 5, 3) := by decide +kernel
theorem dL_law_830 : decode code 830 = .ok (.iconst 0, 1) := by decide +kernel
theorem dL_law_831 : decode code 831 = .ok (.ireturn, 1) := by decide +kernel
theorem dL_law_832 : decode code 832 = .ok (.goto 251, 3) := by decide +kernel
theorem dL_law_835 : decode code 835 = .ok (.aload_n 1, 1) := by decide +kernel
theorem dL_law_836 : decode code 836 = .ok (.aload_n 0, 1) := by decide +kernel
theorem dL_law_837 : decode code 837 = .ok (.iload 4, 2) := by decide +kernel
theorem dL_law_839 : decode code 839 = .ok (.iconst 1, 1) := by decide +kernel
