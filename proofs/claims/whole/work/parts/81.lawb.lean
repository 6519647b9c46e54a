/-! the law, decoded -/
theorem dL_551 : decode code 551 = .ok (.iadd, 1) := by decide +kernel
theorem dL_552 : decode code 552 = .ok (.iaload, 1) := by decide +kernel
theorem dL_553 : decode code 553 = .ok (.aload_n 0, 1) := by decide +kernel
theorem dL_554 : decode code 554 = .ok (.iload_n 3, 1) := by decide +kernel
theorem dL_555 : decode code 555 = .ok (.iconst 2, 1) := by decide +kernel
theorem dL_556 : decode code 556 = .ok (.iadd, 1) := by decide +kernel
theorem dL_557 : decode code 557 = .ok (.iaload, 1) := by decide +kernel
theorem dL_558 : decode code 558 = .ok (.invokevirtual 67, 3) := by decide +kernel
theorem dL_561 : decode code 561 = .ok (.if_icmp .eq 440, 3) := by decide +kernel
theorem dL_564 : decode code 564 = .ok (.iconst 0, 1) := by decide +kernel
theorem dL_565 : decode code 565 = .ok (.ireturn, 1) := by decide +kernel
theorem dL_566 : decode code 566 = .ok (.aload_n 1, 1) := by decide +kernel
theorem dL_567 : decode code 567 = .ok (.invokevirtual 68, 3) := by decide +kernel
theorem dL_570 : decode code 570 = .ok (.aload_n 2, 1) := by decide +kernel
theorem dL_571 : decode code 571 = .ok (.invokevirtual 71, 3) := by decide +kernel
theorem dL_574 : decode code 574 = .ok (.if_icmp .eq 427, 3) := by decide +kernel
theorem dL_577 : decode code 577 = .ok (.iconst 0, 1) := by decide +kernel
theorem dL_578 : decode code 578 = .ok (.ireturn, 1) := by decide +kernel
theorem dL_579 : decode code 579 = .ok (.aload_n 1, 1) := by decide +kernel
theorem dL_580 : decode code 580 = .ok (.aload_n 0, 1) := by decide +kernel
theorem dL_581 : decode code 581 = .ok (.iload_n 3, 1) := by decide +kernel
theorem dL_582 : decode code 582 = .ok (.iconst 1, 1) := by decide +kernel
theorem dL_583 : decode code 583 = .ok (.iadd, 1) := by decide +kernel
theorem dL_584 : decode code 584 = .ok (.iaload, 1) := by decide +kernel
theorem dL_585 : decode code 585 = .ok (.invokevirtual 72, 3) := by decide +kernel
theorem dL_588 : decode code 588 = .ok (.aload_n 2, 1) := by decide +kernel
theorem dL_589 : decode code 589 = .ok (.aload_n 0, 1) := by decide +kernel
theorem dL_590 : decode code 590 = .ok (.iload_n 3, 1) := by decide +kernel
theorem dL_591 : decode code 591 = .ok (.iconst 1, 1) := by decide +kernel
theorem dL_592 : decode code 592 = .ok (.iadd, 1) := by decide +kernel
theorem dL_593 : decode code 593 = .ok (.iaload, 1) := by decide +kernel
theorem dL_594 : decode code 594 = .ok (.invokevirtual 75, 3) := by decide +kernel
theorem dL_597 : decode code 597 = .ok (.if_icmp .eq 404, 3) := by decide +kernel
theorem dL_600 : decode code 600 = .ok (.iconst 0, 1) := by decide +kernel
theorem dL_601 : decode code 601 = .ok (.ireturn, 1) := by decide +kernel
theorem dL_602 : decode code 602 = .ok (.aload_n 1, 1) := by decide +kernel
theorem dL_603 : decode code 603 = .ok (.aload_n 0, 1) := by decide +kernel
theorem dL_604 : decode code 604 = .ok (.iload_n 3, 1) := by decide +kernel
theorem dL_605 : decode code 605 = .ok (.iconst 1, 1) := by decide +kernel
theorem dL_606 : decode code 606 = .ok (.iadd, 1) := by decide +kernel
theorem dL_607 : decode code 607 = .ok (.iaload, 1) := by decide +kernel
theorem dL_608 : decode code 608 = .ok (.ifCond .eq 7, 3) := by decide +kernel
theorem dL_611 : decode code 611 = .ok (.iconst 1, 1) := by decide +kernel
theorem dL_612 : decode code 612 = .ok (.goto 4, 3) := by decide +kernel
theorem dL_615 : decode code 615 = .ok (.iconst 0, 1) := by decide +kernel
theorem dL_616 : decode code 616 = .ok (.invokevirtual 76, 3) := by decide +kernel
theorem dL_619 : decode code 619 = .ok (.aload_n 2, 1) := by decide +kernel
theorem dL_620 : decode code 620 = .ok (.aload_n 0, 1) := by decide +kernel
theorem dL_621 : decode code 621 = .ok (.iload_n 3, 1) := by decide +kernel
theorem dL_622 : decode code 622 = .ok (.iconst 1, 1) := by decide +kernel
theorem dL_623 : decode code 623 = .ok (.iadd, 1) := by decide +kernel
theorem dL_624 : decode code 624 = .ok (.iaload, 1) := by decide +kernel
theorem dL_625 : decode code 625 = .ok (.ifCond .eq 7, 3) := by decide +kernel
theorem dL_628 : decode code 628 = .ok (.iconst 1, 1) := by decide +kernel
theorem dL_629 : decode code 629 = .ok (.goto 4, 3) := by decide +kernel
theorem dL_632 : decode code 632 = .ok (.iconst 0, 1) := by decide +kernel
theorem dL_633 : decode code 633 = .ok (.invokevirtual 80, 3) := by decide +kernel
theorem dL_636 : decode code 636 = .ok (.if_icmp .eq 365, 3) := by decide +kernel
theorem dL_639 : decode code 639 = .ok (.iconst 0, 1) := by decide +kernel
theorem dL_640 : decode code 640 = .ok (.ireturn, 1) := by decide +kernel
theorem dL_641 : decode code 641 = .ok (.aload_n 1, 1) := by decide +kernel
theorem dL_642 : decode code 642 = .ok (.aload_n 0, 1) := by decide +kernel
theorem dL_643 : decode code 643 = .ok (.iload_n 3, 1) := by decide +kernel
theorem dL_644 : decode code 644 = .ok (.iconst 1, 1) := by decide +kernel
theorem dL_645 : decode code 645 = .ok (.iadd, 1) := by decide +kernel
theorem dL_646 : decode code 646 = .ok (.iaload, 1) := by decide +kernel
theorem dL_647 : decode code 647 = .ok (.invokevirtual 81, 3) := by decide +kernel
theorem dL_650 : decode code 650 = .ok (.aload_n 2, 1) := by decide +kernel
theorem dL_651 : decode code 651 = .ok (.aload_n 0, 1) := by decide +kernel
theorem dL_652 : decode code 652 = .ok (.iload_n 3, 1) := by decide +kernel
theorem dL_653 : decode code 653 = .ok (.iconst 1, 1) := by decide +kernel
theorem dL_654 : decode code 654 = .ok (.iadd, 1) := by decide +kernel
theorem dL_655 : decode code 655 = .ok (.iaload, 1) := by decide +kernel
theorem dL_656 : decode code 656 = .ok (.invokevirtual 84, 3) := by decide +kernel
theorem dL_659 : decode code 659 = .ok (.if_icmp .eq 342, 3) := by decide +kernel
theorem dL_662 : decode code 662 = .ok (.iconst 0, 1) := by decide +kernel
theorem dL_663 : decode code 663 = .ok (.ireturn, 1) := by decide +kernel
theorem dL_664 : decode code 664 = .ok (.aload_n 1, 1) := by decide +kernel
theorem dL_665 : decode code 665 = .ok (.aload_n 0, 1) := by decide +kernel
theorem dL_666 : decode code 666 = .ok (.iload_n 3, 1) := by decide +kernel
theorem dL_667 : decode code 667 = .ok (.iconst 1, 1) := by decide +kernel
theorem dL_668 : decode code 668 = .ok (.iadd, 1) := by decide +kernel
theorem dL_669 : decode code 669 = .ok (.iaload, 1) := by decide +kernel
theorem dL_670 : decode code 670 = .ok (.invokevirtual 85, 3) := by decide +kernel
theorem dL_673 : decode code 673 = .ok (.aload_n 2, 1) := by decide +kernel
theorem dL_674 : decode code 674 = .ok (.aload_n 0, 1) := by decide +kernel
theorem dL_675 : decode code 675 = .ok (.iload_n 3, 1) := by decide +kernel
theorem dL_676 : decode code 676 = .ok (.iconst 1, 1) := by decide +kernel
theorem dL_677 : decode code 677 = .ok (.iadd, 1) := by decide +kernel
theorem dL_678 : decode code 678 = .ok (.iaload, 1) := by decide +kernel
theorem dL_679 : decode code 679 = .ok (.invokevirtual 88, 3) := by decide +kernel
theorem dL_682 : decode code 682 = .ok (.if_icmp .eq 319, 3) := by decide +kernel
theorem dL_685 : decode code 685 = .ok (.iconst 0, 1) := by decide +kernel
theorem dL_686 : decode code 686 = .ok (.ireturn, 1) := by decide +kernel
theorem dL_687 : decode code 687 = .ok (.aload_n 1, 1) := by decide +kernel
theorem dL_688 : decode code 688 = .ok (.aload_n 0, 1) := by decide +kernel
theorem dL_689 : decode code 689 = .ok (.iload_n 3, 1) := by decide +kernel
theorem dL_690 : decode code 690 = .ok (.iconst 1, 1) := by decide +kernel
theorem dL_691 : decode code 691 = .ok (.iadd, 1) := by decide +kernel
theorem dL_692 : decode code 692 = .ok (.iaload, 1) := by decide +kernel
theorem dL_693 : decode code 693 = .ok (.aload_n 0, 1) := by decide +kernel
theorem dL_694 : decode code 694 = .ok (.iload_n 3, 1) := by decide +kernel
theorem dL_695 : decode code 695 = .ok (.iconst 2, 1) := by decide +kernel
theorem dL_696 : decode code 696 = .ok (.iadd, 1) := by decide +kernel
theorem dL_697 : decode code 697 = .ok (.iaload, 1) := by decide +kernel
theorem dL_698 : decode code 698 = .ok (.invokevirtual 89, 3) := by decide +kernel
theorem dL_701 : decode code 701 = .ok (.aload_n 2, 1) := by decide +kernel
theorem dL_702 : decode code 702 = .ok (.aload_n 0, 1) := by decide +kernel
theorem dL_703 : decode code 703 = .ok (.iload_n 3, 1) := by decide +kernel
theorem dL_704 : decode code 704 = .ok (.iconst 1, 1) := by decide +kernel
theorem dL_705 : decode code 705 = .ok (.iadd, 1) := by decide +kernel
theorem dL_706 : decode code 706 = .ok (.iaload, 1) := by decide +kernel
theorem dL_707 : decode code 707 = .ok (.aload_n 0, 1) := by decide +kernel
theorem dL_708 : decode code 708 = .ok (.iload_n 3, 1) := by decide +kernel
theorem dL_709 : decode code 709 = .ok (.iconst 2, 1) := by decide +kernel
theorem dL_710 : decode code 710 = .ok (.iadd, 1) := by decide +kernel
theorem dL_711 : decode code 711 = .ok (.iaload, 1) := by decide +kernel
theorem dL_712 : decode code 712 = .ok (.invokevirtual 92, 3) := by decide +kernel
theorem dL_715 : decode code 715 = .ok (.if_icmp .eq 286, 3) := by decide +kernel
theorem dL_718 : decode code 718 = .ok (.iconst 0, 1) := by decide +kernel
theorem dL_719 : decode code 719 = .ok (.ireturn, 1) := by decide +kernel
theorem dL_720 : decode code 720 = .ok (.aload_n 1, 1) := by decide +kernel
theorem dL_721 : decode code 721 = .ok (.aload_n 0, 1) := by decide +kernel
theorem dL_722 : decode code 722 = .ok (.iload_n 3, 1) := by decide +kernel
theorem dL_723 : decode code 723 = .ok (.iconst 1, 1) := by decide +kernel
theorem dL_724 : decode code 724 = .ok (.iadd, 1) := by decide +kernel
theorem dL_725 : decode code 725 = .ok (.iaload, 1) := by decide +kernel
theorem dL_726 : decode code 726 = .ok (.invokevirtual 93, 3) := by decide +kernel
theorem dL_729 : decode code 729 = .ok (.aload_n 2, 1) := by decide +kernel
theorem dL_730 : decode code 730 = .ok (.aload_n 0, 1) := by decide +kernel
theorem dL_731 : decode code 731 = .ok (.iload_n 3, 1) := by decide +kernel
theorem dL_732 : decode code 732 = .ok (.iconst 1, 1) := by decide +kernel
theorem dL_733 : decode code 733 = .ok (.iadd, 1) := by decide +kernel
theorem dL_734 : decode code 734 = .ok (.iaload, 1) := by decide +kernel
theorem dL_735 : decode code 735 = .ok (.invokevirtual 96, 3) := by decide +kernel
theorem dL_738 : decode code 738 = .ok (.if_icmp .eq 263, 3) := by decide +kernel
theorem dL_741 : decode code 741 = .ok (.iconst 0, 1) := by decide +kernel
theorem dL_742 : decode code 742 = .ok (.ireturn, 1) := by decide +kernel
theorem dL_743 : decode code 743 = .ok (.aload_n 1, 1) := by decide +kernel
theorem dL_744 : decode code 744 = .ok (.aload_n 0, 1) := by decide +kernel
theorem dL_745 : decode code 745 = .ok (.iload_n 3, 1) := by decide +kernel
theorem dL_746 : decode code 746 = .ok (.iconst 1, 1) := by decide +kernel
theorem dL_747 : decode code 747 = .ok (.iadd, 1) := by decide +kernel
theorem dL_748 : decode code 748 = .ok (.iaload, 1) := by decide +kernel
theorem dL_749 : decode code 749 = .ok (.aload_n 0, 1) := by decide +kernel
theorem dL_750 : decode code 750 = .ok (.iload_n 3, 1) := by decide +kernel
theorem dL_751 : decode code 751 = .ok (.iconst 2, 1) := by decide +kernel
theorem dL_752 : decode code 752 = .ok (.iadd, 1) := by decide +kernel
theorem dL_753 : decode code 753 = .ok (.iaload, 1) := by decide +kernel
theorem dL_754 : decode code 754 = .ok (.invokevirtual 97, 3) := by decide +kernel
theorem dL_757 : decode code 757 = .ok (.aload_n 2, 1) := by decide +kernel
theorem dL_758 : decode code 758 = .ok (.aload_n 0, 1) := by decide +kernel
theorem dL_759 : decode code 759 = .ok (.iload_n 3, 1) := by decide +kernel
theorem dL_760 : decode code 760 = .ok (.iconst 1, 1) := by decide +kernel
theorem dL_761 : decode code 761 = .ok (.iadd, 1) := by decide +kernel
theorem dL_762 : decode code 762 = .ok (.iaload, 1) := by decide +kernel
theorem dL_763 : decode code 763 = .ok (.aload_n 0, 1) := by decide +kernel
theorem dL_764 : decode code 764 = .ok (.iload_n 3, 1) := by decide +kernel
theorem dL_765 : decode code 765 = .ok (.iconst 2, 1) := by decide +kernel
theorem dL_766 : decode code 766 = .ok (.iadd, 1) := by decide +kernel
theorem dL_767 : decode code 767 = .ok (.iaload, 1) := by decide +kernel
theorem dL_768 : decode code 768 = .ok (.invokevirtual 100, 3) := by decide +kernel
theorem dL_771 : decode code 771 = .ok (.if_icmp .eq 230, 3) := by decide +kernel
theorem dL_774 : decode code 774 = .ok (.iconst 0, 1) := by decide +kernel
theorem dL_775 : decode code 775 = .ok (.ireturn, 1) := by decide +kernel
theorem dL_776 : decode code 776 = .ok (.aload_n 1, 1) := by decide +kernel
theorem dL_777 : decode code 777 = .ok (.aload_n 0, 1) := by decide +kernel
theorem dL_778 : decode code 778 = .ok (.iload_n 3, 1) := by decide +kernel
theorem dL_779 : decode code 779 = .ok (.iconst 1, 1) := by decide +kernel
theorem dL_780 : decode code 780 = .ok (.iadd, 1) := by decide +kernel
theorem dL_781 : decode code 781 = .ok (.iaload, 1) := by decide +kernel
theorem dL_782 : decode code 782 = .ok (.invokevirtual 101, 3) := by decide +kernel
theorem dL_785 : decode code 785 = .ok (.aload_n 2, 1) := by decide +kernel
theorem dL_786 : decode code 786 = .ok (.aload_n 0, 1) := by decide +kernel
theorem dL_787 : decode code 787 = .ok (.iload_n 3, 1) := by decide +kernel
theorem dL_788 : decode code 788 = .ok (.iconst 1, 1) := by decide +kernel
theorem dL_789 : decode code 789 = .ok (.iadd, 1) := by decide +kernel
theorem dL_790 : decode code 790 = .ok (.iaload, 1) := by decide +kernel
theorem dL_791 : decode code 791 = .ok (.invokevirtual 104, 3) := by decide +kernel
theorem dL_794 : decode code 794 = .ok (.if_icmp .eq 207, 3) := by decide +kernel
theorem dL_797 : decode code 797 = .ok (.iconst 0, 1) := by decide +kernel
theorem dL_798 : decode code 798 = .ok (.ireturn, 1) := by decide +kernel
theorem dL_799 : decode code 799 = .ok (.aload_n 1, 1) := by decide +kernel
theorem dL_800 : decode code 800 = .ok (.aload_n 0, 1) := by decide +kernel
theorem dL_801 : decode code 801 = .ok (.iload_n 3, 1) := by decide +kernel
theorem dL_802 : decode code 802 = .ok (.iconst 1, 1) := by decide +kernel
theorem dL_803 : decode code 803 = .ok (.iadd, 1) := by decide +kernel
theorem dL_804 : decode code 804 = .ok (.iaload, 1) := by decide +kernel
theorem dL_805 : decode code 805 = .ok (.aload_n 0, 1) := by decide +kernel
theorem dL_806 : decode code 806 = .ok (.iload_n 3, 1) := by decide +kernel
theorem dL_807 : decode code 807 = .ok (.iconst 2, 1) := by decide +kernel
theorem dL_808 : decode code 808 = .ok (.iadd, 1) := by decide +kernel
theorem dL_809 : decode code 809 = .ok (.iaload, 1) := by decide +kernel
theorem dL_810 : decode code 810 = .ok (.aload_n 0, 1) := by decide +kernel
theorem dL_811 : decode code 811 = .ok (.iload_n 3, 1) := by decide +kernel
theorem dL_812 : decode code 812 = .ok (.iconst 3, 1) := by decide +kernel
theorem dL_813 : decode code 813 = .ok (.iadd, 1) := by decide +kernel
theorem dL_814 : decode code 814 = .ok (.iaload, 1) := by decide +kernel
theorem dL_815 : decode code 815 = .ok (.invokevirtual 105, 3) := by decide +kernel
theorem dL_818 : decode code 818 = .ok (.aload_n 2, 1) := by decide +kernel
theorem dL_819 : decode code 819 = .ok (.aload_n 0, 1) := by decide +kernel
theorem dL_820 : decode code 820 = .ok (.iload_n 3, 1) := by decide +kernel
theorem dL_821 : decode code 821 = .ok (.iconst 1, 1) := by decide +kernel
theorem dL_822 : decode code 822 = .ok (.iadd, 1) := by decide +kernel
theorem dL_823 : decode code 823 = .ok (.iaload, 1) := by decide +kernel
theorem dL_824 : decode code 824 = .ok (.aload_n 0, 1) := by decide +kernel
theorem dL_825 : decode code 825 = .ok (.iload_n 3, 1) := by decide +kernel
theorem dL_826 : decode code 826 = .ok (.iconst 2, 1) := by decide +kernel
theorem dL_827 : decode code 827 = .ok (.iadd, 1) := by decide +kernel
theorem dL_828 : decode code 828 = .ok (.iaload, 1) := by decide +kernel
theorem dL_829 : decode code 829 = .ok (.aload_n 0, 1) := by decide +kernel
theorem dL_830 : decode code 830 = .ok (.iload_n 3, 1) := by decide +kernel
theorem dL_831 : decode code 831 = .ok (.iconst 3, 1) := by decide +kernel
theorem dL_832 : decode code 832 = .ok (.iadd, 1) := by decide +kernel
theorem dL_833 : decode code 833 = .ok (.iaload, 1) := by decide +kernel
theorem dL_834 : decode code 834 = .ok (.invokevirtual 109, 3) := by decide +kernel
theorem dL_837 : decode code 837 = .ok (.if_icmp .eq 164, 3) := by decide +kernel
theorem dL_840 : decode code 840 = .ok (.iconst 0, 1) := by decide +kernel
theorem dL_841 : decode code 841 = .ok (.ireturn, 1) := by decide +kernel
theorem dL_842 : decode code 842 = .ok (.aload_n 1, 1) := by decide +kernel
theorem dL_843 : decode code 843 = .ok (.aload_n 0, 1) := by decide +kernel
theorem dL_844 : decode code 844 = .ok (.iload_n 3, 1) := by decide +kernel
theorem dL_845 : decode code 845 = .ok (.iconst 1, 1) := by decide +kernel
theorem dL_846 : decode code 846 = .ok (.iadd, 1) := by decide +kernel
theorem dL_847 : decode code 847 = .ok (.iaload, 1) := by decide +kernel
theorem dL_848 : decode code 848 = .ok (.invokevirtual 110, 3) := by decide +kernel
theorem dL_851 : decode code 851 = .ok (.aload_n 2, 1) := by decide +kernel
theorem dL_852 : decode code 852 = .ok (.aload_n 0, 1) := by decide +kernel
theorem dL_853 : decode code 853 = .ok (.iload_n 3, 1) := by decide +kernel
theorem dL_854 : decode code 854 = .ok (.iconst 1, 1) := by decide +kernel
theorem dL_855 : decode code 855 = .ok (.iadd, 1) := by decide +kernel
theorem dL_856 : decode code 856 = .ok (.iaload, 1) := by decide +kernel
theorem dL_857 : decode code 857 = .ok (.invokevirtual 113, 3) := by decide +kernel
theorem dL_860 : decode code 860 = .ok (.if_icmp .eq 141, 3) := by decide +kernel
theorem dL_863 : decode code 863 = .ok (.iconst 0, 1) := by decide +kernel
theorem dL_864 : decode code 864 = .ok (.ireturn, 1) := by decide +kernel
theorem dL_865 : decode code 865 = .ok (.aload_n 1, 1) := by decide +kernel
theorem dL_866 : decode code 866 = .ok (.invokevirtual 114, 3) := by decide +kernel
theorem dL_869 : decode code 869 = .ok (.aload_n 2, 1) := by decide +kernel
theorem dL_870 : decode code 870 = .ok (.invokevirtual 117, 3) := by decide +kernel
theorem dL_873 : decode code 873 = .ok (.if_icmp .eq 128, 3) := by decide +kernel
theorem dL_876 : decode code 876 = .ok (.iconst 0, 1) := by decide +kernel
theorem dL_877 : decode code 877 = .ok (.ireturn, 1) := by decide +kernel
theorem dL_878 : decode code 878 = .ok (.aload_n 1, 1) := by decide +kernel
theorem dL_879 : decode code 879 = .ok (.aload_n 0, 1) := by decide +kernel
theorem dL_880 : decode code 880 = .ok (.iload_n 3, 1) := by decide +kernel
theorem dL_881 : decode code 881 = .ok (.iconst 1, 1) := by decide +kernel
theorem dL_882 : decode code 882 = .ok (.iadd, 1) := by decide +kernel
theorem dL_883 : decode code 883 = .ok (.iaload, 1) := by decide +kernel
theorem dL_884 : decode code 884 = .ok (.aload_n 0, 1) := by decide +kernel
theorem dL_885 : decode code 885 = .ok (.iload_n 3, 1) := by decide +kernel
theorem dL_886 : decode code 886 = .ok (.iconst 2, 1) := by decide +kernel
theorem dL_887 : decode code 887 = .ok (.iadd, 1) := by decide +kernel
theorem dL_888 : decode code 888 = .ok (.iaload, 1) := by decide +kernel
theorem dL_889 : decode code 889 = .ok (.invokevirtual 118, 3) := by decide +kernel
theorem dL_892 : decode code 892 = .ok (.aload_n 2, 1) := by decide +kernel
theorem dL_893 : decode code 893 = .ok (.aload_n 0, 1) := by decide +kernel
theorem dL_894 : decode code 894 = .ok (.iload_n 3, 1) := by decide +kernel
theorem dL_895 : decode code 895 = .ok (.iconst 1, 1) := by decide +kernel
theorem dL_896 : decode code 896 = .ok (.iadd, 1) := by decide +kernel
theorem dL_897 : decode code 897 = .ok (.iaload, 1) := by decide +kernel
theorem dL_898 : decode code 898 = .ok (.aload_n 0, 1) := by decide +kernel
theorem dL_899 : decode code 899 = .ok (.iload_n 3, 1) := by decide +kernel
theorem dL_900 : decode code 900 = .ok (.iconst 2, 1) := by decide +kernel
theorem dL_901 : decode code 901 = .ok (.iadd, 1) := by decide +kernel
theorem dL_902 : decode code 902 = .ok (.iaload, 1) := by decide +kernel
theorem dL_903 : decode code 903 = .ok (.invokevirtual 122, 3) := by decide +kernel
theorem dL_906 : decode code 906 = .ok (.lcmp, 1) := by decide +kernel
theorem dL_907 : decode code 907 = .ok (.ifCond .eq 94, 3) := by decide +kernel
theorem dL_910 : decode code 910 = .ok (.iconst 0, 1) := by decide +kernel
theorem dL_911 : decode code 911 = .ok (.ireturn, 1) := by decide +kernel
theorem dL_912 : decode code 912 = .ok (.aload_n 1, 1) := by decide +kernel
theorem dL_913 : decode code 913 = .ok (.aload_n 0, 1) := by decide +kernel
theorem dL_914 : decode code 914 = .ok (.iload_n 3, 1) := by decide +kernel
theorem dL_915 : decode code 915 = .ok (.iconst 1, 1) := by decide +kernel
theorem dL_916 : decode code 916 = .ok (.iadd, 1) := by decide +kernel
theorem dL_917 : decode code 917 = .ok (.iaload, 1) := by decide +kernel
theorem dL_918 : decode code 918 = .ok (.aload_n 0, 1) := by decide +kernel
theorem dL_919 : decode code 919 = .ok (.iload_n 3, 1) := by decide +kernel
theorem dL_920 : decode code 920 = .ok (.iconst 2, 1) := by decide +kernel
theorem dL_921 : decode code 921 = .ok (.iadd, 1) := by decide +kernel
theorem dL_922 : decode code 922 = .ok (.iaload, 1) := by decide +kernel
theorem dL_923 : decode code 923 = .ok (.aload_n 0, 1) := by decide +kernel
theorem dL_924 : decode code 924 = .ok (.iload_n 3, 1) := by decide +kernel
theorem dL_925 : decode code 925 = .ok (.iconst 3, 1) := by decide +kernel
theorem dL_926 : decode code 926 = .ok (.iadd, 1) := by decide +kernel
theorem dL_927 : decode code 927 = .ok (.iaload, 1) := by decide +kernel
theorem dL_928 : decode code 928 = .ok (.invokevirtual 123, 3) := by decide +kernel
theorem dL_931 : decode code 931 = .ok (.aload_n 2, 1) := by decide +kernel
theorem dL_932 : decode code 932 = .ok (.aload_n 0, 1) := by decide +kernel
theorem dL_933 : decode code 933 = .ok (.iload_n 3, 1) := by decide +kernel
theorem dL_934 : decode code 934 = .ok (.iconst 1, 1) := by decide +kernel
theorem dL_935 : decode code 935 = .ok (.iadd, 1) := by decide +kernel
theorem dL_936 : decode code 936 = .ok (.iaload, 1) := by decide +kernel
theorem dL_937 : decode code 937 = .ok (.aload_n 0, 1) := by decide +kernel
theorem dL_938 : decode code 938 = .ok (.iload_n 3, 1) := by decide +kernel
theorem dL_939 : decode code 939 = .ok (.iconst 2, 1) := by decide +kernel
theorem dL_940 : decode code 940 = .ok (.iadd, 1) := by decide +kernel
theorem dL_941 : decode code 941 = .ok (.iaload, 1) := by decide +kernel
theorem dL_942 : decode code 942 = .ok (.aload_n 0, 1) := by decide +kernel
theorem dL_943 : decode code 943 = .ok (.iload_n 3, 1) := by decide +kernel
theorem dL_944 : decode code 944 = .ok (.iconst 3, 1) := by decide +kernel
theorem dL_945 : decode code 945 = .ok (.iadd, 1) := by decide +kernel
theorem dL_946 : decode code 946 = .ok (.iaload, 1) := by decide +kernel
theorem dL_947 : decode code 947 = .ok (.invokevirtual 126, 3) := by decide +kernel
theorem dL_950 : decode code 950 = .ok (.if_icmp .eq 51, 3) := by decide +kernel
theorem dL_953 : decode code 953 = .ok (.iconst 0, 1) := by decide +kernel
theorem dL_954 : decode code 954 = .ok (.ireturn, 1) := by decide +kernel
theorem dL_955 : decode code 955 = .ok (.aload_n 1, 1) := by decide +kernel
theorem dL_956 : decode code 956 = .ok (.aload_n 0, 1) := by decide +kernel
theorem dL_957 : decode code 957 = .ok (.iload_n 3, 1) := by decide +kernel
theorem dL_958 : decode code 958 = .ok (.iconst 1, 1) := by decide +kernel
theorem dL_959 : decode code 959 = .ok (.iadd, 1) := by decide +kernel
theorem dL_960 : decode code 960 = .ok (.iaload, 1) := by decide +kernel
theorem dL_961 : decode code 961 = .ok (.invokevirtual 127, 3) := by decide +kernel
theorem dL_964 : decode code 964 = .ok (.aload_n 2, 1) := by decide +kernel
theorem dL_965 : decode code 965 = .ok (.aload_n 0, 1) := by decide +kernel
theorem dL_966 : decode code 966 = .ok (.iload_n 3, 1) := by decide +kernel
theorem dL_967 : decode code 967 = .ok (.iconst 1, 1) := by decide +kernel
theorem dL_968 : decode code 968 = .ok (.iadd, 1) := by decide +kernel
theorem dL_969 : decode code 969 = .ok (.iaload, 1) := by decide +kernel
theorem dL_970 : decode code 970 = .ok (.invokevirtual 130, 3) := by decide +kernel
theorem dL_973 : decode code 973 = .ok (.if_icmp .eq 28, 3) := by decide +kernel
theorem dL_976 : decode code 976 = .ok (.iconst 0, 1) := by decide +kernel
theorem dL_977 : decode code 977 = .ok (.ireturn, 1) := by decide +kernel
theorem dL_978 : decode code 978 = .ok (.aload_n 1, 1) := by decide +kernel
theorem dL_979 : decode code 979 = .ok (.aload_n 0, 1) := by decide +kernel
theorem dL_980 : decode code 980 = .ok (.iload_n 3, 1) := by decide +kernel
theorem dL_981 : decode code 981 = .ok (.iconst 1, 1) := by decide +kernel
theorem dL_982 : decode code 982 = .ok (.iadd, 1) := by decide +kernel
theorem dL_983 : decode code 983 = .ok (.iaload, 1) := by decide +kernel
theorem dL_984 : decode code 984 = .ok (.invokevirtual 131, 3) := by decide +kernel
theorem dL_987 : decode code 987 = .ok (.aload_n 2, 1) := by decide +kernel
theorem dL_988 : decode code 988 = .ok (.aload_n 0, 1) := by decide +kernel
theorem dL_989 : decode code 989 = .ok (.iload_n 3, 1) := by decide +kernel
theorem dL_990 : decode code 990 = .ok (.iconst 1, 1) := by decide +kernel
theorem dL_991 : decode code 991 = .ok (.iadd, 1) := by decide +kernel
theorem dL_992 : decode code 992 = .ok (.iaload, 1) := by decide +kernel
theorem dL_993 : decode code 993 = .ok (.invokevirtual 134, 3) := by decide +kernel
theorem dL_996 : decode code 996 = .ok (.if_icmp .eq 5, 3) := by decide +kernel
theorem dL_999 : decode code 999 = .ok (.iconst 0, 1) := by decide +kernel
theorem dL_1000 : decode code 1000 = .ok (.ireturn, 1) := by decide +kernel
theorem dL_1001 : decode code 1001 = .ok (.iinc 3 6, 3) := by decide +kernel
theorem dL_1004 : decode code 1004 = .ok (.goto (-986), 3) := by decide +kernel
theorem dL_1007 : decode code 1007 = .ok (.iconst 1, 1) := by decide +kernel
theorem dL_1008 : decode code 1008 = .ok (.ireturn, 1) := by decide +kernel
