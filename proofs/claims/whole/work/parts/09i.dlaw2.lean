theorem d_law_law_622 : decode code 622 = .ok (.invokevirtual 76, 3) := by decide +kernel
theorem d_law_law_625 : decode code 625 = .ok (.if_icmp .eq 272, 3) := by decide +kernel
theorem d_law_law_628 : decode code 628 = .ok (.iconst 0, 1) := by decide +kernel
theorem d_law_law_629 : decode code 629 = .ok (.ireturn, 1) := by decide +kernel
theorem d_law_law_630 : decode code 630 = .ok (.aload_n 1, 1) := by decide +kernel
theorem d_law_law_631 : decode code 631 = .ok (.aload_n 0, 1) := by decide +kernel
theorem d_law_law_632 : decode code 632 = .ok (.iload 4, 2) := by decide +kernel
theorem d_law_law_634 : decode code 634 = .ok (.iconst 1, 1) := by decide +kernel
theorem d_law_law_635 : decode code 635 = .ok (.iadd, 1) := by decide +kernel
theorem d_law_law_636 : decode code 636 = .ok (.iaload, 1) := by decide +kernel
theorem d_law_law_637 : decode code 637 = .ok (.invokevirtual 77, 3) := by decide +kernel
theorem d_law_law_640 : decode code 640 = .ok (.aload_n 2, 1) := by decide +kernel
theorem d_law_law_641 : decode code 641 = .ok (.aload_n 0, 1) := by decide +kernel
theorem d_law_law_642 : decode code 642 = .ok (.iload 4, 2) := by decide +kernel
theorem d_law_law_644 : decode code 644 = .ok (.iconst 1, 1) := by decide +kernel
theorem d_law_law_645 : decode code 645 = .ok (.iadd, 1) := by decide +kernel
theorem d_law_law_646 : decode code 646 = .ok (.iaload, 1) := by decide +kernel
theorem d_law_law_647 : decode code 647 = .ok (.invokevirtual 80, 3) := by decide +kernel
theorem d_law_law_650 : decode code 650 = .ok (.if_icmp .eq 247, 3) := by decide +kernel
theorem d_law_law_653 : decode code 653 = .ok (.iconst 0, 1) := by decide +kernel
theorem d_law_law_654 : decode code 654 = .ok (.ireturn, 1) := by decide +kernel
theorem d_law_law_655 : decode code 655 = .ok (.aload_n 1, 1) := by decide +kernel
theorem d_law_law_656 : decode code 656 = .ok (.aload_n 0, 1) := by decide +kernel
theorem d_law_law_657 : decode code 657 = .ok (.iload 4, 2) := by decide +kernel
theorem d_law_law_659 : decode code 659 = .ok (.iconst 1, 1) := by decide +kernel
theorem d_law_law_660 : decode code 660 = .ok (.iadd, 1) := by decide +kernel
theorem d_law_law_661 : decode code 661 = .ok (.iaload, 1) := by decide +kernel
theorem d_law_law_662 : decode code 662 = .ok (.aload_n 0, 1) := by decide +kernel
theorem d_law_law_663 : decode code 663 = .ok (.iload 4, 2) := by decide +kernel
theorem d_law_law_665 : decode code 665 = .ok (.iconst 2, 1) := by decide +kernel
theorem d_law_law_666 : decode code 666 = .ok (.iadd, 1) := by decide +kernel
theorem d_law_law_667 : decode code 667 = .ok (.iaload, 1) := by decide +kernel
theorem d_law_law_668 : decode code 668 = .ok (.aload_n 0, 1) := by decide +kernel
theorem d_law_law_669 : decode code 669 = .ok (.iload 4, 2) := by decide +kernel
theorem d_law_law_671 : decode code 671 = .ok (.iconst 3, 1) := by decide +kernel
theorem d_law_law_672 : decode code 672 = .ok (.iadd, 1) := by decide +kernel
theorem d_law_law_673 : decode code 673 = .ok (.iaload, 1) := by decide +kernel
theorem d_law_law_674 : decode code 674 = .ok (.aload_n 3, 1) := by decide +kernel
theorem d_law_law_675 : decode code 675 = .ok (.invokestatic 81, 3) := by decide +kernel
theorem d_law_law_678 : decode code 678 = .ok (.istore 5, 2) := by decide +kernel
theorem d_law_law_680 : decode code 680 = .ok (.aload_n 2, 1) := by decide +kernel
theorem d_law_law_681 : decode code 681 = .ok (.aload_n 0, 1) := by decide +kernel
theorem d_law_law_682 : decode code 682 = .ok (.iload 4, 2) := by decide +kernel
theorem d_law_law_684 : decode code 684 = .ok (.iconst 1, 1) := by decide +kernel
theorem d_law_law_685 : decode code 685 = .ok (.iadd, 1) := by decide +kernel
theorem d_law_law_686 : decode code 686 = .ok (.iaload, 1) := by decide +kernel
theorem d_law_law_687 : decode code 687 = .ok (.aload_n 0, 1) := by decide +kernel
theorem d_law_law_688 : decode code 688 = .ok (.iload 4, 2) := by decide +kernel
theorem d_law_law_690 : decode code 690 = .ok (.iconst 2, 1) := by decide +kernel
theorem d_law_law_691 : decode code 691 = .ok (.iadd, 1) := by decide +kernel
theorem d_law_law_692 : decode code 692 = .ok (.iaload, 1) := by decide +kernel
theorem d_law_law_693 : decode code 693 = .ok (.aload_n 0, 1) := by decide +kernel
theorem d_law_law_694 : decode code 694 = .ok (.iload 4, 2) := by decide +kernel
theorem d_law_law_696 : decode code 696 = .ok (.iconst 3, 1) := by decide +kernel
theorem d_law_law_697 : decode code 697 = .ok (.iadd, 1) := by decide +kernel
theorem d_law_law_698 : decode code 698 = .ok (.iaload, 1) := by decide +kernel
theorem d_law_law_699 : decode code 699 = .ok (.invokevirtual 84, 3) := by decide +kernel
theorem d_law_law_702 : decode code 702 = .ok (.istore 6, 2) := by decide +kernel
theorem d_law_law_704 : decode code 704 = .ok (.aload_n 2, 1) := by decide +kernel
theorem d_law_law_705 : decode code 705 = .ok (.invokevirtual 61, 3) := by decide +kernel
theorem d_law_law_708 : decode code 708 = .ok (.iload 5, 2) := by decide +kernel
theorem d_law_law_710 : decode code 710 = .ok (.if_icmp .eq 5, 3) := by decide +kernel
theorem d_law_law_713 : decode code 713 = .ok (.iconst 0, 1) := by decide +kernel
theorem d_law_law_714 : decode code 714 = .ok (.ireturn, 1) := by decide +kernel
theorem d_law_law_715 : decode code 715 = .ok (.iload 5, 2) := by decide +kernel
theorem d_law_law_717 : decode code 717 = .ok (.ifCond .ne 15, 3) := by decide +kernel
theorem d_law_law_720 : decode code 720 = .ok (.aload_n 3, 1) := by decide +kernel
theorem d_law_law_721 : decode code 721 = .ok (.iconst 0, 1) := by decide +kernel
theorem d_law_law_722 : decode code 722 = .ok (.laload, 1) := by decide +kernel
theorem d_law_law_723 : decode code 723 = .ok (.iload 6, 2) := by decide +kernel
theorem d_law_law_725 : decode code 725 = .ok (.i2l, 1) := by decide +kernel
theorem d_law_law_726 : decode code 726 = .ok (.lcmp, 1) := by decide +kernel
theorem d_law_law_727 : decode code 727 = .ok (.ifCond .eq 5, 3) := by decide +kernel
theorem d_law_law_730 : decode code 730 = .ok (.iconst 0, 1) := by decide +kernel
theorem d_law_law_731 : decode code 731 = .ok (.ireturn, 1) := by decide +kernel
theorem d_law_law_732 : decode code 732 = .ok (.goto 165, 3) := by decide +kernel
theorem d_law_law_735 : decode code 735 = .ok (.aload_n 1, 1) := by decide +kernel
theorem d_law_law_736 : decode code 736 = .ok (.invokevirtual 85, 3) := by decide +kernel
theorem d_law_law_739 : decode code 739 = .ok (.aload_n 2, 1) := by decide +kernel
theorem d_law_law_740 : decode code 740 = .ok (.invokevirtual 88, 3) := by decide +kernel
theorem d_law_law_743 : decode code 743 = .ok (.if_icmp .eq 154, 3) := by decide +kernel
theorem d_law_law_746 : decode code 746 = .ok (.iconst 0, 1) := by decide +kernel
theorem d_law_law_747 : decode code 747 = .ok (.ireturn, 1) := by decide +kernel
theorem d_law_law_748 : decode code 748 = .ok (.aload_n 1, 1) := by decide +kernel
theorem d_law_law_749 : decode code 749 = .ok (.aload_n 0, 1) := by decide +kernel
theorem d_law_law_750 : decode code 750 = .ok (.iload 4, 2) := by decide +kernel
theorem d_law_law_752 : decode code 752 = .ok (.iconst 1, 1) := by decide +kernel
theorem d_law_law_753 : decode code 753 = .ok (.iadd, 1) := by decide +kernel
theorem d_law_law_754 : decode code 754 = .ok (.iaload, 1) := by decide +kernel
theorem d_law_law_755 : decode code 755 = .ok (.invokevirtual 89, 3) := by decide +kernel
theorem d_law_law_758 : decode code 758 = .ok (.aload_n 2, 1) := by decide +kernel
theorem d_law_law_759 : decode code 759 = .ok (.aload_n 0, 1) := by decide +kernel
theorem d_law_law_760 : decode code 760 = .ok (.iload 4, 2) := by decide +kernel
theorem d_law_law_762 : decode code 762 = .ok (.iconst 1, 1) := by decide +kernel
theorem d_law_law_763 : decode code 763 = .ok (.iadd, 1) := by decide +kernel
theorem d_law_law_764 : decode code 764 = .ok (.iaload, 1) := by decide +kernel
theorem d_law_law_765 : decode code 765 = .ok (.invokevirtual 92, 3) := by decide +kernel
theorem d_law_law_768 : decode code 768 = .ok (.if_icmp .eq 129, 3) := by decide +kernel
theorem d_law_law_771 : decode code 771 = .ok (.iconst 0, 1) := by decide +kernel
theorem d_law_law_772 : decode code 772 = .ok (.ireturn, 1) := by decide +kernel
theorem d_law_law_773 : decode code 773 = .ok (.aload_n 1, 1) := by decide +kernel
theorem d_law_law_774 : decode code 774 = .ok (.aload_n 0, 1) := by decide +kernel
theorem d_law_law_775 : decode code 775 = .ok (.iload 4, 2) := by decide +kernel
theorem d_law_law_777 : decode code 777 = .ok (.iconst 1, 1) := by decide +kernel
theorem d_law_law_778 : decode code 778 = .ok (.iadd, 1) := by decide +kernel
theorem d_law_law_779 : decode code 779 = .ok (.iaload, 1) := by decide +kernel
theorem d_law_law_780 : decode code 780 = .ok (.invokevirtual 93, 3) := by decide +kernel
theorem d_law_law_783 : decode code 783 = .ok (.aload_n 2, 1) := by decide +kernel
theorem d_law_law_784 : decode code 784 = .ok (.aload_n 0, 1) := by decide +kernel
theorem d_law_law_785 : decode code 785 = .ok (.iload 4, 2) := by decide +kernel
theorem d_law_law_787 : decode code 787 = .ok (.iconst 1, 1) := by decide +kernel
theorem d_law_law_788 : decode code 788 = .ok (.iadd, 1) := by decide +kernel
theorem d_law_law_789 : decode code 789 = .ok (.iaload, 1) := by decide +kernel
theorem d_law_law_790 : decode code 790 = .ok (.invokevirtual 96, 3) := by decide +kernel
theorem d_law_law_793 : decode code 793 = .ok (.if_icmp .eq 104, 3) := by decide +kernel
theorem d_law_law_796 : decode code 796 = .ok (.iconst 0, 1) := by decide +kernel
theorem d_law_law_797 : decode code 797 = .ok (.ireturn, 1) := by decide +kernel
theorem d_law_law_798 : decode code 798 = .ok (.aload_n 1, 1) := by decide +kernel
theorem d_law_law_799 : decode code 799 = .ok (.aload_n 0, 1) := by decide +kernel
theorem d_law_law_800 : decode code 800 = .ok (.iload 4, 2) := by decide +kernel
theorem d_law_law_802 : decode code 802 = .ok (.iconst 1, 1) := by decide +kernel
theorem d_law_law_803 : decode code 803 = .ok (.iadd, 1) := by decide +kernel
theorem d_law_law_804 : decode code 804 = .ok (.iaload, 1) := by decide +kernel
theorem d_law_law_805 : decode code 805 = .ok (.aload_n 0, 1) := by decide +kernel
theorem d_law_law_806 : decode code 806 = .ok (.iload 4, 2) := by decide +kernel
theorem d_law_law_808 : decode code 808 = .ok (.iconst 2, 1) := by decide +kernel
theorem d_law_law_809 : decode code 809 = .ok (.iadd, 1) := by decide +kernel
theorem d_law_law_810 : decode code 810 = .ok (.iaload, 1) := by decide +kernel
theorem d_law_law_811 : decode code 811 = .ok (.aload_n 0, 1) := by decide +kernel
theorem d_law_law_812 : decode code 812 = .ok (.iload 4, 2) := by decide +kernel
theorem d_law_law_814 : decode code 814 = .ok (.iconst 3, 1) := by decide +kernel
theorem d_law_law_815 : decode code 815 = .ok (.iadd, 1) := by decide +kernel
theorem d_law_law_816 : decode code 816 = .ok (.iaload, 1) := by decide +kernel
theorem d_law_law_817 : decode code 817 = .ok (.invokevirtual 97, 3) := by decide +kernel
theorem d_law_law_820 : decode code 820 = .ok (.aload_n 2, 1) := by decide +kernel
theorem d_law_law_821 : decode code 821 = .ok (.aload_n 0, 1) := by decide +kernel
theorem d_law_law_822 : decode code 822 = .ok (.iload 4, 2) := by decide +kernel
theorem d_law_law_824 : decode code 824 = .ok (.iconst 1, 1) := by decide +kernel
theorem d_law_law_825 : decode code 825 = .ok (.iadd, 1) := by decide +kernel
theorem d_law_law_826 : decode code 826 = .ok (.iaload, 1) := by decide +kernel
theorem d_law_law_827 : decode code 827 = .ok (.aload_n 0, 1) := by decide +kernel
theorem d_law_law_828 : decode code 828 = .ok (.iload 4, 2) := by decide +kernel
theorem d_law_law_830 : decode code 830 = .ok (.iconst 2, 1) := by decide +kernel
theorem d_law_law_831 : decode code 831 = .ok (.iadd, 1) := by decide +kernel
theorem d_law_law_832 : decode code 832 = .ok (.iaload, 1) := by decide +kernel
theorem d_law_law_833 : decode code 833 = .ok (.aload_n 0, 1) := by decide +kernel
theorem d_law_law_834 : decode code 834 = .ok (.iload 4, 2) := by decide +kernel
theorem d_law_law_836 : decode code 836 = .ok (.iconst 3, 1) := by decide +kernel
theorem d_law_law_837 : decode code 837 = .ok (.iadd, 1) := by decide +kernel
theorem d_law_law_838 : decode code 838 = .ok (.iaload, 1) := by decide +kernel
theorem d_law_law_839 : decode code 839 = .ok (.invokevirtual 100, 3) := by decide +kernel
theorem d_law_law_842 : decode code 842 = .ok (.if_icmp .eq 55, 3) := by decide +kernel
theorem d_law_law_845 : decode code 845 = .ok (.iconst 0, 1) := by decide +kernel
theorem d_law_law_846 : decode code 846 = .ok (.ireturn, 1) := by decide +kernel
theorem d_law_law_847 : decode code 847 = .ok (.aload_n 1, 1) := by decide +kernel
theorem d_law_law_848 : decode code 848 = .ok (.aload_n 0, 1) := by decide +kernel
theorem d_law_law_849 : decode code 849 = .ok (.iload 4, 2) := by decide +kernel
theorem d_law_law_851 : decode code 851 = .ok (.iconst 1, 1) := by decide +kernel
theorem d_law_law_852 : decode code 852 = .ok (.iadd, 1) := by decide +kernel
theorem d_law_law_853 : decode code 853 = .ok (.iaload, 1) := by decide +kernel
theorem d_law_law_854 : decode code 854 = .ok (.invokevirtual 101, 3) := by decide +kernel
theorem d_law_law_857 : decode code 857 = .ok (.aload_n 2, 1) := by decide +kernel
theorem d_law_law_858 : decode code 858 = .ok (.aload_n 0, 1) := by decide +kernel
theorem d_law_law_859 : decode code 859 = .ok (.iload 4, 2) := by decide +kernel
theorem d_law_law_861 : decode code 861 = .ok (.iconst 1, 1) := by decide +kernel
theorem d_law_law_862 : decode code 862 = .ok (.iadd, 1) := by decide +kernel
theorem d_law_law_863 : decode code 863 = .ok (.iaload, 1) := by decide +kernel
theorem d_law_law_864 : decode code 864 = .ok (.invokevirtual 104, 3) := by decide +kernel
theorem d_law_law_867 : decode code 867 = .ok (.if_icmp .eq 30, 3) := by decide +kernel
theorem d_law_law_870 : decode code 870 = .ok (.iconst 0, 1) := by decide +kernel
theorem d_law_law_871 : decode code 871 = .ok (.ireturn, 1) := by decide +kernel
theorem d_law_law_872 : decode code 872 = .ok (.aload_n 1, 1) := by decide +kernel
theorem d_law_law_873 : decode code 873 = .ok (.aload_n 0, 1) := by decide +kernel
theorem d_law_law_874 : decode code 874 = .ok (.iload 4, 2) := by decide +kernel
theorem d_law_law_876 : decode code 876 = .ok (.iconst 1, 1) := by decide +kernel
theorem d_law_law_877 : decode code 877 = .ok (.iadd, 1) := by decide +kernel
theorem d_law_law_878 : decode code 878 = .ok (.iaload, 1) := by decide +kernel
theorem d_law_law_879 : decode code 879 = .ok (.invokevirtual 105, 3) := by decide +kernel
theorem d_law_law_882 : decode code 882 = .ok (.aload_n 2, 1) := by decide +kernel
theorem d_law_law_883 : decode code 883 = .ok (.aload_n 0, 1) := by decide +kernel
theorem d_law_law_884 : decode code 884 = .ok (.iload 4, 2) := by decide +kernel
theorem d_law_law_886 : decode code 886 = .ok (.iconst 1, 1) := by decide +kernel
theorem d_law_law_887 : decode code 887 = .ok (.iadd, 1) := by decide +kernel
theorem d_law_law_888 : decode code 888 = .ok (.iaload, 1) := by decide +kernel
theorem d_law_law_889 : decode code 889 = .ok (.invokevirtual 108, 3) := by decide +kernel
theorem d_law_law_892 : decode code 892 = .ok (.if_icmp .eq 5, 3) := by decide +kernel
theorem d_law_law_895 : decode code 895 = .ok (.iconst 0, 1) := by decide +kernel
theorem d_law_law_896 : decode code 896 = .ok (.ireturn, 1) := by decide +kernel
theorem d_law_law_897 : decode code 897 = .ok (.iinc 4 6, 3) := by decide +kernel
theorem d_law_law_900 : decode code 900 = .ok (.goto (-877), 3) := by decide +kernel
theorem d_law_law_903 : decode code 903 = .ok (.iconst 1, 1) := by decide +kernel
theorem d_law_law_904 : decode code 904 = .ok (.ireturn, 1) := by decide +kernel

