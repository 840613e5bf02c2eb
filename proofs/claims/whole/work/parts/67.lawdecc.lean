/-! the law's instructions, 400 -/
theorem dL_law_650 : decode code 650 = .ok (.ireturn, 1) := by decide +kernel
theorem dL_law_651 : decode code 651 = .ok (.aload_n 1, 1) := by decide +kernel
theorem dL_law_652 : decode code 652 = .ok (.aload_n 0, 1) := by decide +kernel
theorem dL_law_653 : decode code 653 = .ok (.iload_n 3, 1) := by decide +kernel
theorem dL_law_654 : decode code 654 = .ok (.iconst 1, 1) := by decide +kernel
theorem dL_law_655 : decode code 655 = .ok (.iadd, 1) := by decide +kernel
theorem dL_law_656 : decode code 656 = .ok (.iaload, 1) := by decide +kernel
theorem dL_law_657 : decode code 657 = .ok (.invokevirtual 80, 3) := by decide +kernel
theorem dL_law_660 : decode code 660 = .ok (.aload_n 2, 1) := by decide +kernel
theorem dL_law_661 : decode code 661 = .ok (.aload_n 0, 1) := by decide +kernel
theorem dL_law_662 : decode code 662 = .ok (.iload_n 3, 1) := by decide +kernel
theorem dL_law_663 : decode code 663 = .ok (.iconst 1, 1) := by decide +kernel
theorem dL_law_664 : decode code 664 = .ok (.iadd, 1) := by decide +kernel
theorem dL_law_665 : decode code 665 = .ok (.iaload, 1) := by decide +kernel
theorem dL_law_666 : decode code 666 = .ok (.invokevirtual 83, 3) := by decide +kernel
theorem dL_law_669 : decode code 669 = .ok (.if_icmp .eq 453, 3) := by decide +kernel
theorem dL_law_672 : decode code 672 = .ok (.iconst 0, 1) := by decide +kernel
theorem dL_law_673 : decode code 673 = .ok (.ireturn, 1) := by decide +kernel
theorem dL_law_674 : decode code 674 = .ok (.aload_n 1, 1) := by decide +kernel
theorem dL_law_675 : decode code 675 = .ok (.aload_n 0, 1) := by decide +kernel
theorem dL_law_676 : decode code 676 = .ok (.iload_n 3, 1) := by decide +kernel
theorem dL_law_677 : decode code 677 = .ok (.iconst 1, 1) := by decide +kernel
theorem dL_law_678 : decode code 678 = .ok (.iadd, 1) := by decide +kernel
theorem dL_law_679 : decode code 679 = .ok (.iaload, 1) := by decide +kernel
theorem dL_law_680 : decode code 680 = .ok (.aload_n 0, 1) := by decide +kernel
theorem dL_law_681 : decode code 681 = .ok (.iload_n 3, 1) := by decide +kernel
theorem dL_law_682 : decode code 682 = .ok (.iconst 2, 1) := by decide +kernel
theorem dL_law_683 : decode code 683 = .ok (.iadd, 1) := by decide +kernel
theorem dL_law_684 : decode code 684 = .ok (.iaload, 1) := by decide +kernel
theorem dL_law_685 : decode code 685 = .ok (.aload_n 0, 1) := by decide +kernel
theorem dL_law_686 : decode code 686 = .ok (.iload_n 3, 1) := by decide +kernel
theorem dL_law_687 : decode code 687 = .ok (.iconst 3, 1) := by decide +kernel
theorem dL_law_688 : decode code 688 = .ok (.iadd, 1) := by decide +kernel
theorem dL_law_689 : decode code 689 = .ok (.iaload, 1) := by decide +kernel
theorem dL_law_690 : decode code 690 = .ok (.invokevirtual 84, 3) := by decide +kernel
theorem dL_law_693 : decode code 693 = .ok (.aload_n 2, 1) := by decide +kernel
theorem dL_law_694 : decode code 694 = .ok (.aload_n 0, 1) := by decide +kernel
theorem dL_law_695 : decode code 695 = .ok (.iload_n 3, 1) := by decide +kernel
theorem dL_law_696 : decode code 696 = .ok (.iconst 1, 1) := by decide +kernel
theorem dL_law_697 : decode code 697 = .ok (.iadd, 1) := by decide +kernel
theorem dL_law_698 : decode code 698 = .ok (.iaload, 1) := by decide +kernel
theorem dL_law_699 : decode code 699 = .ok (.aload_n 0, 1) := by decide +kernel
theorem dL_law_700 : decode code 700 = .ok (.iload_n 3, 1) := by decide +kernel
theorem dL_law_701 : decode code 701 = .ok (.iconst 2, 1) := by decide +kernel
theorem dL_law_702 : decode code 702 = .ok (.iadd, 1) := by decide +kernel
theorem dL_law_703 : decode code 703 = .ok (.iaload, 1) := by decide +kernel
theorem dL_law_704 : decode code 704 = .ok (.aload_n 0, 1) := by decide +kernel
theorem dL_law_705 : decode code 705 = .ok (.iload_n 3, 1) := by decide +kernel
theorem dL_law_706 : decode code 706 = .ok (.iconst 3, 1) := by decide +kernel
theorem dL_law_707 : decode code 707 = .ok (.iadd, 1) := by decide +kernel
theorem dL_law_708 : decode code 708 = .ok (.iaload, 1) := by decide +kernel
theorem dL_law_709 : decode code 709 = .ok (.invokevirtual 87, 3) := by decide +kernel
theorem dL_law_712 : decode code 712 = .ok (.if_icmp .eq 410, 3) := by decide +kernel
theorem dL_law_715 : decode code 715 = .ok (.iconst 0, 1) := by decide +kernel
theorem dL_law_716 : decode code 716 = .ok (.ireturn, 1) := by decide +kernel
theorem dL_law_717 : decode code 717 = .ok (.aload_n 1, 1) := by decide +kernel
theorem dL_law_718 : decode code 718 = .ok (.invokevirtual 88, 3) := by decide +kernel
theorem dL_law_721 : decode code 721 = .ok (.aload_n 2, 1) := by decide +kernel
theorem dL_law_722 : decode code 722 = .ok (.invokevirtual 91, 3) := by decide +kernel
theorem dL_law_725 : decode code 725 = .ok (.if_icmp .eq 397, 3) := by decide +kernel
theorem dL_law_728 : decode code 728 = .ok (.iconst 0, 1) := by decide +kernel
theorem dL_law_729 : decode code 729 = .ok (.ireturn, 1) := by decide +kernel
theorem dL_law_730 : decode code 730 = .ok (.aload_n 1, 1) := by decide +kernel
theorem dL_law_731 : decode code 731 = .ok (.aload_n 0, 1) := by decide +kernel
theorem dL_law_732 : decode code 732 = .ok (.iload_n 3, 1) := by decide +kernel
theorem dL_law_733 : decode code 733 = .ok (.iconst 1, 1) := by decide +kernel
theorem dL_law_734 : decode code 734 = .ok (.iadd, 1) := by decide +kernel
theorem dL_law_735 : decode code 735 = .ok (.iaload, 1) := by decide +kernel
theorem dL_law_736 : decode code 736 = .ok (.invokevirtual 92, 3) := by decide +kernel
theorem dL_law_739 : decode code 739 = .ok (.aload_n 2, 1) := by decide +kernel
theorem dL_law_740 : decode code 740 = .ok (.aload_n 0, 1) := by decide +kernel
theorem dL_law_741 : decode code 741 = .ok (.iload_n 3, 1) := by decide +kernel
theorem dL_law_742 : decode code 742 = .ok (.iconst 1, 1) := by decide +kernel
theorem dL_law_743 : decode code 743 = .ok (.iadd, 1) := by decide +kernel
theorem dL_law_744 : decode code 744 = .ok (.iaload, 1) := by decide +kernel
theorem dL_law_745 : decode code 745 = .ok (.invokevirtual 95, 3) := by decide +kernel
theorem dL_law_748 : decode code 748 = .ok (.if_icmp .eq 374, 3) := by decide +kernel
theorem dL_law_751 : decode code 751 = .ok (.iconst 0, 1) := by decide +kernel
theorem dL_law_752 : decode code 752 = .ok (.ireturn, 1) := by decide +kernel
theorem dL_law_753 : decode code 753 = .ok (.aload_n 1, 1) := by decide +kernel
theorem dL_law_754 : decode code 754 = .ok (.aload_n 0, 1) := by decide +kernel
theorem dL_law_755 : decode code 755 = .ok (.iload_n 3, 1) := by decide +kernel
theorem dL_law_756 : decode code 756 = .ok (.iconst 1, 1) := by decide +kernel
theorem dL_law_757 : decode code 757 = .ok (.iadd, 1) := by decide +kernel
theorem dL_law_758 : decode code 758 = .ok (.iaload, 1) := by decide +kernel
theorem dL_law_759 : decode code 759 = .ok (.aload_n 0, 1) := by decide +kernel
theorem dL_law_760 : decode code 760 = .ok (.iload_n 3, 1) := by decide +kernel
theorem dL_law_761 : decode code 761 = .ok (.iconst 2, 1) := by decide +kernel
theorem dL_law_762 : decode code 762 = .ok (.iadd, 1) := by decide +kernel
theorem dL_law_763 : decode code 763 = .ok (.iaload, 1) := by decide +kernel
theorem dL_law_764 : decode code 764 = .ok (.invokevirtual 96, 3) := by decide +kernel
theorem dL_law_767 : decode code 767 = .ok (.aload_n 2, 1) := by decide +kernel
theorem dL_law_768 : decode code 768 = .ok (.aload_n 0, 1) := by decide +kernel
theorem dL_law_769 : decode code 769 = .ok (.iload_n 3, 1) := by decide +kernel
theorem dL_law_770 : decode code 770 = .ok (.iconst 1, 1) := by decide +kernel
theorem dL_law_771 : decode code 771 = .ok (.iadd, 1) := by decide +kernel
theorem dL_law_772 : decode code 772 = .ok (.iaload, 1) := by decide +kernel
theorem dL_law_773 : decode code 773 = .ok (.aload_n 0, 1) := by decide +kernel
theorem dL_law_774 : decode code 774 = .ok (.iload_n 3, 1) := by decide +kernel
theorem dL_law_775 : decode code 775 = .ok (.iconst 2, 1) := by decide +kernel
theorem dL_law_776 : decode code 776 = .ok (.iadd, 1) := by decide +kernel
theorem dL_law_777 : decode code 777 = .ok (.iaload, 1) := by decide +kernel
theorem dL_law_778 : decode code 778 = .ok (.invokevirtual 99, 3) := by decide +kernel
theorem dL_law_781 : decode code 781 = .ok (.if_icmp .eq 341, 3) := by decide +kernel
theorem dL_law_784 : decode code 784 = .ok (.iconst 0, 1) := by decide +kernel
theorem dL_law_785 : decode code 785 = .ok (.ireturn, 1) := by decide +kernel
theorem dL_law_786 : decode code 786 = .ok (.aload_n 1, 1) := by decide +kernel
theorem dL_law_787 : decode code 787 = .ok (.aload_n 0, 1) := by decide +kernel
theorem dL_law_788 : decode code 788 = .ok (.iload_n 3, 1) := by decide +kernel
theorem dL_law_789 : decode code 789 = .ok (.iconst 1, 1) := by decide +kernel
theorem dL_law_790 : decode code 790 = .ok (.iadd, 1) := by decide +kernel
theorem dL_law_791 : decode code 791 = .ok (.iaload, 1) := by decide +kernel
theorem dL_law_792 : decode code 792 = .ok (.aload_n 0, 1) := by decide +kernel
theorem dL_law_793 : decode code 793 = .ok (.iload_n 3, 1) := by decide +kernel
theorem dL_law_794 : decode code 794 = .ok (.iconst 2, 1) := by decide +kernel
theorem dL_law_795 : decode code 795 = .ok (.iadd, 1) := by decide +kernel
theorem dL_law_796 : decode code 796 = .ok (.iaload, 1) := by decide +kernel
theorem dL_law_797 : decode code 797 = .ok (.invokevirtual 100, 3) := by decide +kernel
theorem dL_law_800 : decode code 800 = .ok (.aload_n 2, 1) := by decide +kernel
theorem dL_law_801 : decode code 801 = .ok (.aload_n 0, 1) := by decide +kernel
theorem dL_law_802 : decode code 802 = .ok (.iload_n 3, 1) := by decide +kernel
theorem dL_law_803 : decode code 803 = .ok (.iconst 1, 1) := by decide +kernel
theorem dL_law_804 : decode code 804 = .ok (.iadd, 1) := by decide +kernel
theorem dL_law_805 : decode code 805 = .ok (.iaload, 1) := by decide +kernel
theorem dL_law_806 : decode code 806 = .ok (.aload_n 0, 1) := by decide +kernel
theorem dL_law_807 : decode code 807 = .ok (.iload_n 3, 1) := by decide +kernel
theorem dL_law_808 : decode code 808 = .ok (.iconst 2, 1) := by decide +kernel
theorem dL_law_809 : decode code 809 = .ok (.iadd, 1) := by decide +kernel
theorem dL_law_810 : decode code 810 = .ok (.iaload, 1) := by decide +kernel
theorem dL_law_811 : decode code 811 = .ok (.invokevirtual 103, 3) := by decide +kernel
theorem dL_law_814 : decode code 814 = .ok (.if_icmp .eq 308, 3) := by decide +kernel
theorem dL_law_817 : decode code 817 = .ok (.iconst 0, 1) := by decide +kernel
theorem dL_law_818 : decode code 818 = .ok (.ireturn, 1) := by decide +kernel
theorem dL_law_819 : decode code 819 = .ok (.aload_n 1, 1) := by decide +kernel
theorem dL_law_820 : decode code 820 = .ok (.aload_n 0, 1) := by decide +kernel
theorem dL_law_821 : decode code 821 = .ok (.iload_n 3, 1) := by decide +kernel
theorem dL_law_822 : decode code 822 = .ok (.iconst 1, 1) := by decide +kernel
theorem dL_law_823 : decode code 823 = .ok (.iadd, 1) := by decide +kernel
theorem dL_law_824 : decode code 824 = .ok (.iaload, 1) := by decide +kernel
theorem dL_law_825 : decode code 825 = .ok (.aload_n 0, 1) := by decide +kernel
theorem dL_law_826 : decode code 826 = .ok (.iload_n 3, 1) := by decide +kernel
theorem dL_law_827 : decode code 827 = .ok (.iconst 2, 1) := by decide +kernel
theorem dL_law_828 : decode code 828 = .ok (.iadd, 1) := by decide +kernel
theorem dL_law_829 : decode code 829 = .ok (.iaload, 1) := by decide +kernel
theorem dL_law_830 : decode code 830 = .ok (.aload_n 0, 1) := by decide +kernel
theorem dL_law_831 : decode code 831 = .ok (.iload_n 3, 1) := by decide +kernel
theorem dL_law_832 : decode code 832 = .ok (.iconst 3, 1) := by decide +kernel
theorem dL_law_833 : decode code 833 = .ok (.iadd, 1) := by decide +kernel
theorem dL_law_834 : decode code 834 = .ok (.iaload, 1) := by decide +kernel
theorem dL_law_835 : decode code 835 = .ok (.invokevirtual 104, 3) := by decide +kernel
theorem dL_law_838 : decode code 838 = .ok (.aload_n 2, 1) := by decide +kernel
theorem dL_law_839 : decode code 839 = .ok (.aload_n 0, 1) := by decide +kernel
theorem dL_law_840 : decode code 840 = .ok (.iload_n 3, 1) := by decide +kernel
theorem dL_law_841 : decode code 841 = .ok (.iconst 1, 1) := by decide +kernel
theorem dL_law_842 : decode code 842 = .ok (.iadd, 1) := by decide +kernel
theorem dL_law_843 : decode code 843 = .ok (.iaload, 1) := by decide +kernel
theorem dL_law_844 : decode code 844 = .ok (.aload_n 0, 1) := by decide +kernel
theorem dL_law_845 : decode code 845 = .ok (.iload_n 3, 1) := by decide +kernel
theorem dL_law_846 : decode code 846 = .ok (.iconst 2, 1) := by decide +kernel
theorem dL_law_847 : decode code 847 = .ok (.iadd, 1) := by decide +kernel
theorem dL_law_848 : decode code 848 = .ok (.iaload, 1) := by decide +kernel
theorem dL_law_849 : decode code 849 = .ok (.aload_n 0, 1) := by decide +kernel
theorem dL_law_850 : decode code 850 = .ok (.iload_n 3, 1) := by decide +kernel
theorem dL_law_851 : decode code 851 = .ok (.iconst 3, 1) := by decide +kernel
theorem dL_law_852 : decode code 852 = .ok (.iadd, 1) := by decide +kernel
theorem dL_law_853 : decode code 853 = .ok (.iaload, 1) := by decide +kernel
theorem dL_law_854 : decode code 854 = .ok (.invokevirtual 107, 3) := by decide +kernel
theorem dL_law_857 : decode code 857 = .ok (.if_icmp .eq 265, 3) := by decide +kernel
theorem dL_law_860 : decode code 860 = .ok (.iconst 0, 1) := by decide +kernel
theorem dL_law_861 : decode code 861 = .ok (.ireturn, 1) := by decide +kernel
theorem dL_law_862 : decode code 862 = .ok (.aload_n 1, 1) := by decide +kernel
theorem dL_law_863 : decode code 863 = .ok (.aload_n 0, 1) := by decide +kernel
theorem dL_law_864 : decode code 864 = .ok (.iload_n 3, 1) := by decide +kernel
theorem dL_law_865 : decode code 865 = .ok (.iconst 1, 1) := by decide +kernel
theorem dL_law_866 : decode code 866 = .ok (.iadd, 1) := by decide +kernel
theorem dL_law_867 : decode code 867 = .ok (.iaload, 1) := by decide +kernel
theorem dL_law_868 : decode code 868 = .ok (.invokevirtual 108, 3) := by decide +kernel
theorem dL_law_871 : decode code 871 = .ok (.aload_n 2, 1) := by decide +kernel
theorem dL_law_872 : decode code 872 = .ok (.aload_n 0, 1) := by decide +kernel
theorem dL_law_873 : decode code 873 = .ok (.iload_n 3, 1) := by decide +kernel
theorem dL_law_874 : decode code 874 = .ok (.iconst 1, 1) := by decide +kernel
theorem dL_law_875 : decode code 875 = .ok (.iadd, 1) := by decide +kernel
theorem dL_law_876 : decode code 876 = .ok (.iaload, 1) := by decide +kernel
theorem dL_law_877 : decode code 877 = .ok (.invokevirtual 111, 3) := by decide +kernel
theorem dL_law_880 : decode code 880 = .ok (.if_icmp .eq 242, 3) := by decide +kernel
theorem dL_law_883 : decode code 883 = .ok (.iconst 0, 1) := by decide +kernel
theorem dL_law_884 : decode code 884 = .ok (.ireturn, 1) := by decide +kernel
theorem dL_law_885 : decode code 885 = .ok (.aload_n 1, 1) := by decide +kernel
theorem dL_law_886 : decode code 886 = .ok (.aload_n 0, 1) := by decide +kernel
theorem dL_law_887 : decode code 887 = .ok (.iload_n 3, 1) := by decide +kernel
theorem dL_law_888 : decode code 888 = .ok (.iconst 1, 1) := by decide +kernel
theorem dL_law_889 : decode code 889 = .ok (.iadd, 1) := by decide +kernel
theorem dL_law_890 : decode code 890 = .ok (.iaload, 1) := by decide +kernel
theorem dL_law_891 : decode code 891 = .ok (.aload_n 0, 1) := by decide +kernel
theorem dL_law_892 : decode code 892 = .ok (.iload_n 3, 1) := by decide +kernel
theorem dL_law_893 : decode code 893 = .ok (.iconst 2, 1) := by decide +kernel
theorem dL_law_894 : decode code 894 = .ok (.iadd, 1) := by decide +kernel
theorem dL_law_895 : decode code 895 = .ok (.iaload, 1) := by decide +kernel
theorem dL_law_896 : decode code 896 = .ok (.aload_n 0, 1) := by decide +kernel
theorem dL_law_897 : decode code 897 = .ok (.iload_n 3, 1) := by decide +kernel
