theorem dLw_main_645 : decode code 645 = .ok (.iaload, 1) := by decide +kernel
theorem dLw_main_646 : decode code 646 = .ok (.aload_n 3, 1) := by decide +kernel
theorem dLw_main_647 : decode code 647 = .ok (.invokestatic 125, 3) := by decide +kernel
theorem dLw_main_650 : decode code 650 = .ok (.istore 5, 2) := by decide +kernel
theorem dLw_main_652 : decode code 652 = .ok (.aload_n 2, 1) := by decide +kernel
theorem dLw_main_653 : decode code 653 = .ok (.aload_n 0, 1) := by decide +kernel
theorem dLw_main_654 : decode code 654 = .ok (.iload 4, 2) := by decide +kernel
theorem dLw_main_656 : decode code 656 = .ok (.iconst 1, 1) := by decide +kernel
theorem dLw_main_657 : decode code 657 = .ok (.iadd, 1) := by decide +kernel
theorem dLw_main_658 : decode code 658 = .ok (.iaload, 1) := by decide +kernel
theorem dLw_main_659 : decode code 659 = .ok (.invokevirtual 127, 3) := by decide +kernel
theorem dLw_main_662 : decode code 662 = .ok (.istore 6, 2) := by decide +kernel
theorem dLw_main_664 : decode code 664 = .ok (.aload_n 2, 1) := by decide +kernel
theorem dLw_main_665 : decode code 665 = .ok (.invokevirtual 101, 3) := by decide +kernel
theorem dLw_main_668 : decode code 668 = .ok (.iload 5, 2) := by decide +kernel
theorem dLw_main_670 : decode code 670 = .ok (.if_icmp .eq (5), 3) := by decide +kernel
theorem dLw_main_673 : decode code 673 = .ok (.iconst 0, 1) := by decide +kernel
theorem dLw_main_674 : decode code 674 = .ok (.ireturn, 1) := by decide +kernel
theorem dLw_main_675 : decode code 675 = .ok (.iload 5, 2) := by decide +kernel
theorem dLw_main_677 : decode code 677 = .ok (.ifCond .ne (15), 3) := by decide +kernel
theorem dLw_main_680 : decode code 680 = .ok (.aload_n 3, 1) := by decide +kernel
theorem dLw_main_681 : decode code 681 = .ok (.iconst 0, 1) := by decide +kernel
theorem dLw_main_682 : decode code 682 = .ok (.laload, 1) := by decide +kernel
theorem dLw_main_683 : decode code 683 = .ok (.iload 6, 2) := by decide +kernel
theorem dLw_main_685 : decode code 685 = .ok (.i2l, 1) := by decide +kernel
theorem dLw_main_686 : decode code 686 = .ok (.lcmp, 1) := by decide +kernel
theorem dLw_main_687 : decode code 687 = .ok (.ifCond .eq (5), 3) := by decide +kernel
theorem dLw_main_690 : decode code 690 = .ok (.iconst 0, 1) := by decide +kernel
theorem dLw_main_691 : decode code 691 = .ok (.ireturn, 1) := by decide +kernel
theorem dLw_main_692 : decode code 692 = .ok (.goto (1004), 3) := by decide +kernel
theorem dLw_main_695 : decode code 695 = .ok (.aload_n 1, 1) := by decide +kernel
theorem dLw_main_696 : decode code 696 = .ok (.aload_n 0, 1) := by decide +kernel
theorem dLw_main_697 : decode code 697 = .ok (.iload 4, 2) := by decide +kernel
theorem dLw_main_699 : decode code 699 = .ok (.iconst 1, 1) := by decide +kernel
theorem dLw_main_700 : decode code 700 = .ok (.iadd, 1) := by decide +kernel
theorem dLw_main_701 : decode code 701 = .ok (.iaload, 1) := by decide +kernel
theorem dLw_main_702 : decode code 702 = .ok (.aload_n 3, 1) := by decide +kernel
theorem dLw_main_703 : decode code 703 = .ok (.invokestatic 128, 3) := by decide +kernel
theorem dLw_main_706 : decode code 706 = .ok (.istore 5, 2) := by decide +kernel
theorem dLw_main_708 : decode code 708 = .ok (.aload_n 2, 1) := by decide +kernel
theorem dLw_main_709 : decode code 709 = .ok (.aload_n 0, 1) := by decide +kernel
theorem dLw_main_710 : decode code 710 = .ok (.iload 4, 2) := by decide +kernel
theorem dLw_main_712 : decode code 712 = .ok (.iconst 1, 1) := by decide +kernel
theorem dLw_main_713 : decode code 713 = .ok (.iadd, 1) := by decide +kernel
theorem dLw_main_714 : decode code 714 = .ok (.iaload, 1) := by decide +kernel
theorem dLw_main_715 : decode code 715 = .ok (.invokevirtual 130, 3) := by decide +kernel
theorem dLw_main_718 : decode code 718 = .ok (.istore 6, 2) := by decide +kernel
theorem dLw_main_720 : decode code 720 = .ok (.aload_n 2, 1) := by decide +kernel
theorem dLw_main_721 : decode code 721 = .ok (.invokevirtual 101, 3) := by decide +kernel
theorem dLw_main_724 : decode code 724 = .ok (.iload 5, 2) := by decide +kernel
theorem dLw_main_726 : decode code 726 = .ok (.if_icmp .eq (5), 3) := by decide +kernel
theorem dLw_main_729 : decode code 729 = .ok (.iconst 0, 1) := by decide +kernel
theorem dLw_main_730 : decode code 730 = .ok (.ireturn, 1) := by decide +kernel
theorem dLw_main_731 : decode code 731 = .ok (.iload 5, 2) := by decide +kernel
theorem dLw_main_733 : decode code 733 = .ok (.ifCond .ne (15), 3) := by decide +kernel
theorem dLw_main_736 : decode code 736 = .ok (.aload_n 3, 1) := by decide +kernel
theorem dLw_main_737 : decode code 737 = .ok (.iconst 0, 1) := by decide +kernel
theorem dLw_main_738 : decode code 738 = .ok (.laload, 1) := by decide +kernel
theorem dLw_main_739 : decode code 739 = .ok (.iload 6, 2) := by decide +kernel
theorem dLw_main_741 : decode code 741 = .ok (.i2l, 1) := by decide +kernel
theorem dLw_main_742 : decode code 742 = .ok (.lcmp, 1) := by decide +kernel
theorem dLw_main_743 : decode code 743 = .ok (.ifCond .eq (5), 3) := by decide +kernel
theorem dLw_main_746 : decode code 746 = .ok (.iconst 0, 1) := by decide +kernel
theorem dLw_main_747 : decode code 747 = .ok (.ireturn, 1) := by decide +kernel
theorem dLw_main_748 : decode code 748 = .ok (.goto (948), 3) := by decide +kernel
theorem dLw_main_751 : decode code 751 = .ok (.aload_n 1, 1) := by decide +kernel
theorem dLw_main_752 : decode code 752 = .ok (.aload_n 0, 1) := by decide +kernel
theorem dLw_main_753 : decode code 753 = .ok (.iload 4, 2) := by decide +kernel
theorem dLw_main_755 : decode code 755 = .ok (.iconst 1, 1) := by decide +kernel
theorem dLw_main_756 : decode code 756 = .ok (.iadd, 1) := by decide +kernel
theorem dLw_main_757 : decode code 757 = .ok (.iaload, 1) := by decide +kernel
theorem dLw_main_758 : decode code 758 = .ok (.aload_n 0, 1) := by decide +kernel
theorem dLw_main_759 : decode code 759 = .ok (.iload 4, 2) := by decide +kernel
theorem dLw_main_761 : decode code 761 = .ok (.iconst 2, 1) := by decide +kernel
theorem dLw_main_762 : decode code 762 = .ok (.iadd, 1) := by decide +kernel
theorem dLw_main_763 : decode code 763 = .ok (.iaload, 1) := by decide +kernel
theorem dLw_main_764 : decode code 764 = .ok (.aload_n 0, 1) := by decide +kernel
theorem dLw_main_765 : decode code 765 = .ok (.iload 4, 2) := by decide +kernel
theorem dLw_main_767 : decode code 767 = .ok (.iconst 3, 1) := by decide +kernel
theorem dLw_main_768 : decode code 768 = .ok (.iadd, 1) := by decide +kernel
theorem dLw_main_769 : decode code 769 = .ok (.iaload, 1) := by decide +kernel
theorem dLw_main_770 : decode code 770 = .ok (.aload_n 3, 1) := by decide +kernel
theorem dLw_main_771 : decode code 771 = .ok (.invokestatic 131, 3) := by decide +kernel
theorem dLw_main_774 : decode code 774 = .ok (.istore 5, 2) := by decide +kernel
theorem dLw_main_776 : decode code 776 = .ok (.aload_n 2, 1) := by decide +kernel
theorem dLw_main_777 : decode code 777 = .ok (.aload_n 0, 1) := by decide +kernel
theorem dLw_main_778 : decode code 778 = .ok (.iload 4, 2) := by decide +kernel
theorem dLw_main_780 : decode code 780 = .ok (.iconst 1, 1) := by decide +kernel
theorem dLw_main_781 : decode code 781 = .ok (.iadd, 1) := by decide +kernel
theorem dLw_main_782 : decode code 782 = .ok (.iaload, 1) := by decide +kernel
theorem dLw_main_783 : decode code 783 = .ok (.aload_n 0, 1) := by decide +kernel
theorem dLw_main_784 : decode code 784 = .ok (.iload 4, 2) := by decide +kernel
theorem dLw_main_786 : decode code 786 = .ok (.iconst 2, 1) := by decide +kernel
theorem dLw_main_787 : decode code 787 = .ok (.iadd, 1) := by decide +kernel
theorem dLw_main_788 : decode code 788 = .ok (.iaload, 1) := by decide +kernel
theorem dLw_main_789 : decode code 789 = .ok (.aload_n 0, 1) := by decide +kernel
theorem dLw_main_790 : decode code 790 = .ok (.iload 4, 2) := by decide +kernel
theorem dLw_main_792 : decode code 792 = .ok (.iconst 3, 1) := by decide +kernel
theorem dLw_main_793 : decode code 793 = .ok (.iadd, 1) := by decide +kernel
theorem dLw_main_794 : decode code 794 = .ok (.iaload, 1) := by decide +kernel
theorem dLw_main_795 : decode code 795 = .ok (.invokevirtual 133, 3) := by decide +kernel
theorem dLw_main_798 : decode code 798 = .ok (.istore 6, 2) := by decide +kernel
theorem dLw_main_800 : decode code 800 = .ok (.aload_n 2, 1) := by decide +kernel
theorem dLw_main_801 : decode code 801 = .ok (.invokevirtual 101, 3) := by decide +kernel
theorem dLw_main_804 : decode code 804 = .ok (.iload 5, 2) := by decide +kernel
theorem dLw_main_806 : decode code 806 = .ok (.if_icmp .eq (5), 3) := by decide +kernel
theorem dLw_main_809 : decode code 809 = .ok (.iconst 0, 1) := by decide +kernel
theorem dLw_main_810 : decode code 810 = .ok (.ireturn, 1) := by decide +kernel
theorem dLw_main_811 : decode code 811 = .ok (.iload 5, 2) := by decide +kernel
theorem dLw_main_813 : decode code 813 = .ok (.ifCond .ne (15), 3) := by decide +kernel
theorem dLw_main_816 : decode code 816 = .ok (.aload_n 3, 1) := by decide +kernel
theorem dLw_main_817 : decode code 817 = .ok (.iconst 0, 1) := by decide +kernel
theorem dLw_main_818 : decode code 818 = .ok (.laload, 1) := by decide +kernel
theorem dLw_main_819 : decode code 819 = .ok (.iload 6, 2) := by decide +kernel
theorem dLw_main_821 : decode code 821 = .ok (.i2l, 1) := by decide +kernel
theorem dLw_main_822 : decode code 822 = .ok (.lcmp, 1) := by decide +kernel
theorem dLw_main_823 : decode code 823 = .ok (.ifCond .eq (5), 3) := by decide +kernel
theorem dLw_main_826 : decode code 826 = .ok (.iconst 0, 1) := by decide +kernel
theorem dLw_main_827 : decode code 827 = .ok (.ireturn, 1) := by decide +kernel
theorem dLw_main_828 : decode code 828 = .ok (.goto (868), 3) := by decide +kernel
theorem dLw_main_831 : decode code 831 = .ok (.aload_n 1, 1) := by decide +kernel
theorem dLw_main_832 : decode code 832 = .ok (.aload_n 0, 1) := by decide +kernel
theorem dLw_main_833 : decode code 833 = .ok (.iload 4, 2) := by decide +kernel
theorem dLw_main_835 : decode code 835 = .ok (.iconst 1, 1) := by decide +kernel
theorem dLw_main_836 : decode code 836 = .ok (.iadd, 1) := by decide +kernel
theorem dLw_main_837 : decode code 837 = .ok (.iaload, 1) := by decide +kernel
theorem dLw_main_838 : decode code 838 = .ok (.aload_n 3, 1) := by decide +kernel
theorem dLw_main_839 : decode code 839 = .ok (.invokestatic 134, 3) := by decide +kernel
theorem dLw_main_842 : decode code 842 = .ok (.istore 5, 2) := by decide +kernel
theorem dLw_main_844 : decode code 844 = .ok (.aload_n 2, 1) := by decide +kernel
theorem dLw_main_845 : decode code 845 = .ok (.aload_n 0, 1) := by decide +kernel
theorem dLw_main_846 : decode code 846 = .ok (.iload 4, 2) := by decide +kernel
theorem dLw_main_848 : decode code 848 = .ok (.iconst 1, 1) := by decide +kernel
theorem dLw_main_849 : decode code 849 = .ok (.iadd, 1) := by decide +kernel
theorem dLw_main_850 : decode code 850 = .ok (.iaload, 1) := by decide +kernel
theorem dLw_main_851 : decode code 851 = .ok (.invokevirtual 136, 3) := by decide +kernel
theorem dLw_main_854 : decode code 854 = .ok (.istore 6, 2) := by decide +kernel
theorem dLw_main_856 : decode code 856 = .ok (.aload_n 2, 1) := by decide +kernel
theorem dLw_main_857 : decode code 857 = .ok (.invokevirtual 101, 3) := by decide +kernel
theorem dLw_main_860 : decode code 860 = .ok (.iload 5, 2) := by decide +kernel
theorem dLw_main_862 : decode code 862 = .ok (.if_icmp .eq (5), 3) := by decide +kernel
theorem dLw_main_865 : decode code 865 = .ok (.iconst 0, 1) := by decide +kernel
theorem dLw_main_866 : decode code 866 = .ok (.ireturn, 1) := by decide +kernel
theorem dLw_main_867 : decode code 867 = .ok (.iload 5, 2) := by decide +kernel
theorem dLw_main_869 : decode code 869 = .ok (.ifCond .ne (15), 3) := by decide +kernel
theorem dLw_main_872 : decode code 872 = .ok (.aload_n 3, 1) := by decide +kernel
theorem dLw_main_873 : decode code 873 = .ok (.iconst 0, 1) := by decide +kernel
theorem dLw_main_874 : decode code 874 = .ok (.laload, 1) := by decide +kernel
theorem dLw_main_875 : decode code 875 = .ok (.iload 6, 2) := by decide +kernel
theorem dLw_main_877 : decode code 877 = .ok (.i2l, 1) := by decide +kernel
theorem dLw_main_878 : decode code 878 = .ok (.lcmp, 1) := by decide +kernel
theorem dLw_main_879 : decode code 879 = .ok (.ifCond .eq (5), 3) := by decide +kernel
theorem dLw_main_882 : decode code 882 = .ok (.iconst 0, 1) := by decide +kernel
theorem dLw_main_883 : decode code 883 = .ok (.ireturn, 1) := by decide +kernel
theorem dLw_main_884 : decode code 884 = .ok (.goto (812), 3) := by decide +kernel
theorem dLw_main_887 : decode code 887 = .ok (.aload_n 1, 1) := by decide +kernel
theorem dLw_main_888 : decode code 888 = .ok (.aload_n 0, 1) := by decide +kernel
theorem dLw_main_889 : decode code 889 = .ok (.iload 4, 2) := by decide +kernel
theorem dLw_main_891 : decode code 891 = .ok (.iconst 1, 1) := by decide +kernel
theorem dLw_main_892 : decode code 892 = .ok (.iadd, 1) := by decide +kernel
theorem dLw_main_893 : decode code 893 = .ok (.iaload, 1) := by decide +kernel
theorem dLw_main_894 : decode code 894 = .ok (.aload_n 3, 1) := by decide +kernel
theorem dLw_main_895 : decode code 895 = .ok (.invokestatic 137, 3) := by decide +kernel
theorem dLw_main_898 : decode code 898 = .ok (.istore 5, 2) := by decide +kernel
theorem dLw_main_900 : decode code 900 = .ok (.aload_n 2, 1) := by decide +kernel
theorem dLw_main_901 : decode code 901 = .ok (.aload_n 0, 1) := by decide +kernel
theorem dLw_main_902 : decode code 902 = .ok (.iload 4, 2) := by decide +kernel
theorem dLw_main_904 : decode code 904 = .ok (.iconst 1, 1) := by decide +kernel
theorem dLw_main_905 : decode code 905 = .ok (.iadd, 1) := by decide +kernel
theorem dLw_main_906 : decode code 906 = .ok (.iaload, 1) := by decide +kernel
theorem dLw_main_907 : decode code 907 = .ok (.invokevirtual 139, 3) := by decide +kernel
theorem dLw_main_910 : decode code 910 = .ok (.istore 6, 2) := by decide +kernel
theorem dLw_main_912 : decode code 912 = .ok (.aload_n 2, 1) := by decide +kernel
theorem dLw_main_913 : decode code 913 = .ok (.invokevirtual 101, 3) := by decide +kernel
theorem dLw_main_916 : decode code 916 = .ok (.iload 5, 2) := by decide +kernel
theorem dLw_main_918 : decode code 918 = .ok (.if_icmp .eq (5), 3) := by decide +kernel
theorem dLw_main_921 : decode code 921 = .ok (.iconst 0, 1) := by decide +kernel
theorem dLw_main_922 : decode code 922 = .ok (.ireturn, 1) := by decide +kernel
theorem dLw_main_923 : decode code 923 = .ok (.iload 5, 2) := by decide +kernel
theorem dLw_main_925 : decode code 925 = .ok (.ifCond .ne (15), 3) := by decide +kernel
theorem dLw_main_928 : decode code 928 = .ok (.aload_n 3, 1) := by decide +kernel
theorem dLw_main_929 : decode code 929 = .ok (.iconst 0, 1) := by decide +kernel
theorem dLw_main_930 : decode code 930 = .ok (.laload, 1) := by decide +kernel
theorem dLw_main_931 : decode code 931 = .ok (.iload 6, 2) := by decide +kernel
theorem dLw_main_933 : decode code 933 = .ok (.i2l, 1) := by decide +kernel
theorem dLw_main_934 : decode code 934 = .ok (.lcmp, 1) := by decide +kernel
theorem dLw_main_935 : decode code 935 = .ok (.ifCond .eq (5), 3) := by decide +kernel
theorem dLw_main_938 : decode code 938 = .ok (.iconst 0, 1) := by decide +kernel
theorem dLw_main_939 : decode code 939 = .ok (.ireturn, 1) := by decide +kernel
theorem dLw_main_940 : decode code 940 = .ok (.goto (756), 3) := by decide +kernel
theorem dLw_main_943 : decode code 943 = .ok (.aload_n 1, 1) := by decide +kernel
theorem dLw_main_944 : decode code 944 = .ok (.invokevirtual 140, 3) := by decide +kernel
theorem dLw_main_947 : decode code 947 = .ok (.aload_n 2, 1) := by decide +kernel
theorem dLw_main_948 : decode code 948 = .ok (.invokevirtual 143, 3) := by decide +kernel
theorem dLw_main_951 : decode code 951 = .ok (.if_icmp .eq (745), 3) := by decide +kernel
theorem dLw_main_954 : decode code 954 = .ok (.iconst 0, 1) := by decide +kernel
theorem dLw_main_955 : decode code 955 = .ok (.ireturn, 1) := by decide +kernel
theorem dLw_main_956 : decode code 956 = .ok (.aload_n 1, 1) := by decide +kernel
theorem dLw_main_957 : decode code 957 = .ok (.aload_n 0, 1) := by decide +kernel
theorem dLw_main_958 : decode code 958 = .ok (.iload 4, 2) := by decide +kernel
theorem dLw_main_960 : decode code 960 = .ok (.iconst 1, 1) := by decide +kernel
theorem dLw_main_961 : decode code 961 = .ok (.iadd, 1) := by decide +kernel
theorem dLw_main_962 : decode code 962 = .ok (.iaload, 1) := by decide +kernel
theorem dLw_main_963 : decode code 963 = .ok (.aload_n 0, 1) := by decide +kernel
theorem dLw_main_964 : decode code 964 = .ok (.iload 4, 2) := by decide +kernel
theorem dLw_main_966 : decode code 966 = .ok (.iconst 2, 1) := by decide +kernel
theorem dLw_main_967 : decode code 967 = .ok (.iadd, 1) := by decide +kernel
theorem dLw_main_968 : decode code 968 = .ok (.iaload, 1) := by decide +kernel
theorem dLw_main_969 : decode code 969 = .ok (.aload_n 3, 1) := by decide +kernel
theorem dLw_main_970 : decode code 970 = .ok (.invokestatic 144, 3) := by decide +kernel
theorem dLw_main_973 : decode code 973 = .ok (.istore 5, 2) := by decide +kernel
theorem dLw_main_975 : decode code 975 = .ok (.aload_n 2, 1) := by decide +kernel
theorem dLw_main_976 : decode code 976 = .ok (.aload_n 0, 1) := by decide +kernel
theorem dLw_main_977 : decode code 977 = .ok (.iload 4, 2) := by decide +kernel
theorem dLw_main_979 : decode code 979 = .ok (.iconst 1, 1) := by decide +kernel
theorem dLw_main_980 : decode code 980 = .ok (.iadd, 1) := by decide +kernel
theorem dLw_main_981 : decode code 981 = .ok (.iaload, 1) := by decide +kernel
theorem dLw_main_982 : decode code 982 = .ok (.aload_n 0, 1) := by decide +kernel
theorem dLw_main_983 : decode code 983 = .ok (.iload 4, 2) := by decide +kernel
theorem dLw_main_985 : decode code 985 = .ok (.iconst 2, 1) := by decide +kernel
theorem dLw_main_986 : decode code 986 = .ok (.iadd, 1) := by decide +kernel
theorem dLw_main_987 : decode code 987 = .ok (.iaload, 1) := by decide +kernel
theorem dLw_main_988 : decode code 988 = .ok (.invokevirtual 146, 3) := by decide +kernel
theorem dLw_main_991 : decode code 991 = .ok (.istore 6, 2) := by decide +kernel
theorem dLw_main_993 : decode code 993 = .ok (.aload_n 2, 1) := by decide +kernel
theorem dLw_main_994 : decode code 994 = .ok (.invokevirtual 101, 3) := by decide +kernel
theorem dLw_main_997 : decode code 997 = .ok (.iload 5, 2) := by decide +kernel
theorem dLw_main_999 : decode code 999 = .ok (.if_icmp .eq (5), 3) := by decide +kernel
theorem dLw_main_1002 : decode code 1002 = .ok (.iconst 0, 1) := by decide +kernel
theorem dLw_main_1003 : decode code 1003 = .ok (.ireturn, 1) := by decide +kernel
theorem dLw_main_1004 : decode code 1004 = .ok (.iload 5, 2) := by decide +kernel
theorem dLw_main_1006 : decode code 1006 = .ok (.ifCond .ne (15), 3) := by decide +kernel
theorem dLw_main_1009 : decode code 1009 = .ok (.aload_n 3, 1) := by decide +kernel
theorem dLw_main_1010 : decode code 1010 = .ok (.iconst 0, 1) := by decide +kernel
theorem dLw_main_1011 : decode code 1011 = .ok (.laload, 1) := by decide +kernel
theorem dLw_main_1012 : decode code 1012 = .ok (.iload 6, 2) := by decide +kernel
theorem dLw_main_1014 : decode code 1014 = .ok (.i2l, 1) := by decide +kernel
theorem dLw_main_1015 : decode code 1015 = .ok (.lcmp, 1) := by decide +kernel
theorem dLw_main_1016 : decode code 1016 = .ok (.ifCond .eq (5), 3) := by decide +kernel
theorem dLw_main_1019 : decode code 1019 = .ok (.iconst 0, 1) := by decide +kernel
theorem dLw_main_1020 : decode code 1020 = .ok (.ireturn, 1) := by decide +kernel
theorem dLw_main_1021 : decode code 1021 = .ok (.goto (675), 3) := by decide +kernel
theorem dLw_main_1024 : decode code 1024 = .ok (.aload_n 1, 1) := by decide +kernel
theorem dLw_main_1025 : decode code 1025 = .ok (.aload_n 0, 1) := by decide +kernel
theorem dLw_main_1026 : decode code 1026 = .ok (.iload 4, 2) := by decide +kernel
theorem dLw_main_1028 : decode code 1028 = .ok (.iconst 1, 1) := by decide +kernel
theorem dLw_main_1029 : decode code 1029 = .ok (.iadd, 1) := by decide +kernel
theorem dLw_main_1030 : decode code 1030 = .ok (.iaload, 1) := by decide +kernel
theorem dLw_main_1031 : decode code 1031 = .ok (.aload_n 3, 1) := by decide +kernel
theorem dLw_main_1032 : decode code 1032 = .ok (.invokestatic 147, 3) := by decide +kernel
theorem dLw_main_1035 : decode code 1035 = .ok (.istore 5, 2) := by decide +kernel
theorem dLw_main_1037 : decode code 1037 = .ok (.aload_n 2, 1) := by decide +kernel
theorem dLw_main_1038 : decode code 1038 = .ok (.aload_n 0, 1) := by decide +kernel
theorem dLw_main_1039 : decode code 1039 = .ok (.iload 4, 2) := by decide +kernel
theorem dLw_main_1041 : decode code 1041 = .ok (.iconst 1, 1) := by decide +kernel
theorem dLw_main_1042 : decode code 1042 = .ok (.iadd, 1) := by decide +kernel
theorem dLw_main_1043 : decode code 1043 = .ok (.iaload, 1) := by decide +kernel
theorem dLw_main_1044 : decode code 1044 = .ok (.invokevirtual 149, 3) := by decide +kernel
theorem dLw_main_1047 : decode code 1047 = .ok (.istore 6, 2) := by decide +kernel
theorem dLw_main_1049 : decode code 1049 = .ok (.aload_n 2, 1) := by decide +kernel
theorem dLw_main_1050 : decode code 1050 = .ok (.invokevirtual 101, 3) := by decide +kernel
theorem dLw_main_1053 : decode code 1053 = .ok (.iload 5, 2) := by decide +kernel
theorem dLw_main_1055 : decode code 1055 = .ok (.if_icmp .eq (5), 3) := by decide +kernel
theorem dLw_main_1058 : decode code 1058 = .ok (.iconst 0, 1) := by decide +kernel
theorem dLw_main_1059 : decode code 1059 = .ok (.ireturn, 1) := by decide +kernel
theorem dLw_main_1060 : decode code 1060 = .ok (.iload 5, 2) := by decide +kernel
theorem dLw_main_1062 : decode code 1062 = .ok (.ifCond .ne (15), 3) := by decide +kernel
theorem dLw_main_1065 : decode code 1065 = .ok (.aload_n 3, 1) := by decide +kernel
theorem dLw_main_1066 : decode code 1066 = .ok (.iconst 0, 1) := by decide +kernel
theorem dLw_main_1067 : decode code 1067 = .ok (.laload, 1) := by decide +kernel
theorem dLw_main_1068 : decode code 1068 = .ok (.iload 6, 2) := by decide +kernel
theorem dLw_main_1070 : decode code 1070 = .ok (.i2l, 1) := by decide +kernel
theorem dLw_main_1071 : decode code 1071 = .ok (.lcmp, 1) := by decide +kernel
theorem dLw_main_1072 : decode code 1072 = .ok (.ifCond .eq (5), 3) := by decide +kernel
theorem dLw_main_1075 : decode code 1075 = .ok (.iconst 0, 1) := by decide +kernel
theorem dLw_main_1076 : decode code 1076 = .ok (.ireturn, 1) := by decide +kernel
theorem dLw_main_1077 : decode code 1077 = .ok (.goto (619), 3) := by decide +kernel
theorem dLw_main_1080 : decode code 1080 = .ok (.aload_n 1, 1) := by decide +kernel
theorem dLw_main_1081 : decode code 1081 = .ok (.aload_n 0, 1) := by decide +kernel
theorem dLw_main_1082 : decode code 1082 = .ok (.iload 4, 2) := by decide +kernel
theorem dLw_main_1084 : decode code 1084 = .ok (.iconst 1, 1) := by decide +kernel
theorem dLw_main_1085 : decode code 1085 = .ok (.iadd, 1) := by decide +kernel
theorem dLw_main_1086 : decode code 1086 = .ok (.iaload, 1) := by decide +kernel
theorem dLw_main_1087 : decode code 1087 = .ok (.aload_n 0, 1) := by decide +kernel
theorem dLw_main_1088 : decode code 1088 = .ok (.iload 4, 2) := by decide +kernel
theorem dLw_main_1090 : decode code 1090 = .ok (.iconst 2, 1) := by decide +kernel
theorem dLw_main_1091 : decode code 1091 = .ok (.iadd, 1) := by decide +kernel
theorem dLw_main_1092 : decode code 1092 = .ok (.iaload, 1) := by decide +kernel
theorem dLw_main_1093 : decode code 1093 = .ok (.aload_n 3, 1) := by decide +kernel
theorem dLw_main_1094 : decode code 1094 = .ok (.invokestatic 150, 3) := by decide +kernel
theorem dLw_main_1097 : decode code 1097 = .ok (.istore 5, 2) := by decide +kernel
theorem dLw_main_1099 : decode code 1099 = .ok (.aload_n 2, 1) := by decide +kernel
theorem dLw_main_1100 : decode code 1100 = .ok (.aload_n 0, 1) := by decide +kernel
theorem dLw_main_1101 : decode code 1101 = .ok (.iload 4, 2) := by decide +kernel
theorem dLw_main_1103 : decode code 1103 = .ok (.iconst 1, 1) := by decide +kernel
theorem dLw_main_1104 : decode code 1104 = .ok (.iadd, 1) := by decide +kernel
theorem dLw_main_1105 : decode code 1105 = .ok (.iaload, 1) := by decide +kernel
theorem dLw_main_1106 : decode code 1106 = .ok (.aload_n 0, 1) := by decide +kernel
theorem dLw_main_1107 : decode code 1107 = .ok (.iload 4, 2) := by decide +kernel
theorem dLw_main_1109 : decode code 1109 = .ok (.iconst 2, 1) := by decide +kernel
theorem dLw_main_1110 : decode code 1110 = .ok (.iadd, 1) := by decide +kernel
theorem dLw_main_1111 : decode code 1111 = .ok (.iaload, 1) := by decide +kernel
theorem dLw_main_1112 : decode code 1112 = .ok (.invokevirtual 152, 3) := by decide +kernel
theorem dLw_main_1115 : decode code 1115 = .ok (.istore 6, 2) := by decide +kernel
theorem dLw_main_1117 : decode code 1117 = .ok (.aload_n 2, 1) := by decide +kernel
theorem dLw_main_1118 : decode code 1118 = .ok (.invokevirtual 101, 3) := by decide +kernel
theorem dLw_main_1121 : decode code 1121 = .ok (.iload 5, 2) := by decide +kernel
theorem dLw_main_1123 : decode code 1123 = .ok (.if_icmp .eq (5), 3) := by decide +kernel
theorem dLw_main_1126 : decode code 1126 = .ok (.iconst 0, 1) := by decide +kernel
theorem dLw_main_1127 : decode code 1127 = .ok (.ireturn, 1) := by decide +kernel
theorem dLw_main_1128 : decode code 1128 = .ok (.iload 5, 2) := by decide +kernel
theorem dLw_main_1130 : decode code 1130 = .ok (.ifCond .ne (15), 3) := by decide +kernel
theorem dLw_main_1133 : decode code 1133 = .ok (.aload_n 3, 1) := by decide +kernel
theorem dLw_main_1134 : decode code 1134 = .ok (.iconst 0, 1) := by decide +kernel
theorem dLw_main_1135 : decode code 1135 = .ok (.laload, 1) := by decide +kernel
theorem dLw_main_1136 : decode code 1136 = .ok (.iload 6, 2) := by decide +kernel
theorem dLw_main_1138 : decode code 1138 = .ok (.i2l, 1) := by decide +kernel
theorem dLw_main_1139 : decode code 1139 = .ok (.lcmp, 1) := by decide +kernel
theorem dLw_main_1140 : decode code 1140 = .ok (.ifCond .eq (5), 3) := by decide +kernel
theorem dLw_main_1143 : decode code 1143 = .ok (.iconst 0, 1) := by decide +kernel
theorem dLw_main_1144 : decode code 1144 = .ok (.ireturn, 1) := by decide +kernel
theorem dLw_main_1145 : decode code 1145 = .ok (.goto (551), 3) := by decide +kernel
theorem dLw_main_1148 : decode code 1148 = .ok (.aload_n 1, 1) := by decide +kernel
theorem dLw_main_1149 : decode code 1149 = .ok (.aload_n 0, 1) := by decide +kernel
theorem dLw_main_1150 : decode code 1150 = .ok (.iload 4, 2) := by decide +kernel
theorem dLw_main_1152 : decode code 1152 = .ok (.iconst 1, 1) := by decide +kernel
theorem dLw_main_1153 : decode code 1153 = .ok (.iadd, 1) := by decide +kernel
theorem dLw_main_1154 : decode code 1154 = .ok (.iaload, 1) := by decide +kernel
theorem dLw_main_1155 : decode code 1155 = .ok (.aload_n 0, 1) := by decide +kernel
theorem dLw_main_1156 : decode code 1156 = .ok (.iload 4, 2) := by decide +kernel
theorem dLw_main_1158 : decode code 1158 = .ok (.iconst 2, 1) := by decide +kernel
theorem dLw_main_1159 : decode code 1159 = .ok (.iadd, 1) := by decide +kernel
theorem dLw_main_1160 : decode code 1160 = .ok (.iaload, 1) := by decide +kernel
theorem dLw_main_1161 : decode code 1161 = .ok (.aload_n 3, 1) := by decide +kernel
theorem dLw_main_1162 : decode code 1162 = .ok (.invokestatic 153, 3) := by decide +kernel
theorem dLw_main_1165 : decode code 1165 = .ok (.istore 5, 2) := by decide +kernel
theorem dLw_main_1167 : decode code 1167 = .ok (.aload_n 2, 1) := by decide +kernel
theorem dLw_main_1168 : decode code 1168 = .ok (.aload_n 0, 1) := by decide +kernel
theorem dLw_main_1169 : decode code 1169 = .ok (.iload 4, 2) := by decide +kernel
theorem dLw_main_1171 : decode code 1171 = .ok (.iconst 1, 1) := by decide +kernel
theorem dLw_main_1172 : decode code 1172 = .ok (.iadd, 1) := by decide +kernel
theorem dLw_main_1173 : decode code 1173 = .ok (.iaload, 1) := by decide +kernel
theorem dLw_main_1174 : decode code 1174 = .ok (.aload_n 0, 1) := by decide +kernel
theorem dLw_main_1175 : decode code 1175 = .ok (.iload 4, 2) := by decide +kernel
theorem dLw_main_1177 : decode code 1177 = .ok (.iconst 2, 1) := by decide +kernel
theorem dLw_main_1178 : decode code 1178 = .ok (.iadd, 1) := by decide +kernel
theorem dLw_main_1179 : decode code 1179 = .ok (.iaload, 1) := by decide +kernel
theorem dLw_main_1180 : decode code 1180 = .ok (.invokevirtual 155, 3) := by decide +kernel
theorem dLw_main_1183 : decode code 1183 = .ok (.istore 6, 2) := by decide +kernel
theorem dLw_main_1185 : decode code 1185 = .ok (.aload_n 2, 1) := by decide +kernel
