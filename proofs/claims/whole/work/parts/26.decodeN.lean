/-! decode rows -/
theorem d_L_law_685 : decode b_L_law 685 = .ok (.invokevirtual 77, 3) := by decide +kernel
theorem d_L_law_688 : decode b_L_law 688 = .ok (.iload 5, 2) := by decide +kernel
theorem d_L_law_690 : decode b_L_law 690 = .ok (.if_icmp .eq 5, 3) := by decide +kernel
theorem d_L_law_693 : decode b_L_law 693 = .ok (.iconst 0, 1) := by decide +kernel
theorem d_L_law_694 : decode b_L_law 694 = .ok (.ireturn, 1) := by decide +kernel
theorem d_L_law_695 : decode b_L_law 695 = .ok (.iload 5, 2) := by decide +kernel
theorem d_L_law_697 : decode b_L_law 697 = .ok (.ifCond .ne 15, 3) := by decide +kernel
theorem d_L_law_700 : decode b_L_law 700 = .ok (.aload_n 3, 1) := by decide +kernel
theorem d_L_law_701 : decode b_L_law 701 = .ok (.iconst 0, 1) := by decide +kernel
theorem d_L_law_702 : decode b_L_law 702 = .ok (.laload, 1) := by decide +kernel
theorem d_L_law_703 : decode b_L_law 703 = .ok (.iload 6, 2) := by decide +kernel
theorem d_L_law_705 : decode b_L_law 705 = .ok (.i2l, 1) := by decide +kernel
theorem d_L_law_706 : decode b_L_law 706 = .ok (.lcmp, 1) := by decide +kernel
theorem d_L_law_707 : decode b_L_law 707 = .ok (.ifCond .eq 5, 3) := by decide +kernel
theorem d_L_law_710 : decode b_L_law 710 = .ok (.iconst 0, 1) := by decide +kernel
theorem d_L_law_711 : decode b_L_law 711 = .ok (.ireturn, 1) := by decide +kernel
theorem d_L_law_712 : decode b_L_law 712 = .ok (.goto 522, 3) := by decide +kernel
theorem d_L_law_715 : decode b_L_law 715 = .ok (.aload_n 1, 1) := by decide +kernel
theorem d_L_law_716 : decode b_L_law 716 = .ok (.aload_n 0, 1) := by decide +kernel
theorem d_L_law_717 : decode b_L_law 717 = .ok (.iload 4, 2) := by decide +kernel
theorem d_L_law_719 : decode b_L_law 719 = .ok (.iconst 1, 1) := by decide +kernel
theorem d_L_law_720 : decode b_L_law 720 = .ok (.iadd, 1) := by decide +kernel
theorem d_L_law_721 : decode b_L_law 721 = .ok (.iaload, 1) := by decide +kernel
theorem d_L_law_722 : decode b_L_law 722 = .ok (.aload_n 0, 1) := by decide +kernel
theorem d_L_law_723 : decode b_L_law 723 = .ok (.iload 4, 2) := by decide +kernel
theorem d_L_law_725 : decode b_L_law 725 = .ok (.iconst 2, 1) := by decide +kernel
theorem d_L_law_726 : decode b_L_law 726 = .ok (.iadd, 1) := by decide +kernel
theorem d_L_law_727 : decode b_L_law 727 = .ok (.iaload, 1) := by decide +kernel
theorem d_L_law_728 : decode b_L_law 728 = .ok (.aload_n 3, 1) := by decide +kernel
theorem d_L_law_729 : decode b_L_law 729 = .ok (.invokestatic 109, 3) := by decide +kernel
theorem d_L_law_732 : decode b_L_law 732 = .ok (.istore 5, 2) := by decide +kernel
theorem d_L_law_734 : decode b_L_law 734 = .ok (.aload_n 2, 1) := by decide +kernel
theorem d_L_law_735 : decode b_L_law 735 = .ok (.aload_n 0, 1) := by decide +kernel
theorem d_L_law_736 : decode b_L_law 736 = .ok (.iload 4, 2) := by decide +kernel
theorem d_L_law_738 : decode b_L_law 738 = .ok (.iconst 1, 1) := by decide +kernel
theorem d_L_law_739 : decode b_L_law 739 = .ok (.iadd, 1) := by decide +kernel
theorem d_L_law_740 : decode b_L_law 740 = .ok (.iaload, 1) := by decide +kernel
theorem d_L_law_741 : decode b_L_law 741 = .ok (.aload_n 0, 1) := by decide +kernel
theorem d_L_law_742 : decode b_L_law 742 = .ok (.iload 4, 2) := by decide +kernel
theorem d_L_law_744 : decode b_L_law 744 = .ok (.iconst 2, 1) := by decide +kernel
theorem d_L_law_745 : decode b_L_law 745 = .ok (.iadd, 1) := by decide +kernel
theorem d_L_law_746 : decode b_L_law 746 = .ok (.iaload, 1) := by decide +kernel
theorem d_L_law_747 : decode b_L_law 747 = .ok (.invokevirtual 111, 3) := by decide +kernel
theorem d_L_law_750 : decode b_L_law 750 = .ok (.istore 6, 2) := by decide +kernel
theorem d_L_law_752 : decode b_L_law 752 = .ok (.aload_n 2, 1) := by decide +kernel
theorem d_L_law_753 : decode b_L_law 753 = .ok (.invokevirtual 77, 3) := by decide +kernel
theorem d_L_law_756 : decode b_L_law 756 = .ok (.iload 5, 2) := by decide +kernel
theorem d_L_law_758 : decode b_L_law 758 = .ok (.if_icmp .eq 5, 3) := by decide +kernel
theorem d_L_law_761 : decode b_L_law 761 = .ok (.iconst 0, 1) := by decide +kernel
theorem d_L_law_762 : decode b_L_law 762 = .ok (.ireturn, 1) := by decide +kernel
theorem d_L_law_763 : decode b_L_law 763 = .ok (.iload 5, 2) := by decide +kernel
theorem d_L_law_765 : decode b_L_law 765 = .ok (.ifCond .ne 15, 3) := by decide +kernel
theorem d_L_law_768 : decode b_L_law 768 = .ok (.aload_n 3, 1) := by decide +kernel
theorem d_L_law_769 : decode b_L_law 769 = .ok (.iconst 0, 1) := by decide +kernel
theorem d_L_law_770 : decode b_L_law 770 = .ok (.laload, 1) := by decide +kernel
theorem d_L_law_771 : decode b_L_law 771 = .ok (.iload 6, 2) := by decide +kernel
theorem d_L_law_773 : decode b_L_law 773 = .ok (.i2l, 1) := by decide +kernel
theorem d_L_law_774 : decode b_L_law 774 = .ok (.lcmp, 1) := by decide +kernel
theorem d_L_law_775 : decode b_L_law 775 = .ok (.ifCond .eq 5, 3) := by decide +kernel
theorem d_L_law_778 : decode b_L_law 778 = .ok (.iconst 0, 1) := by decide +kernel
theorem d_L_law_779 : decode b_L_law 779 = .ok (.ireturn, 1) := by decide +kernel
theorem d_L_law_780 : decode b_L_law 780 = .ok (.goto 454, 3) := by decide +kernel
theorem d_L_law_783 : decode b_L_law 783 = .ok (.aload_n 1, 1) := by decide +kernel
theorem d_L_law_784 : decode b_L_law 784 = .ok (.aload_n 0, 1) := by decide +kernel
theorem d_L_law_785 : decode b_L_law 785 = .ok (.iload 4, 2) := by decide +kernel
theorem d_L_law_787 : decode b_L_law 787 = .ok (.iconst 1, 1) := by decide +kernel
theorem d_L_law_788 : decode b_L_law 788 = .ok (.iadd, 1) := by decide +kernel
theorem d_L_law_789 : decode b_L_law 789 = .ok (.iaload, 1) := by decide +kernel
theorem d_L_law_790 : decode b_L_law 790 = .ok (.aload_n 0, 1) := by decide +kernel
theorem d_L_law_791 : decode b_L_law 791 = .ok (.iload 4, 2) := by decide +kernel
theorem d_L_law_793 : decode b_L_law 793 = .ok (.iconst 2, 1) := by decide +kernel
theorem d_L_law_794 : decode b_L_law 794 = .ok (.iadd, 1) := by decide +kernel
theorem d_L_law_795 : decode b_L_law 795 = .ok (.iaload, 1) := by decide +kernel
theorem d_L_law_796 : decode b_L_law 796 = .ok (.aload_n 0, 1) := by decide +kernel
theorem d_L_law_797 : decode b_L_law 797 = .ok (.iload 4, 2) := by decide +kernel
theorem d_L_law_799 : decode b_L_law 799 = .ok (.iconst 3, 1) := by decide +kernel
theorem d_L_law_800 : decode b_L_law 800 = .ok (.iadd, 1) := by decide +kernel
theorem d_L_law_801 : decode b_L_law 801 = .ok (.iaload, 1) := by decide +kernel
theorem d_L_law_802 : decode b_L_law 802 = .ok (.aload_n 3, 1) := by decide +kernel
theorem d_L_law_803 : decode b_L_law 803 = .ok (.invokestatic 112, 3) := by decide +kernel
theorem d_L_law_806 : decode b_L_law 806 = .ok (.istore 5, 2) := by decide +kernel
theorem d_L_law_808 : decode b_L_law 808 = .ok (.aload_n 2, 1) := by decide +kernel
theorem d_L_law_809 : decode b_L_law 809 = .ok (.aload_n 0, 1) := by decide +kernel
theorem d_L_law_810 : decode b_L_law 810 = .ok (.iload 4, 2) := by decide +kernel
theorem d_L_law_812 : decode b_L_law 812 = .ok (.iconst 1, 1) := by decide +kernel
theorem d_L_law_813 : decode b_L_law 813 = .ok (.iadd, 1) := by decide +kernel
theorem d_L_law_814 : decode b_L_law 814 = .ok (.iaload, 1) := by decide +kernel
theorem d_L_law_815 : decode b_L_law 815 = .ok (.aload_n 0, 1) := by decide +kernel
theorem d_L_law_816 : decode b_L_law 816 = .ok (.iload 4, 2) := by decide +kernel
theorem d_L_law_818 : decode b_L_law 818 = .ok (.iconst 2, 1) := by decide +kernel
theorem d_L_law_819 : decode b_L_law 819 = .ok (.iadd, 1) := by decide +kernel
theorem d_L_law_820 : decode b_L_law 820 = .ok (.iaload, 1) := by decide +kernel
theorem d_L_law_821 : decode b_L_law 821 = .ok (.aload_n 0, 1) := by decide +kernel
theorem d_L_law_822 : decode b_L_law 822 = .ok (.iload 4, 2) := by decide +kernel
theorem d_L_law_824 : decode b_L_law 824 = .ok (.iconst 3, 1) := by decide +kernel
theorem d_L_law_825 : decode b_L_law 825 = .ok (.iadd, 1) := by decide +kernel
theorem d_L_law_826 : decode b_L_law 826 = .ok (.iaload, 1) := by decide +kernel
theorem d_L_law_827 : decode b_L_law 827 = .ok (.invokevirtual 114, 3) := by decide +kernel
theorem d_L_law_830 : decode b_L_law 830 = .ok (.istore 6, 2) := by decide +kernel
theorem d_L_law_832 : decode b_L_law 832 = .ok (.aload_n 2, 1) := by decide +kernel
theorem d_L_law_833 : decode b_L_law 833 = .ok (.invokevirtual 77, 3) := by decide +kernel
theorem d_L_law_836 : decode b_L_law 836 = .ok (.iload 5, 2) := by decide +kernel
theorem d_L_law_838 : decode b_L_law 838 = .ok (.if_icmp .eq 5, 3) := by decide +kernel
theorem d_L_law_841 : decode b_L_law 841 = .ok (.iconst 0, 1) := by decide +kernel
theorem d_L_law_842 : decode b_L_law 842 = .ok (.ireturn, 1) := by decide +kernel
theorem d_L_law_843 : decode b_L_law 843 = .ok (.iload 5, 2) := by decide +kernel
theorem d_L_law_845 : decode b_L_law 845 = .ok (.ifCond .ne 15, 3) := by decide +kernel
theorem d_L_law_848 : decode b_L_law 848 = .ok (.aload_n 3, 1) := by decide +kernel
theorem d_L_law_849 : decode b_L_law 849 = .ok (.iconst 0, 1) := by decide +kernel
theorem d_L_law_850 : decode b_L_law 850 = .ok (.laload, 1) := by decide +kernel
theorem d_L_law_851 : decode b_L_law 851 = .ok (.iload 6, 2) := by decide +kernel
theorem d_L_law_853 : decode b_L_law 853 = .ok (.i2l, 1) := by decide +kernel
theorem d_L_law_854 : decode b_L_law 854 = .ok (.lcmp, 1) := by decide +kernel
theorem d_L_law_855 : decode b_L_law 855 = .ok (.ifCond .eq 5, 3) := by decide +kernel
theorem d_L_law_858 : decode b_L_law 858 = .ok (.iconst 0, 1) := by decide +kernel
theorem d_L_law_859 : decode b_L_law 859 = .ok (.ireturn, 1) := by decide +kernel
theorem d_L_law_860 : decode b_L_law 860 = .ok (.goto 374, 3) := by decide +kernel
theorem d_L_law_863 : decode b_L_law 863 = .ok (.aload_n 1, 1) := by decide +kernel
theorem d_L_law_864 : decode b_L_law 864 = .ok (.aload_n 0, 1) := by decide +kernel
theorem d_L_law_865 : decode b_L_law 865 = .ok (.iload 4, 2) := by decide +kernel
theorem d_L_law_867 : decode b_L_law 867 = .ok (.iconst 1, 1) := by decide +kernel
theorem d_L_law_868 : decode b_L_law 868 = .ok (.iadd, 1) := by decide +kernel
theorem d_L_law_869 : decode b_L_law 869 = .ok (.iaload, 1) := by decide +kernel
theorem d_L_law_870 : decode b_L_law 870 = .ok (.aload_n 0, 1) := by decide +kernel
theorem d_L_law_871 : decode b_L_law 871 = .ok (.iload 4, 2) := by decide +kernel
theorem d_L_law_873 : decode b_L_law 873 = .ok (.iconst 2, 1) := by decide +kernel
theorem d_L_law_874 : decode b_L_law 874 = .ok (.iadd, 1) := by decide +kernel
theorem d_L_law_875 : decode b_L_law 875 = .ok (.iaload, 1) := by decide +kernel
theorem d_L_law_876 : decode b_L_law 876 = .ok (.aload_n 3, 1) := by decide +kernel
theorem d_L_law_877 : decode b_L_law 877 = .ok (.invokestatic 115, 3) := by decide +kernel
theorem d_L_law_880 : decode b_L_law 880 = .ok (.istore 5, 2) := by decide +kernel
theorem d_L_law_882 : decode b_L_law 882 = .ok (.aload_n 2, 1) := by decide +kernel
theorem d_L_law_883 : decode b_L_law 883 = .ok (.aload_n 0, 1) := by decide +kernel
theorem d_L_law_884 : decode b_L_law 884 = .ok (.iload 4, 2) := by decide +kernel
theorem d_L_law_886 : decode b_L_law 886 = .ok (.iconst 1, 1) := by decide +kernel
theorem d_L_law_887 : decode b_L_law 887 = .ok (.iadd, 1) := by decide +kernel
theorem d_L_law_888 : decode b_L_law 888 = .ok (.iaload, 1) := by decide +kernel
theorem d_L_law_889 : decode b_L_law 889 = .ok (.aload_n 0, 1) := by decide +kernel
theorem d_L_law_890 : decode b_L_law 890 = .ok (.iload 4, 2) := by decide +kernel
theorem d_L_law_892 : decode b_L_law 892 = .ok (.iconst 2, 1) := by decide +kernel
theorem d_L_law_893 : decode b_L_law 893 = .ok (.iadd, 1) := by decide +kernel
theorem d_L_law_894 : decode b_L_law 894 = .ok (.iaload, 1) := by decide +kernel
theorem d_L_law_895 : decode b_L_law 895 = .ok (.invokevirtual 117, 3) := by decide +kernel
theorem d_L_law_898 : decode b_L_law 898 = .ok (.istore 6, 2) := by decide +kernel
theorem d_L_law_900 : decode b_L_law 900 = .ok (.aload_n 2, 1) := by decide +kernel
theorem d_L_law_901 : decode b_L_law 901 = .ok (.invokevirtual 77, 3) := by decide +kernel
theorem d_L_law_904 : decode b_L_law 904 = .ok (.iload 5, 2) := by decide +kernel
theorem d_L_law_906 : decode b_L_law 906 = .ok (.if_icmp .eq 5, 3) := by decide +kernel
theorem d_L_law_909 : decode b_L_law 909 = .ok (.iconst 0, 1) := by decide +kernel
theorem d_L_law_910 : decode b_L_law 910 = .ok (.ireturn, 1) := by decide +kernel
theorem d_L_law_911 : decode b_L_law 911 = .ok (.iload 5, 2) := by decide +kernel
theorem d_L_law_913 : decode b_L_law 913 = .ok (.ifCond .ne 15, 3) := by decide +kernel
theorem d_L_law_916 : decode b_L_law 916 = .ok (.aload_n 3, 1) := by decide +kernel
theorem d_L_law_917 : decode b_L_law 917 = .ok (.iconst 0, 1) := by decide +kernel
theorem d_L_law_918 : decode b_L_law 918 = .ok (.laload, 1) := by decide +kernel
theorem d_L_law_919 : decode b_L_law 919 = .ok (.iload 6, 2) := by decide +kernel
theorem d_L_law_921 : decode b_L_law 921 = .ok (.i2l, 1) := by decide +kernel
theorem d_L_law_922 : decode b_L_law 922 = .ok (.lcmp, 1) := by decide +kernel
theorem d_L_law_923 : decode b_L_law 923 = .ok (.ifCond .eq 5, 3) := by decide +kernel
theorem d_L_law_926 : decode b_L_law 926 = .ok (.iconst 0, 1) := by decide +kernel
theorem d_L_law_927 : decode b_L_law 927 = .ok (.ireturn, 1) := by decide +kernel
theorem d_L_law_928 : decode b_L_law 928 = .ok (.goto 306, 3) := by decide +kernel
theorem d_L_law_931 : decode b_L_law 931 = .ok (.aload_n 1, 1) := by decide +kernel
theorem d_L_law_932 : decode b_L_law 932 = .ok (.aload_n 0, 1) := by decide +kernel
theorem d_L_law_933 : decode b_L_law 933 = .ok (.iload 4, 2) := by decide +kernel
theorem d_L_law_935 : decode b_L_law 935 = .ok (.iconst 1, 1) := by decide +kernel
theorem d_L_law_936 : decode b_L_law 936 = .ok (.iadd, 1) := by decide +kernel
theorem d_L_law_937 : decode b_L_law 937 = .ok (.iaload, 1) := by decide +kernel
theorem d_L_law_938 : decode b_L_law 938 = .ok (.invokevirtual 118, 3) := by decide +kernel
theorem d_L_law_941 : decode b_L_law 941 = .ok (.aload_n 2, 1) := by decide +kernel
theorem d_L_law_942 : decode b_L_law 942 = .ok (.aload_n 0, 1) := by decide +kernel
theorem d_L_law_943 : decode b_L_law 943 = .ok (.iload 4, 2) := by decide +kernel
theorem d_L_law_945 : decode b_L_law 945 = .ok (.iconst 1, 1) := by decide +kernel
theorem d_L_law_946 : decode b_L_law 946 = .ok (.iadd, 1) := by decide +kernel
theorem d_L_law_947 : decode b_L_law 947 = .ok (.iaload, 1) := by decide +kernel
theorem d_L_law_948 : decode b_L_law 948 = .ok (.invokevirtual 121, 3) := by decide +kernel
theorem d_L_law_951 : decode b_L_law 951 = .ok (.if_icmp .eq 283, 3) := by decide +kernel
theorem d_L_law_954 : decode b_L_law 954 = .ok (.iconst 0, 1) := by decide +kernel
theorem d_L_law_955 : decode b_L_law 955 = .ok (.ireturn, 1) := by decide +kernel
theorem d_L_law_956 : decode b_L_law 956 = .ok (.aload_n 1, 1) := by decide +kernel
theorem d_L_law_957 : decode b_L_law 957 = .ok (.aload_n 0, 1) := by decide +kernel
theorem d_L_law_958 : decode b_L_law 958 = .ok (.iload 4, 2) := by decide +kernel
theorem d_L_law_960 : decode b_L_law 960 = .ok (.iconst 1, 1) := by decide +kernel
theorem d_L_law_961 : decode b_L_law 961 = .ok (.iadd, 1) := by decide +kernel
theorem d_L_law_962 : decode b_L_law 962 = .ok (.iaload, 1) := by decide +kernel
theorem d_L_law_963 : decode b_L_law 963 = .ok (.aload_n 0, 1) := by decide +kernel
theorem d_L_law_964 : decode b_L_law 964 = .ok (.iload 4, 2) := by decide +kernel
theorem d_L_law_966 : decode b_L_law 966 = .ok (.iconst 2, 1) := by decide +kernel
theorem d_L_law_967 : decode b_L_law 967 = .ok (.iadd, 1) := by decide +kernel
theorem d_L_law_968 : decode b_L_law 968 = .ok (.iaload, 1) := by decide +kernel
theorem d_L_law_969 : decode b_L_law 969 = .ok (.aload_n 0, 1) := by decide +kernel
theorem d_L_law_970 : decode b_L_law 970 = .ok (.iload 4, 2) := by decide +kernel
theorem d_L_law_972 : decode b_L_law 972 = .ok (.iconst 3, 1) := by decide +kernel
theorem d_L_law_973 : decode b_L_law 973 = .ok (.iadd, 1) := by decide +kernel
theorem d_L_law_974 : decode b_L_law 974 = .ok (.iaload, 1) := by decide +kernel
theorem d_L_law_975 : decode b_L_law 975 = .ok (.aload_n 0, 1) := by decide +kernel
theorem d_L_law_976 : decode b_L_law 976 = .ok (.iload 4, 2) := by decide +kernel
theorem d_L_law_978 : decode b_L_law 978 = .ok (.iconst 4, 1) := by decide +kernel
theorem d_L_law_979 : decode b_L_law 979 = .ok (.iadd, 1) := by decide +kernel
theorem d_L_law_980 : decode b_L_law 980 = .ok (.iaload, 1) := by decide +kernel
theorem d_L_law_981 : decode b_L_law 981 = .ok (.aload_n 3, 1) := by decide +kernel
theorem d_L_law_982 : decode b_L_law 982 = .ok (.invokestatic 122, 3) := by decide +kernel
theorem d_L_law_985 : decode b_L_law 985 = .ok (.istore 5, 2) := by decide +kernel
theorem d_L_law_987 : decode b_L_law 987 = .ok (.aload_n 2, 1) := by decide +kernel
theorem d_L_law_988 : decode b_L_law 988 = .ok (.aload_n 0, 1) := by decide +kernel
theorem d_L_law_989 : decode b_L_law 989 = .ok (.iload 4, 2) := by decide +kernel
theorem d_L_law_991 : decode b_L_law 991 = .ok (.iconst 1, 1) := by decide +kernel
theorem d_L_law_992 : decode b_L_law 992 = .ok (.iadd, 1) := by decide +kernel
theorem d_L_law_993 : decode b_L_law 993 = .ok (.iaload, 1) := by decide +kernel
theorem d_L_law_994 : decode b_L_law 994 = .ok (.aload_n 0, 1) := by decide +kernel
theorem d_L_law_995 : decode b_L_law 995 = .ok (.iload 4, 2) := by decide +kernel
theorem d_L_law_997 : decode b_L_law 997 = .ok (.iconst 2, 1) := by decide +kernel
theorem d_L_law_998 : decode b_L_law 998 = .ok (.iadd, 1) := by decide +kernel
theorem d_L_law_999 : decode b_L_law 999 = .ok (.iaload, 1) := by decide +kernel
theorem d_L_law_1000 : decode b_L_law 1000 = .ok (.aload_n 0, 1) := by decide +kernel
theorem d_L_law_1001 : decode b_L_law 1001 = .ok (.iload 4, 2) := by decide +kernel
theorem d_L_law_1003 : decode b_L_law 1003 = .ok (.iconst 3, 1) := by decide +kernel
theorem d_L_law_1004 : decode b_L_law 1004 = .ok (.iadd, 1) := by decide +kernel
theorem d_L_law_1005 : decode b_L_law 1005 = .ok (.iaload, 1) := by decide +kernel
theorem d_L_law_1006 : decode b_L_law 1006 = .ok (.aload_n 0, 1) := by decide +kernel
theorem d_L_law_1007 : decode b_L_law 1007 = .ok (.iload 4, 2) := by decide +kernel
theorem d_L_law_1009 : decode b_L_law 1009 = .ok (.iconst 4, 1) := by decide +kernel
theorem d_L_law_1010 : decode b_L_law 1010 = .ok (.iadd, 1) := by decide +kernel
theorem d_L_law_1011 : decode b_L_law 1011 = .ok (.iaload, 1) := by decide +kernel
theorem d_L_law_1012 : decode b_L_law 1012 = .ok (.invokevirtual 125, 3) := by decide +kernel
theorem d_L_law_1015 : decode b_L_law 1015 = .ok (.istore 6, 2) := by decide +kernel
theorem d_L_law_1017 : decode b_L_law 1017 = .ok (.aload_n 2, 1) := by decide +kernel
theorem d_L_law_1018 : decode b_L_law 1018 = .ok (.invokevirtual 77, 3) := by decide +kernel
theorem d_L_law_1021 : decode b_L_law 1021 = .ok (.iload 5, 2) := by decide +kernel
theorem d_L_law_1023 : decode b_L_law 1023 = .ok (.if_icmp .eq 5, 3) := by decide +kernel
theorem d_L_law_1026 : decode b_L_law 1026 = .ok (.iconst 0, 1) := by decide +kernel
theorem d_L_law_1027 : decode b_L_law 1027 = .ok (.ireturn, 1) := by decide +kernel
theorem d_L_law_1028 : decode b_L_law 1028 = .ok (.iload 5, 2) := by decide +kernel
theorem d_L_law_1030 : decode b_L_law 1030 = .ok (.ifCond .ne 15, 3) := by decide +kernel
theorem d_L_law_1033 : decode b_L_law 1033 = .ok (.aload_n 3, 1) := by decide +kernel
theorem d_L_law_1034 : decode b_L_law 1034 = .ok (.iconst 0, 1) := by decide +kernel
theorem d_L_law_1035 : decode b_L_law 1035 = .ok (.laload, 1) := by decide +kernel
theorem d_L_law_1036 : decode b_L_law 1036 = .ok (.iload 6, 2) := by decide +kernel
theorem d_L_law_1038 : decode b_L_law 1038 = .ok (.i2l, 1) := by decide +kernel
theorem d_L_law_1039 : decode b_L_law 1039 = .ok (.lcmp, 1) := by decide +kernel
theorem d_L_law_1040 : decode b_L_law 1040 = .ok (.ifCond .eq 5, 3) := by decide +kernel
theorem d_L_law_1043 : decode b_L_law 1043 = .ok (.iconst 0, 1) := by decide +kernel
theorem d_L_law_1044 : decode b_L_law 1044 = .ok (.ireturn, 1) := by decide +kernel
theorem d_L_law_1045 : decode b_L_law 1045 = .ok (.goto 189, 3) := by decide +kernel
theorem d_L_law_1048 : decode b_L_law 1048 = .ok (.aload_n 1, 1) := by decide +kernel
theorem d_L_law_1049 : decode b_L_law 1049 = .ok (.aload_n 0, 1) := by decide +kernel
theorem d_L_law_1050 : decode b_L_law 1050 = .ok (.iload 4, 2) := by decide +kernel
theorem d_L_law_1052 : decode b_L_law 1052 = .ok (.iconst 1, 1) := by decide +kernel
theorem d_L_law_1053 : decode b_L_law 1053 = .ok (.iadd, 1) := by decide +kernel
theorem d_L_law_1054 : decode b_L_law 1054 = .ok (.iaload, 1) := by decide +kernel
theorem d_L_law_1055 : decode b_L_law 1055 = .ok (.aload_n 0, 1) := by decide +kernel
theorem d_L_law_1056 : decode b_L_law 1056 = .ok (.iload 4, 2) := by decide +kernel
theorem d_L_law_1058 : decode b_L_law 1058 = .ok (.iconst 2, 1) := by decide +kernel
theorem d_L_law_1059 : decode b_L_law 1059 = .ok (.iadd, 1) := by decide +kernel
theorem d_L_law_1060 : decode b_L_law 1060 = .ok (.iaload, 1) := by decide +kernel
theorem d_L_law_1061 : decode b_L_law 1061 = .ok (.aload_n 0, 1) := by decide +kernel
theorem d_L_law_1062 : decode b_L_law 1062 = .ok (.iload 4, 2) := by decide +kernel
theorem d_L_law_1064 : decode b_L_law 1064 = .ok (.iconst 3, 1) := by decide +kernel
theorem d_L_law_1065 : decode b_L_law 1065 = .ok (.iadd, 1) := by decide +kernel
theorem d_L_law_1066 : decode b_L_law 1066 = .ok (.iaload, 1) := by decide +kernel
theorem d_L_law_1067 : decode b_L_law 1067 = .ok (.aload_n 0, 1) := by decide +kernel
theorem d_L_law_1068 : decode b_L_law 1068 = .ok (.iload 4, 2) := by decide +kernel
theorem d_L_law_1070 : decode b_L_law 1070 = .ok (.iconst 4, 1) := by decide +kernel
theorem d_L_law_1071 : decode b_L_law 1071 = .ok (.iadd, 1) := by decide +kernel
theorem d_L_law_1072 : decode b_L_law 1072 = .ok (.iaload, 1) := by decide +kernel
theorem d_L_law_1073 : decode b_L_law 1073 = .ok (.aload_n 3, 1) := by decide +kernel
theorem d_L_law_1074 : decode b_L_law 1074 = .ok (.invokestatic 126, 3) := by decide +kernel
theorem d_L_law_1077 : decode b_L_law 1077 = .ok (.istore 5, 2) := by decide +kernel
theorem d_L_law_1079 : decode b_L_law 1079 = .ok (.aload_n 2, 1) := by decide +kernel
theorem d_L_law_1080 : decode b_L_law 1080 = .ok (.aload_n 0, 1) := by decide +kernel
theorem d_L_law_1081 : decode b_L_law 1081 = .ok (.iload 4, 2) := by decide +kernel
theorem d_L_law_1083 : decode b_L_law 1083 = .ok (.iconst 1, 1) := by decide +kernel
theorem d_L_law_1084 : decode b_L_law 1084 = .ok (.iadd, 1) := by decide +kernel
theorem d_L_law_1085 : decode b_L_law 1085 = .ok (.iaload, 1) := by decide +kernel
theorem d_L_law_1086 : decode b_L_law 1086 = .ok (.aload_n 0, 1) := by decide +kernel
theorem d_L_law_1087 : decode b_L_law 1087 = .ok (.iload 4, 2) := by decide +kernel
theorem d_L_law_1089 : decode b_L_law 1089 = .ok (.iconst 2, 1) := by decide +kernel
theorem d_L_law_1090 : decode b_L_law 1090 = .ok (.iadd, 1) := by decide +kernel
theorem d_L_law_1091 : decode b_L_law 1091 = .ok (.iaload, 1) := by decide +kernel
theorem d_L_law_1092 : decode b_L_law 1092 = .ok (.aload_n 0, 1) := by decide +kernel
theorem d_L_law_1093 : decode b_L_law 1093 = .ok (.iload 4, 2) := by decide +kernel
theorem d_L_law_1095 : decode b_L_law 1095 = .ok (.iconst 3, 1) := by decide +kernel
theorem d_L_law_1096 : decode b_L_law 1096 = .ok (.iadd, 1) := by decide +kernel
theorem d_L_law_1097 : decode b_L_law 1097 = .ok (.iaload, 1) := by decide +kernel
theorem d_L_law_1098 : decode b_L_law 1098 = .ok (.aload_n 0, 1) := by decide +kernel
theorem d_L_law_1099 : decode b_L_law 1099 = .ok (.iload 4, 2) := by decide +kernel
theorem d_L_law_1101 : decode b_L_law 1101 = .ok (.iconst 4, 1) := by decide +kernel
theorem d_L_law_1102 : decode b_L_law 1102 = .ok (.iadd, 1) := by decide +kernel
theorem d_L_law_1103 : decode b_L_law 1103 = .ok (.iaload, 1) := by decide +kernel
theorem d_L_law_1104 : decode b_L_law 1104 = .ok (.invokevirtual 128, 3) := by decide +kernel
theorem d_L_law_1107 : decode b_L_law 1107 = .ok (.istore 6, 2) := by decide +kernel
theorem d_L_law_1109 : decode b_L_law 1109 = .ok (.aload_n 2, 1) := by decide +kernel
theorem d_L_law_1110 : decode b_L_law 1110 = .ok (.invokevirtual 77, 3) := by decide +kernel
theorem d_L_law_1113 : decode b_L_law 1113 = .ok (.iload 5, 2) := by decide +kernel
theorem d_L_law_1115 : decode b_L_law 1115 = .ok (.if_icmp .eq 5, 3) := by decide +kernel
theorem d_L_law_1118 : decode b_L_law 1118 = .ok (.iconst 0, 1) := by decide +kernel
theorem d_L_law_1119 : decode b_L_law 1119 = .ok (.ireturn, 1) := by decide +kernel
theorem d_L_law_1120 : decode b_L_law 1120 = .ok (.iload 5, 2) := by decide +kernel
theorem d_L_law_1122 : decode b_L_law 1122 = .ok (.ifCond .ne 15, 3) := by decide +kernel
theorem d_L_law_1125 : decode b_L_law 1125 = .ok (.aload_n 3, 1) := by decide +kernel
theorem d_L_law_1126 : decode b_L_law 1126 = .ok (.iconst 0, 1) := by decide +kernel
theorem d_L_law_1127 : decode b_L_law 1127 = .ok (.laload, 1) := by decide +kernel
theorem d_L_law_1128 : decode b_L_law 1128 = .ok (.iload 6, 2) := by decide +kernel
theorem d_L_law_1130 : decode b_L_law 1130 = .ok (.i2l, 1) := by decide +kernel
theorem d_L_law_1131 : decode b_L_law 1131 = .ok (.lcmp, 1) := by decide +kernel
theorem d_L_law_1132 : decode b_L_law 1132 = .ok (.ifCond .eq 5, 3) := by decide +kernel
theorem d_L_law_1135 : decode b_L_law 1135 = .ok (.iconst 0, 1) := by decide +kernel
theorem d_L_law_1136 : decode b_L_law 1136 = .ok (.ireturn, 1) := by decide +kernel
theorem d_L_law_1137 : decode b_L_law 1137 = .ok (.goto 97, 3) := by decide +kernel
theorem d_L_law_1140 : decode b_L_law 1140 = .ok (.aload_n 1, 1) := by decide +kernel
theorem d_L_law_1141 : decode b_L_law 1141 = .ok (.aload_n 0, 1) := by decide +kernel
theorem d_L_law_1142 : decode b_L_law 1142 = .ok (.iload 4, 2) := by decide +kernel
theorem d_L_law_1144 : decode b_L_law 1144 = .ok (.iconst 1, 1) := by decide +kernel
theorem d_L_law_1145 : decode b_L_law 1145 = .ok (.iadd, 1) := by decide +kernel
theorem d_L_law_1146 : decode b_L_law 1146 = .ok (.iaload, 1) := by decide +kernel
theorem d_L_law_1147 : decode b_L_law 1147 = .ok (.aload_n 3, 1) := by decide +kernel
theorem d_L_law_1148 : decode b_L_law 1148 = .ok (.invokestatic 129, 3) := by decide +kernel
theorem d_L_law_1151 : decode b_L_law 1151 = .ok (.istore 5, 2) := by decide +kernel
theorem d_L_law_1153 : decode b_L_law 1153 = .ok (.aload_n 2, 1) := by decide +kernel
theorem d_L_law_1154 : decode b_L_law 1154 = .ok (.aload_n 0, 1) := by decide +kernel
theorem d_L_law_1155 : decode b_L_law 1155 = .ok (.iload 4, 2) := by decide +kernel
theorem d_L_law_1157 : decode b_L_law 1157 = .ok (.iconst 1, 1) := by decide +kernel
theorem d_L_law_1158 : decode b_L_law 1158 = .ok (.iadd, 1) := by decide +kernel
theorem d_L_law_1159 : decode b_L_law 1159 = .ok (.iaload, 1) := by decide +kernel
theorem d_L_law_1160 : decode b_L_law 1160 = .ok (.invokevirtual 131, 3) := by decide +kernel
theorem d_L_law_1163 : decode b_L_law 1163 = .ok (.istore 6, 2) := by decide +kernel
theorem d_L_law_1165 : decode b_L_law 1165 = .ok (.aload_n 2, 1) := by decide +kernel
theorem d_L_law_1166 : decode b_L_law 1166 = .ok (.invokevirtual 77, 3) := by decide +kernel
theorem d_L_law_1169 : decode b_L_law 1169 = .ok (.iload 5, 2) := by decide +kernel
theorem d_L_law_1171 : decode b_L_law 1171 = .ok (.if_icmp .eq 5, 3) := by decide +kernel
theorem d_L_law_1174 : decode b_L_law 1174 = .ok (.iconst 0, 1) := by decide +kernel
theorem d_L_law_1175 : decode b_L_law 1175 = .ok (.ireturn, 1) := by decide +kernel
theorem d_L_law_1176 : decode b_L_law 1176 = .ok (.iload 5, 2) := by decide +kernel
theorem d_L_law_1178 : decode b_L_law 1178 = .ok (.ifCond .ne 15, 3) := by decide +kernel
theorem d_L_law_1181 : decode b_L_law 1181 = .ok (.aload_n 3, 1) := by decide +kernel
theorem d_L_law_1182 : decode b_L_law 1182 = .ok (.iconst 0, 1) := by decide +kernel
theorem d_L_law_1183 : decode b_L_law 1183 = .ok (.laload, 1) := by decide +kernel
theorem d_L_law_1184 : decode b_L_law 1184 = .ok (.iload 6, 2) := by decide +kernel
theorem d_L_law_1186 : decode b_L_law 1186 = .ok (.i2l, 1) := by decide +kernel
theorem d_L_law_1187 : decode b_L_law 1187 = .ok (.lcmp, 1) := by decide +kernel
theorem d_L_law_1188 : decode b_L_law 1188 = .ok (.ifCond .eq 5, 3) := by decide +kernel
theorem d_L_law_1191 : decode b_L_law 1191 = .ok (.iconst 0, 1) := by decide +kernel
theorem d_L_law_1192 : decode b_L_law 1192 = .ok (.ireturn, 1) := by decide +kernel
theorem d_L_law_1193 : decode b_L_law 1193 = .ok (.goto 41, 3) := by decide +kernel
theorem d_L_law_1196 : decode b_L_law 1196 = .ok (.aload_n 1, 1) := by decide +kernel
theorem d_L_law_1197 : decode b_L_law 1197 = .ok (.invokevirtual 132, 3) := by decide +kernel
theorem d_L_law_1200 : decode b_L_law 1200 = .ok (.aload_n 2, 1) := by decide +kernel
theorem d_L_law_1201 : decode b_L_law 1201 = .ok (.invokevirtual 135, 3) := by decide +kernel
theorem d_L_law_1204 : decode b_L_law 1204 = .ok (.if_icmp .eq 30, 3) := by decide +kernel
theorem d_L_law_1207 : decode b_L_law 1207 = .ok (.iconst 0, 1) := by decide +kernel
theorem d_L_law_1208 : decode b_L_law 1208 = .ok (.ireturn, 1) := by decide +kernel
theorem d_L_law_1209 : decode b_L_law 1209 = .ok (.aload_n 1, 1) := by decide +kernel
theorem d_L_law_1210 : decode b_L_law 1210 = .ok (.aload_n 0, 1) := by decide +kernel
theorem d_L_law_1211 : decode b_L_law 1211 = .ok (.iload 4, 2) := by decide +kernel
theorem d_L_law_1213 : decode b_L_law 1213 = .ok (.iconst 1, 1) := by decide +kernel
theorem d_L_law_1214 : decode b_L_law 1214 = .ok (.iadd, 1) := by decide +kernel
theorem d_L_law_1215 : decode b_L_law 1215 = .ok (.iaload, 1) := by decide +kernel
theorem d_L_law_1216 : decode b_L_law 1216 = .ok (.invokevirtual 136, 3) := by decide +kernel
theorem d_L_law_1219 : decode b_L_law 1219 = .ok (.aload_n 2, 1) := by decide +kernel
theorem d_L_law_1220 : decode b_L_law 1220 = .ok (.aload_n 0, 1) := by decide +kernel
theorem d_L_law_1221 : decode b_L_law 1221 = .ok (.iload 4, 2) := by decide +kernel
theorem d_L_law_1223 : decode b_L_law 1223 = .ok (.iconst 1, 1) := by decide +kernel
theorem d_L_law_1224 : decode b_L_law 1224 = .ok (.iadd, 1) := by decide +kernel
theorem d_L_law_1225 : decode b_L_law 1225 = .ok (.iaload, 1) := by decide +kernel
theorem d_L_law_1226 : decode b_L_law 1226 = .ok (.invokevirtual 139, 3) := by decide +kernel
theorem d_L_law_1229 : decode b_L_law 1229 = .ok (.if_icmp .eq 5, 3) := by decide +kernel
theorem d_L_law_1232 : decode b_L_law 1232 = .ok (.iconst 0, 1) := by decide +kernel
theorem d_L_law_1233 : decode b_L_law 1233 = .ok (.ireturn, 1) := by decide +kernel
theorem d_L_law_1234 : decode b_L_law 1234 = .ok (.iinc 4 5, 3) := by decide +kernel
theorem d_L_law_1237 : decode b_L_law 1237 = .ok (.goto (-1214), 3) := by decide +kernel
theorem d_L_law_1240 : decode b_L_law 1240 = .ok (.iconst 1, 1) := by decide +kernel
theorem d_L_law_1241 : decode b_L_law 1241 = .ok (.ireturn, 1) := by decide +kernel
