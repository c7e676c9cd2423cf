theorem dL_law_657 : decode cL_law 657 = .ok (.iload 20, 2) := by decide +kernel
theorem dL_law_659 : decode cL_law 659 = .ok (.iaload, 1) := by decide +kernel
theorem dL_law_660 : decode cL_law 660 = .ok (.invokestatic 130, 3) := by decide +kernel
theorem dL_law_663 : decode cL_law 663 = .ok (.iload 20, 2) := by decide +kernel
theorem dL_law_665 : decode cL_law 665 = .ok (.if_icmp .ne 17, 3) := by decide +kernel
theorem dL_law_668 : decode cL_law 668 = .ok (.aload_n 1, 1) := by decide +kernel
theorem dL_law_669 : decode cL_law 669 = .ok (.iload 20, 2) := by decide +kernel
theorem dL_law_671 : decode cL_law 671 = .ok (.invokestatic 175, 3) := by decide +kernel
theorem dL_law_674 : decode cL_law 674 = .ok (.iconst (-1), 1) := by decide +kernel
theorem dL_law_675 : decode cL_law 675 = .ok (.if_icmp .ne 7, 3) := by decide +kernel
theorem dL_law_678 : decode cL_law 678 = .ok (.iconst 1, 1) := by decide +kernel
theorem dL_law_679 : decode cL_law 679 = .ok (.goto 4, 3) := by decide +kernel
theorem dL_law_682 : decode cL_law 682 = .ok (.iconst 0, 1) := by decide +kernel
theorem dL_law_683 : decode cL_law 683 = .ok (.iand, 1) := by decide +kernel
theorem dL_law_684 : decode cL_law 684 = .ok (.istore_n 2, 1) := by decide +kernel
theorem dL_law_685 : decode cL_law 685 = .ok (.iinc 20 1, 3) := by decide +kernel
theorem dL_law_688 : decode cL_law 688 = .ok (.goto (-103), 3) := by decide +kernel
theorem dL_law_691 : decode cL_law 691 = .ok (.aload_n 0, 1) := by decide +kernel
theorem dL_law_692 : decode cL_law 692 = .ok (.bipush 30, 2) := by decide +kernel
theorem dL_law_694 : decode cL_law 694 = .ok (.bipush 7, 2) := by decide +kernel
theorem dL_law_696 : decode cL_law 696 = .ok (.invokestatic 136, 3) := by decide +kernel
theorem dL_law_699 : decode cL_law 699 = .ok (.iconst 3, 1) := by decide +kernel
theorem dL_law_700 : decode cL_law 700 = .ok (.isub, 1) := by decide +kernel
theorem dL_law_701 : decode cL_law 701 = .ok (.istore 20, 2) := by decide +kernel
theorem dL_law_703 : decode cL_law 703 = .ok (.aload_n 0, 1) := by decide +kernel
theorem dL_law_704 : decode cL_law 704 = .ok (.bipush 31, 2) := by decide +kernel
theorem dL_law_706 : decode cL_law 706 = .ok (.bipush 7, 2) := by decide +kernel
theorem dL_law_708 : decode cL_law 708 = .ok (.invokestatic 136, 3) := by decide +kernel
theorem dL_law_711 : decode cL_law 711 = .ok (.iconst 3, 1) := by decide +kernel
theorem dL_law_712 : decode cL_law 712 = .ok (.isub, 1) := by decide +kernel
theorem dL_law_713 : decode cL_law 713 = .ok (.istore 21, 2) := by decide +kernel
theorem dL_law_715 : decode cL_law 715 = .ok (.iload_n 2, 1) := by decide +kernel
theorem dL_law_716 : decode cL_law 716 = .ok (.aload_n 1, 1) := by decide +kernel
theorem dL_law_717 : decode cL_law 717 = .ok (.iload 20, 2) := by decide +kernel
theorem dL_law_719 : decode cL_law 719 = .ok (.iload 21, 2) := by decide +kernel
theorem dL_law_721 : decode cL_law 721 = .ok (.invokestatic 177, 3) := by decide +kernel
theorem dL_law_724 : decode cL_law 724 = .ok (.ifCond .ne 31, 3) := by decide +kernel
theorem dL_law_727 : decode cL_law 727 = .ok (.aload_n 1, 1) := by decide +kernel
theorem dL_law_728 : decode cL_law 728 = .ok (.bipush 13, 2) := by decide +kernel
theorem dL_law_730 : decode cL_law 730 = .ok (.bipush 110, 2) := by decide +kernel
theorem dL_law_732 : decode cL_law 732 = .ok (.invokestatic 179, 3) := by decide +kernel
theorem dL_law_735 : decode cL_law 735 = .ok (.ldc 17, 2) := by decide +kernel
theorem dL_law_737 : decode cL_law 737 = .ok (.if_icmp .ne 18, 3) := by decide +kernel
theorem dL_law_740 : decode cL_law 740 = .ok (.aload_n 1, 1) := by decide +kernel
theorem dL_law_741 : decode cL_law 741 = .ok (.bipush 97, 2) := by decide +kernel
theorem dL_law_743 : decode cL_law 743 = .ok (.invokestatic 181, 3) := by decide +kernel
theorem dL_law_746 : decode cL_law 746 = .ok (.ldc 17, 2) := by decide +kernel
theorem dL_law_748 : decode cL_law 748 = .ok (.if_icmp .ne 7, 3) := by decide +kernel
theorem dL_law_751 : decode cL_law 751 = .ok (.iconst 1, 1) := by decide +kernel
theorem dL_law_752 : decode cL_law 752 = .ok (.goto 4, 3) := by decide +kernel
theorem dL_law_755 : decode cL_law 755 = .ok (.iconst 0, 1) := by decide +kernel
theorem dL_law_756 : decode cL_law 756 = .ok (.iand, 1) := by decide +kernel
theorem dL_law_757 : decode cL_law 757 = .ok (.istore_n 2, 1) := by decide +kernel
theorem dL_law_758 : decode cL_law 758 = .ok (.iconst 2, 1) := by decide +kernel
theorem dL_law_759 : decode cL_law 759 = .ok (.newarray .int, 2) := by decide +kernel
theorem dL_law_761 : decode cL_law 761 = .ok (.astore 22, 2) := by decide +kernel
theorem dL_law_763 : decode cL_law 763 = .ok (.iconst 2, 1) := by decide +kernel
theorem dL_law_764 : decode cL_law 764 = .ok (.newarray .int, 2) := by decide +kernel
theorem dL_law_766 : decode cL_law 766 = .ok (.astore 23, 2) := by decide +kernel
theorem dL_law_768 : decode cL_law 768 = .ok (.iconst 0, 1) := by decide +kernel
theorem dL_law_769 : decode cL_law 769 = .ok (.istore 24, 2) := by decide +kernel
theorem dL_law_771 : decode cL_law 771 = .ok (.iconst 0, 1) := by decide +kernel
theorem dL_law_772 : decode cL_law 772 = .ok (.istore 25, 2) := by decide +kernel
theorem dL_law_774 : decode cL_law 774 = .ok (.iload 25, 2) := by decide +kernel
theorem dL_law_776 : decode cL_law 776 = .ok (.bipush 50, 2) := by decide +kernel
theorem dL_law_778 : decode cL_law 778 = .ok (.if_icmp .ge 1179, 3) := by decide +kernel
theorem dL_law_781 : decode cL_law 781 = .ok (.aload_n 0, 1) := by decide +kernel
theorem dL_law_782 : decode cL_law 782 = .ok (.bipush 40, 2) := by decide +kernel
theorem dL_law_784 : decode cL_law 784 = .ok (.iload 25, 2) := by decide +kernel
theorem dL_law_786 : decode cL_law 786 = .ok (.iconst 5, 1) := by decide +kernel
theorem dL_law_787 : decode cL_law 787 = .ok (.idiv, 1) := by decide +kernel
theorem dL_law_788 : decode cL_law 788 = .ok (.iadd, 1) := by decide +kernel
theorem dL_law_789 : decode cL_law 789 = .ok (.bipush 13, 2) := by decide +kernel
theorem dL_law_791 : decode cL_law 791 = .ok (.invokestatic 136, 3) := by decide +kernel
theorem dL_law_794 : decode cL_law 794 = .ok (.istore 26, 2) := by decide +kernel
theorem dL_law_796 : decode cL_law 796 = .ok (.aload_n 0, 1) := by decide +kernel
theorem dL_law_797 : decode cL_law 797 = .ok (.bipush 60, 2) := by decide +kernel
theorem dL_law_799 : decode cL_law 799 = .ok (.iload 25, 2) := by decide +kernel
theorem dL_law_801 : decode cL_law 801 = .ok (.iconst 5, 1) := by decide +kernel
theorem dL_law_802 : decode cL_law 802 = .ok (.idiv, 1) := by decide +kernel
theorem dL_law_803 : decode cL_law 803 = .ok (.iadd, 1) := by decide +kernel
theorem dL_law_804 : decode cL_law 804 = .ok (.iconst 4, 1) := by decide +kernel
theorem dL_law_805 : decode cL_law 805 = .ok (.invokestatic 136, 3) := by decide +kernel
theorem dL_law_808 : decode cL_law 808 = .ok (.istore 27, 2) := by decide +kernel
theorem dL_law_810 : decode cL_law 810 = .ok (.iload_n 2, 1) := by decide +kernel
theorem dL_law_811 : decode cL_law 811 = .ok (.aload_n 1, 1) := by decide +kernel
theorem dL_law_812 : decode cL_law 812 = .ok (.iload 26, 2) := by decide +kernel
theorem dL_law_814 : decode cL_law 814 = .ok (.ldc 183, 2) := by decide +kernel
theorem dL_law_816 : decode cL_law 816 = .ok (.iload 27, 2) := by decide +kernel
theorem dL_law_818 : decode cL_law 818 = .ok (.invokevirtual 167, 3) := by decide +kernel
theorem dL_law_821 : decode cL_law 821 = .ok (.invokestatic 179, 3) := by decide +kernel
theorem dL_law_824 : decode cL_law 824 = .ok (.ifCond .lt 7, 3) := by decide +kernel
theorem dL_law_827 : decode cL_law 827 = .ok (.iconst 1, 1) := by decide +kernel
theorem dL_law_828 : decode cL_law 828 = .ok (.goto 4, 3) := by decide +kernel
theorem dL_law_831 : decode cL_law 831 = .ok (.iconst 0, 1) := by decide +kernel
theorem dL_law_832 : decode cL_law 832 = .ok (.iand, 1) := by decide +kernel
theorem dL_law_833 : decode cL_law 833 = .ok (.istore_n 2, 1) := by decide +kernel
theorem dL_law_834 : decode cL_law 834 = .ok (.iconst 2, 1) := by decide +kernel
theorem dL_law_835 : decode cL_law 835 = .ok (.newarray .boolean, 2) := by decide +kernel
theorem dL_law_837 : decode cL_law 837 = .ok (.astore 28, 2) := by decide +kernel
theorem dL_law_839 : decode cL_law 839 = .ok (.iload 24, 2) := by decide +kernel
theorem dL_law_841 : decode cL_law 841 = .ok (.bipush 24, 2) := by decide +kernel
theorem dL_law_843 : decode cL_law 843 = .ok (.irem, 1) := by decide +kernel
theorem dL_law_844 : decode cL_law 844 = .ok (.istore 29, 2) := by decide +kernel
theorem dL_law_846 : decode cL_law 846 = .ok (.iload 29, 2) := by decide +kernel
theorem dL_law_848 : decode cL_law 848 = .ok (.bipush 6, 2) := by decide +kernel
theorem dL_law_850 : decode cL_law 850 = .ok (.if_icmp .lt 16, 3) := by decide +kernel
theorem dL_law_853 : decode cL_law 853 = .ok (.iload 29, 2) := by decide +kernel
theorem dL_law_855 : decode cL_law 855 = .ok (.bipush 18, 2) := by decide +kernel
theorem dL_law_857 : decode cL_law 857 = .ok (.if_icmp .ge 9, 3) := by decide +kernel
theorem dL_law_860 : decode cL_law 860 = .ok (.sipush 1000, 3) := by decide +kernel
theorem dL_law_863 : decode cL_law 863 = .ok (.goto 6, 3) := by decide +kernel
theorem dL_law_866 : decode cL_law 866 = .ok (.sipush 2000, 3) := by decide +kernel
theorem dL_law_869 : decode cL_law 869 = .ok (.istore 30, 2) := by decide +kernel
theorem dL_law_871 : decode cL_law 871 = .ok (.iconst 0, 1) := by decide +kernel
theorem dL_law_872 : decode cL_law 872 = .ok (.istore 31, 2) := by decide +kernel
theorem dL_law_874 : decode cL_law 874 = .ok (.iload 31, 2) := by decide +kernel
theorem dL_law_876 : decode cL_law 876 = .ok (.iconst 2, 1) := by decide +kernel
theorem dL_law_877 : decode cL_law 877 = .ok (.if_icmp .ge 123, 3) := by decide +kernel
theorem dL_law_880 : decode cL_law 880 = .ok (.aload 6, 2) := by decide +kernel
theorem dL_law_882 : decode cL_law 882 = .ok (.iload 31, 2) := by decide +kernel
theorem dL_law_884 : decode cL_law 884 = .ok (.iaload, 1) := by decide +kernel
theorem dL_law_885 : decode cL_law 885 = .ok (.aload 5, 2) := by decide +kernel
theorem dL_law_887 : decode cL_law 887 = .ok (.iload 31, 2) := by decide +kernel
theorem dL_law_889 : decode cL_law 889 = .ok (.iaload, 1) := by decide +kernel
theorem dL_law_890 : decode cL_law 890 = .ok (.if_icmp .lt 17, 3) := by decide +kernel
theorem dL_law_893 : decode cL_law 893 = .ok (.aload 22, 2) := by decide +kernel
theorem dL_law_895 : decode cL_law 895 = .ok (.iload 31, 2) := by decide +kernel
theorem dL_law_897 : decode cL_law 897 = .ok (.iaload, 1) := by decide +kernel
theorem dL_law_898 : decode cL_law 898 = .ok (.iload 16, 2) := by decide +kernel
theorem dL_law_900 : decode cL_law 900 = .ok (.if_icmp .ge 7, 3) := by decide +kernel
theorem dL_law_903 : decode cL_law 903 = .ok (.iconst 1, 1) := by decide +kernel
theorem dL_law_904 : decode cL_law 904 = .ok (.goto 4, 3) := by decide +kernel
theorem dL_law_907 : decode cL_law 907 = .ok (.iconst 0, 1) := by decide +kernel
theorem dL_law_908 : decode cL_law 908 = .ok (.istore 32, 2) := by decide +kernel
theorem dL_law_910 : decode cL_law 910 = .ok (.aload 6, 2) := by decide +kernel
theorem dL_law_912 : decode cL_law 912 = .ok (.iload 31, 2) := by decide +kernel
theorem dL_law_914 : decode cL_law 914 = .ok (.dup2, 1) := by decide +kernel
theorem dL_law_915 : decode cL_law 915 = .ok (.iaload, 1) := by decide +kernel
theorem dL_law_916 : decode cL_law 916 = .ok (.iload 32, 2) := by decide +kernel
theorem dL_law_918 : decode cL_law 918 = .ok (.ifCond .eq 11, 3) := by decide +kernel
theorem dL_law_921 : decode cL_law 921 = .ok (.aload 5, 2) := by decide +kernel
theorem dL_law_923 : decode cL_law 923 = .ok (.iload 31, 2) := by decide +kernel
theorem dL_law_925 : decode cL_law 925 = .ok (.iaload, 1) := by decide +kernel
theorem dL_law_926 : decode cL_law 926 = .ok (.goto 4, 3) := by decide +kernel
theorem dL_law_929 : decode cL_law 929 = .ok (.iconst 0, 1) := by decide +kernel
theorem dL_law_930 : decode cL_law 930 = .ok (.isub, 1) := by decide +kernel
theorem dL_law_931 : decode cL_law 931 = .ok (.iastore, 1) := by decide +kernel
theorem dL_law_932 : decode cL_law 932 = .ok (.aload 22, 2) := by decide +kernel
theorem dL_law_934 : decode cL_law 934 = .ok (.iload 31, 2) := by decide +kernel
theorem dL_law_936 : decode cL_law 936 = .ok (.dup2, 1) := by decide +kernel
theorem dL_law_937 : decode cL_law 937 = .ok (.iaload, 1) := by decide +kernel
theorem dL_law_938 : decode cL_law 938 = .ok (.iload 32, 2) := by decide +kernel
theorem dL_law_940 : decode cL_law 940 = .ok (.ifCond .eq 7, 3) := by decide +kernel
theorem dL_law_943 : decode cL_law 943 = .ok (.iconst 1, 1) := by decide +kernel
theorem dL_law_944 : decode cL_law 944 = .ok (.goto 4, 3) := by decide +kernel
theorem dL_law_947 : decode cL_law 947 = .ok (.iconst 0, 1) := by decide +kernel
theorem dL_law_948 : decode cL_law 948 = .ok (.iadd, 1) := by decide +kernel
theorem dL_law_949 : decode cL_law 949 = .ok (.iastore, 1) := by decide +kernel
theorem dL_law_950 : decode cL_law 950 = .ok (.aload 28, 2) := by decide +kernel
theorem dL_law_952 : decode cL_law 952 = .ok (.iload 31, 2) := by decide +kernel
theorem dL_law_954 : decode cL_law 954 = .ok (.iload 32, 2) := by decide +kernel
theorem dL_law_956 : decode cL_law 956 = .ok (.ifCond .eq 36, 3) := by decide +kernel
theorem dL_law_959 : decode cL_law 959 = .ok (.aload 8, 2) := by decide +kernel
theorem dL_law_961 : decode cL_law 961 = .ok (.iload 31, 2) := by decide +kernel
theorem dL_law_963 : decode cL_law 963 = .ok (.iaload, 1) := by decide +kernel
theorem dL_law_964 : decode cL_law 964 = .ok (.ifCond .le 28, 3) := by decide +kernel
theorem dL_law_967 : decode cL_law 967 = .ok (.aload 5, 2) := by decide +kernel
theorem dL_law_969 : decode cL_law 969 = .ok (.iload 31, 2) := by decide +kernel
theorem dL_law_971 : decode cL_law 971 = .ok (.iaload, 1) := by decide +kernel
theorem dL_law_972 : decode cL_law 972 = .ok (.aload 8, 2) := by decide +kernel
theorem dL_law_974 : decode cL_law 974 = .ok (.iload 31, 2) := by decide +kernel
theorem dL_law_976 : decode cL_law 976 = .ok (.iaload, 1) := by decide +kernel
theorem dL_law_977 : decode cL_law 977 = .ok (.if_icmp .le 15, 3) := by decide +kernel
theorem dL_law_980 : decode cL_law 980 = .ok (.aload 13, 2) := by decide +kernel
theorem dL_law_982 : decode cL_law 982 = .ok (.iload 31, 2) := by decide +kernel
theorem dL_law_984 : decode cL_law 984 = .ok (.baload, 1) := by decide +kernel
theorem dL_law_985 : decode cL_law 985 = .ok (.ifCond .ne 7, 3) := by decide +kernel
theorem dL_law_988 : decode cL_law 988 = .ok (.iconst 1, 1) := by decide +kernel
theorem dL_law_989 : decode cL_law 989 = .ok (.goto 4, 3) := by decide +kernel
theorem dL_law_992 : decode cL_law 992 = .ok (.iconst 0, 1) := by decide +kernel
theorem dL_law_993 : decode cL_law 993 = .ok (.bastore, 1) := by decide +kernel
theorem dL_law_994 : decode cL_law 994 = .ok (.iinc 31 1, 3) := by decide +kernel
theorem dL_law_997 : decode cL_law 997 = .ok (.goto (-123), 3) := by decide +kernel
theorem dL_law_1000 : decode cL_law 1000 = .ok (.iconst 3, 1) := by decide +kernel
theorem dL_law_1001 : decode cL_law 1001 = .ok (.newarray .int, 2) := by decide +kernel
theorem dL_law_1003 : decode cL_law 1003 = .ok (.astore 31, 2) := by decide +kernel
theorem dL_law_1005 : decode cL_law 1005 = .ok (.iconst 2, 1) := by decide +kernel
theorem dL_law_1006 : decode cL_law 1006 = .ok (.newarray .int, 2) := by decide +kernel
theorem dL_law_1008 : decode cL_law 1008 = .ok (.astore 32, 2) := by decide +kernel
theorem dL_law_1010 : decode cL_law 1010 = .ok (.iconst 0, 1) := by decide +kernel
theorem dL_law_1011 : decode cL_law 1011 = .ok (.istore 33, 2) := by decide +kernel
theorem dL_law_1013 : decode cL_law 1013 = .ok (.iload 33, 2) := by decide +kernel
theorem dL_law_1015 : decode cL_law 1015 = .ok (.iconst 3, 1) := by decide +kernel
theorem dL_law_1016 : decode cL_law 1016 = .ok (.if_icmp .ge 349, 3) := by decide +kernel
theorem dL_law_1019 : decode cL_law 1019 = .ok (.iconst 2, 1) := by decide +kernel
theorem dL_law_1020 : decode cL_law 1020 = .ok (.newarray .int, 2) := by decide +kernel
theorem dL_law_1022 : decode cL_law 1022 = .ok (.astore 34, 2) := by decide +kernel
theorem dL_law_1024 : decode cL_law 1024 = .ok (.iconst 0, 1) := by decide +kernel
theorem dL_law_1025 : decode cL_law 1025 = .ok (.istore 35, 2) := by decide +kernel
theorem dL_law_1027 : decode cL_law 1027 = .ok (.iload 35, 2) := by decide +kernel
theorem dL_law_1029 : decode cL_law 1029 = .ok (.iconst 2, 1) := by decide +kernel
theorem dL_law_1030 : decode cL_law 1030 = .ok (.if_icmp .ge 152, 3) := by decide +kernel
theorem dL_law_1033 : decode cL_law 1033 = .ok (.aload_n 3, 1) := by decide +kernel
theorem dL_law_1034 : decode cL_law 1034 = .ok (.iload 35, 2) := by decide +kernel
theorem dL_law_1036 : decode cL_law 1036 = .ok (.iaload, 1) := by decide +kernel
theorem dL_law_1037 : decode cL_law 1037 = .ok (.aload 17, 2) := by decide +kernel
theorem dL_law_1039 : decode cL_law 1039 = .ok (.iload 33, 2) := by decide +kernel
theorem dL_law_1041 : decode cL_law 1041 = .ok (.iaload, 1) := by decide +kernel
theorem dL_law_1042 : decode cL_law 1042 = .ok (.isub, 1) := by decide +kernel
theorem dL_law_1043 : decode cL_law 1043 = .ok (.istore 36, 2) := by decide +kernel
theorem dL_law_1045 : decode cL_law 1045 = .ok (.aload 4, 2) := by decide +kernel
theorem dL_law_1047 : decode cL_law 1047 = .ok (.iload 35, 2) := by decide +kernel
theorem dL_law_1049 : decode cL_law 1049 = .ok (.iaload, 1) := by decide +kernel
theorem dL_law_1050 : decode cL_law 1050 = .ok (.aload 18, 2) := by decide +kernel
theorem dL_law_1052 : decode cL_law 1052 = .ok (.iload 33, 2) := by decide +kernel
theorem dL_law_1054 : decode cL_law 1054 = .ok (.iaload, 1) := by decide +kernel
theorem dL_law_1055 : decode cL_law 1055 = .ok (.isub, 1) := by decide +kernel
theorem dL_law_1056 : decode cL_law 1056 = .ok (.istore 37, 2) := by decide +kernel
theorem dL_law_1058 : decode cL_law 1058 = .ok (.iload 36, 2) := by decide +kernel
theorem dL_law_1060 : decode cL_law 1060 = .ok (.ifCond .ge 9, 3) := by decide +kernel
theorem dL_law_1063 : decode cL_law 1063 = .ok (.iload 36, 2) := by decide +kernel
theorem dL_law_1065 : decode cL_law 1065 = .ok (.ineg, 1) := by decide +kernel
theorem dL_law_1066 : decode cL_law 1066 = .ok (.goto 5, 3) := by decide +kernel
theorem dL_law_1069 : decode cL_law 1069 = .ok (.iload 36, 2) := by decide +kernel
theorem dL_law_1071 : decode cL_law 1071 = .ok (.istore 36, 2) := by decide +kernel
theorem dL_law_1073 : decode cL_law 1073 = .ok (.iload 37, 2) := by decide +kernel
theorem dL_law_1075 : decode cL_law 1075 = .ok (.ifCond .ge 9, 3) := by decide +kernel
theorem dL_law_1078 : decode cL_law 1078 = .ok (.iload 37, 2) := by decide +kernel
theorem dL_law_1080 : decode cL_law 1080 = .ok (.ineg, 1) := by decide +kernel
theorem dL_law_1081 : decode cL_law 1081 = .ok (.goto 5, 3) := by decide +kernel
theorem dL_law_1084 : decode cL_law 1084 = .ok (.iload 37, 2) := by decide +kernel
theorem dL_law_1086 : decode cL_law 1086 = .ok (.istore 37, 2) := by decide +kernel
theorem dL_law_1088 : decode cL_law 1088 = .ok (.iload 36, 2) := by decide +kernel
theorem dL_law_1090 : decode cL_law 1090 = .ok (.iload 37, 2) := by decide +kernel
theorem dL_law_1092 : decode cL_law 1092 = .ok (.if_icmp .le 8, 3) := by decide +kernel
theorem dL_law_1095 : decode cL_law 1095 = .ok (.iload 36, 2) := by decide +kernel
theorem dL_law_1097 : decode cL_law 1097 = .ok (.goto 5, 3) := by decide +kernel
theorem dL_law_1100 : decode cL_law 1100 = .ok (.iload 37, 2) := by decide +kernel
theorem dL_law_1102 : decode cL_law 1102 = .ok (.istore 38, 2) := by decide +kernel
theorem dL_law_1104 : decode cL_law 1104 = .ok (.aload 8, 2) := by decide +kernel
theorem dL_law_1106 : decode cL_law 1106 = .ok (.iload 35, 2) := by decide +kernel
theorem dL_law_1108 : decode cL_law 1108 = .ok (.iaload, 1) := by decide +kernel
theorem dL_law_1109 : decode cL_law 1109 = .ok (.bipush 10, 2) := by decide +kernel
theorem dL_law_1111 : decode cL_law 1111 = .ok (.aload 23, 2) := by decide +kernel
theorem dL_law_1113 : decode cL_law 1113 = .ok (.iload 35, 2) := by decide +kernel
theorem dL_law_1115 : decode cL_law 1115 = .ok (.iaload, 1) := by decide +kernel
theorem dL_law_1116 : decode cL_law 1116 = .ok (.isub, 1) := by decide +kernel
theorem dL_law_1117 : decode cL_law 1117 = .ok (.imul, 1) := by decide +kernel
theorem dL_law_1118 : decode cL_law 1118 = .ok (.bipush 10, 2) := by decide +kernel
theorem dL_law_1120 : decode cL_law 1120 = .ok (.idiv, 1) := by decide +kernel
theorem dL_law_1121 : decode cL_law 1121 = .ok (.istore 39, 2) := by decide +kernel
theorem dL_law_1123 : decode cL_law 1123 = .ok (.aload 34, 2) := by decide +kernel
theorem dL_law_1125 : decode cL_law 1125 = .ok (.iload 35, 2) := by decide +kernel
theorem dL_law_1127 : decode cL_law 1127 = .ok (.iload 30, 2) := by decide +kernel
theorem dL_law_1129 : decode cL_law 1129 = .ok (.iload 39, 2) := by decide +kernel
theorem dL_law_1131 : decode cL_law 1131 = .ok (.iconst 1, 1) := by decide +kernel
theorem dL_law_1132 : decode cL_law 1132 = .ok (.if_icmp .ge 7, 3) := by decide +kernel
theorem dL_law_1135 : decode cL_law 1135 = .ok (.iconst 1, 1) := by decide +kernel
theorem dL_law_1136 : decode cL_law 1136 = .ok (.goto 5, 3) := by decide +kernel
theorem dL_law_1139 : decode cL_law 1139 = .ok (.iload 39, 2) := by decide +kernel
theorem dL_law_1141 : decode cL_law 1141 = .ok (.imul, 1) := by decide +kernel
theorem dL_law_1142 : decode cL_law 1142 = .ok (.iload 38, 2) := by decide +kernel
theorem dL_law_1144 : decode cL_law 1144 = .ok (.iload 38, 2) := by decide +kernel
theorem dL_law_1146 : decode cL_law 1146 = .ok (.imul, 1) := by decide +kernel
theorem dL_law_1147 : decode cL_law 1147 = .ok (.bipush 10, 2) := by decide +kernel
theorem dL_law_1149 : decode cL_law 1149 = .ok (.iadd, 1) := by decide +kernel
theorem dL_law_1150 : decode cL_law 1150 = .ok (.idiv, 1) := by decide +kernel
theorem dL_law_1151 : decode cL_law 1151 = .ok (.iastore, 1) := by decide +kernel
theorem dL_law_1152 : decode cL_law 1152 = .ok (.iload_n 2, 1) := by decide +kernel
theorem dL_law_1153 : decode cL_law 1153 = .ok (.aload_n 1, 1) := by decide +kernel
theorem dL_law_1154 : decode cL_law 1154 = .ok (.iload 35, 2) := by decide +kernel
theorem dL_law_1156 : decode cL_law 1156 = .ok (.iload 33, 2) := by decide +kernel
theorem dL_law_1158 : decode cL_law 1158 = .ok (.invokestatic 185, 3) := by decide +kernel
theorem dL_law_1161 : decode cL_law 1161 = .ok (.aload 34, 2) := by decide +kernel
theorem dL_law_1163 : decode cL_law 1163 = .ok (.iload 35, 2) := by decide +kernel
theorem dL_law_1165 : decode cL_law 1165 = .ok (.iaload, 1) := by decide +kernel
theorem dL_law_1166 : decode cL_law 1166 = .ok (.if_icmp .ne 7, 3) := by decide +kernel
theorem dL_law_1169 : decode cL_law 1169 = .ok (.iconst 1, 1) := by decide +kernel
theorem dL_law_1170 : decode cL_law 1170 = .ok (.goto 4, 3) := by decide +kernel
theorem dL_law_1173 : decode cL_law 1173 = .ok (.iconst 0, 1) := by decide +kernel
theorem dL_law_1174 : decode cL_law 1174 = .ok (.iand, 1) := by decide +kernel
theorem dL_law_1175 : decode cL_law 1175 = .ok (.istore_n 2, 1) := by decide +kernel
theorem dL_law_1176 : decode cL_law 1176 = .ok (.iinc 35 1, 3) := by decide +kernel
theorem dL_law_1179 : decode cL_law 1179 = .ok (.goto (-152), 3) := by decide +kernel
theorem dL_law_1182 : decode cL_law 1182 = .ok (.aload 28, 2) := by decide +kernel
theorem dL_law_1184 : decode cL_law 1184 = .ok (.iconst 0, 1) := by decide +kernel
theorem dL_law_1185 : decode cL_law 1185 = .ok (.baload, 1) := by decide +kernel
theorem dL_law_1186 : decode cL_law 1186 = .ok (.ifCond .eq 16, 3) := by decide +kernel
theorem dL_law_1189 : decode cL_law 1189 = .ok (.aload 34, 2) := by decide +kernel
theorem dL_law_1191 : decode cL_law 1191 = .ok (.iconst 0, 1) := by decide +kernel
theorem dL_law_1192 : decode cL_law 1192 = .ok (.iaload, 1) := by decide +kernel
theorem dL_law_1193 : decode cL_law 1193 = .ok (.bipush 20, 2) := by decide +kernel
theorem dL_law_1195 : decode cL_law 1195 = .ok (.if_icmp .lt 7, 3) := by decide +kernel
theorem dL_law_1198 : decode cL_law 1198 = .ok (.iconst 1, 1) := by decide +kernel
theorem dL_law_1199 : decode cL_law 1199 = .ok (.goto 4, 3) := by decide +kernel
theorem dL_law_1202 : decode cL_law 1202 = .ok (.iconst 0, 1) := by decide +kernel
theorem dL_law_1203 : decode cL_law 1203 = .ok (.istore 35, 2) := by decide +kernel
theorem dL_law_1205 : decode cL_law 1205 = .ok (.aload 28, 2) := by decide +kernel
theorem dL_law_1207 : decode cL_law 1207 = .ok (.iconst 1, 1) := by decide +kernel
theorem dL_law_1208 : decode cL_law 1208 = .ok (.baload, 1) := by decide +kernel
theorem dL_law_1209 : decode cL_law 1209 = .ok (.ifCond .eq 16, 3) := by decide +kernel
theorem dL_law_1212 : decode cL_law 1212 = .ok (.aload 34, 2) := by decide +kernel
theorem dL_law_1214 : decode cL_law 1214 = .ok (.iconst 1, 1) := by decide +kernel
theorem dL_law_1215 : decode cL_law 1215 = .ok (.iaload, 1) := by decide +kernel
theorem dL_law_1216 : decode cL_law 1216 = .ok (.bipush 20, 2) := by decide +kernel
theorem dL_law_1218 : decode cL_law 1218 = .ok (.if_icmp .lt 7, 3) := by decide +kernel
theorem dL_law_1221 : decode cL_law 1221 = .ok (.iconst 1, 1) := by decide +kernel
theorem dL_law_1222 : decode cL_law 1222 = .ok (.goto 4, 3) := by decide +kernel
theorem dL_law_1225 : decode cL_law 1225 = .ok (.iconst 0, 1) := by decide +kernel
theorem dL_law_1226 : decode cL_law 1226 = .ok (.istore 36, 2) := by decide +kernel
theorem dL_law_1228 : decode cL_law 1228 = .ok (.iload 14, 2) := by decide +kernel
theorem dL_law_1230 : decode cL_law 1230 = .ok (.iload 15, 2) := by decide +kernel
theorem dL_law_1232 : decode cL_law 1232 = .ok (.if_icmp .ne 63, 3) := by decide +kernel
theorem dL_law_1235 : decode cL_law 1235 = .ok (.aload 28, 2) := by decide +kernel
theorem dL_law_1237 : decode cL_law 1237 = .ok (.iconst 0, 1) := by decide +kernel
theorem dL_law_1238 : decode cL_law 1238 = .ok (.baload, 1) := by decide +kernel
theorem dL_law_1239 : decode cL_law 1239 = .ok (.ifCond .eq 56, 3) := by decide +kernel
theorem dL_law_1242 : decode cL_law 1242 = .ok (.aload 28, 2) := by decide +kernel
theorem dL_law_1244 : decode cL_law 1244 = .ok (.iconst 1, 1) := by decide +kernel
theorem dL_law_1245 : decode cL_law 1245 = .ok (.baload, 1) := by decide +kernel
theorem dL_law_1246 : decode cL_law 1246 = .ok (.ifCond .eq 49, 3) := by decide +kernel
theorem dL_law_1249 : decode cL_law 1249 = .ok (.iload 35, 2) := by decide +kernel
theorem dL_law_1251 : decode cL_law 1251 = .ok (.aload 34, 2) := by decide +kernel
theorem dL_law_1253 : decode cL_law 1253 = .ok (.iconst 0, 1) := by decide +kernel
theorem dL_law_1254 : decode cL_law 1254 = .ok (.iaload, 1) := by decide +kernel
theorem dL_law_1255 : decode cL_law 1255 = .ok (.iconst 2, 1) := by decide +kernel
theorem dL_law_1256 : decode cL_law 1256 = .ok (.aload 34, 2) := by decide +kernel
theorem dL_law_1258 : decode cL_law 1258 = .ok (.iconst 1, 1) := by decide +kernel
theorem dL_law_1259 : decode cL_law 1259 = .ok (.iaload, 1) := by decide +kernel
theorem dL_law_1260 : decode cL_law 1260 = .ok (.imul, 1) := by decide +kernel
theorem dL_law_1261 : decode cL_law 1261 = .ok (.if_icmp .lt 7, 3) := by decide +kernel
theorem dL_law_1264 : decode cL_law 1264 = .ok (.iconst 1, 1) := by decide +kernel
theorem dL_law_1265 : decode cL_law 1265 = .ok (.goto 4, 3) := by decide +kernel
theorem dL_law_1268 : decode cL_law 1268 = .ok (.iconst 0, 1) := by decide +kernel
theorem dL_law_1269 : decode cL_law 1269 = .ok (.iand, 1) := by decide +kernel
theorem dL_law_1270 : decode cL_law 1270 = .ok (.istore 35, 2) := by decide +kernel
theorem dL_law_1272 : decode cL_law 1272 = .ok (.iload 36, 2) := by decide +kernel
theorem dL_law_1274 : decode cL_law 1274 = .ok (.aload 34, 2) := by decide +kernel
theorem dL_law_1276 : decode cL_law 1276 = .ok (.iconst 1, 1) := by decide +kernel
theorem dL_law_1277 : decode cL_law 1277 = .ok (.iaload, 1) := by decide +kernel
theorem dL_law_1278 : decode cL_law 1278 = .ok (.iconst 2, 1) := by decide +kernel
theorem dL_law_1279 : decode cL_law 1279 = .ok (.aload 34, 2) := by decide +kernel
theorem dL_law_1281 : decode cL_law 1281 = .ok (.iconst 0, 1) := by decide +kernel
theorem dL_law_1282 : decode cL_law 1282 = .ok (.iaload, 1) := by decide +kernel
theorem dL_law_1283 : decode cL_law 1283 = .ok (.imul, 1) := by decide +kernel
theorem dL_law_1284 : decode cL_law 1284 = .ok (.if_icmp .lt 7, 3) := by decide +kernel
theorem dL_law_1287 : decode cL_law 1287 = .ok (.iconst 1, 1) := by decide +kernel
theorem dL_law_1288 : decode cL_law 1288 = .ok (.goto 4, 3) := by decide +kernel
theorem dL_law_1291 : decode cL_law 1291 = .ok (.iconst 0, 1) := by decide +kernel
theorem dL_law_1292 : decode cL_law 1292 = .ok (.iand, 1) := by decide +kernel
theorem dL_law_1293 : decode cL_law 1293 = .ok (.istore 36, 2) := by decide +kernel
theorem dL_law_1295 : decode cL_law 1295 = .ok (.aload 31, 2) := by decide +kernel
theorem dL_law_1297 : decode cL_law 1297 = .ok (.iload 33, 2) := by decide +kernel
theorem dL_law_1299 : decode cL_law 1299 = .ok (.iload 35, 2) := by decide +kernel
theorem dL_law_1301 : decode cL_law 1301 = .ok (.ifCond .eq 23, 3) := by decide +kernel
theorem dL_law_1304 : decode cL_law 1304 = .ok (.iload 36, 2) := by decide +kernel
theorem dL_law_1306 : decode cL_law 1306 = .ok (.ifCond .eq 14, 3) := by decide +kernel
theorem dL_law_1309 : decode cL_law 1309 = .ok (.aload 34, 2) := by decide +kernel
theorem dL_law_1311 : decode cL_law 1311 = .ok (.iconst 0, 1) := by decide +kernel
theorem dL_law_1312 : decode cL_law 1312 = .ok (.iaload, 1) := by decide +kernel
theorem dL_law_1313 : decode cL_law 1313 = .ok (.aload 34, 2) := by decide +kernel
theorem dL_law_1315 : decode cL_law 1315 = .ok (.iconst 1, 1) := by decide +kernel
theorem dL_law_1316 : decode cL_law 1316 = .ok (.iaload, 1) := by decide +kernel
theorem dL_law_1317 : decode cL_law 1317 = .ok (.if_icmp .lt 7, 3) := by decide +kernel
theorem dL_law_1320 : decode cL_law 1320 = .ok (.iconst 0, 1) := by decide +kernel
theorem dL_law_1321 : decode cL_law 1321 = .ok (.goto 13, 3) := by decide +kernel
theorem dL_law_1324 : decode cL_law 1324 = .ok (.iload 36, 2) := by decide +kernel
