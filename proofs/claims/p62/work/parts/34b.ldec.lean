theorem dk_736 : decode code 736 = .ok (.aload_n 0, 1) := by decide +kernel
theorem dk_737 : decode code 737 = .ok (.iload_n 3, 1) := by decide +kernel
theorem dk_738 : decode code 738 = .ok (.iconst 2, 1) := by decide +kernel
theorem dk_739 : decode code 739 = .ok (.iadd, 1) := by decide +kernel
theorem dk_740 : decode code 740 = .ok (.iaload, 1) := by decide +kernel
theorem dk_741 : decode code 741 = .ok (.invokevirtual 74, 3) := by decide +kernel
theorem dk_744 : decode code 744 = .ok (.pop, 1) := by decide +kernel
theorem dk_745 : decode code 745 = .ok (.aload_n 2, 1) := by decide +kernel
theorem dk_746 : decode code 746 = .ok (.aload_n 0, 1) := by decide +kernel
theorem dk_747 : decode code 747 = .ok (.iload_n 3, 1) := by decide +kernel
theorem dk_748 : decode code 748 = .ok (.iconst 1, 1) := by decide +kernel
theorem dk_749 : decode code 749 = .ok (.iadd, 1) := by decide +kernel
theorem dk_750 : decode code 750 = .ok (.iaload, 1) := by decide +kernel
theorem dk_751 : decode code 751 = .ok (.aload_n 0, 1) := by decide +kernel
theorem dk_752 : decode code 752 = .ok (.iload_n 3, 1) := by decide +kernel
theorem dk_753 : decode code 753 = .ok (.iconst 2, 1) := by decide +kernel
theorem dk_754 : decode code 754 = .ok (.iadd, 1) := by decide +kernel
theorem dk_755 : decode code 755 = .ok (.iaload, 1) := by decide +kernel
theorem dk_756 : decode code 756 = .ok (.invokevirtual 77, 3) := by decide +kernel
theorem dk_759 : decode code 759 = .ok (.pop, 1) := by decide +kernel
theorem dk_760 : decode code 760 = .ok (.goto (1663), 3) := by decide +kernel
theorem dk_763 : decode code 763 = .ok (.aload_n 1, 1) := by decide +kernel
theorem dk_764 : decode code 764 = .ok (.aload_n 0, 1) := by decide +kernel
theorem dk_765 : decode code 765 = .ok (.iload_n 3, 1) := by decide +kernel
theorem dk_766 : decode code 766 = .ok (.iconst 1, 1) := by decide +kernel
theorem dk_767 : decode code 767 = .ok (.iadd, 1) := by decide +kernel
theorem dk_768 : decode code 768 = .ok (.iaload, 1) := by decide +kernel
theorem dk_769 : decode code 769 = .ok (.aload_n 0, 1) := by decide +kernel
theorem dk_770 : decode code 770 = .ok (.iload_n 3, 1) := by decide +kernel
theorem dk_771 : decode code 771 = .ok (.iconst 2, 1) := by decide +kernel
theorem dk_772 : decode code 772 = .ok (.iadd, 1) := by decide +kernel
theorem dk_773 : decode code 773 = .ok (.iaload, 1) := by decide +kernel
theorem dk_774 : decode code 774 = .ok (.invokevirtual 78, 3) := by decide +kernel
theorem dk_777 : decode code 777 = .ok (.pop, 1) := by decide +kernel
theorem dk_778 : decode code 778 = .ok (.aload_n 2, 1) := by decide +kernel
theorem dk_779 : decode code 779 = .ok (.aload_n 0, 1) := by decide +kernel
theorem dk_780 : decode code 780 = .ok (.iload_n 3, 1) := by decide +kernel
theorem dk_781 : decode code 781 = .ok (.iconst 1, 1) := by decide +kernel
theorem dk_782 : decode code 782 = .ok (.iadd, 1) := by decide +kernel
theorem dk_783 : decode code 783 = .ok (.iaload, 1) := by decide +kernel
theorem dk_784 : decode code 784 = .ok (.aload_n 0, 1) := by decide +kernel
theorem dk_785 : decode code 785 = .ok (.iload_n 3, 1) := by decide +kernel
theorem dk_786 : decode code 786 = .ok (.iconst 2, 1) := by decide +kernel
theorem dk_787 : decode code 787 = .ok (.iadd, 1) := by decide +kernel
theorem dk_788 : decode code 788 = .ok (.iaload, 1) := by decide +kernel
theorem dk_789 : decode code 789 = .ok (.invokevirtual 81, 3) := by decide +kernel
theorem dk_792 : decode code 792 = .ok (.pop, 1) := by decide +kernel
theorem dk_793 : decode code 793 = .ok (.goto (1630), 3) := by decide +kernel
theorem dk_796 : decode code 796 = .ok (.aload_n 1, 1) := by decide +kernel
theorem dk_797 : decode code 797 = .ok (.aload_n 0, 1) := by decide +kernel
theorem dk_798 : decode code 798 = .ok (.iload_n 3, 1) := by decide +kernel
theorem dk_799 : decode code 799 = .ok (.iconst 1, 1) := by decide +kernel
theorem dk_800 : decode code 800 = .ok (.iadd, 1) := by decide +kernel
theorem dk_801 : decode code 801 = .ok (.iaload, 1) := by decide +kernel
theorem dk_802 : decode code 802 = .ok (.invokevirtual 82, 3) := by decide +kernel
theorem dk_805 : decode code 805 = .ok (.pop, 1) := by decide +kernel
theorem dk_806 : decode code 806 = .ok (.aload_n 2, 1) := by decide +kernel
theorem dk_807 : decode code 807 = .ok (.aload_n 0, 1) := by decide +kernel
theorem dk_808 : decode code 808 = .ok (.iload_n 3, 1) := by decide +kernel
theorem dk_809 : decode code 809 = .ok (.iconst 1, 1) := by decide +kernel
theorem dk_810 : decode code 810 = .ok (.iadd, 1) := by decide +kernel
theorem dk_811 : decode code 811 = .ok (.iaload, 1) := by decide +kernel
theorem dk_812 : decode code 812 = .ok (.invokevirtual 85, 3) := by decide +kernel
theorem dk_815 : decode code 815 = .ok (.pop, 1) := by decide +kernel
theorem dk_816 : decode code 816 = .ok (.goto (1607), 3) := by decide +kernel
theorem dk_819 : decode code 819 = .ok (.aload_n 1, 1) := by decide +kernel
theorem dk_820 : decode code 820 = .ok (.aload_n 0, 1) := by decide +kernel
theorem dk_821 : decode code 821 = .ok (.iload_n 3, 1) := by decide +kernel
theorem dk_822 : decode code 822 = .ok (.iconst 1, 1) := by decide +kernel
theorem dk_823 : decode code 823 = .ok (.iadd, 1) := by decide +kernel
theorem dk_824 : decode code 824 = .ok (.iaload, 1) := by decide +kernel
theorem dk_825 : decode code 825 = .ok (.invokevirtual 86, 3) := by decide +kernel
theorem dk_828 : decode code 828 = .ok (.pop, 1) := by decide +kernel
theorem dk_829 : decode code 829 = .ok (.aload_n 2, 1) := by decide +kernel
theorem dk_830 : decode code 830 = .ok (.aload_n 0, 1) := by decide +kernel
theorem dk_831 : decode code 831 = .ok (.iload_n 3, 1) := by decide +kernel
theorem dk_832 : decode code 832 = .ok (.iconst 1, 1) := by decide +kernel
theorem dk_833 : decode code 833 = .ok (.iadd, 1) := by decide +kernel
theorem dk_834 : decode code 834 = .ok (.iaload, 1) := by decide +kernel
theorem dk_835 : decode code 835 = .ok (.invokevirtual 89, 3) := by decide +kernel
theorem dk_838 : decode code 838 = .ok (.pop, 1) := by decide +kernel
theorem dk_839 : decode code 839 = .ok (.goto (1584), 3) := by decide +kernel
theorem dk_842 : decode code 842 = .ok (.aload_n 1, 1) := by decide +kernel
theorem dk_843 : decode code 843 = .ok (.aload_n 0, 1) := by decide +kernel
theorem dk_844 : decode code 844 = .ok (.iload_n 3, 1) := by decide +kernel
theorem dk_845 : decode code 845 = .ok (.iconst 1, 1) := by decide +kernel
theorem dk_846 : decode code 846 = .ok (.iadd, 1) := by decide +kernel
theorem dk_847 : decode code 847 = .ok (.iaload, 1) := by decide +kernel
theorem dk_848 : decode code 848 = .ok (.invokevirtual 90, 3) := by decide +kernel
theorem dk_851 : decode code 851 = .ok (.pop, 1) := by decide +kernel
theorem dk_852 : decode code 852 = .ok (.aload_n 2, 1) := by decide +kernel
theorem dk_853 : decode code 853 = .ok (.aload_n 0, 1) := by decide +kernel
theorem dk_854 : decode code 854 = .ok (.iload_n 3, 1) := by decide +kernel
theorem dk_855 : decode code 855 = .ok (.iconst 1, 1) := by decide +kernel
theorem dk_856 : decode code 856 = .ok (.iadd, 1) := by decide +kernel
theorem dk_857 : decode code 857 = .ok (.iaload, 1) := by decide +kernel
theorem dk_858 : decode code 858 = .ok (.invokevirtual 93, 3) := by decide +kernel
theorem dk_861 : decode code 861 = .ok (.pop, 1) := by decide +kernel
theorem dk_862 : decode code 862 = .ok (.goto (1561), 3) := by decide +kernel
theorem dk_865 : decode code 865 = .ok (.aload_n 1, 1) := by decide +kernel
theorem dk_866 : decode code 866 = .ok (.aload_n 0, 1) := by decide +kernel
theorem dk_867 : decode code 867 = .ok (.iload_n 3, 1) := by decide +kernel
theorem dk_868 : decode code 868 = .ok (.iconst 1, 1) := by decide +kernel
theorem dk_869 : decode code 869 = .ok (.iadd, 1) := by decide +kernel
theorem dk_870 : decode code 870 = .ok (.iaload, 1) := by decide +kernel
theorem dk_871 : decode code 871 = .ok (.aload_n 0, 1) := by decide +kernel
theorem dk_872 : decode code 872 = .ok (.iload_n 3, 1) := by decide +kernel
theorem dk_873 : decode code 873 = .ok (.iconst 2, 1) := by decide +kernel
theorem dk_874 : decode code 874 = .ok (.iadd, 1) := by decide +kernel
theorem dk_875 : decode code 875 = .ok (.iaload, 1) := by decide +kernel
theorem dk_876 : decode code 876 = .ok (.invokevirtual 94, 3) := by decide +kernel
theorem dk_879 : decode code 879 = .ok (.pop, 1) := by decide +kernel
theorem dk_880 : decode code 880 = .ok (.aload_n 2, 1) := by decide +kernel
theorem dk_881 : decode code 881 = .ok (.aload_n 0, 1) := by decide +kernel
theorem dk_882 : decode code 882 = .ok (.iload_n 3, 1) := by decide +kernel
theorem dk_883 : decode code 883 = .ok (.iconst 1, 1) := by decide +kernel
theorem dk_884 : decode code 884 = .ok (.iadd, 1) := by decide +kernel
theorem dk_885 : decode code 885 = .ok (.iaload, 1) := by decide +kernel
theorem dk_886 : decode code 886 = .ok (.aload_n 0, 1) := by decide +kernel
theorem dk_887 : decode code 887 = .ok (.iload_n 3, 1) := by decide +kernel
theorem dk_888 : decode code 888 = .ok (.iconst 2, 1) := by decide +kernel
theorem dk_889 : decode code 889 = .ok (.iadd, 1) := by decide +kernel
theorem dk_890 : decode code 890 = .ok (.iaload, 1) := by decide +kernel
theorem dk_891 : decode code 891 = .ok (.invokevirtual 97, 3) := by decide +kernel
theorem dk_894 : decode code 894 = .ok (.pop, 1) := by decide +kernel
theorem dk_895 : decode code 895 = .ok (.goto (1528), 3) := by decide +kernel
theorem dk_898 : decode code 898 = .ok (.aload_n 1, 1) := by decide +kernel
theorem dk_899 : decode code 899 = .ok (.aload_n 0, 1) := by decide +kernel
theorem dk_900 : decode code 900 = .ok (.iload_n 3, 1) := by decide +kernel
theorem dk_901 : decode code 901 = .ok (.iconst 1, 1) := by decide +kernel
theorem dk_902 : decode code 902 = .ok (.iadd, 1) := by decide +kernel
theorem dk_903 : decode code 903 = .ok (.iaload, 1) := by decide +kernel
theorem dk_904 : decode code 904 = .ok (.invokevirtual 98, 3) := by decide +kernel
theorem dk_907 : decode code 907 = .ok (.pop, 1) := by decide +kernel
theorem dk_908 : decode code 908 = .ok (.aload_n 2, 1) := by decide +kernel
theorem dk_909 : decode code 909 = .ok (.aload_n 0, 1) := by decide +kernel
theorem dk_910 : decode code 910 = .ok (.iload_n 3, 1) := by decide +kernel
theorem dk_911 : decode code 911 = .ok (.iconst 1, 1) := by decide +kernel
theorem dk_912 : decode code 912 = .ok (.iadd, 1) := by decide +kernel
theorem dk_913 : decode code 913 = .ok (.iaload, 1) := by decide +kernel
theorem dk_914 : decode code 914 = .ok (.invokevirtual 101, 3) := by decide +kernel
theorem dk_917 : decode code 917 = .ok (.pop, 1) := by decide +kernel
theorem dk_918 : decode code 918 = .ok (.goto (1505), 3) := by decide +kernel
theorem dk_921 : decode code 921 = .ok (.aload_n 1, 1) := by decide +kernel
theorem dk_922 : decode code 922 = .ok (.aload_n 0, 1) := by decide +kernel
theorem dk_923 : decode code 923 = .ok (.iload_n 3, 1) := by decide +kernel
theorem dk_924 : decode code 924 = .ok (.iconst 1, 1) := by decide +kernel
theorem dk_925 : decode code 925 = .ok (.iadd, 1) := by decide +kernel
theorem dk_926 : decode code 926 = .ok (.iaload, 1) := by decide +kernel
theorem dk_927 : decode code 927 = .ok (.aload_n 0, 1) := by decide +kernel
theorem dk_928 : decode code 928 = .ok (.iload_n 3, 1) := by decide +kernel
theorem dk_929 : decode code 929 = .ok (.iconst 2, 1) := by decide +kernel
theorem dk_930 : decode code 930 = .ok (.iadd, 1) := by decide +kernel
theorem dk_931 : decode code 931 = .ok (.iaload, 1) := by decide +kernel
theorem dk_932 : decode code 932 = .ok (.aload_n 0, 1) := by decide +kernel
theorem dk_933 : decode code 933 = .ok (.iload_n 3, 1) := by decide +kernel
theorem dk_934 : decode code 934 = .ok (.iconst 3, 1) := by decide +kernel
theorem dk_935 : decode code 935 = .ok (.iadd, 1) := by decide +kernel
theorem dk_936 : decode code 936 = .ok (.iaload, 1) := by decide +kernel
theorem dk_937 : decode code 937 = .ok (.invokevirtual 102, 3) := by decide +kernel
theorem dk_940 : decode code 940 = .ok (.pop, 1) := by decide +kernel
theorem dk_941 : decode code 941 = .ok (.aload_n 2, 1) := by decide +kernel
theorem dk_942 : decode code 942 = .ok (.aload_n 0, 1) := by decide +kernel
theorem dk_943 : decode code 943 = .ok (.iload_n 3, 1) := by decide +kernel
theorem dk_944 : decode code 944 = .ok (.iconst 1, 1) := by decide +kernel
theorem dk_945 : decode code 945 = .ok (.iadd, 1) := by decide +kernel
theorem dk_946 : decode code 946 = .ok (.iaload, 1) := by decide +kernel
theorem dk_947 : decode code 947 = .ok (.aload_n 0, 1) := by decide +kernel
theorem dk_948 : decode code 948 = .ok (.iload_n 3, 1) := by decide +kernel
theorem dk_949 : decode code 949 = .ok (.iconst 2, 1) := by decide +kernel
theorem dk_950 : decode code 950 = .ok (.iadd, 1) := by decide +kernel
theorem dk_951 : decode code 951 = .ok (.iaload, 1) := by decide +kernel
theorem dk_952 : decode code 952 = .ok (.aload_n 0, 1) := by decide +kernel
theorem dk_953 : decode code 953 = .ok (.iload_n 3, 1) := by decide +kernel
theorem dk_954 : decode code 954 = .ok (.iconst 3, 1) := by decide +kernel
theorem dk_955 : decode code 955 = .ok (.iadd, 1) := by decide +kernel
theorem dk_956 : decode code 956 = .ok (.iaload, 1) := by decide +kernel
theorem dk_957 : decode code 957 = .ok (.invokevirtual 105, 3) := by decide +kernel
theorem dk_960 : decode code 960 = .ok (.pop, 1) := by decide +kernel
theorem dk_961 : decode code 961 = .ok (.goto (1462), 3) := by decide +kernel
theorem dk_964 : decode code 964 = .ok (.aload_n 1, 1) := by decide +kernel
theorem dk_965 : decode code 965 = .ok (.aload_n 0, 1) := by decide +kernel
theorem dk_966 : decode code 966 = .ok (.iload_n 3, 1) := by decide +kernel
theorem dk_967 : decode code 967 = .ok (.iconst 1, 1) := by decide +kernel
theorem dk_968 : decode code 968 = .ok (.iadd, 1) := by decide +kernel
theorem dk_969 : decode code 969 = .ok (.iaload, 1) := by decide +kernel
theorem dk_970 : decode code 970 = .ok (.aload_n 0, 1) := by decide +kernel
theorem dk_971 : decode code 971 = .ok (.iload_n 3, 1) := by decide +kernel
theorem dk_972 : decode code 972 = .ok (.iconst 2, 1) := by decide +kernel
theorem dk_973 : decode code 973 = .ok (.iadd, 1) := by decide +kernel
theorem dk_974 : decode code 974 = .ok (.iaload, 1) := by decide +kernel
theorem dk_975 : decode code 975 = .ok (.invokevirtual 106, 3) := by decide +kernel
theorem dk_978 : decode code 978 = .ok (.pop, 1) := by decide +kernel
theorem dk_979 : decode code 979 = .ok (.aload_n 2, 1) := by decide +kernel
theorem dk_980 : decode code 980 = .ok (.aload_n 0, 1) := by decide +kernel
theorem dk_981 : decode code 981 = .ok (.iload_n 3, 1) := by decide +kernel
theorem dk_982 : decode code 982 = .ok (.iconst 1, 1) := by decide +kernel
theorem dk_983 : decode code 983 = .ok (.iadd, 1) := by decide +kernel
theorem dk_984 : decode code 984 = .ok (.iaload, 1) := by decide +kernel
theorem dk_985 : decode code 985 = .ok (.aload_n 0, 1) := by decide +kernel
theorem dk_986 : decode code 986 = .ok (.iload_n 3, 1) := by decide +kernel
theorem dk_987 : decode code 987 = .ok (.iconst 2, 1) := by decide +kernel
theorem dk_988 : decode code 988 = .ok (.iadd, 1) := by decide +kernel
theorem dk_989 : decode code 989 = .ok (.iaload, 1) := by decide +kernel
theorem dk_990 : decode code 990 = .ok (.invokevirtual 109, 3) := by decide +kernel
theorem dk_993 : decode code 993 = .ok (.pop, 1) := by decide +kernel
theorem dk_994 : decode code 994 = .ok (.goto (1429), 3) := by decide +kernel
theorem dk_997 : decode code 997 = .ok (.aload_n 1, 1) := by decide +kernel
theorem dk_998 : decode code 998 = .ok (.aload_n 0, 1) := by decide +kernel
theorem dk_999 : decode code 999 = .ok (.iload_n 3, 1) := by decide +kernel
theorem dk_1000 : decode code 1000 = .ok (.iconst 1, 1) := by decide +kernel
theorem dk_1001 : decode code 1001 = .ok (.iadd, 1) := by decide +kernel
theorem dk_1002 : decode code 1002 = .ok (.iaload, 1) := by decide +kernel
theorem dk_1003 : decode code 1003 = .ok (.aload_n 0, 1) := by decide +kernel
theorem dk_1004 : decode code 1004 = .ok (.iload_n 3, 1) := by decide +kernel
theorem dk_1005 : decode code 1005 = .ok (.iconst 2, 1) := by decide +kernel
theorem dk_1006 : decode code 1006 = .ok (.iadd, 1) := by decide +kernel
theorem dk_1007 : decode code 1007 = .ok (.iaload, 1) := by decide +kernel
theorem dk_1008 : decode code 1008 = .ok (.invokevirtual 110, 3) := by decide +kernel
theorem dk_1011 : decode code 1011 = .ok (.pop, 1) := by decide +kernel
theorem dk_1012 : decode code 1012 = .ok (.aload_n 2, 1) := by decide +kernel
theorem dk_1013 : decode code 1013 = .ok (.aload_n 0, 1) := by decide +kernel
theorem dk_1014 : decode code 1014 = .ok (.iload_n 3, 1) := by decide +kernel
theorem dk_1015 : decode code 1015 = .ok (.iconst 1, 1) := by decide +kernel
theorem dk_1016 : decode code 1016 = .ok (.iadd, 1) := by decide +kernel
theorem dk_1017 : decode code 1017 = .ok (.iaload, 1) := by decide +kernel
theorem dk_1018 : decode code 1018 = .ok (.aload_n 0, 1) := by decide +kernel
theorem dk_1019 : decode code 1019 = .ok (.iload_n 3, 1) := by decide +kernel
theorem dk_1020 : decode code 1020 = .ok (.iconst 2, 1) := by decide +kernel
theorem dk_1021 : decode code 1021 = .ok (.iadd, 1) := by decide +kernel
theorem dk_1022 : decode code 1022 = .ok (.iaload, 1) := by decide +kernel
theorem dk_1023 : decode code 1023 = .ok (.invokevirtual 113, 3) := by decide +kernel
theorem dk_1026 : decode code 1026 = .ok (.pop, 1) := by decide +kernel
theorem dk_1027 : decode code 1027 = .ok (.goto (1396), 3) := by decide +kernel
theorem dk_1030 : decode code 1030 = .ok (.aload_n 1, 1) := by decide +kernel
theorem dk_1031 : decode code 1031 = .ok (.aload_n 0, 1) := by decide +kernel
theorem dk_1032 : decode code 1032 = .ok (.iload_n 3, 1) := by decide +kernel
theorem dk_1033 : decode code 1033 = .ok (.iconst 1, 1) := by decide +kernel
theorem dk_1034 : decode code 1034 = .ok (.iadd, 1) := by decide +kernel
theorem dk_1035 : decode code 1035 = .ok (.iaload, 1) := by decide +kernel
theorem dk_1036 : decode code 1036 = .ok (.aload_n 0, 1) := by decide +kernel
theorem dk_1037 : decode code 1037 = .ok (.iload_n 3, 1) := by decide +kernel
theorem dk_1038 : decode code 1038 = .ok (.iconst 2, 1) := by decide +kernel
theorem dk_1039 : decode code 1039 = .ok (.iadd, 1) := by decide +kernel
theorem dk_1040 : decode code 1040 = .ok (.iaload, 1) := by decide +kernel
theorem dk_1041 : decode code 1041 = .ok (.invokevirtual 114, 3) := by decide +kernel
theorem dk_1044 : decode code 1044 = .ok (.pop, 1) := by decide +kernel
theorem dk_1045 : decode code 1045 = .ok (.aload_n 2, 1) := by decide +kernel
theorem dk_1046 : decode code 1046 = .ok (.aload_n 0, 1) := by decide +kernel
theorem dk_1047 : decode code 1047 = .ok (.iload_n 3, 1) := by decide +kernel
theorem dk_1048 : decode code 1048 = .ok (.iconst 1, 1) := by decide +kernel
theorem dk_1049 : decode code 1049 = .ok (.iadd, 1) := by decide +kernel
theorem dk_1050 : decode code 1050 = .ok (.iaload, 1) := by decide +kernel
theorem dk_1051 : decode code 1051 = .ok (.aload_n 0, 1) := by decide +kernel
theorem dk_1052 : decode code 1052 = .ok (.iload_n 3, 1) := by decide +kernel
theorem dk_1053 : decode code 1053 = .ok (.iconst 2, 1) := by decide +kernel
theorem dk_1054 : decode code 1054 = .ok (.iadd, 1) := by decide +kernel
theorem dk_1055 : decode code 1055 = .ok (.iaload, 1) := by decide +kernel
theorem dk_1056 : decode code 1056 = .ok (.invokevirtual 117, 3) := by decide +kernel
theorem dk_1059 : decode code 1059 = .ok (.pop, 1) := by decide +kernel
theorem dk_1060 : decode code 1060 = .ok (.goto (1363), 3) := by decide +kernel
theorem dk_1063 : decode code 1063 = .ok (.aload_n 1, 1) := by decide +kernel
theorem dk_1064 : decode code 1064 = .ok (.aload_n 0, 1) := by decide +kernel
theorem dk_1065 : decode code 1065 = .ok (.iload_n 3, 1) := by decide +kernel
theorem dk_1066 : decode code 1066 = .ok (.iconst 1, 1) := by decide +kernel
theorem dk_1067 : decode code 1067 = .ok (.iadd, 1) := by decide +kernel
theorem dk_1068 : decode code 1068 = .ok (.iaload, 1) := by decide +kernel
theorem dk_1069 : decode code 1069 = .ok (.aload_n 0, 1) := by decide +kernel
theorem dk_1070 : decode code 1070 = .ok (.iload_n 3, 1) := by decide +kernel
theorem dk_1071 : decode code 1071 = .ok (.iconst 2, 1) := by decide +kernel
theorem dk_1072 : decode code 1072 = .ok (.iadd, 1) := by decide +kernel
theorem dk_1073 : decode code 1073 = .ok (.iaload, 1) := by decide +kernel
theorem dk_1074 : decode code 1074 = .ok (.invokevirtual 118, 3) := by decide +kernel
theorem dk_1077 : decode code 1077 = .ok (.pop, 1) := by decide +kernel
theorem dk_1078 : decode code 1078 = .ok (.aload_n 2, 1) := by decide +kernel
theorem dk_1079 : decode code 1079 = .ok (.aload_n 0, 1) := by decide +kernel
theorem dk_1080 : decode code 1080 = .ok (.iload_n 3, 1) := by decide +kernel
theorem dk_1081 : decode code 1081 = .ok (.iconst 1, 1) := by decide +kernel
theorem dk_1082 : decode code 1082 = .ok (.iadd, 1) := by decide +kernel
theorem dk_1083 : decode code 1083 = .ok (.iaload, 1) := by decide +kernel
theorem dk_1084 : decode code 1084 = .ok (.aload_n 0, 1) := by decide +kernel
theorem dk_1085 : decode code 1085 = .ok (.iload_n 3, 1) := by decide +kernel
theorem dk_1086 : decode code 1086 = .ok (.iconst 2, 1) := by decide +kernel
theorem dk_1087 : decode code 1087 = .ok (.iadd, 1) := by decide +kernel
theorem dk_1088 : decode code 1088 = .ok (.iaload, 1) := by decide +kernel
theorem dk_1089 : decode code 1089 = .ok (.invokevirtual 121, 3) := by decide +kernel
theorem dk_1092 : decode code 1092 = .ok (.pop, 1) := by decide +kernel
theorem dk_1093 : decode code 1093 = .ok (.goto (1330), 3) := by decide +kernel
theorem dk_1096 : decode code 1096 = .ok (.aload_n 1, 1) := by decide +kernel
theorem dk_1097 : decode code 1097 = .ok (.aload_n 0, 1) := by decide +kernel
theorem dk_1098 : decode code 1098 = .ok (.iload_n 3, 1) := by decide +kernel
theorem dk_1099 : decode code 1099 = .ok (.iconst 1, 1) := by decide +kernel
theorem dk_1100 : decode code 1100 = .ok (.iadd, 1) := by decide +kernel
theorem dk_1101 : decode code 1101 = .ok (.iaload, 1) := by decide +kernel
theorem dk_1102 : decode code 1102 = .ok (.invokevirtual 122, 3) := by decide +kernel
theorem dk_1105 : decode code 1105 = .ok (.pop, 1) := by decide +kernel
theorem dk_1106 : decode code 1106 = .ok (.aload_n 2, 1) := by decide +kernel
theorem dk_1107 : decode code 1107 = .ok (.aload_n 0, 1) := by decide +kernel
theorem dk_1108 : decode code 1108 = .ok (.iload_n 3, 1) := by decide +kernel
theorem dk_1109 : decode code 1109 = .ok (.iconst 1, 1) := by decide +kernel
theorem dk_1110 : decode code 1110 = .ok (.iadd, 1) := by decide +kernel
theorem dk_1111 : decode code 1111 = .ok (.iaload, 1) := by decide +kernel
theorem dk_1112 : decode code 1112 = .ok (.invokevirtual 125, 3) := by decide +kernel
theorem dk_1115 : decode code 1115 = .ok (.pop, 1) := by decide +kernel
theorem dk_1116 : decode code 1116 = .ok (.goto (1307), 3) := by decide +kernel
theorem dk_1119 : decode code 1119 = .ok (.aload_n 1, 1) := by decide +kernel
theorem dk_1120 : decode code 1120 = .ok (.aload_n 0, 1) := by decide +kernel
theorem dk_1121 : decode code 1121 = .ok (.iload_n 3, 1) := by decide +kernel
theorem dk_1122 : decode code 1122 = .ok (.iconst 1, 1) := by decide +kernel
theorem dk_1123 : decode code 1123 = .ok (.iadd, 1) := by decide +kernel
theorem dk_1124 : decode code 1124 = .ok (.iaload, 1) := by decide +kernel
theorem dk_1125 : decode code 1125 = .ok (.invokevirtual 126, 3) := by decide +kernel
theorem dk_1128 : decode code 1128 = .ok (.pop, 1) := by decide +kernel
theorem dk_1129 : decode code 1129 = .ok (.aload_n 2, 1) := by decide +kernel
theorem dk_1130 : decode code 1130 = .ok (.aload_n 0, 1) := by decide +kernel
theorem dk_1131 : decode code 1131 = .ok (.iload_n 3, 1) := by decide +kernel
theorem dk_1132 : decode code 1132 = .ok (.iconst 1, 1) := by decide +kernel
theorem dk_1133 : decode code 1133 = .ok (.iadd, 1) := by decide +kernel
theorem dk_1134 : decode code 1134 = .ok (.iaload, 1) := by decide +kernel
theorem dk_1135 : decode code 1135 = .ok (.invokevirtual 129, 3) := by decide +kernel
theorem dk_1138 : decode code 1138 = .ok (.pop, 1) := by decide +kernel
theorem dk_1139 : decode code 1139 = .ok (.goto (1284), 3) := by decide +kernel
theorem dk_1142 : decode code 1142 = .ok (.aload_n 1, 1) := by decide +kernel
theorem dk_1143 : decode code 1143 = .ok (.aload_n 0, 1) := by decide +kernel
theorem dk_1144 : decode code 1144 = .ok (.iload_n 3, 1) := by decide +kernel
theorem dk_1145 : decode code 1145 = .ok (.iconst 1, 1) := by decide +kernel
theorem dk_1146 : decode code 1146 = .ok (.iadd, 1) := by decide +kernel
theorem dk_1147 : decode code 1147 = .ok (.iaload, 1) := by decide +kernel
theorem dk_1148 : decode code 1148 = .ok (.invokevirtual 130, 3) := by decide +kernel
theorem dk_1151 : decode code 1151 = .ok (.pop, 1) := by decide +kernel
theorem dk_1152 : decode code 1152 = .ok (.aload_n 2, 1) := by decide +kernel
theorem dk_1153 : decode code 1153 = .ok (.aload_n 0, 1) := by decide +kernel
theorem dk_1154 : decode code 1154 = .ok (.iload_n 3, 1) := by decide +kernel
theorem dk_1155 : decode code 1155 = .ok (.iconst 1, 1) := by decide +kernel
theorem dk_1156 : decode code 1156 = .ok (.iadd, 1) := by decide +kernel
theorem dk_1157 : decode code 1157 = .ok (.iaload, 1) := by decide +kernel
theorem dk_1158 : decode code 1158 = .ok (.invokevirtual 133, 3) := by decide +kernel
theorem dk_1161 : decode code 1161 = .ok (.pop, 1) := by decide +kernel
theorem dk_1162 : decode code 1162 = .ok (.goto (1261), 3) := by decide +kernel
theorem dk_1165 : decode code 1165 = .ok (.aload_n 1, 1) := by decide +kernel
theorem dk_1166 : decode code 1166 = .ok (.aload_n 0, 1) := by decide +kernel
theorem dk_1167 : decode code 1167 = .ok (.iload_n 3, 1) := by decide +kernel
theorem dk_1168 : decode code 1168 = .ok (.iconst 1, 1) := by decide +kernel
theorem dk_1169 : decode code 1169 = .ok (.iadd, 1) := by decide +kernel
