theorem dL_law_786 : decode code 786 = .ok (.iconst 5, 1) := by decide +kernel
theorem dL_law_787 : decode code 787 = .ok (.iadd, 1) := by decide +kernel
theorem dL_law_788 : decode code 788 = .ok (.iaload, 1) := by decide +kernel
theorem dL_law_789 : decode code 789 = .ok (.invokevirtual 64, 3) := by decide +kernel
theorem dL_law_792 : decode code 792 = .ok (.pop, 1) := by decide +kernel
theorem dL_law_793 : decode code 793 = .ok (.aload_n 2, 1) := by decide +kernel
theorem dL_law_794 : decode code 794 = .ok (.aload_n 0, 1) := by decide +kernel
theorem dL_law_795 : decode code 795 = .ok (.iload_n 3, 1) := by decide +kernel
theorem dL_law_796 : decode code 796 = .ok (.iconst 1, 1) := by decide +kernel
theorem dL_law_797 : decode code 797 = .ok (.iadd, 1) := by decide +kernel
theorem dL_law_798 : decode code 798 = .ok (.iaload, 1) := by decide +kernel
theorem dL_law_799 : decode code 799 = .ok (.aload_n 0, 1) := by decide +kernel
theorem dL_law_800 : decode code 800 = .ok (.iload_n 3, 1) := by decide +kernel
theorem dL_law_801 : decode code 801 = .ok (.iconst 2, 1) := by decide +kernel
theorem dL_law_802 : decode code 802 = .ok (.iadd, 1) := by decide +kernel
theorem dL_law_803 : decode code 803 = .ok (.iaload, 1) := by decide +kernel
theorem dL_law_804 : decode code 804 = .ok (.aload_n 0, 1) := by decide +kernel
theorem dL_law_805 : decode code 805 = .ok (.iload_n 3, 1) := by decide +kernel
theorem dL_law_806 : decode code 806 = .ok (.iconst 3, 1) := by decide +kernel
theorem dL_law_807 : decode code 807 = .ok (.iadd, 1) := by decide +kernel
theorem dL_law_808 : decode code 808 = .ok (.iaload, 1) := by decide +kernel
theorem dL_law_809 : decode code 809 = .ok (.aload_n 0, 1) := by decide +kernel
theorem dL_law_810 : decode code 810 = .ok (.iload_n 3, 1) := by decide +kernel
theorem dL_law_811 : decode code 811 = .ok (.iconst 4, 1) := by decide +kernel
theorem dL_law_812 : decode code 812 = .ok (.iadd, 1) := by decide +kernel
theorem dL_law_813 : decode code 813 = .ok (.iaload, 1) := by decide +kernel
theorem dL_law_814 : decode code 814 = .ok (.aload_n 0, 1) := by decide +kernel
theorem dL_law_815 : decode code 815 = .ok (.iload_n 3, 1) := by decide +kernel
theorem dL_law_816 : decode code 816 = .ok (.iconst 5, 1) := by decide +kernel
theorem dL_law_817 : decode code 817 = .ok (.iadd, 1) := by decide +kernel
theorem dL_law_818 : decode code 818 = .ok (.iaload, 1) := by decide +kernel
theorem dL_law_819 : decode code 819 = .ok (.invokevirtual 67, 3) := by decide +kernel
theorem dL_law_822 : decode code 822 = .ok (.pop, 1) := by decide +kernel
theorem dL_law_823 : decode code 823 = .ok (.goto 1255, 3) := by decide +kernel
theorem dL_law_826 : decode code 826 = .ok (.aload_n 1, 1) := by decide +kernel
theorem dL_law_827 : decode code 827 = .ok (.aload_n 0, 1) := by decide +kernel
theorem dL_law_828 : decode code 828 = .ok (.iload_n 3, 1) := by decide +kernel
theorem dL_law_829 : decode code 829 = .ok (.iconst 1, 1) := by decide +kernel
theorem dL_law_830 : decode code 830 = .ok (.iadd, 1) := by decide +kernel
theorem dL_law_831 : decode code 831 = .ok (.iaload, 1) := by decide +kernel
theorem dL_law_832 : decode code 832 = .ok (.aload_n 0, 1) := by decide +kernel
theorem dL_law_833 : decode code 833 = .ok (.iload_n 3, 1) := by decide +kernel
theorem dL_law_834 : decode code 834 = .ok (.iconst 2, 1) := by decide +kernel
theorem dL_law_835 : decode code 835 = .ok (.iadd, 1) := by decide +kernel
theorem dL_law_836 : decode code 836 = .ok (.iaload, 1) := by decide +kernel
theorem dL_law_837 : decode code 837 = .ok (.aload_n 0, 1) := by decide +kernel
theorem dL_law_838 : decode code 838 = .ok (.iload_n 3, 1) := by decide +kernel
theorem dL_law_839 : decode code 839 = .ok (.iconst 3, 1) := by decide +kernel
theorem dL_law_840 : decode code 840 = .ok (.iadd, 1) := by decide +kernel
theorem dL_law_841 : decode code 841 = .ok (.iaload, 1) := by decide +kernel
theorem dL_law_842 : decode code 842 = .ok (.aload_n 0, 1) := by decide +kernel
theorem dL_law_843 : decode code 843 = .ok (.iload_n 3, 1) := by decide +kernel
theorem dL_law_844 : decode code 844 = .ok (.iconst 4, 1) := by decide +kernel
theorem dL_law_845 : decode code 845 = .ok (.iadd, 1) := by decide +kernel
theorem dL_law_846 : decode code 846 = .ok (.iaload, 1) := by decide +kernel
theorem dL_law_847 : decode code 847 = .ok (.aload_n 0, 1) := by decide +kernel
theorem dL_law_848 : decode code 848 = .ok (.iload_n 3, 1) := by decide +kernel
theorem dL_law_849 : decode code 849 = .ok (.iconst 5, 1) := by decide +kernel
theorem dL_law_850 : decode code 850 = .ok (.iadd, 1) := by decide +kernel
theorem dL_law_851 : decode code 851 = .ok (.iaload, 1) := by decide +kernel
theorem dL_law_852 : decode code 852 = .ok (.invokevirtual 68, 3) := by decide +kernel
theorem dL_law_855 : decode code 855 = .ok (.pop, 1) := by decide +kernel
theorem dL_law_856 : decode code 856 = .ok (.aload_n 2, 1) := by decide +kernel
theorem dL_law_857 : decode code 857 = .ok (.aload_n 0, 1) := by decide +kernel
theorem dL_law_858 : decode code 858 = .ok (.iload_n 3, 1) := by decide +kernel
theorem dL_law_859 : decode code 859 = .ok (.iconst 1, 1) := by decide +kernel
theorem dL_law_860 : decode code 860 = .ok (.iadd, 1) := by decide +kernel
theorem dL_law_861 : decode code 861 = .ok (.iaload, 1) := by decide +kernel
theorem dL_law_862 : decode code 862 = .ok (.aload_n 0, 1) := by decide +kernel
theorem dL_law_863 : decode code 863 = .ok (.iload_n 3, 1) := by decide +kernel
theorem dL_law_864 : decode code 864 = .ok (.iconst 2, 1) := by decide +kernel
theorem dL_law_865 : decode code 865 = .ok (.iadd, 1) := by decide +kernel
theorem dL_law_866 : decode code 866 = .ok (.iaload, 1) := by decide +kernel
theorem dL_law_867 : decode code 867 = .ok (.aload_n 0, 1) := by decide +kernel
theorem dL_law_868 : decode code 868 = .ok (.iload_n 3, 1) := by decide +kernel
theorem dL_law_869 : decode code 869 = .ok (.iconst 3, 1) := by decide +kernel
theorem dL_law_870 : decode code 870 = .ok (.iadd, 1) := by decide +kernel
theorem dL_law_871 : decode code 871 = .ok (.iaload, 1) := by decide +kernel
theorem dL_law_872 : decode code 872 = .ok (.aload_n 0, 1) := by decide +kernel
theorem dL_law_873 : decode code 873 = .ok (.iload_n 3, 1) := by decide +kernel
theorem dL_law_874 : decode code 874 = .ok (.iconst 4, 1) := by decide +kernel
theorem dL_law_875 : decode code 875 = .ok (.iadd, 1) := by decide +kernel
theorem dL_law_876 : decode code 876 = .ok (.iaload, 1) := by decide +kernel
theorem dL_law_877 : decode code 877 = .ok (.aload_n 0, 1) := by decide +kernel
theorem dL_law_878 : decode code 878 = .ok (.iload_n 3, 1) := by decide +kernel
theorem dL_law_879 : decode code 879 = .ok (.iconst 5, 1) := by decide +kernel
theorem dL_law_880 : decode code 880 = .ok (.iadd, 1) := by decide +kernel
theorem dL_law_881 : decode code 881 = .ok (.iaload, 1) := by decide +kernel
theorem dL_law_882 : decode code 882 = .ok (.invokevirtual 71, 3) := by decide +kernel
theorem dL_law_885 : decode code 885 = .ok (.pop, 1) := by decide +kernel
theorem dL_law_886 : decode code 886 = .ok (.goto 1192, 3) := by decide +kernel
theorem dL_law_889 : decode code 889 = .ok (.aload_n 1, 1) := by decide +kernel
theorem dL_law_890 : decode code 890 = .ok (.aload_n 0, 1) := by decide +kernel
theorem dL_law_891 : decode code 891 = .ok (.iload_n 3, 1) := by decide +kernel
theorem dL_law_892 : decode code 892 = .ok (.iconst 1, 1) := by decide +kernel
theorem dL_law_893 : decode code 893 = .ok (.iadd, 1) := by decide +kernel
theorem dL_law_894 : decode code 894 = .ok (.iaload, 1) := by decide +kernel
theorem dL_law_895 : decode code 895 = .ok (.invokevirtual 72, 3) := by decide +kernel
theorem dL_law_898 : decode code 898 = .ok (.pop, 1) := by decide +kernel
theorem dL_law_899 : decode code 899 = .ok (.aload_n 2, 1) := by decide +kernel
theorem dL_law_900 : decode code 900 = .ok (.aload_n 0, 1) := by decide +kernel
theorem dL_law_901 : decode code 901 = .ok (.iload_n 3, 1) := by decide +kernel
theorem dL_law_902 : decode code 902 = .ok (.iconst 1, 1) := by decide +kernel
theorem dL_law_903 : decode code 903 = .ok (.iadd, 1) := by decide +kernel
theorem dL_law_904 : decode code 904 = .ok (.iaload, 1) := by decide +kernel
theorem dL_law_905 : decode code 905 = .ok (.invokevirtual 76, 3) := by decide +kernel
theorem dL_law_908 : decode code 908 = .ok (.pop, 1) := by decide +kernel
theorem dL_law_909 : decode code 909 = .ok (.goto 1169, 3) := by decide +kernel
theorem dL_law_912 : decode code 912 = .ok (.aload_n 1, 1) := by decide +kernel
theorem dL_law_913 : decode code 913 = .ok (.aload_n 0, 1) := by decide +kernel
theorem dL_law_914 : decode code 914 = .ok (.iload_n 3, 1) := by decide +kernel
theorem dL_law_915 : decode code 915 = .ok (.iconst 1, 1) := by decide +kernel
theorem dL_law_916 : decode code 916 = .ok (.iadd, 1) := by decide +kernel
theorem dL_law_917 : decode code 917 = .ok (.iaload, 1) := by decide +kernel
theorem dL_law_918 : decode code 918 = .ok (.invokevirtual 77, 3) := by decide +kernel
theorem dL_law_921 : decode code 921 = .ok (.pop, 1) := by decide +kernel
theorem dL_law_922 : decode code 922 = .ok (.aload_n 2, 1) := by decide +kernel
theorem dL_law_923 : decode code 923 = .ok (.aload_n 0, 1) := by decide +kernel
theorem dL_law_924 : decode code 924 = .ok (.iload_n 3, 1) := by decide +kernel
theorem dL_law_925 : decode code 925 = .ok (.iconst 1, 1) := by decide +kernel
theorem dL_law_926 : decode code 926 = .ok (.iadd, 1) := by decide +kernel
theorem dL_law_927 : decode code 927 = .ok (.iaload, 1) := by decide +kernel
theorem dL_law_928 : decode code 928 = .ok (.invokevirtual 80, 3) := by decide +kernel
theorem dL_law_931 : decode code 931 = .ok (.pop, 1) := by decide +kernel
theorem dL_law_932 : decode code 932 = .ok (.goto 1146, 3) := by decide +kernel
theorem dL_law_935 : decode code 935 = .ok (.aload_n 1, 1) := by decide +kernel
theorem dL_law_936 : decode code 936 = .ok (.invokevirtual 81, 3) := by decide +kernel
theorem dL_law_939 : decode code 939 = .ok (.pop, 1) := by decide +kernel
theorem dL_law_940 : decode code 940 = .ok (.aload_n 2, 1) := by decide +kernel
theorem dL_law_941 : decode code 941 = .ok (.invokevirtual 84, 3) := by decide +kernel
theorem dL_law_944 : decode code 944 = .ok (.pop, 1) := by decide +kernel
theorem dL_law_945 : decode code 945 = .ok (.goto 1133, 3) := by decide +kernel
theorem dL_law_948 : decode code 948 = .ok (.aload_n 1, 1) := by decide +kernel
theorem dL_law_949 : decode code 949 = .ok (.aload_n 0, 1) := by decide +kernel
theorem dL_law_950 : decode code 950 = .ok (.iload_n 3, 1) := by decide +kernel
theorem dL_law_951 : decode code 951 = .ok (.iconst 1, 1) := by decide +kernel
theorem dL_law_952 : decode code 952 = .ok (.iadd, 1) := by decide +kernel
theorem dL_law_953 : decode code 953 = .ok (.iaload, 1) := by decide +kernel
theorem dL_law_954 : decode code 954 = .ok (.aload_n 0, 1) := by decide +kernel
theorem dL_law_955 : decode code 955 = .ok (.iload_n 3, 1) := by decide +kernel
theorem dL_law_956 : decode code 956 = .ok (.iconst 2, 1) := by decide +kernel
theorem dL_law_957 : decode code 957 = .ok (.iadd, 1) := by decide +kernel
theorem dL_law_958 : decode code 958 = .ok (.iaload, 1) := by decide +kernel
theorem dL_law_959 : decode code 959 = .ok (.aload_n 0, 1) := by decide +kernel
theorem dL_law_960 : decode code 960 = .ok (.iload_n 3, 1) := by decide +kernel
theorem dL_law_961 : decode code 961 = .ok (.iconst 3, 1) := by decide +kernel
theorem dL_law_962 : decode code 962 = .ok (.iadd, 1) := by decide +kernel
theorem dL_law_963 : decode code 963 = .ok (.iaload, 1) := by decide +kernel
theorem dL_law_964 : decode code 964 = .ok (.invokevirtual 85, 3) := by decide +kernel
theorem dL_law_967 : decode code 967 = .ok (.pop, 1) := by decide +kernel
theorem dL_law_968 : decode code 968 = .ok (.aload_n 2, 1) := by decide +kernel
theorem dL_law_969 : decode code 969 = .ok (.aload_n 0, 1) := by decide +kernel
theorem dL_law_970 : decode code 970 = .ok (.iload_n 3, 1) := by decide +kernel
theorem dL_law_971 : decode code 971 = .ok (.iconst 1, 1) := by decide +kernel
theorem dL_law_972 : decode code 972 = .ok (.iadd, 1) := by decide +kernel
theorem dL_law_973 : decode code 973 = .ok (.iaload, 1) := by decide +kernel
theorem dL_law_974 : decode code 974 = .ok (.aload_n 0, 1) := by decide +kernel
theorem dL_law_975 : decode code 975 = .ok (.iload_n 3, 1) := by decide +kernel
theorem dL_law_976 : decode code 976 = .ok (.iconst 2, 1) := by decide +kernel
theorem dL_law_977 : decode code 977 = .ok (.iadd, 1) := by decide +kernel
theorem dL_law_978 : decode code 978 = .ok (.iaload, 1) := by decide +kernel
theorem dL_law_979 : decode code 979 = .ok (.aload_n 0, 1) := by decide +kernel
theorem dL_law_980 : decode code 980 = .ok (.iload_n 3, 1) := by decide +kernel
theorem dL_law_981 : decode code 981 = .ok (.iconst 3, 1) := by decide +kernel
theorem dL_law_982 : decode code 982 = .ok (.iadd, 1) := by decide +kernel
theorem dL_law_983 : decode code 983 = .ok (.iaload, 1) := by decide +kernel
theorem dL_law_984 : decode code 984 = .ok (.invokevirtual 88, 3) := by decide +kernel
theorem dL_law_987 : decode code 987 = .ok (.pop, 1) := by decide +kernel
theorem dL_law_988 : decode code 988 = .ok (.goto 1090, 3) := by decide +kernel
theorem dL_law_991 : decode code 991 = .ok (.aload_n 1, 1) := by decide +kernel
theorem dL_law_992 : decode code 992 = .ok (.aload_n 0, 1) := by decide +kernel
theorem dL_law_993 : decode code 993 = .ok (.iload_n 3, 1) := by decide +kernel
theorem dL_law_994 : decode code 994 = .ok (.iconst 1, 1) := by decide +kernel
theorem dL_law_995 : decode code 995 = .ok (.iadd, 1) := by decide +kernel
theorem dL_law_996 : decode code 996 = .ok (.iaload, 1) := by decide +kernel
theorem dL_law_997 : decode code 997 = .ok (.aload_n 0, 1) := by decide +kernel
theorem dL_law_998 : decode code 998 = .ok (.iload_n 3, 1) := by decide +kernel
theorem dL_law_999 : decode code 999 = .ok (.iconst 2, 1) := by decide +kernel
theorem dL_law_1000 : decode code 1000 = .ok (.iadd, 1) := by decide +kernel
theorem dL_law_1001 : decode code 1001 = .ok (.iaload, 1) := by decide +kernel
theorem dL_law_1002 : decode code 1002 = .ok (.aload_n 0, 1) := by decide +kernel
theorem dL_law_1003 : decode code 1003 = .ok (.iload_n 3, 1) := by decide +kernel
theorem dL_law_1004 : decode code 1004 = .ok (.iconst 3, 1) := by decide +kernel
theorem dL_law_1005 : decode code 1005 = .ok (.iadd, 1) := by decide +kernel
theorem dL_law_1006 : decode code 1006 = .ok (.iaload, 1) := by decide +kernel
theorem dL_law_1007 : decode code 1007 = .ok (.aload_n 0, 1) := by decide +kernel
theorem dL_law_1008 : decode code 1008 = .ok (.iload_n 3, 1) := by decide +kernel
theorem dL_law_1009 : decode code 1009 = .ok (.iconst 4, 1) := by decide +kernel
theorem dL_law_1010 : decode code 1010 = .ok (.iadd, 1) := by decide +kernel
theorem dL_law_1011 : decode code 1011 = .ok (.iaload, 1) := by decide +kernel
theorem dL_law_1012 : decode code 1012 = .ok (.aload_n 0, 1) := by decide +kernel
theorem dL_law_1013 : decode code 1013 = .ok (.iload_n 3, 1) := by decide +kernel
theorem dL_law_1014 : decode code 1014 = .ok (.iconst 5, 1) := by decide +kernel
theorem dL_law_1015 : decode code 1015 = .ok (.iadd, 1) := by decide +kernel
theorem dL_law_1016 : decode code 1016 = .ok (.iaload, 1) := by decide +kernel
theorem dL_law_1017 : decode code 1017 = .ok (.invokevirtual 89, 3) := by decide +kernel
theorem dL_law_1020 : decode code 1020 = .ok (.pop, 1) := by decide +kernel
theorem dL_law_1021 : decode code 1021 = .ok (.aload_n 2, 1) := by decide +kernel
theorem dL_law_1022 : decode code 1022 = .ok (.aload_n 0, 1) := by decide +kernel
theorem dL_law_1023 : decode code 1023 = .ok (.iload_n 3, 1) := by decide +kernel
theorem dL_law_1024 : decode code 1024 = .ok (.iconst 1, 1) := by decide +kernel
theorem dL_law_1025 : decode code 1025 = .ok (.iadd, 1) := by decide +kernel
theorem dL_law_1026 : decode code 1026 = .ok (.iaload, 1) := by decide +kernel
theorem dL_law_1027 : decode code 1027 = .ok (.aload_n 0, 1) := by decide +kernel
theorem dL_law_1028 : decode code 1028 = .ok (.iload_n 3, 1) := by decide +kernel
theorem dL_law_1029 : decode code 1029 = .ok (.iconst 2, 1) := by decide +kernel
theorem dL_law_1030 : decode code 1030 = .ok (.iadd, 1) := by decide +kernel
theorem dL_law_1031 : decode code 1031 = .ok (.iaload, 1) := by decide +kernel
theorem dL_law_1032 : decode code 1032 = .ok (.aload_n 0, 1) := by decide +kernel
theorem dL_law_1033 : decode code 1033 = .ok (.iload_n 3, 1) := by decide +kernel
theorem dL_law_1034 : decode code 1034 = .ok (.iconst 3, 1) := by decide +kernel
theorem dL_law_1035 : decode code 1035 = .ok (.iadd, 1) := by decide +kernel
theorem dL_law_1036 : decode code 1036 = .ok (.iaload, 1) := by decide +kernel
theorem dL_law_1037 : decode code 1037 = .ok (.aload_n 0, 1) := by decide +kernel
theorem dL_law_1038 : decode code 1038 = .ok (.iload_n 3, 1) := by decide +kernel
theorem dL_law_1039 : decode code 1039 = .ok (.iconst 4, 1) := by decide +kernel
theorem dL_law_1040 : decode code 1040 = .ok (.iadd, 1) := by decide +kernel
theorem dL_law_1041 : decode code 1041 = .ok (.iaload, 1) := by decide +kernel
theorem dL_law_1042 : decode code 1042 = .ok (.aload_n 0, 1) := by decide +kernel
theorem dL_law_1043 : decode code 1043 = .ok (.iload_n 3, 1) := by decide +kernel
theorem dL_law_1044 : decode code 1044 = .ok (.iconst 5, 1) := by decide +kernel
theorem dL_law_1045 : decode code 1045 = .ok (.iadd, 1) := by decide +kernel
theorem dL_law_1046 : decode code 1046 = .ok (.iaload, 1) := by decide +kernel
theorem dL_law_1047 : decode code 1047 = .ok (.invokevirtual 92, 3) := by decide +kernel
theorem dL_law_1050 : decode code 1050 = .ok (.pop, 1) := by decide +kernel
theorem dL_law_1051 : decode code 1051 = .ok (.goto 1027, 3) := by decide +kernel
theorem dL_law_1054 : decode code 1054 = .ok (.aload_n 1, 1) := by decide +kernel
theorem dL_law_1055 : decode code 1055 = .ok (.aload_n 0, 1) := by decide +kernel
theorem dL_law_1056 : decode code 1056 = .ok (.iload_n 3, 1) := by decide +kernel
theorem dL_law_1057 : decode code 1057 = .ok (.iconst 1, 1) := by decide +kernel
theorem dL_law_1058 : decode code 1058 = .ok (.iadd, 1) := by decide +kernel
theorem dL_law_1059 : decode code 1059 = .ok (.iaload, 1) := by decide +kernel
theorem dL_law_1060 : decode code 1060 = .ok (.aload_n 0, 1) := by decide +kernel
theorem dL_law_1061 : decode code 1061 = .ok (.iload_n 3, 1) := by decide +kernel
theorem dL_law_1062 : decode code 1062 = .ok (.iconst 2, 1) := by decide +kernel
theorem dL_law_1063 : decode code 1063 = .ok (.iadd, 1) := by decide +kernel
theorem dL_law_1064 : decode code 1064 = .ok (.iaload, 1) := by decide +kernel
theorem dL_law_1065 : decode code 1065 = .ok (.aload_n 0, 1) := by decide +kernel
theorem dL_law_1066 : decode code 1066 = .ok (.iload_n 3, 1) := by decide +kernel
theorem dL_law_1067 : decode code 1067 = .ok (.iconst 3, 1) := by decide +kernel
theorem dL_law_1068 : decode code 1068 = .ok (.iadd, 1) := by decide +kernel
theorem dL_law_1069 : decode code 1069 = .ok (.iaload, 1) := by decide +kernel
theorem dL_law_1070 : decode code 1070 = .ok (.aload_n 0, 1) := by decide +kernel
theorem dL_law_1071 : decode code 1071 = .ok (.iload_n 3, 1) := by decide +kernel
theorem dL_law_1072 : decode code 1072 = .ok (.iconst 4, 1) := by decide +kernel
theorem dL_law_1073 : decode code 1073 = .ok (.iadd, 1) := by decide +kernel
theorem dL_law_1074 : decode code 1074 = .ok (.iaload, 1) := by decide +kernel
theorem dL_law_1075 : decode code 1075 = .ok (.aload_n 0, 1) := by decide +kernel
theorem dL_law_1076 : decode code 1076 = .ok (.iload_n 3, 1) := by decide +kernel
theorem dL_law_1077 : decode code 1077 = .ok (.iconst 5, 1) := by decide +kernel
theorem dL_law_1078 : decode code 1078 = .ok (.iadd, 1) := by decide +kernel
theorem dL_law_1079 : decode code 1079 = .ok (.iaload, 1) := by decide +kernel
theorem dL_law_1080 : decode code 1080 = .ok (.invokevirtual 93, 3) := by decide +kernel
theorem dL_law_1083 : decode code 1083 = .ok (.pop, 1) := by decide +kernel
theorem dL_law_1084 : decode code 1084 = .ok (.aload_n 2, 1) := by decide +kernel
theorem dL_law_1085 : decode code 1085 = .ok (.aload_n 0, 1) := by decide +kernel
theorem dL_law_1086 : decode code 1086 = .ok (.iload_n 3, 1) := by decide +kernel
theorem dL_law_1087 : decode code 1087 = .ok (.iconst 1, 1) := by decide +kernel
theorem dL_law_1088 : decode code 1088 = .ok (.iadd, 1) := by decide +kernel
theorem dL_law_1089 : decode code 1089 = .ok (.iaload, 1) := by decide +kernel
theorem dL_law_1090 : decode code 1090 = .ok (.aload_n 0, 1) := by decide +kernel
theorem dL_law_1091 : decode code 1091 = .ok (.iload_n 3, 1) := by decide +kernel
theorem dL_law_1092 : decode code 1092 = .ok (.iconst 2, 1) := by decide +kernel
theorem dL_law_1093 : decode code 1093 = .ok (.iadd, 1) := by decide +kernel
theorem dL_law_1094 : decode code 1094 = .ok (.iaload, 1) := by decide +kernel
theorem dL_law_1095 : decode code 1095 = .ok (.aload_n 0, 1) := by decide +kernel
theorem dL_law_1096 : decode code 1096 = .ok (.iload_n 3, 1) := by decide +kernel
theorem dL_law_1097 : decode code 1097 = .ok (.iconst 3, 1) := by decide +kernel
theorem dL_law_1098 : decode code 1098 = .ok (.iadd, 1) := by decide +kernel
theorem dL_law_1099 : decode code 1099 = .ok (.iaload, 1) := by decide +kernel
theorem dL_law_1100 : decode code 1100 = .ok (.aload_n 0, 1) := by decide +kernel
theorem dL_law_1101 : decode code 1101 = .ok (.iload_n 3, 1) := by decide +kernel
theorem dL_law_1102 : decode code 1102 = .ok (.iconst 4, 1) := by decide +kernel
theorem dL_law_1103 : decode code 1103 = .ok (.iadd, 1) := by decide +kernel
theorem dL_law_1104 : decode code 1104 = .ok (.iaload, 1) := by decide +kernel
theorem dL_law_1105 : decode code 1105 = .ok (.aload_n 0, 1) := by decide +kernel
theorem dL_law_1106 : decode code 1106 = .ok (.iload_n 3, 1) := by decide +kernel
theorem dL_law_1107 : decode code 1107 = .ok (.iconst 5, 1) := by decide +kernel
theorem dL_law_1108 : decode code 1108 = .ok (.iadd, 1) := by decide +kernel
theorem dL_law_1109 : decode code 1109 = .ok (.iaload, 1) := by decide +kernel
theorem dL_law_1110 : decode code 1110 = .ok (.invokevirtual 96, 3) := by decide +kernel
theorem dL_law_1113 : decode code 1113 = .ok (.pop, 1) := by decide +kernel
theorem dL_law_1114 : decode code 1114 = .ok (.goto 964, 3) := by decide +kernel
theorem dL_law_1117 : decode code 1117 = .ok (.aload_n 1, 1) := by decide +kernel
theorem dL_law_1118 : decode code 1118 = .ok (.aload_n 0, 1) := by decide +kernel
theorem dL_law_1119 : decode code 1119 = .ok (.iload_n 3, 1) := by decide +kernel
theorem dL_law_1120 : decode code 1120 = .ok (.iconst 1, 1) := by decide +kernel
theorem dL_law_1121 : decode code 1121 = .ok (.iadd, 1) := by decide +kernel
theorem dL_law_1122 : decode code 1122 = .ok (.iaload, 1) := by decide +kernel
theorem dL_law_1123 : decode code 1123 = .ok (.aload_n 0, 1) := by decide +kernel
theorem dL_law_1124 : decode code 1124 = .ok (.iload_n 3, 1) := by decide +kernel
theorem dL_law_1125 : decode code 1125 = .ok (.iconst 2, 1) := by decide +kernel
theorem dL_law_1126 : decode code 1126 = .ok (.iadd, 1) := by decide +kernel
theorem dL_law_1127 : decode code 1127 = .ok (.iaload, 1) := by decide +kernel
theorem dL_law_1128 : decode code 1128 = .ok (.aload_n 0, 1) := by decide +kernel
theorem dL_law_1129 : decode code 1129 = .ok (.iload_n 3, 1) := by decide +kernel
theorem dL_law_1130 : decode code 1130 = .ok (.iconst 3, 1) := by decide +kernel
theorem dL_law_1131 : decode code 1131 = .ok (.iadd, 1) := by decide +kernel
theorem dL_law_1132 : decode code 1132 = .ok (.iaload, 1) := by decide +kernel
theorem dL_law_1133 : decode code 1133 = .ok (.aload_n 0, 1) := by decide +kernel
theorem dL_law_1134 : decode code 1134 = .ok (.iload_n 3, 1) := by decide +kernel
theorem dL_law_1135 : decode code 1135 = .ok (.iconst 4, 1) := by decide +kernel
theorem dL_law_1136 : decode code 1136 = .ok (.iadd, 1) := by decide +kernel
theorem dL_law_1137 : decode code 1137 = .ok (.iaload, 1) := by decide +kernel
theorem dL_law_1138 : decode code 1138 = .ok (.invokevirtual 97, 3) := by decide +kernel
theorem dL_law_1141 : decode code 1141 = .ok (.pop, 1) := by decide +kernel
theorem dL_law_1142 : decode code 1142 = .ok (.aload_n 2, 1) := by decide +kernel
theorem dL_law_1143 : decode code 1143 = .ok (.aload_n 0, 1) := by decide +kernel
theorem dL_law_1144 : decode code 1144 = .ok (.iload_n 3, 1) := by decide +kernel
theorem dL_law_1145 : decode code 1145 = .ok (.iconst 1, 1) := by decide +kernel
theorem dL_law_1146 : decode code 1146 = .ok (.iadd, 1) := by decide +kernel
theorem dL_law_1147 : decode code 1147 = .ok (.iaload, 1) := by decide +kernel
theorem dL_law_1148 : decode code 1148 = .ok (.aload_n 0, 1) := by decide +kernel
theorem dL_law_1149 : decode code 1149 = .ok (.iload_n 3, 1) := by decide +kernel
theorem dL_law_1150 : decode code 1150 = .ok (.iconst 2, 1) := by decide +kernel
theorem dL_law_1151 : decode code 1151 = .ok (.iadd, 1) := by decide +kernel
theorem dL_law_1152 : decode code 1152 = .ok (.iaload, 1) := by decide +kernel
theorem dL_law_1153 : decode code 1153 = .ok (.aload_n 0, 1) := by decide +kernel
theorem dL_law_1154 : decode code 1154 = .ok (.iload_n 3, 1) := by decide +kernel
theorem dL_law_1155 : decode code 1155 = .ok (.iconst 3, 1) := by decide +kernel
theorem dL_law_1156 : decode code 1156 = .ok (.iadd, 1) := by decide +kernel
theorem dL_law_1157 : decode code 1157 = .ok (.iaload, 1) := by decide +kernel
theorem dL_law_1158 : decode code 1158 = .ok (.aload_n 0, 1) := by decide +kernel
theorem dL_law_1159 : decode code 1159 = .ok (.iload_n 3, 1) := by decide +kernel
theorem dL_law_1160 : decode code 1160 = .ok (.iconst 4, 1) := by decide +kernel
theorem dL_law_1161 : decode code 1161 = .ok (.iadd, 1) := by decide +kernel
theorem dL_law_1162 : decode code 1162 = .ok (.iaload, 1) := by decide +kernel
theorem dL_law_1163 : decode code 1163 = .ok (.invokevirtual 100, 3) := by decide +kernel
theorem dL_law_1166 : decode code 1166 = .ok (.pop, 1) := by decide +kernel
theorem dL_law_1167 : decode code 1167 = .ok (.goto 911, 3) := by decide +kernel
theorem dL_law_1170 : decode code 1170 = .ok (.aload_n 1, 1) := by decide +kernel
theorem dL_law_1171 : decode code 1171 = .ok (.aload_n 0, 1) := by decide +kernel
theorem dL_law_1172 : decode code 1172 = .ok (.iload_n 3, 1) := by decide +kernel
theorem dL_law_1173 : decode code 1173 = .ok (.iconst 1, 1) := by decide +kernel
theorem dL_law_1174 : decode code 1174 = .ok (.iadd, 1) := by decide +kernel
theorem dL_law_1175 : decode code 1175 = .ok (.iaload, 1) := by decide +kernel
theorem dL_law_1176 : decode code 1176 = .ok (.aload_n 0, 1) := by decide +kernel
theorem dL_law_1177 : decode code 1177 = .ok (.iload_n 3, 1) := by decide +kernel
theorem dL_law_1178 : decode code 1178 = .ok (.iconst 2, 1) := by decide +kernel
theorem dL_law_1179 : decode code 1179 = .ok (.iadd, 1) := by decide +kernel
theorem dL_law_1180 : decode code 1180 = .ok (.iaload, 1) := by decide +kernel
theorem dL_law_1181 : decode code 1181 = .ok (.aload_n 0, 1) := by decide +kernel
theorem dL_law_1182 : decode code 1182 = .ok (.iload_n 3, 1) := by decide +kernel
theorem dL_law_1183 : decode code 1183 = .ok (.iconst 3, 1) := by decide +kernel
theorem dL_law_1184 : decode code 1184 = .ok (.iadd, 1) := by decide +kernel
theorem dL_law_1185 : decode code 1185 = .ok (.iaload, 1) := by decide +kernel
theorem dL_law_1186 : decode code 1186 = .ok (.invokevirtual 101, 3) := by decide +kernel
theorem dL_law_1189 : decode code 1189 = .ok (.pop, 1) := by decide +kernel
theorem dL_law_1190 : decode code 1190 = .ok (.aload_n 2, 1) := by decide +kernel
theorem dL_law_1191 : decode code 1191 = .ok (.aload_n 0, 1) := by decide +kernel
theorem dL_law_1192 : decode code 1192 = .ok (.iload_n 3, 1) := by decide +kernel
theorem dL_law_1193 : decode code 1193 = .ok (.iconst 1, 1) := by decide +kernel
theorem dL_law_1194 : decode code 1194 = .ok (.iadd, 1) := by decide +kernel
theorem dL_law_1195 : decode code 1195 = .ok (.iaload, 1) := by decide +kernel
theorem dL_law_1196 : decode code 1196 = .ok (.aload_n 0, 1) := by decide +kernel
theorem dL_law_1197 : decode code 1197 = .ok (.iload_n 3, 1) := by decide +kernel
theorem dL_law_1198 : decode code 1198 = .ok (.iconst 2, 1) := by decide +kernel
theorem dL_law_1199 : decode code 1199 = .ok (.iadd, 1) := by decide +kernel
theorem dL_law_1200 : decode code 1200 = .ok (.iaload, 1) := by decide +kernel
theorem dL_law_1201 : decode code 1201 = .ok (.aload_n 0, 1) := by decide +kernel
theorem dL_law_1202 : decode code 1202 = .ok (.iload_n 3, 1) := by decide +kernel
theorem dL_law_1203 : decode code 1203 = .ok (.iconst 3, 1) := by decide +kernel
theorem dL_law_1204 : decode code 1204 = .ok (.iadd, 1) := by decide +kernel
theorem dL_law_1205 : decode code 1205 = .ok (.iaload, 1) := by decide +kernel
theorem dL_law_1206 : decode code 1206 = .ok (.invokevirtual 104, 3) := by decide +kernel
theorem dL_law_1209 : decode code 1209 = .ok (.pop, 1) := by decide +kernel
theorem dL_law_1210 : decode code 1210 = .ok (.goto 868, 3) := by decide +kernel
theorem dL_law_1213 : decode code 1213 = .ok (.aload_n 1, 1) := by decide +kernel
theorem dL_law_1214 : decode code 1214 = .ok (.aload_n 0, 1) := by decide +kernel
theorem dL_law_1215 : decode code 1215 = .ok (.iload_n 3, 1) := by decide +kernel
theorem dL_law_1216 : decode code 1216 = .ok (.iconst 1, 1) := by decide +kernel
theorem dL_law_1217 : decode code 1217 = .ok (.iadd, 1) := by decide +kernel
theorem dL_law_1218 : decode code 1218 = .ok (.iaload, 1) := by decide +kernel
theorem dL_law_1219 : decode code 1219 = .ok (.aload_n 0, 1) := by decide +kernel
theorem dL_law_1220 : decode code 1220 = .ok (.iload_n 3, 1) := by decide +kernel
theorem dL_law_1221 : decode code 1221 = .ok (.iconst 2, 1) := by decide +kernel
theorem dL_law_1222 : decode code 1222 = .ok (.iadd, 1) := by decide +kernel
theorem dL_law_1223 : decode code 1223 = .ok (.iaload, 1) := by decide +kernel
theorem dL_law_1224 : decode code 1224 = .ok (.aload_n 0, 1) := by decide +kernel
theorem dL_law_1225 : decode code 1225 = .ok (.iload_n 3, 1) := by decide +kernel
theorem dL_law_1226 : decode code 1226 = .ok (.iconst 3, 1) := by decide +kernel
theorem dL_law_1227 : decode code 1227 = .ok (.iadd, 1) := by decide +kernel
theorem dL_law_1228 : decode code 1228 = .ok (.iaload, 1) := by decide +kernel
theorem dL_law_1229 : decode code 1229 = .ok (.invokevirtual 105, 3) := by decide +kernel
theorem dL_law_1232 : decode code 1232 = .ok (.pop, 1) := by decide +kernel
theorem dL_law_1233 : decode code 1233 = .ok (.aload_n 2, 1) := by decide +kernel
theorem dL_law_1234 : decode code 1234 = .ok (.aload_n 0, 1) := by decide +kernel
theorem dL_law_1235 : decode code 1235 = .ok (.iload_n 3, 1) := by decide +kernel
theorem dL_law_1236 : decode code 1236 = .ok (.iconst 1, 1) := by decide +kernel
theorem dL_law_1237 : decode code 1237 = .ok (.iadd, 1) := by decide +kernel
theorem dL_law_1238 : decode code 1238 = .ok (.iaload, 1) := by decide +kernel
theorem dL_law_1239 : decode code 1239 = .ok (.aload_n 0, 1) := by decide +kernel
theorem dL_law_1240 : decode code 1240 = .ok (.iload_n 3, 1) := by decide +kernel
theorem dL_law_1241 : decode code 1241 = .ok (.iconst 2, 1) := by decide +kernel
theorem dL_law_1242 : decode code 1242 = .ok (.iadd, 1) := by decide +kernel
theorem dL_law_1243 : decode code 1243 = .ok (.iaload, 1) := by decide +kernel
theorem dL_law_1244 : decode code 1244 = .ok (.aload_n 0, 1) := by decide +kernel
theorem dL_law_1245 : decode code 1245 = .ok (.iload_n 3, 1) := by decide +kernel
theorem dL_law_1246 : decode code 1246 = .ok (.iconst 3, 1) := by decide +kernel
theorem dL_law_1247 : decode code 1247 = .ok (.iadd, 1) := by decide +kernel
theorem dL_law_1248 : decode code 1248 = .ok (.iaload, 1) := by decide +kernel
theorem dL_law_1249 : decode code 1249 = .ok (.invokevirtual 108, 3) := by decide +kernel
theorem dL_law_1252 : decode code 1252 = .ok (.pop, 1) := by decide +kernel
theorem dL_law_1253 : decode code 1253 = .ok (.goto 825, 3) := by decide +kernel
theorem dL_law_1256 : decode code 1256 = .ok (.aload_n 1, 1) := by decide +kernel
theorem dL_law_1257 : decode code 1257 = .ok (.aload_n 0, 1) := by decide +kernel
theorem dL_law_1258 : decode code 1258 = .ok (.iload_n 3, 1) := by decide +kernel
theorem dL_law_1259 : decode code 1259 = .ok (.iconst 1, 1) := by decide +kernel
theorem dL_law_1260 : decode code 1260 = .ok (.iadd, 1) := by decide +kernel
theorem dL_law_1261 : decode code 1261 = .ok (.iaload, 1) := by decide +kernel
theorem dL_law_1262 : decode code 1262 = .ok (.aload_n 0, 1) := by decide +kernel
theorem dL_law_1263 : decode code 1263 = .ok (.iload_n 3, 1) := by decide +kernel
theorem dL_law_1264 : decode code 1264 = .ok (.iconst 2, 1) := by decide +kernel
theorem dL_law_1265 : decode code 1265 = .ok (.iadd, 1) := by decide +kernel
theorem dL_law_1266 : decode code 1266 = .ok (.iaload, 1) := by decide +kernel
theorem dL_law_1267 : decode code 1267 = .ok (.aload_n 0, 1) := by decide +kernel
theorem dL_law_1268 : decode code 1268 = .ok (.iload_n 3, 1) := by decide +kernel
theorem dL_law_1269 : decode code 1269 = .ok (.iconst 3, 1) := by decide +kernel
theorem dL_law_1270 : decode code 1270 = .ok (.iadd, 1) := by decide +kernel
theorem dL_law_1271 : decode code 1271 = .ok (.iaload, 1) := by decide +kernel
theorem dL_law_1272 : decode code 1272 = .ok (.invokevirtual 109, 3) := by decide +kernel
theorem dL_law_1275 : decode code 1275 = .ok (.pop, 1) := by decide +kernel
theorem dL_law_1276 : decode code 1276 = .ok (.aload_n 2, 1) := by decide +kernel
theorem dL_law_1277 : decode code 1277 = .ok (.aload_n 0, 1) := by decide +kernel
theorem dL_law_1278 : decode code 1278 = .ok (.iload_n 3, 1) := by decide +kernel
theorem dL_law_1279 : decode code 1279 = .ok (.iconst 1, 1) := by decide +kernel
theorem dL_law_1280 : decode code 1280 = .ok (.iadd, 1) := by decide +kernel
theorem dL_law_1281 : decode code 1281 = .ok (.iaload, 1) := by decide +kernel
theorem dL_law_1282 : decode code 1282 = .ok (.aload_n 0, 1) := by decide +kernel
theorem dL_law_1283 : decode code 1283 = .ok (.iload_n 3, 1) := by decide +kernel
theorem dL_law_1284 : decode code 1284 = .ok (.iconst 2, 1) := by decide +kernel
theorem dL_law_1285 : decode code 1285 = .ok (.iadd, 1) := by decide +kernel
theorem dL_law_1286 : decode code 1286 = .ok (.iaload, 1) := by decide +kernel
theorem dL_law_1287 : decode code 1287 = .ok (.aload_n 0, 1) := by decide +kernel
theorem dL_law_1288 : decode code 1288 = .ok (.iload_n 3, 1) := by decide +kernel
theorem dL_law_1289 : decode code 1289 = .ok (.iconst 3, 1) := by decide +kernel
theorem dL_law_1290 : decode code 1290 = .ok (.iadd, 1) := by decide +kernel
theorem dL_law_1291 : decode code 1291 = .ok (.iaload, 1) := by decide +kernel
theorem dL_law_1292 : decode code 1292 = .ok (.invokevirtual 112, 3) := by decide +kernel
theorem dL_law_1295 : decode code 1295 = .ok (.pop, 1) := by decide +kernel
theorem dL_law_1296 : decode code 1296 = .ok (.goto 782, 3) := by decide +kernel
theorem dL_law_1299 : decode code 1299 = .ok (.aload_n 1, 1) := by decide +kernel
theorem dL_law_1300 : decode code 1300 = .ok (.aload_n 0, 1) := by decide +kernel
theorem dL_law_1301 : decode code 1301 = .ok (.iload_n 3, 1) := by decide +kernel
theorem dL_law_1302 : decode code 1302 = .ok (.iconst 1, 1) := by decide +kernel
theorem dL_law_1303 : decode code 1303 = .ok (.iadd, 1) := by decide +kernel
theorem dL_law_1304 : decode code 1304 = .ok (.iaload, 1) := by decide +kernel
theorem dL_law_1305 : decode code 1305 = .ok (.aload_n 0, 1) := by decide +kernel
theorem dL_law_1306 : decode code 1306 = .ok (.iload_n 3, 1) := by decide +kernel
theorem dL_law_1307 : decode code 1307 = .ok (.iconst 2, 1) := by decide +kernel
theorem dL_law_1308 : decode code 1308 = .ok (.iadd, 1) := by decide +kernel
theorem dL_law_1309 : decode code 1309 = .ok (.iaload, 1) := by decide +kernel
theorem dL_law_1310 : decode code 1310 = .ok (.aload_n 0, 1) := by decide +kernel
theorem dL_law_1311 : decode code 1311 = .ok (.iload_n 3, 1) := by decide +kernel
theorem dL_law_1312 : decode code 1312 = .ok (.iconst 3, 1) := by decide +kernel
theorem dL_law_1313 : decode code 1313 = .ok (.iadd, 1) := by decide +kernel
theorem dL_law_1314 : decode code 1314 = .ok (.iaload, 1) := by decide +kernel
theorem dL_law_1315 : decode code 1315 = .ok (.aload_n 0, 1) := by decide +kernel
theorem dL_law_1316 : decode code 1316 = .ok (.iload_n 3, 1) := by decide +kernel
theorem dL_law_1317 : decode code 1317 = .ok (.iconst 4, 1) := by decide +kernel
theorem dL_law_1318 : decode code 1318 = .ok (.iadd, 1) := by decide +kernel
theorem dL_law_1319 : decode code 1319 = .ok (.iaload, 1) := by decide +kernel
theorem dL_law_1320 : decode code 1320 = .ok (.invokevirtual 113, 3) := by decide +kernel
theorem dL_law_1323 : decode code 1323 = .ok (.pop, 1) := by decide +kernel
theorem dL_law_1324 : decode code 1324 = .ok (.aload_n 2, 1) := by decide +kernel
theorem dL_law_1325 : decode code 1325 = .ok (.aload_n 0, 1) := by decide +kernel
theorem dL_law_1326 : decode code 1326 = .ok (.iload_n 3, 1) := by decide +kernel
theorem dL_law_1327 : decode code 1327 = .ok (.iconst 1, 1) := by decide +kernel
theorem dL_law_1328 : decode code 1328 = .ok (.iadd, 1) := by decide +kernel
theorem dL_law_1329 : decode code 1329 = .ok (.iaload, 1) := by decide +kernel
theorem dL_law_1330 : decode code 1330 = .ok (.aload_n 0, 1) := by decide +kernel
theorem dL_law_1331 : decode code 1331 = .ok (.iload_n 3, 1) := by decide +kernel
theorem dL_law_1332 : decode code 1332 = .ok (.iconst 2, 1) := by decide +kernel
theorem dL_law_1333 : decode code 1333 = .ok (.iadd, 1) := by decide +kernel
theorem dL_law_1334 : decode code 1334 = .ok (.iaload, 1) := by decide +kernel
theorem dL_law_1335 : decode code 1335 = .ok (.aload_n 0, 1) := by decide +kernel
theorem dL_law_1336 : decode code 1336 = .ok (.iload_n 3, 1) := by decide +kernel
theorem dL_law_1337 : decode code 1337 = .ok (.iconst 3, 1) := by decide +kernel
theorem dL_law_1338 : decode code 1338 = .ok (.iadd, 1) := by decide +kernel
theorem dL_law_1339 : decode code 1339 = .ok (.iaload, 1) := by decide +kernel
theorem dL_law_1340 : decode code 1340 = .ok (.aload_n 0, 1) := by decide +kernel
theorem dL_law_1341 : decode code 1341 = .ok (.iload_n 3, 1) := by decide +kernel
theorem dL_law_1342 : decode code 1342 = .ok (.iconst 4, 1) := by decide +kernel
theorem dL_law_1343 : decode code 1343 = .ok (.iadd, 1) := by decide +kernel
theorem dL_law_1344 : decode code 1344 = .ok (.iaload, 1) := by decide +kernel
theorem dL_law_1345 : decode code 1345 = .ok (.invokevirtual 116, 3) := by decide +kernel
theorem dL_law_1348 : decode code 1348 = .ok (.pop, 1) := by decide +kernel
theorem dL_law_1349 : decode code 1349 = .ok (.goto 729, 3) := by decide +kernel
theorem dL_law_1352 : decode code 1352 = .ok (.aload_n 1, 1) := by decide +kernel
theorem dL_law_1353 : decode code 1353 = .ok (.aload_n 0, 1) := by decide +kernel
theorem dL_law_1354 : decode code 1354 = .ok (.iload_n 3, 1) := by decide +kernel
theorem dL_law_1355 : decode code 1355 = .ok (.iconst 1, 1) := by decide +kernel
theorem dL_law_1356 : decode code 1356 = .ok (.iadd, 1) := by decide +kernel
theorem dL_law_1357 : decode code 1357 = .ok (.iaload, 1) := by decide +kernel
theorem dL_law_1358 : decode code 1358 = .ok (.aload_n 0, 1) := by decide +kernel
theorem dL_law_1359 : decode code 1359 = .ok (.iload_n 3, 1) := by decide +kernel
theorem dL_law_1360 : decode code 1360 = .ok (.iconst 2, 1) := by decide +kernel
theorem dL_law_1361 : decode code 1361 = .ok (.iadd, 1) := by decide +kernel
theorem dL_law_1362 : decode code 1362 = .ok (.iaload, 1) := by decide +kernel
theorem dL_law_1363 : decode code 1363 = .ok (.aload_n 0, 1) := by decide +kernel
