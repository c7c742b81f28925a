theorem zB_dL_law_786 : zDecB code [(786, .iconst 5, 1), (787, .iadd, 1), (788, .iaload, 1), (789, .invokevirtual 64, 3), (792, .pop, 1), (793, .aload_n 2, 1), (794, .aload_n 0, 1), (795, .iload_n 3, 1), (796, .iconst 1, 1), (797, .iadd, 1), (798, .iaload, 1), (799, .aload_n 0, 1), (800, .iload_n 3, 1), (801, .iconst 2, 1), (802, .iadd, 1), (803, .iaload, 1), (804, .aload_n 0, 1), (805, .iload_n 3, 1), (806, .iconst 3, 1), (807, .iadd, 1), (808, .iaload, 1), (809, .aload_n 0, 1), (810, .iload_n 3, 1), (811, .iconst 4, 1), (812, .iadd, 1), (813, .iaload, 1), (814, .aload_n 0, 1), (815, .iload_n 3, 1), (816, .iconst 5, 1), (817, .iadd, 1), (818, .iaload, 1), (819, .invokevirtual 67, 3), (822, .pop, 1), (823, .goto 1255, 3), (826, .aload_n 1, 1), (827, .aload_n 0, 1), (828, .iload_n 3, 1), (829, .iconst 1, 1), (830, .iadd, 1), (831, .iaload, 1)] = true := by decide +kernel
theorem dL_law_786 : decode code 786 = .ok (.iconst 5, 1) := zDec_at zB_dL_law_786 0 rfl
theorem dL_law_787 : decode code 787 = .ok (.iadd, 1) := zDec_at zB_dL_law_786 1 rfl
theorem dL_law_788 : decode code 788 = .ok (.iaload, 1) := zDec_at zB_dL_law_786 2 rfl
theorem dL_law_789 : decode code 789 = .ok (.invokevirtual 64, 3) := zDec_at zB_dL_law_786 3 rfl
theorem dL_law_792 : decode code 792 = .ok (.pop, 1) := zDec_at zB_dL_law_786 4 rfl
theorem dL_law_793 : decode code 793 = .ok (.aload_n 2, 1) := zDec_at zB_dL_law_786 5 rfl
theorem dL_law_794 : decode code 794 = .ok (.aload_n 0, 1) := zDec_at zB_dL_law_786 6 rfl
theorem dL_law_795 : decode code 795 = .ok (.iload_n 3, 1) := zDec_at zB_dL_law_786 7 rfl
theorem dL_law_796 : decode code 796 = .ok (.iconst 1, 1) := zDec_at zB_dL_law_786 8 rfl
theorem dL_law_797 : decode code 797 = .ok (.iadd, 1) := zDec_at zB_dL_law_786 9 rfl
theorem dL_law_798 : decode code 798 = .ok (.iaload, 1) := zDec_at zB_dL_law_786 10 rfl
theorem dL_law_799 : decode code 799 = .ok (.aload_n 0, 1) := zDec_at zB_dL_law_786 11 rfl
theorem dL_law_800 : decode code 800 = .ok (.iload_n 3, 1) := zDec_at zB_dL_law_786 12 rfl
theorem dL_law_801 : decode code 801 = .ok (.iconst 2, 1) := zDec_at zB_dL_law_786 13 rfl
theorem dL_law_802 : decode code 802 = .ok (.iadd, 1) := zDec_at zB_dL_law_786 14 rfl
theorem dL_law_803 : decode code 803 = .ok (.iaload, 1) := zDec_at zB_dL_law_786 15 rfl
theorem dL_law_804 : decode code 804 = .ok (.aload_n 0, 1) := zDec_at zB_dL_law_786 16 rfl
theorem dL_law_805 : decode code 805 = .ok (.iload_n 3, 1) := zDec_at zB_dL_law_786 17 rfl
theorem dL_law_806 : decode code 806 = .ok (.iconst 3, 1) := zDec_at zB_dL_law_786 18 rfl
theorem dL_law_807 : decode code 807 = .ok (.iadd, 1) := zDec_at zB_dL_law_786 19 rfl
theorem dL_law_808 : decode code 808 = .ok (.iaload, 1) := zDec_at zB_dL_law_786 20 rfl
theorem dL_law_809 : decode code 809 = .ok (.aload_n 0, 1) := zDec_at zB_dL_law_786 21 rfl
theorem dL_law_810 : decode code 810 = .ok (.iload_n 3, 1) := zDec_at zB_dL_law_786 22 rfl
theorem dL_law_811 : decode code 811 = .ok (.iconst 4, 1) := zDec_at zB_dL_law_786 23 rfl
theorem dL_law_812 : decode code 812 = .ok (.iadd, 1) := zDec_at zB_dL_law_786 24 rfl
theorem dL_law_813 : decode code 813 = .ok (.iaload, 1) := zDec_at zB_dL_law_786 25 rfl
theorem dL_law_814 : decode code 814 = .ok (.aload_n 0, 1) := zDec_at zB_dL_law_786 26 rfl
theorem dL_law_815 : decode code 815 = .ok (.iload_n 3, 1) := zDec_at zB_dL_law_786 27 rfl
theorem dL_law_816 : decode code 816 = .ok (.iconst 5, 1) := zDec_at zB_dL_law_786 28 rfl
theorem dL_law_817 : decode code 817 = .ok (.iadd, 1) := zDec_at zB_dL_law_786 29 rfl
theorem dL_law_818 : decode code 818 = .ok (.iaload, 1) := zDec_at zB_dL_law_786 30 rfl
theorem dL_law_819 : decode code 819 = .ok (.invokevirtual 67, 3) := zDec_at zB_dL_law_786 31 rfl
theorem dL_law_822 : decode code 822 = .ok (.pop, 1) := zDec_at zB_dL_law_786 32 rfl
theorem dL_law_823 : decode code 823 = .ok (.goto 1255, 3) := zDec_at zB_dL_law_786 33 rfl
theorem dL_law_826 : decode code 826 = .ok (.aload_n 1, 1) := zDec_at zB_dL_law_786 34 rfl
theorem dL_law_827 : decode code 827 = .ok (.aload_n 0, 1) := zDec_at zB_dL_law_786 35 rfl
theorem dL_law_828 : decode code 828 = .ok (.iload_n 3, 1) := zDec_at zB_dL_law_786 36 rfl
theorem dL_law_829 : decode code 829 = .ok (.iconst 1, 1) := zDec_at zB_dL_law_786 37 rfl
theorem dL_law_830 : decode code 830 = .ok (.iadd, 1) := zDec_at zB_dL_law_786 38 rfl
theorem dL_law_831 : decode code 831 = .ok (.iaload, 1) := zDec_at zB_dL_law_786 39 rfl
theorem zB_dL_law_832 : zDecB code [(832, .aload_n 0, 1), (833, .iload_n 3, 1), (834, .iconst 2, 1), (835, .iadd, 1), (836, .iaload, 1), (837, .aload_n 0, 1), (838, .iload_n 3, 1), (839, .iconst 3, 1), (840, .iadd, 1), (841, .iaload, 1), (842, .aload_n 0, 1), (843, .iload_n 3, 1), (844, .iconst 4, 1), (845, .iadd, 1), (846, .iaload, 1), (847, .aload_n 0, 1), (848, .iload_n 3, 1), (849, .iconst 5, 1), (850, .iadd, 1), (851, .iaload, 1), (852, .invokevirtual 68, 3), (855, .pop, 1), (856, .aload_n 2, 1), (857, .aload_n 0, 1), (858, .iload_n 3, 1), (859, .iconst 1, 1), (860, .iadd, 1), (861, .iaload, 1), (862, .aload_n 0, 1), (863, .iload_n 3, 1), (864, .iconst 2, 1), (865, .iadd, 1), (866, .iaload, 1), (867, .aload_n 0, 1), (868, .iload_n 3, 1), (869, .iconst 3, 1), (870, .iadd, 1), (871, .iaload, 1), (872, .aload_n 0, 1), (873, .iload_n 3, 1)] = true := by decide +kernel
theorem dL_law_832 : decode code 832 = .ok (.aload_n 0, 1) := zDec_at zB_dL_law_832 0 rfl
theorem dL_law_833 : decode code 833 = .ok (.iload_n 3, 1) := zDec_at zB_dL_law_832 1 rfl
theorem dL_law_834 : decode code 834 = .ok (.iconst 2, 1) := zDec_at zB_dL_law_832 2 rfl
theorem dL_law_835 : decode code 835 = .ok (.iadd, 1) := zDec_at zB_dL_law_832 3 rfl
theorem dL_law_836 : decode code 836 = .ok (.iaload, 1) := zDec_at zB_dL_law_832 4 rfl
theorem dL_law_837 : decode code 837 = .ok (.aload_n 0, 1) := zDec_at zB_dL_law_832 5 rfl
theorem dL_law_838 : decode code 838 = .ok (.iload_n 3, 1) := zDec_at zB_dL_law_832 6 rfl
theorem dL_law_839 : decode code 839 = .ok (.iconst 3, 1) := zDec_at zB_dL_law_832 7 rfl
theorem dL_law_840 : decode code 840 = .ok (.iadd, 1) := zDec_at zB_dL_law_832 8 rfl
theorem dL_law_841 : decode code 841 = .ok (.iaload, 1) := zDec_at zB_dL_law_832 9 rfl
theorem dL_law_842 : decode code 842 = .ok (.aload_n 0, 1) := zDec_at zB_dL_law_832 10 rfl
theorem dL_law_843 : decode code 843 = .ok (.iload_n 3, 1) := zDec_at zB_dL_law_832 11 rfl
theorem dL_law_844 : decode code 844 = .ok (.iconst 4, 1) := zDec_at zB_dL_law_832 12 rfl
theorem dL_law_845 : decode code 845 = .ok (.iadd, 1) := zDec_at zB_dL_law_832 13 rfl
theorem dL_law_846 : decode code 846 = .ok (.iaload, 1) := zDec_at zB_dL_law_832 14 rfl
theorem dL_law_847 : decode code 847 = .ok (.aload_n 0, 1) := zDec_at zB_dL_law_832 15 rfl
theorem dL_law_848 : decode code 848 = .ok (.iload_n 3, 1) := zDec_at zB_dL_law_832 16 rfl
theorem dL_law_849 : decode code 849 = .ok (.iconst 5, 1) := zDec_at zB_dL_law_832 17 rfl
theorem dL_law_850 : decode code 850 = .ok (.iadd, 1) := zDec_at zB_dL_law_832 18 rfl
theorem dL_law_851 : decode code 851 = .ok (.iaload, 1) := zDec_at zB_dL_law_832 19 rfl
theorem dL_law_852 : decode code 852 = .ok (.invokevirtual 68, 3) := zDec_at zB_dL_law_832 20 rfl
theorem dL_law_855 : decode code 855 = .ok (.pop, 1) := zDec_at zB_dL_law_832 21 rfl
theorem dL_law_856 : decode code 856 = .ok (.aload_n 2, 1) := zDec_at zB_dL_law_832 22 rfl
theorem dL_law_857 : decode code 857 = .ok (.aload_n 0, 1) := zDec_at zB_dL_law_832 23 rfl
theorem dL_law_858 : decode code 858 = .ok (.iload_n 3, 1) := zDec_at zB_dL_law_832 24 rfl
theorem dL_law_859 : decode code 859 = .ok (.iconst 1, 1) := zDec_at zB_dL_law_832 25 rfl
theorem dL_law_860 : decode code 860 = .ok (.iadd, 1) := zDec_at zB_dL_law_832 26 rfl
theorem dL_law_861 : decode code 861 = .ok (.iaload, 1) := zDec_at zB_dL_law_832 27 rfl
theorem dL_law_862 : decode code 862 = .ok (.aload_n 0, 1) := zDec_at zB_dL_law_832 28 rfl
theorem dL_law_863 : decode code 863 = .ok (.iload_n 3, 1) := zDec_at zB_dL_law_832 29 rfl
theorem dL_law_864 : decode code 864 = .ok (.iconst 2, 1) := zDec_at zB_dL_law_832 30 rfl
theorem dL_law_865 : decode code 865 = .ok (.iadd, 1) := zDec_at zB_dL_law_832 31 rfl
theorem dL_law_866 : decode code 866 = .ok (.iaload, 1) := zDec_at zB_dL_law_832 32 rfl
theorem dL_law_867 : decode code 867 = .ok (.aload_n 0, 1) := zDec_at zB_dL_law_832 33 rfl
theorem dL_law_868 : decode code 868 = .ok (.iload_n 3, 1) := zDec_at zB_dL_law_832 34 rfl
theorem dL_law_869 : decode code 869 = .ok (.iconst 3, 1) := zDec_at zB_dL_law_832 35 rfl
theorem dL_law_870 : decode code 870 = .ok (.iadd, 1) := zDec_at zB_dL_law_832 36 rfl
theorem dL_law_871 : decode code 871 = .ok (.iaload, 1) := zDec_at zB_dL_law_832 37 rfl
theorem dL_law_872 : decode code 872 = .ok (.aload_n 0, 1) := zDec_at zB_dL_law_832 38 rfl
theorem dL_law_873 : decode code 873 = .ok (.iload_n 3, 1) := zDec_at zB_dL_law_832 39 rfl
theorem zB_dL_law_874 : zDecB code [(874, .iconst 4, 1), (875, .iadd, 1), (876, .iaload, 1), (877, .aload_n 0, 1), (878, .iload_n 3, 1), (879, .iconst 5, 1), (880, .iadd, 1), (881, .iaload, 1), (882, .invokevirtual 71, 3), (885, .pop, 1), (886, .goto 1192, 3), (889, .aload_n 1, 1), (890, .aload_n 0, 1), (891, .iload_n 3, 1), (892, .iconst 1, 1), (893, .iadd, 1), (894, .iaload, 1), (895, .invokevirtual 72, 3), (898, .pop, 1), (899, .aload_n 2, 1), (900, .aload_n 0, 1), (901, .iload_n 3, 1), (902, .iconst 1, 1), (903, .iadd, 1), (904, .iaload, 1), (905, .invokevirtual 76, 3), (908, .pop, 1), (909, .goto 1169, 3), (912, .aload_n 1, 1), (913, .aload_n 0, 1), (914, .iload_n 3, 1), (915, .iconst 1, 1), (916, .iadd, 1), (917, .iaload, 1), (918, .invokevirtual 77, 3), (921, .pop, 1), (922, .aload_n 2, 1), (923, .aload_n 0, 1), (924, .iload_n 3, 1), (925, .iconst 1, 1)] = true := by decide +kernel
theorem dL_law_874 : decode code 874 = .ok (.iconst 4, 1) := zDec_at zB_dL_law_874 0 rfl
theorem dL_law_875 : decode code 875 = .ok (.iadd, 1) := zDec_at zB_dL_law_874 1 rfl
theorem dL_law_876 : decode code 876 = .ok (.iaload, 1) := zDec_at zB_dL_law_874 2 rfl
theorem dL_law_877 : decode code 877 = .ok (.aload_n 0, 1) := zDec_at zB_dL_law_874 3 rfl
theorem dL_law_878 : decode code 878 = .ok (.iload_n 3, 1) := zDec_at zB_dL_law_874 4 rfl
theorem dL_law_879 : decode code 879 = .ok (.iconst 5, 1) := zDec_at zB_dL_law_874 5 rfl
theorem dL_law_880 : decode code 880 = .ok (.iadd, 1) := zDec_at zB_dL_law_874 6 rfl
theorem dL_law_881 : decode code 881 = .ok (.iaload, 1) := zDec_at zB_dL_law_874 7 rfl
theorem dL_law_882 : decode code 882 = .ok (.invokevirtual 71, 3) := zDec_at zB_dL_law_874 8 rfl
theorem dL_law_885 : decode code 885 = .ok (.pop, 1) := zDec_at zB_dL_law_874 9 rfl
theorem dL_law_886 : decode code 886 = .ok (.goto 1192, 3) := zDec_at zB_dL_law_874 10 rfl
theorem dL_law_889 : decode code 889 = .ok (.aload_n 1, 1) := zDec_at zB_dL_law_874 11 rfl
theorem dL_law_890 : decode code 890 = .ok (.aload_n 0, 1) := zDec_at zB_dL_law_874 12 rfl
theorem dL_law_891 : decode code 891 = .ok (.iload_n 3, 1) := zDec_at zB_dL_law_874 13 rfl
theorem dL_law_892 : decode code 892 = .ok (.iconst 1, 1) := zDec_at zB_dL_law_874 14 rfl
theorem dL_law_893 : decode code 893 = .ok (.iadd, 1) := zDec_at zB_dL_law_874 15 rfl
theorem dL_law_894 : decode code 894 = .ok (.iaload, 1) := zDec_at zB_dL_law_874 16 rfl
theorem dL_law_895 : decode code 895 = .ok (.invokevirtual 72, 3) := zDec_at zB_dL_law_874 17 rfl
theorem dL_law_898 : decode code 898 = .ok (.pop, 1) := zDec_at zB_dL_law_874 18 rfl
theorem dL_law_899 : decode code 899 = .ok (.aload_n 2, 1) := zDec_at zB_dL_law_874 19 rfl
theorem dL_law_900 : decode code 900 = .ok (.aload_n 0, 1) := zDec_at zB_dL_law_874 20 rfl
theorem dL_law_901 : decode code 901 = .ok (.iload_n 3, 1) := zDec_at zB_dL_law_874 21 rfl
theorem dL_law_902 : decode code 902 = .ok (.iconst 1, 1) := zDec_at zB_dL_law_874 22 rfl
theorem dL_law_903 : decode code 903 = .ok (.iadd, 1) := zDec_at zB_dL_law_874 23 rfl
theorem dL_law_904 : decode code 904 = .ok (.iaload, 1) := zDec_at zB_dL_law_874 24 rfl
theorem dL_law_905 : decode code 905 = .ok (.invokevirtual 76, 3) := zDec_at zB_dL_law_874 25 rfl
theorem dL_law_908 : decode code 908 = .ok (.pop, 1) := zDec_at zB_dL_law_874 26 rfl
theorem dL_law_909 : decode code 909 = .ok (.goto 1169, 3) := zDec_at zB_dL_law_874 27 rfl
theorem dL_law_912 : decode code 912 = .ok (.aload_n 1, 1) := zDec_at zB_dL_law_874 28 rfl
theorem dL_law_913 : decode code 913 = .ok (.aload_n 0, 1) := zDec_at zB_dL_law_874 29 rfl
theorem dL_law_914 : decode code 914 = .ok (.iload_n 3, 1) := zDec_at zB_dL_law_874 30 rfl
theorem dL_law_915 : decode code 915 = .ok (.iconst 1, 1) := zDec_at zB_dL_law_874 31 rfl
theorem dL_law_916 : decode code 916 = .ok (.iadd, 1) := zDec_at zB_dL_law_874 32 rfl
theorem dL_law_917 : decode code 917 = .ok (.iaload, 1) := zDec_at zB_dL_law_874 33 rfl
theorem dL_law_918 : decode code 918 = .ok (.invokevirtual 77, 3) := zDec_at zB_dL_law_874 34 rfl
theorem dL_law_921 : decode code 921 = .ok (.pop, 1) := zDec_at zB_dL_law_874 35 rfl
theorem dL_law_922 : decode code 922 = .ok (.aload_n 2, 1) := zDec_at zB_dL_law_874 36 rfl
theorem dL_law_923 : decode code 923 = .ok (.aload_n 0, 1) := zDec_at zB_dL_law_874 37 rfl
theorem dL_law_924 : decode code 924 = .ok (.iload_n 3, 1) := zDec_at zB_dL_law_874 38 rfl
theorem dL_law_925 : decode code 925 = .ok (.iconst 1, 1) := zDec_at zB_dL_law_874 39 rfl
theorem zB_dL_law_926 : zDecB code [(926, .iadd, 1), (927, .iaload, 1), (928, .invokevirtual 80, 3), (931, .pop, 1), (932, .goto 1146, 3), (935, .aload_n 1, 1), (936, .invokevirtual 81, 3), (939, .pop, 1), (940, .aload_n 2, 1), (941, .invokevirtual 84, 3), (944, .pop, 1), (945, .goto 1133, 3), (948, .aload_n 1, 1), (949, .aload_n 0, 1), (950, .iload_n 3, 1), (951, .iconst 1, 1), (952, .iadd, 1), (953, .iaload, 1), (954, .aload_n 0, 1), (955, .iload_n 3, 1), (956, .iconst 2, 1), (957, .iadd, 1), (958, .iaload, 1), (959, .aload_n 0, 1), (960, .iload_n 3, 1), (961, .iconst 3, 1), (962, .iadd, 1), (963, .iaload, 1), (964, .invokevirtual 85, 3), (967, .pop, 1), (968, .aload_n 2, 1), (969, .aload_n 0, 1), (970, .iload_n 3, 1), (971, .iconst 1, 1), (972, .iadd, 1), (973, .iaload, 1), (974, .aload_n 0, 1), (975, .iload_n 3, 1), (976, .iconst 2, 1), (977, .iadd, 1)] = true := by decide +kernel
theorem dL_law_926 : decode code 926 = .ok (.iadd, 1) := zDec_at zB_dL_law_926 0 rfl
theorem dL_law_927 : decode code 927 = .ok (.iaload, 1) := zDec_at zB_dL_law_926 1 rfl
theorem dL_law_928 : decode code 928 = .ok (.invokevirtual 80, 3) := zDec_at zB_dL_law_926 2 rfl
theorem dL_law_931 : decode code 931 = .ok (.pop, 1) := zDec_at zB_dL_law_926 3 rfl
theorem dL_law_932 : decode code 932 = .ok (.goto 1146, 3) := zDec_at zB_dL_law_926 4 rfl
theorem dL_law_935 : decode code 935 = .ok (.aload_n 1, 1) := zDec_at zB_dL_law_926 5 rfl
theorem dL_law_936 : decode code 936 = .ok (.invokevirtual 81, 3) := zDec_at zB_dL_law_926 6 rfl
theorem dL_law_939 : decode code 939 = .ok (.pop, 1) := zDec_at zB_dL_law_926 7 rfl
theorem dL_law_940 : decode code 940 = .ok (.aload_n 2, 1) := zDec_at zB_dL_law_926 8 rfl
theorem dL_law_941 : decode code 941 = .ok (.invokevirtual 84, 3) := zDec_at zB_dL_law_926 9 rfl
theorem dL_law_944 : decode code 944 = .ok (.pop, 1) := zDec_at zB_dL_law_926 10 rfl
theorem dL_law_945 : decode code 945 = .ok (.goto 1133, 3) := zDec_at zB_dL_law_926 11 rfl
theorem dL_law_948 : decode code 948 = .ok (.aload_n 1, 1) := zDec_at zB_dL_law_926 12 rfl
theorem dL_law_949 : decode code 949 = .ok (.aload_n 0, 1) := zDec_at zB_dL_law_926 13 rfl
theorem dL_law_950 : decode code 950 = .ok (.iload_n 3, 1) := zDec_at zB_dL_law_926 14 rfl
theorem dL_law_951 : decode code 951 = .ok (.iconst 1, 1) := zDec_at zB_dL_law_926 15 rfl
theorem dL_law_952 : decode code 952 = .ok (.iadd, 1) := zDec_at zB_dL_law_926 16 rfl
theorem dL_law_953 : decode code 953 = .ok (.iaload, 1) := zDec_at zB_dL_law_926 17 rfl
theorem dL_law_954 : decode code 954 = .ok (.aload_n 0, 1) := zDec_at zB_dL_law_926 18 rfl
theorem dL_law_955 : decode code 955 = .ok (.iload_n 3, 1) := zDec_at zB_dL_law_926 19 rfl
theorem dL_law_956 : decode code 956 = .ok (.iconst 2, 1) := zDec_at zB_dL_law_926 20 rfl
theorem dL_law_957 : decode code 957 = .ok (.iadd, 1) := zDec_at zB_dL_law_926 21 rfl
theorem dL_law_958 : decode code 958 = .ok (.iaload, 1) := zDec_at zB_dL_law_926 22 rfl
theorem dL_law_959 : decode code 959 = .ok (.aload_n 0, 1) := zDec_at zB_dL_law_926 23 rfl
theorem dL_law_960 : decode code 960 = .ok (.iload_n 3, 1) := zDec_at zB_dL_law_926 24 rfl
theorem dL_law_961 : decode code 961 = .ok (.iconst 3, 1) := zDec_at zB_dL_law_926 25 rfl
theorem dL_law_962 : decode code 962 = .ok (.iadd, 1) := zDec_at zB_dL_law_926 26 rfl
theorem dL_law_963 : decode code 963 = .ok (.iaload, 1) := zDec_at zB_dL_law_926 27 rfl
theorem dL_law_964 : decode code 964 = .ok (.invokevirtual 85, 3) := zDec_at zB_dL_law_926 28 rfl
theorem dL_law_967 : decode code 967 = .ok (.pop, 1) := zDec_at zB_dL_law_926 29 rfl
theorem dL_law_968 : decode code 968 = .ok (.aload_n 2, 1) := zDec_at zB_dL_law_926 30 rfl
theorem dL_law_969 : decode code 969 = .ok (.aload_n 0, 1) := zDec_at zB_dL_law_926 31 rfl
theorem dL_law_970 : decode code 970 = .ok (.iload_n 3, 1) := zDec_at zB_dL_law_926 32 rfl
theorem dL_law_971 : decode code 971 = .ok (.iconst 1, 1) := zDec_at zB_dL_law_926 33 rfl
theorem dL_law_972 : decode code 972 = .ok (.iadd, 1) := zDec_at zB_dL_law_926 34 rfl
theorem dL_law_973 : decode code 973 = .ok (.iaload, 1) := zDec_at zB_dL_law_926 35 rfl
theorem dL_law_974 : decode code 974 = .ok (.aload_n 0, 1) := zDec_at zB_dL_law_926 36 rfl
theorem dL_law_975 : decode code 975 = .ok (.iload_n 3, 1) := zDec_at zB_dL_law_926 37 rfl
theorem dL_law_976 : decode code 976 = .ok (.iconst 2, 1) := zDec_at zB_dL_law_926 38 rfl
theorem dL_law_977 : decode code 977 = .ok (.iadd, 1) := zDec_at zB_dL_law_926 39 rfl
theorem zB_dL_law_978 : zDecB code [(978, .iaload, 1), (979, .aload_n 0, 1), (980, .iload_n 3, 1), (981, .iconst 3, 1), (982, .iadd, 1), (983, .iaload, 1), (984, .invokevirtual 88, 3), (987, .pop, 1), (988, .goto 1090, 3), (991, .aload_n 1, 1), (992, .aload_n 0, 1), (993, .iload_n 3, 1), (994, .iconst 1, 1), (995, .iadd, 1), (996, .iaload, 1), (997, .aload_n 0, 1), (998, .iload_n 3, 1), (999, .iconst 2, 1), (1000, .iadd, 1), (1001, .iaload, 1), (1002, .aload_n 0, 1), (1003, .iload_n 3, 1), (1004, .iconst 3, 1), (1005, .iadd, 1), (1006, .iaload, 1), (1007, .aload_n 0, 1), (1008, .iload_n 3, 1), (1009, .iconst 4, 1), (1010, .iadd, 1), (1011, .iaload, 1), (1012, .aload_n 0, 1), (1013, .iload_n 3, 1), (1014, .iconst 5, 1), (1015, .iadd, 1), (1016, .iaload, 1), (1017, .invokevirtual 89, 3), (1020, .pop, 1), (1021, .aload_n 2, 1), (1022, .aload_n 0, 1), (1023, .iload_n 3, 1)] = true := by decide +kernel
theorem dL_law_978 : decode code 978 = .ok (.iaload, 1) := zDec_at zB_dL_law_978 0 rfl
theorem dL_law_979 : decode code 979 = .ok (.aload_n 0, 1) := zDec_at zB_dL_law_978 1 rfl
theorem dL_law_980 : decode code 980 = .ok (.iload_n 3, 1) := zDec_at zB_dL_law_978 2 rfl
theorem dL_law_981 : decode code 981 = .ok (.iconst 3, 1) := zDec_at zB_dL_law_978 3 rfl
theorem dL_law_982 : decode code 982 = .ok (.iadd, 1) := zDec_at zB_dL_law_978 4 rfl
theorem dL_law_983 : decode code 983 = .ok (.iaload, 1) := zDec_at zB_dL_law_978 5 rfl
theorem dL_law_984 : decode code 984 = .ok (.invokevirtual 88, 3) := zDec_at zB_dL_law_978 6 rfl
theorem dL_law_987 : decode code 987 = .ok (.pop, 1) := zDec_at zB_dL_law_978 7 rfl
theorem dL_law_988 : decode code 988 = .ok (.goto 1090, 3) := zDec_at zB_dL_law_978 8 rfl
theorem dL_law_991 : decode code 991 = .ok (.aload_n 1, 1) := zDec_at zB_dL_law_978 9 rfl
theorem dL_law_992 : decode code 992 = .ok (.aload_n 0, 1) := zDec_at zB_dL_law_978 10 rfl
theorem dL_law_993 : decode code 993 = .ok (.iload_n 3, 1) := zDec_at zB_dL_law_978 11 rfl
theorem dL_law_994 : decode code 994 = .ok (.iconst 1, 1) := zDec_at zB_dL_law_978 12 rfl
theorem dL_law_995 : decode code 995 = .ok (.iadd, 1) := zDec_at zB_dL_law_978 13 rfl
theorem dL_law_996 : decode code 996 = .ok (.iaload, 1) := zDec_at zB_dL_law_978 14 rfl
theorem dL_law_997 : decode code 997 = .ok (.aload_n 0, 1) := zDec_at zB_dL_law_978 15 rfl
theorem dL_law_998 : decode code 998 = .ok (.iload_n 3, 1) := zDec_at zB_dL_law_978 16 rfl
theorem dL_law_999 : decode code 999 = .ok (.iconst 2, 1) := zDec_at zB_dL_law_978 17 rfl
theorem dL_law_1000 : decode code 1000 = .ok (.iadd, 1) := zDec_at zB_dL_law_978 18 rfl
theorem dL_law_1001 : decode code 1001 = .ok (.iaload, 1) := zDec_at zB_dL_law_978 19 rfl
theorem dL_law_1002 : decode code 1002 = .ok (.aload_n 0, 1) := zDec_at zB_dL_law_978 20 rfl
theorem dL_law_1003 : decode code 1003 = .ok (.iload_n 3, 1) := zDec_at zB_dL_law_978 21 rfl
theorem dL_law_1004 : decode code 1004 = .ok (.iconst 3, 1) := zDec_at zB_dL_law_978 22 rfl
theorem dL_law_1005 : decode code 1005 = .ok (.iadd, 1) := zDec_at zB_dL_law_978 23 rfl
theorem dL_law_1006 : decode code 1006 = .ok (.iaload, 1) := zDec_at zB_dL_law_978 24 rfl
theorem dL_law_1007 : decode code 1007 = .ok (.aload_n 0, 1) := zDec_at zB_dL_law_978 25 rfl
theorem dL_law_1008 : decode code 1008 = .ok (.iload_n 3, 1) := zDec_at zB_dL_law_978 26 rfl
theorem dL_law_1009 : decode code 1009 = .ok (.iconst 4, 1) := zDec_at zB_dL_law_978 27 rfl
theorem dL_law_1010 : decode code 1010 = .ok (.iadd, 1) := zDec_at zB_dL_law_978 28 rfl
theorem dL_law_1011 : decode code 1011 = .ok (.iaload, 1) := zDec_at zB_dL_law_978 29 rfl
theorem dL_law_1012 : decode code 1012 = .ok (.aload_n 0, 1) := zDec_at zB_dL_law_978 30 rfl
theorem dL_law_1013 : decode code 1013 = .ok (.iload_n 3, 1) := zDec_at zB_dL_law_978 31 rfl
theorem dL_law_1014 : decode code 1014 = .ok (.iconst 5, 1) := zDec_at zB_dL_law_978 32 rfl
theorem dL_law_1015 : decode code 1015 = .ok (.iadd, 1) := zDec_at zB_dL_law_978 33 rfl
theorem dL_law_1016 : decode code 1016 = .ok (.iaload, 1) := zDec_at zB_dL_law_978 34 rfl
theorem dL_law_1017 : decode code 1017 = .ok (.invokevirtual 89, 3) := zDec_at zB_dL_law_978 35 rfl
theorem dL_law_1020 : decode code 1020 = .ok (.pop, 1) := zDec_at zB_dL_law_978 36 rfl
theorem dL_law_1021 : decode code 1021 = .ok (.aload_n 2, 1) := zDec_at zB_dL_law_978 37 rfl
theorem dL_law_1022 : decode code 1022 = .ok (.aload_n 0, 1) := zDec_at zB_dL_law_978 38 rfl
theorem dL_law_1023 : decode code 1023 = .ok (.iload_n 3, 1) := zDec_at zB_dL_law_978 39 rfl
theorem zB_dL_law_1024 : zDecB code [(1024, .iconst 1, 1), (1025, .iadd, 1), (1026, .iaload, 1), (1027, .aload_n 0, 1), (1028, .iload_n 3, 1), (1029, .iconst 2, 1), (1030, .iadd, 1), (1031, .iaload, 1), (1032, .aload_n 0, 1), (1033, .iload_n 3, 1), (1034, .iconst 3, 1), (1035, .iadd, 1), (1036, .iaload, 1), (1037, .aload_n 0, 1), (1038, .iload_n 3, 1), (1039, .iconst 4, 1), (1040, .iadd, 1), (1041, .iaload, 1), (1042, .aload_n 0, 1), (1043, .iload_n 3, 1), (1044, .iconst 5, 1), (1045, .iadd, 1), (1046, .iaload, 1), (1047, .invokevirtual 92, 3), (1050, .pop, 1), (1051, .goto 1027, 3), (1054, .aload_n 1, 1), (1055, .aload_n 0, 1), (1056, .iload_n 3, 1), (1057, .iconst 1, 1), (1058, .iadd, 1), (1059, .iaload, 1), (1060, .aload_n 0, 1), (1061, .iload_n 3, 1), (1062, .iconst 2, 1), (1063, .iadd, 1), (1064, .iaload, 1), (1065, .aload_n 0, 1), (1066, .iload_n 3, 1), (1067, .iconst 3, 1)] = true := by decide +kernel
theorem dL_law_1024 : decode code 1024 = .ok (.iconst 1, 1) := zDec_at zB_dL_law_1024 0 rfl
theorem dL_law_1025 : decode code 1025 = .ok (.iadd, 1) := zDec_at zB_dL_law_1024 1 rfl
theorem dL_law_1026 : decode code 1026 = .ok (.iaload, 1) := zDec_at zB_dL_law_1024 2 rfl
theorem dL_law_1027 : decode code 1027 = .ok (.aload_n 0, 1) := zDec_at zB_dL_law_1024 3 rfl
theorem dL_law_1028 : decode code 1028 = .ok (.iload_n 3, 1) := zDec_at zB_dL_law_1024 4 rfl
theorem dL_law_1029 : decode code 1029 = .ok (.iconst 2, 1) := zDec_at zB_dL_law_1024 5 rfl
theorem dL_law_1030 : decode code 1030 = .ok (.iadd, 1) := zDec_at zB_dL_law_1024 6 rfl
theorem dL_law_1031 : decode code 1031 = .ok (.iaload, 1) := zDec_at zB_dL_law_1024 7 rfl
theorem dL_law_1032 : decode code 1032 = .ok (.aload_n 0, 1) := zDec_at zB_dL_law_1024 8 rfl
theorem dL_law_1033 : decode code 1033 = .ok (.iload_n 3, 1) := zDec_at zB_dL_law_1024 9 rfl
theorem dL_law_1034 : decode code 1034 = .ok (.iconst 3, 1) := zDec_at zB_dL_law_1024 10 rfl
theorem dL_law_1035 : decode code 1035 = .ok (.iadd, 1) := zDec_at zB_dL_law_1024 11 rfl
theorem dL_law_1036 : decode code 1036 = .ok (.iaload, 1) := zDec_at zB_dL_law_1024 12 rfl
theorem dL_law_1037 : decode code 1037 = .ok (.aload_n 0, 1) := zDec_at zB_dL_law_1024 13 rfl
theorem dL_law_1038 : decode code 1038 = .ok (.iload_n 3, 1) := zDec_at zB_dL_law_1024 14 rfl
theorem dL_law_1039 : decode code 1039 = .ok (.iconst 4, 1) := zDec_at zB_dL_law_1024 15 rfl
theorem dL_law_1040 : decode code 1040 = .ok (.iadd, 1) := zDec_at zB_dL_law_1024 16 rfl
theorem dL_law_1041 : decode code 1041 = .ok (.iaload, 1) := zDec_at zB_dL_law_1024 17 rfl
theorem dL_law_1042 : decode code 1042 = .ok (.aload_n 0, 1) := zDec_at zB_dL_law_1024 18 rfl
theorem dL_law_1043 : decode code 1043 = .ok (.iload_n 3, 1) := zDec_at zB_dL_law_1024 19 rfl
theorem dL_law_1044 : decode code 1044 = .ok (.iconst 5, 1) := zDec_at zB_dL_law_1024 20 rfl
theorem dL_law_1045 : decode code 1045 = .ok (.iadd, 1) := zDec_at zB_dL_law_1024 21 rfl
theorem dL_law_1046 : decode code 1046 = .ok (.iaload, 1) := zDec_at zB_dL_law_1024 22 rfl
theorem dL_law_1047 : decode code 1047 = .ok (.invokevirtual 92, 3) := zDec_at zB_dL_law_1024 23 rfl
theorem dL_law_1050 : decode code 1050 = .ok (.pop, 1) := zDec_at zB_dL_law_1024 24 rfl
theorem dL_law_1051 : decode code 1051 = .ok (.goto 1027, 3) := zDec_at zB_dL_law_1024 25 rfl
theorem dL_law_1054 : decode code 1054 = .ok (.aload_n 1, 1) := zDec_at zB_dL_law_1024 26 rfl
theorem dL_law_1055 : decode code 1055 = .ok (.aload_n 0, 1) := zDec_at zB_dL_law_1024 27 rfl
theorem dL_law_1056 : decode code 1056 = .ok (.iload_n 3, 1) := zDec_at zB_dL_law_1024 28 rfl
theorem dL_law_1057 : decode code 1057 = .ok (.iconst 1, 1) := zDec_at zB_dL_law_1024 29 rfl
theorem dL_law_1058 : decode code 1058 = .ok (.iadd, 1) := zDec_at zB_dL_law_1024 30 rfl
theorem dL_law_1059 : decode code 1059 = .ok (.iaload, 1) := zDec_at zB_dL_law_1024 31 rfl
theorem dL_law_1060 : decode code 1060 = .ok (.aload_n 0, 1) := zDec_at zB_dL_law_1024 32 rfl
theorem dL_law_1061 : decode code 1061 = .ok (.iload_n 3, 1) := zDec_at zB_dL_law_1024 33 rfl
theorem dL_law_1062 : decode code 1062 = .ok (.iconst 2, 1) := zDec_at zB_dL_law_1024 34 rfl
theorem dL_law_1063 : decode code 1063 = .ok (.iadd, 1) := zDec_at zB_dL_law_1024 35 rfl
theorem dL_law_1064 : decode code 1064 = .ok (.iaload, 1) := zDec_at zB_dL_law_1024 36 rfl
theorem dL_law_1065 : decode code 1065 = .ok (.aload_n 0, 1) := zDec_at zB_dL_law_1024 37 rfl
theorem dL_law_1066 : decode code 1066 = .ok (.iload_n 3, 1) := zDec_at zB_dL_law_1024 38 rfl
theorem dL_law_1067 : decode code 1067 = .ok (.iconst 3, 1) := zDec_at zB_dL_law_1024 39 rfl
theorem zB_dL_law_1068 : zDecB code [(1068, .iadd, 1), (1069, .iaload, 1), (1070, .aload_n 0, 1), (1071, .iload_n 3, 1), (1072, .iconst 4, 1), (1073, .iadd, 1), (1074, .iaload, 1), (1075, .aload_n 0, 1), (1076, .iload_n 3, 1), (1077, .iconst 5, 1), (1078, .iadd, 1), (1079, .iaload, 1), (1080, .invokevirtual 93, 3), (1083, .pop, 1), (1084, .aload_n 2, 1), (1085, .aload_n 0, 1), (1086, .iload_n 3, 1), (1087, .iconst 1, 1), (1088, .iadd, 1), (1089, .iaload, 1), (1090, .aload_n 0, 1), (1091, .iload_n 3, 1), (1092, .iconst 2, 1), (1093, .iadd, 1), (1094, .iaload, 1), (1095, .aload_n 0, 1), (1096, .iload_n 3, 1), (1097, .iconst 3, 1), (1098, .iadd, 1), (1099, .iaload, 1), (1100, .aload_n 0, 1), (1101, .iload_n 3, 1), (1102, .iconst 4, 1), (1103, .iadd, 1), (1104, .iaload, 1), (1105, .aload_n 0, 1), (1106, .iload_n 3, 1), (1107, .iconst 5, 1), (1108, .iadd, 1), (1109, .iaload, 1)] = true := by decide +kernel
theorem dL_law_1068 : decode code 1068 = .ok (.iadd, 1) := zDec_at zB_dL_law_1068 0 rfl
theorem dL_law_1069 : decode code 1069 = .ok (.iaload, 1) := zDec_at zB_dL_law_1068 1 rfl
theorem dL_law_1070 : decode code 1070 = .ok (.aload_n 0, 1) := zDec_at zB_dL_law_1068 2 rfl
theorem dL_law_1071 : decode code 1071 = .ok (.iload_n 3, 1) := zDec_at zB_dL_law_1068 3 rfl
theorem dL_law_1072 : decode code 1072 = .ok (.iconst 4, 1) := zDec_at zB_dL_law_1068 4 rfl
theorem dL_law_1073 : decode code 1073 = .ok (.iadd, 1) := zDec_at zB_dL_law_1068 5 rfl
theorem dL_law_1074 : decode code 1074 = .ok (.iaload, 1) := zDec_at zB_dL_law_1068 6 rfl
theorem dL_law_1075 : decode code 1075 = .ok (.aload_n 0, 1) := zDec_at zB_dL_law_1068 7 rfl
theorem dL_law_1076 : decode code 1076 = .ok (.iload_n 3, 1) := zDec_at zB_dL_law_1068 8 rfl
theorem dL_law_1077 : decode code 1077 = .ok (.iconst 5, 1) := zDec_at zB_dL_law_1068 9 rfl
theorem dL_law_1078 : decode code 1078 = .ok (.iadd, 1) := zDec_at zB_dL_law_1068 10 rfl
theorem dL_law_1079 : decode code 1079 = .ok (.iaload, 1) := zDec_at zB_dL_law_1068 11 rfl
theorem dL_law_1080 : decode code 1080 = .ok (.invokevirtual 93, 3) := zDec_at zB_dL_law_1068 12 rfl
theorem dL_law_1083 : decode code 1083 = .ok (.pop, 1) := zDec_at zB_dL_law_1068 13 rfl
theorem dL_law_1084 : decode code 1084 = .ok (.aload_n 2, 1) := zDec_at zB_dL_law_1068 14 rfl
theorem dL_law_1085 : decode code 1085 = .ok (.aload_n 0, 1) := zDec_at zB_dL_law_1068 15 rfl
theorem dL_law_1086 : decode code 1086 = .ok (.iload_n 3, 1) := zDec_at zB_dL_law_1068 16 rfl
theorem dL_law_1087 : decode code 1087 = .ok (.iconst 1, 1) := zDec_at zB_dL_law_1068 17 rfl
theorem dL_law_1088 : decode code 1088 = .ok (.iadd, 1) := zDec_at zB_dL_law_1068 18 rfl
theorem dL_law_1089 : decode code 1089 = .ok (.iaload, 1) := zDec_at zB_dL_law_1068 19 rfl
theorem dL_law_1090 : decode code 1090 = .ok (.aload_n 0, 1) := zDec_at zB_dL_law_1068 20 rfl
theorem dL_law_1091 : decode code 1091 = .ok (.iload_n 3, 1) := zDec_at zB_dL_law_1068 21 rfl
theorem dL_law_1092 : decode code 1092 = .ok (.iconst 2, 1) := zDec_at zB_dL_law_1068 22 rfl
theorem dL_law_1093 : decode code 1093 = .ok (.iadd, 1) := zDec_at zB_dL_law_1068 23 rfl
theorem dL_law_1094 : decode code 1094 = .ok (.iaload, 1) := zDec_at zB_dL_law_1068 24 rfl
theorem dL_law_1095 : decode code 1095 = .ok (.aload_n 0, 1) := zDec_at zB_dL_law_1068 25 rfl
theorem dL_law_1096 : decode code 1096 = .ok (.iload_n 3, 1) := zDec_at zB_dL_law_1068 26 rfl
theorem dL_law_1097 : decode code 1097 = .ok (.iconst 3, 1) := zDec_at zB_dL_law_1068 27 rfl
theorem dL_law_1098 : decode code 1098 = .ok (.iadd, 1) := zDec_at zB_dL_law_1068 28 rfl
theorem dL_law_1099 : decode code 1099 = .ok (.iaload, 1) := zDec_at zB_dL_law_1068 29 rfl
theorem dL_law_1100 : decode code 1100 = .ok (.aload_n 0, 1) := zDec_at zB_dL_law_1068 30 rfl
theorem dL_law_1101 : decode code 1101 = .ok (.iload_n 3, 1) := zDec_at zB_dL_law_1068 31 rfl
theorem dL_law_1102 : decode code 1102 = .ok (.iconst 4, 1) := zDec_at zB_dL_law_1068 32 rfl
theorem dL_law_1103 : decode code 1103 = .ok (.iadd, 1) := zDec_at zB_dL_law_1068 33 rfl
theorem dL_law_1104 : decode code 1104 = .ok (.iaload, 1) := zDec_at zB_dL_law_1068 34 rfl
theorem dL_law_1105 : decode code 1105 = .ok (.aload_n 0, 1) := zDec_at zB_dL_law_1068 35 rfl
theorem dL_law_1106 : decode code 1106 = .ok (.iload_n 3, 1) := zDec_at zB_dL_law_1068 36 rfl
theorem dL_law_1107 : decode code 1107 = .ok (.iconst 5, 1) := zDec_at zB_dL_law_1068 37 rfl
theorem dL_law_1108 : decode code 1108 = .ok (.iadd, 1) := zDec_at zB_dL_law_1068 38 rfl
theorem dL_law_1109 : decode code 1109 = .ok (.iaload, 1) := zDec_at zB_dL_law_1068 39 rfl
theorem zB_dL_law_1110 : zDecB code [(1110, .invokevirtual 96, 3), (1113, .pop, 1), (1114, .goto 964, 3), (1117, .aload_n 1, 1), (1118, .aload_n 0, 1), (1119, .iload_n 3, 1), (1120, .iconst 1, 1), (1121, .iadd, 1), (1122, .iaload, 1), (1123, .aload_n 0, 1), (1124, .iload_n 3, 1), (1125, .iconst 2, 1), (1126, .iadd, 1), (1127, .iaload, 1), (1128, .aload_n 0, 1), (1129, .iload_n 3, 1), (1130, .iconst 3, 1), (1131, .iadd, 1), (1132, .iaload, 1), (1133, .aload_n 0, 1), (1134, .iload_n 3, 1), (1135, .iconst 4, 1), (1136, .iadd, 1), (1137, .iaload, 1), (1138, .invokevirtual 97, 3), (1141, .pop, 1), (1142, .aload_n 2, 1), (1143, .aload_n 0, 1), (1144, .iload_n 3, 1), (1145, .iconst 1, 1), (1146, .iadd, 1), (1147, .iaload, 1), (1148, .aload_n 0, 1), (1149, .iload_n 3, 1), (1150, .iconst 2, 1), (1151, .iadd, 1), (1152, .iaload, 1), (1153, .aload_n 0, 1), (1154, .iload_n 3, 1), (1155, .iconst 3, 1)] = true := by decide +kernel
theorem dL_law_1110 : decode code 1110 = .ok (.invokevirtual 96, 3) := zDec_at zB_dL_law_1110 0 rfl
theorem dL_law_1113 : decode code 1113 = .ok (.pop, 1) := zDec_at zB_dL_law_1110 1 rfl
theorem dL_law_1114 : decode code 1114 = .ok (.goto 964, 3) := zDec_at zB_dL_law_1110 2 rfl
theorem dL_law_1117 : decode code 1117 = .ok (.aload_n 1, 1) := zDec_at zB_dL_law_1110 3 rfl
theorem dL_law_1118 : decode code 1118 = .ok (.aload_n 0, 1) := zDec_at zB_dL_law_1110 4 rfl
theorem dL_law_1119 : decode code 1119 = .ok (.iload_n 3, 1) := zDec_at zB_dL_law_1110 5 rfl
theorem dL_law_1120 : decode code 1120 = .ok (.iconst 1, 1) := zDec_at zB_dL_law_1110 6 rfl
theorem dL_law_1121 : decode code 1121 = .ok (.iadd, 1) := zDec_at zB_dL_law_1110 7 rfl
theorem dL_law_1122 : decode code 1122 = .ok (.iaload, 1) := zDec_at zB_dL_law_1110 8 rfl
theorem dL_law_1123 : decode code 1123 = .ok (.aload_n 0, 1) := zDec_at zB_dL_law_1110 9 rfl
theorem dL_law_1124 : decode code 1124 = .ok (.iload_n 3, 1) := zDec_at zB_dL_law_1110 10 rfl
theorem dL_law_1125 : decode code 1125 = .ok (.iconst 2, 1) := zDec_at zB_dL_law_1110 11 rfl
theorem dL_law_1126 : decode code 1126 = .ok (.iadd, 1) := zDec_at zB_dL_law_1110 12 rfl
theorem dL_law_1127 : decode code 1127 = .ok (.iaload, 1) := zDec_at zB_dL_law_1110 13 rfl
theorem dL_law_1128 : decode code 1128 = .ok (.aload_n 0, 1) := zDec_at zB_dL_law_1110 14 rfl
theorem dL_law_1129 : decode code 1129 = .ok (.iload_n 3, 1) := zDec_at zB_dL_law_1110 15 rfl
theorem dL_law_1130 : decode code 1130 = .ok (.iconst 3, 1) := zDec_at zB_dL_law_1110 16 rfl
theorem dL_law_1131 : decode code 1131 = .ok (.iadd, 1) := zDec_at zB_dL_law_1110 17 rfl
theorem dL_law_1132 : decode code 1132 = .ok (.iaload, 1) := zDec_at zB_dL_law_1110 18 rfl
theorem dL_law_1133 : decode code 1133 = .ok (.aload_n 0, 1) := zDec_at zB_dL_law_1110 19 rfl
theorem dL_law_1134 : decode code 1134 = .ok (.iload_n 3, 1) := zDec_at zB_dL_law_1110 20 rfl
theorem dL_law_1135 : decode code 1135 = .ok (.iconst 4, 1) := zDec_at zB_dL_law_1110 21 rfl
theorem dL_law_1136 : decode code 1136 = .ok (.iadd, 1) := zDec_at zB_dL_law_1110 22 rfl
theorem dL_law_1137 : decode code 1137 = .ok (.iaload, 1) := zDec_at zB_dL_law_1110 23 rfl
theorem dL_law_1138 : decode code 1138 = .ok (.invokevirtual 97, 3) := zDec_at zB_dL_law_1110 24 rfl
theorem dL_law_1141 : decode code 1141 = .ok (.pop, 1) := zDec_at zB_dL_law_1110 25 rfl
theorem dL_law_1142 : decode code 1142 = .ok (.aload_n 2, 1) := zDec_at zB_dL_law_1110 26 rfl
theorem dL_law_1143 : decode code 1143 = .ok (.aload_n 0, 1) := zDec_at zB_dL_law_1110 27 rfl
theorem dL_law_1144 : decode code 1144 = .ok (.iload_n 3, 1) := zDec_at zB_dL_law_1110 28 rfl
theorem dL_law_1145 : decode code 1145 = .ok (.iconst 1, 1) := zDec_at zB_dL_law_1110 29 rfl
theorem dL_law_1146 : decode code 1146 = .ok (.iadd, 1) := zDec_at zB_dL_law_1110 30 rfl
theorem dL_law_1147 : decode code 1147 = .ok (.iaload, 1) := zDec_at zB_dL_law_1110 31 rfl
theorem dL_law_1148 : decode code 1148 = .ok (.aload_n 0, 1) := zDec_at zB_dL_law_1110 32 rfl
theorem dL_law_1149 : decode code 1149 = .ok (.iload_n 3, 1) := zDec_at zB_dL_law_1110 33 rfl
theorem dL_law_1150 : decode code 1150 = .ok (.iconst 2, 1) := zDec_at zB_dL_law_1110 34 rfl
theorem dL_law_1151 : decode code 1151 = .ok (.iadd, 1) := zDec_at zB_dL_law_1110 35 rfl
theorem dL_law_1152 : decode code 1152 = .ok (.iaload, 1) := zDec_at zB_dL_law_1110 36 rfl
theorem dL_law_1153 : decode code 1153 = .ok (.aload_n 0, 1) := zDec_at zB_dL_law_1110 37 rfl
theorem dL_law_1154 : decode code 1154 = .ok (.iload_n 3, 1) := zDec_at zB_dL_law_1110 38 rfl
theorem dL_law_1155 : decode code 1155 = .ok (.iconst 3, 1) := zDec_at zB_dL_law_1110 39 rfl
theorem zB_dL_law_1156 : zDecB code [(1156, .iadd, 1), (1157, .iaload, 1), (1158, .aload_n 0, 1), (1159, .iload_n 3, 1), (1160, .iconst 4, 1), (1161, .iadd, 1), (1162, .iaload, 1), (1163, .invokevirtual 100, 3), (1166, .pop, 1), (1167, .goto 911, 3), (1170, .aload_n 1, 1), (1171, .aload_n 0, 1), (1172, .iload_n 3, 1), (1173, .iconst 1, 1), (1174, .iadd, 1), (1175, .iaload, 1), (1176, .aload_n 0, 1), (1177, .iload_n 3, 1), (1178, .iconst 2, 1), (1179, .iadd, 1), (1180, .iaload, 1), (1181, .aload_n 0, 1), (1182, .iload_n 3, 1), (1183, .iconst 3, 1), (1184, .iadd, 1), (1185, .iaload, 1), (1186, .invokevirtual 101, 3), (1189, .pop, 1), (1190, .aload_n 2, 1), (1191, .aload_n 0, 1), (1192, .iload_n 3, 1), (1193, .iconst 1, 1), (1194, .iadd, 1), (1195, .iaload, 1), (1196, .aload_n 0, 1), (1197, .iload_n 3, 1), (1198, .iconst 2, 1), (1199, .iadd, 1), (1200, .iaload, 1), (1201, .aload_n 0, 1)] = true := by decide +kernel
theorem dL_law_1156 : decode code 1156 = .ok (.iadd, 1) := zDec_at zB_dL_law_1156 0 rfl
theorem dL_law_1157 : decode code 1157 = .ok (.iaload, 1) := zDec_at zB_dL_law_1156 1 rfl
theorem dL_law_1158 : decode code 1158 = .ok (.aload_n 0, 1) := zDec_at zB_dL_law_1156 2 rfl
theorem dL_law_1159 : decode code 1159 = .ok (.iload_n 3, 1) := zDec_at zB_dL_law_1156 3 rfl
theorem dL_law_1160 : decode code 1160 = .ok (.iconst 4, 1) := zDec_at zB_dL_law_1156 4 rfl
theorem dL_law_1161 : decode code 1161 = .ok (.iadd, 1) := zDec_at zB_dL_law_1156 5 rfl
theorem dL_law_1162 : decode code 1162 = .ok (.iaload, 1) := zDec_at zB_dL_law_1156 6 rfl
theorem dL_law_1163 : decode code 1163 = .ok (.invokevirtual 100, 3) := zDec_at zB_dL_law_1156 7 rfl
theorem dL_law_1166 : decode code 1166 = .ok (.pop, 1) := zDec_at zB_dL_law_1156 8 rfl
theorem dL_law_1167 : decode code 1167 = .ok (.goto 911, 3) := zDec_at zB_dL_law_1156 9 rfl
theorem dL_law_1170 : decode code 1170 = .ok (.aload_n 1, 1) := zDec_at zB_dL_law_1156 10 rfl
theorem dL_law_1171 : decode code 1171 = .ok (.aload_n 0, 1) := zDec_at zB_dL_law_1156 11 rfl
theorem dL_law_1172 : decode code 1172 = .ok (.iload_n 3, 1) := zDec_at zB_dL_law_1156 12 rfl
theorem dL_law_1173 : decode code 1173 = .ok (.iconst 1, 1) := zDec_at zB_dL_law_1156 13 rfl
theorem dL_law_1174 : decode code 1174 = .ok (.iadd, 1) := zDec_at zB_dL_law_1156 14 rfl
theorem dL_law_1175 : decode code 1175 = .ok (.iaload, 1) := zDec_at zB_dL_law_1156 15 rfl
theorem dL_law_1176 : decode code 1176 = .ok (.aload_n 0, 1) := zDec_at zB_dL_law_1156 16 rfl
theorem dL_law_1177 : decode code 1177 = .ok (.iload_n 3, 1) := zDec_at zB_dL_law_1156 17 rfl
theorem dL_law_1178 : decode code 1178 = .ok (.iconst 2, 1) := zDec_at zB_dL_law_1156 18 rfl
theorem dL_law_1179 : decode code 1179 = .ok (.iadd, 1) := zDec_at zB_dL_law_1156 19 rfl
theorem dL_law_1180 : decode code 1180 = .ok (.iaload, 1) := zDec_at zB_dL_law_1156 20 rfl
theorem dL_law_1181 : decode code 1181 = .ok (.aload_n 0, 1) := zDec_at zB_dL_law_1156 21 rfl
theorem dL_law_1182 : decode code 1182 = .ok (.iload_n 3, 1) := zDec_at zB_dL_law_1156 22 rfl
theorem dL_law_1183 : decode code 1183 = .ok (.iconst 3, 1) := zDec_at zB_dL_law_1156 23 rfl
theorem dL_law_1184 : decode code 1184 = .ok (.iadd, 1) := zDec_at zB_dL_law_1156 24 rfl
theorem dL_law_1185 : decode code 1185 = .ok (.iaload, 1) := zDec_at zB_dL_law_1156 25 rfl
theorem dL_law_1186 : decode code 1186 = .ok (.invokevirtual 101, 3) := zDec_at zB_dL_law_1156 26 rfl
theorem dL_law_1189 : decode code 1189 = .ok (.pop, 1) := zDec_at zB_dL_law_1156 27 rfl
theorem dL_law_1190 : decode code 1190 = .ok (.aload_n 2, 1) := zDec_at zB_dL_law_1156 28 rfl
theorem dL_law_1191 : decode code 1191 = .ok (.aload_n 0, 1) := zDec_at zB_dL_law_1156 29 rfl
theorem dL_law_1192 : decode code 1192 = .ok (.iload_n 3, 1) := zDec_at zB_dL_law_1156 30 rfl
theorem dL_law_1193 : decode code 1193 = .ok (.iconst 1, 1) := zDec_at zB_dL_law_1156 31 rfl
theorem dL_law_1194 : decode code 1194 = .ok (.iadd, 1) := zDec_at zB_dL_law_1156 32 rfl
theorem dL_law_1195 : decode code 1195 = .ok (.iaload, 1) := zDec_at zB_dL_law_1156 33 rfl
theorem dL_law_1196 : decode code 1196 = .ok (.aload_n 0, 1) := zDec_at zB_dL_law_1156 34 rfl
theorem dL_law_1197 : decode code 1197 = .ok (.iload_n 3, 1) := zDec_at zB_dL_law_1156 35 rfl
theorem dL_law_1198 : decode code 1198 = .ok (.iconst 2, 1) := zDec_at zB_dL_law_1156 36 rfl
theorem dL_law_1199 : decode code 1199 = .ok (.iadd, 1) := zDec_at zB_dL_law_1156 37 rfl
theorem dL_law_1200 : decode code 1200 = .ok (.iaload, 1) := zDec_at zB_dL_law_1156 38 rfl
theorem dL_law_1201 : decode code 1201 = .ok (.aload_n 0, 1) := zDec_at zB_dL_law_1156 39 rfl
theorem zB_dL_law_1202 : zDecB code [(1202, .iload_n 3, 1), (1203, .iconst 3, 1), (1204, .iadd, 1), (1205, .iaload, 1), (1206, .invokevirtual 104, 3), (1209, .pop, 1), (1210, .goto 868, 3), (1213, .aload_n 1, 1), (1214, .aload_n 0, 1), (1215, .iload_n 3, 1), (1216, .iconst 1, 1), (1217, .iadd, 1), (1218, .iaload, 1), (1219, .aload_n 0, 1), (1220, .iload_n 3, 1), (1221, .iconst 2, 1), (1222, .iadd, 1), (1223, .iaload, 1), (1224, .aload_n 0, 1), (1225, .iload_n 3, 1), (1226, .iconst 3, 1), (1227, .iadd, 1), (1228, .iaload, 1), (1229, .invokevirtual 105, 3), (1232, .pop, 1), (1233, .aload_n 2, 1), (1234, .aload_n 0, 1), (1235, .iload_n 3, 1), (1236, .iconst 1, 1), (1237, .iadd, 1), (1238, .iaload, 1), (1239, .aload_n 0, 1), (1240, .iload_n 3, 1), (1241, .iconst 2, 1), (1242, .iadd, 1), (1243, .iaload, 1), (1244, .aload_n 0, 1), (1245, .iload_n 3, 1), (1246, .iconst 3, 1), (1247, .iadd, 1)] = true := by decide +kernel
theorem dL_law_1202 : decode code 1202 = .ok (.iload_n 3, 1) := zDec_at zB_dL_law_1202 0 rfl
theorem dL_law_1203 : decode code 1203 = .ok (.iconst 3, 1) := zDec_at zB_dL_law_1202 1 rfl
theorem dL_law_1204 : decode code 1204 = .ok (.iadd, 1) := zDec_at zB_dL_law_1202 2 rfl
theorem dL_law_1205 : decode code 1205 = .ok (.iaload, 1) := zDec_at zB_dL_law_1202 3 rfl
theorem dL_law_1206 : decode code 1206 = .ok (.invokevirtual 104, 3) := zDec_at zB_dL_law_1202 4 rfl
theorem dL_law_1209 : decode code 1209 = .ok (.pop, 1) := zDec_at zB_dL_law_1202 5 rfl
theorem dL_law_1210 : decode code 1210 = .ok (.goto 868, 3) := zDec_at zB_dL_law_1202 6 rfl
theorem dL_law_1213 : decode code 1213 = .ok (.aload_n 1, 1) := zDec_at zB_dL_law_1202 7 rfl
theorem dL_law_1214 : decode code 1214 = .ok (.aload_n 0, 1) := zDec_at zB_dL_law_1202 8 rfl
theorem dL_law_1215 : decode code 1215 = .ok (.iload_n 3, 1) := zDec_at zB_dL_law_1202 9 rfl
theorem dL_law_1216 : decode code 1216 = .ok (.iconst 1, 1) := zDec_at zB_dL_law_1202 10 rfl
theorem dL_law_1217 : decode code 1217 = .ok (.iadd, 1) := zDec_at zB_dL_law_1202 11 rfl
theorem dL_law_1218 : decode code 1218 = .ok (.iaload, 1) := zDec_at zB_dL_law_1202 12 rfl
theorem dL_law_1219 : decode code 1219 = .ok (.aload_n 0, 1) := zDec_at zB_dL_law_1202 13 rfl
theorem dL_law_1220 : decode code 1220 = .ok (.iload_n 3, 1) := zDec_at zB_dL_law_1202 14 rfl
theorem dL_law_1221 : decode code 1221 = .ok (.iconst 2, 1) := zDec_at zB_dL_law_1202 15 rfl
theorem dL_law_1222 : decode code 1222 = .ok (.iadd, 1) := zDec_at zB_dL_law_1202 16 rfl
theorem dL_law_1223 : decode code 1223 = .ok (.iaload, 1) := zDec_at zB_dL_law_1202 17 rfl
theorem dL_law_1224 : decode code 1224 = .ok (.aload_n 0, 1) := zDec_at zB_dL_law_1202 18 rfl
theorem dL_law_1225 : decode code 1225 = .ok (.iload_n 3, 1) := zDec_at zB_dL_law_1202 19 rfl
theorem dL_law_1226 : decode code 1226 = .ok (.iconst 3, 1) := zDec_at zB_dL_law_1202 20 rfl
theorem dL_law_1227 : decode code 1227 = .ok (.iadd, 1) := zDec_at zB_dL_law_1202 21 rfl
theorem dL_law_1228 : decode code 1228 = .ok (.iaload, 1) := zDec_at zB_dL_law_1202 22 rfl
theorem dL_law_1229 : decode code 1229 = .ok (.invokevirtual 105, 3) := zDec_at zB_dL_law_1202 23 rfl
theorem dL_law_1232 : decode code 1232 = .ok (.pop, 1) := zDec_at zB_dL_law_1202 24 rfl
theorem dL_law_1233 : decode code 1233 = .ok (.aload_n 2, 1) := zDec_at zB_dL_law_1202 25 rfl
theorem dL_law_1234 : decode code 1234 = .ok (.aload_n 0, 1) := zDec_at zB_dL_law_1202 26 rfl
theorem dL_law_1235 : decode code 1235 = .ok (.iload_n 3, 1) := zDec_at zB_dL_law_1202 27 rfl
theorem dL_law_1236 : decode code 1236 = .ok (.iconst 1, 1) := zDec_at zB_dL_law_1202 28 rfl
theorem dL_law_1237 : decode code 1237 = .ok (.iadd, 1) := zDec_at zB_dL_law_1202 29 rfl
theorem dL_law_1238 : decode code 1238 = .ok (.iaload, 1) := zDec_at zB_dL_law_1202 30 rfl
theorem dL_law_1239 : decode code 1239 = .ok (.aload_n 0, 1) := zDec_at zB_dL_law_1202 31 rfl
theorem dL_law_1240 : decode code 1240 = .ok (.iload_n 3, 1) := zDec_at zB_dL_law_1202 32 rfl
theorem dL_law_1241 : decode code 1241 = .ok (.iconst 2, 1) := zDec_at zB_dL_law_1202 33 rfl
theorem dL_law_1242 : decode code 1242 = .ok (.iadd, 1) := zDec_at zB_dL_law_1202 34 rfl
theorem dL_law_1243 : decode code 1243 = .ok (.iaload, 1) := zDec_at zB_dL_law_1202 35 rfl
theorem dL_law_1244 : decode code 1244 = .ok (.aload_n 0, 1) := zDec_at zB_dL_law_1202 36 rfl
theorem dL_law_1245 : decode code 1245 = .ok (.iload_n 3, 1) := zDec_at zB_dL_law_1202 37 rfl
theorem dL_law_1246 : decode code 1246 = .ok (.iconst 3, 1) := zDec_at zB_dL_law_1202 38 rfl
theorem dL_law_1247 : decode code 1247 = .ok (.iadd, 1) := zDec_at zB_dL_law_1202 39 rfl
theorem zB_dL_law_1248 : zDecB code [(1248, .iaload, 1), (1249, .invokevirtual 108, 3), (1252, .pop, 1), (1253, .goto 825, 3), (1256, .aload_n 1, 1), (1257, .aload_n 0, 1), (1258, .iload_n 3, 1), (1259, .iconst 1, 1), (1260, .iadd, 1), (1261, .iaload, 1), (1262, .aload_n 0, 1), (1263, .iload_n 3, 1), (1264, .iconst 2, 1), (1265, .iadd, 1), (1266, .iaload, 1), (1267, .aload_n 0, 1), (1268, .iload_n 3, 1), (1269, .iconst 3, 1), (1270, .iadd, 1), (1271, .iaload, 1), (1272, .invokevirtual 109, 3), (1275, .pop, 1), (1276, .aload_n 2, 1), (1277, .aload_n 0, 1), (1278, .iload_n 3, 1), (1279, .iconst 1, 1), (1280, .iadd, 1), (1281, .iaload, 1), (1282, .aload_n 0, 1), (1283, .iload_n 3, 1), (1284, .iconst 2, 1), (1285, .iadd, 1), (1286, .iaload, 1), (1287, .aload_n 0, 1), (1288, .iload_n 3, 1), (1289, .iconst 3, 1), (1290, .iadd, 1), (1291, .iaload, 1), (1292, .invokevirtual 112, 3), (1295, .pop, 1)] = true := by decide +kernel
theorem dL_law_1248 : decode code 1248 = .ok (.iaload, 1) := zDec_at zB_dL_law_1248 0 rfl
theorem dL_law_1249 : decode code 1249 = .ok (.invokevirtual 108, 3) := zDec_at zB_dL_law_1248 1 rfl
theorem dL_law_1252 : decode code 1252 = .ok (.pop, 1) := zDec_at zB_dL_law_1248 2 rfl
theorem dL_law_1253 : decode code 1253 = .ok (.goto 825, 3) := zDec_at zB_dL_law_1248 3 rfl
theorem dL_law_1256 : decode code 1256 = .ok (.aload_n 1, 1) := zDec_at zB_dL_law_1248 4 rfl
theorem dL_law_1257 : decode code 1257 = .ok (.aload_n 0, 1) := zDec_at zB_dL_law_1248 5 rfl
theorem dL_law_1258 : decode code 1258 = .ok (.iload_n 3, 1) := zDec_at zB_dL_law_1248 6 rfl
theorem dL_law_1259 : decode code 1259 = .ok (.iconst 1, 1) := zDec_at zB_dL_law_1248 7 rfl
theorem dL_law_1260 : decode code 1260 = .ok (.iadd, 1) := zDec_at zB_dL_law_1248 8 rfl
theorem dL_law_1261 : decode code 1261 = .ok (.iaload, 1) := zDec_at zB_dL_law_1248 9 rfl
theorem dL_law_1262 : decode code 1262 = .ok (.aload_n 0, 1) := zDec_at zB_dL_law_1248 10 rfl
theorem dL_law_1263 : decode code 1263 = .ok (.iload_n 3, 1) := zDec_at zB_dL_law_1248 11 rfl
theorem dL_law_1264 : decode code 1264 = .ok (.iconst 2, 1) := zDec_at zB_dL_law_1248 12 rfl
theorem dL_law_1265 : decode code 1265 = .ok (.iadd, 1) := zDec_at zB_dL_law_1248 13 rfl
theorem dL_law_1266 : decode code 1266 = .ok (.iaload, 1) := zDec_at zB_dL_law_1248 14 rfl
theorem dL_law_1267 : decode code 1267 = .ok (.aload_n 0, 1) := zDec_at zB_dL_law_1248 15 rfl
theorem dL_law_1268 : decode code 1268 = .ok (.iload_n 3, 1) := zDec_at zB_dL_law_1248 16 rfl
theorem dL_law_1269 : decode code 1269 = .ok (.iconst 3, 1) := zDec_at zB_dL_law_1248 17 rfl
theorem dL_law_1270 : decode code 1270 = .ok (.iadd, 1) := zDec_at zB_dL_law_1248 18 rfl
theorem dL_law_1271 : decode code 1271 = .ok (.iaload, 1) := zDec_at zB_dL_law_1248 19 rfl
theorem dL_law_1272 : decode code 1272 = .ok (.invokevirtual 109, 3) := zDec_at zB_dL_law_1248 20 rfl
theorem dL_law_1275 : decode code 1275 = .ok (.pop, 1) := zDec_at zB_dL_law_1248 21 rfl
theorem dL_law_1276 : decode code 1276 = .ok (.aload_n 2, 1) := zDec_at zB_dL_law_1248 22 rfl
theorem dL_law_1277 : decode code 1277 = .ok (.aload_n 0, 1) := zDec_at zB_dL_law_1248 23 rfl
theorem dL_law_1278 : decode code 1278 = .ok (.iload_n 3, 1) := zDec_at zB_dL_law_1248 24 rfl
theorem dL_law_1279 : decode code 1279 = .ok (.iconst 1, 1) := zDec_at zB_dL_law_1248 25 rfl
theorem dL_law_1280 : decode code 1280 = .ok (.iadd, 1) := zDec_at zB_dL_law_1248 26 rfl
theorem dL_law_1281 : decode code 1281 = .ok (.iaload, 1) := zDec_at zB_dL_law_1248 27 rfl
theorem dL_law_1282 : decode code 1282 = .ok (.aload_n 0, 1) := zDec_at zB_dL_law_1248 28 rfl
theorem dL_law_1283 : decode code 1283 = .ok (.iload_n 3, 1) := zDec_at zB_dL_law_1248 29 rfl
theorem dL_law_1284 : decode code 1284 = .ok (.iconst 2, 1) := zDec_at zB_dL_law_1248 30 rfl
theorem dL_law_1285 : decode code 1285 = .ok (.iadd, 1) := zDec_at zB_dL_law_1248 31 rfl
theorem dL_law_1286 : decode code 1286 = .ok (.iaload, 1) := zDec_at zB_dL_law_1248 32 rfl
theorem dL_law_1287 : decode code 1287 = .ok (.aload_n 0, 1) := zDec_at zB_dL_law_1248 33 rfl
theorem dL_law_1288 : decode code 1288 = .ok (.iload_n 3, 1) := zDec_at zB_dL_law_1248 34 rfl
theorem dL_law_1289 : decode code 1289 = .ok (.iconst 3, 1) := zDec_at zB_dL_law_1248 35 rfl
theorem dL_law_1290 : decode code 1290 = .ok (.iadd, 1) := zDec_at zB_dL_law_1248 36 rfl
theorem dL_law_1291 : decode code 1291 = .ok (.iaload, 1) := zDec_at zB_dL_law_1248 37 rfl
theorem dL_law_1292 : decode code 1292 = .ok (.invokevirtual 112, 3) := zDec_at zB_dL_law_1248 38 rfl
theorem dL_law_1295 : decode code 1295 = .ok (.pop, 1) := zDec_at zB_dL_law_1248 39 rfl
theorem zB_dL_law_1296 : zDecB code [(1296, .goto 782, 3), (1299, .aload_n 1, 1), (1300, .aload_n 0, 1), (1301, .iload_n 3, 1), (1302, .iconst 1, 1), (1303, .iadd, 1), (1304, .iaload, 1), (1305, .aload_n 0, 1), (1306, .iload_n 3, 1), (1307, .iconst 2, 1), (1308, .iadd, 1), (1309, .iaload, 1), (1310, .aload_n 0, 1), (1311, .iload_n 3, 1), (1312, .iconst 3, 1), (1313, .iadd, 1), (1314, .iaload, 1), (1315, .aload_n 0, 1), (1316, .iload_n 3, 1), (1317, .iconst 4, 1), (1318, .iadd, 1), (1319, .iaload, 1), (1320, .invokevirtual 113, 3), (1323, .pop, 1), (1324, .aload_n 2, 1), (1325, .aload_n 0, 1), (1326, .iload_n 3, 1), (1327, .iconst 1, 1), (1328, .iadd, 1), (1329, .iaload, 1), (1330, .aload_n 0, 1), (1331, .iload_n 3, 1), (1332, .iconst 2, 1), (1333, .iadd, 1), (1334, .iaload, 1), (1335, .aload_n 0, 1), (1336, .iload_n 3, 1), (1337, .iconst 3, 1), (1338, .iadd, 1), (1339, .iaload, 1)] = true := by decide +kernel
theorem dL_law_1296 : decode code 1296 = .ok (.goto 782, 3) := zDec_at zB_dL_law_1296 0 rfl
theorem dL_law_1299 : decode code 1299 = .ok (.aload_n 1, 1) := zDec_at zB_dL_law_1296 1 rfl
theorem dL_law_1300 : decode code 1300 = .ok (.aload_n 0, 1) := zDec_at zB_dL_law_1296 2 rfl
theorem dL_law_1301 : decode code 1301 = .ok (.iload_n 3, 1) := zDec_at zB_dL_law_1296 3 rfl
theorem dL_law_1302 : decode code 1302 = .ok (.iconst 1, 1) := zDec_at zB_dL_law_1296 4 rfl
theorem dL_law_1303 : decode code 1303 = .ok (.iadd, 1) := zDec_at zB_dL_law_1296 5 rfl
theorem dL_law_1304 : decode code 1304 = .ok (.iaload, 1) := zDec_at zB_dL_law_1296 6 rfl
theorem dL_law_1305 : decode code 1305 = .ok (.aload_n 0, 1) := zDec_at zB_dL_law_1296 7 rfl
theorem dL_law_1306 : decode code 1306 = .ok (.iload_n 3, 1) := zDec_at zB_dL_law_1296 8 rfl
theorem dL_law_1307 : decode code 1307 = .ok (.iconst 2, 1) := zDec_at zB_dL_law_1296 9 rfl
theorem dL_law_1308 : decode code 1308 = .ok (.iadd, 1) := zDec_at zB_dL_law_1296 10 rfl
theorem dL_law_1309 : decode code 1309 = .ok (.iaload, 1) := zDec_at zB_dL_law_1296 11 rfl
theorem dL_law_1310 : decode code 1310 = .ok (.aload_n 0, 1) := zDec_at zB_dL_law_1296 12 rfl
theorem dL_law_1311 : decode code 1311 = .ok (.iload_n 3, 1) := zDec_at zB_dL_law_1296 13 rfl
theorem dL_law_1312 : decode code 1312 = .ok (.iconst 3, 1) := zDec_at zB_dL_law_1296 14 rfl
theorem dL_law_1313 : decode code 1313 = .ok (.iadd, 1) := zDec_at zB_dL_law_1296 15 rfl
theorem dL_law_1314 : decode code 1314 = .ok (.iaload, 1) := zDec_at zB_dL_law_1296 16 rfl
theorem dL_law_1315 : decode code 1315 = .ok (.aload_n 0, 1) := zDec_at zB_dL_law_1296 17 rfl
theorem dL_law_1316 : decode code 1316 = .ok (.iload_n 3, 1) := zDec_at zB_dL_law_1296 18 rfl
theorem dL_law_1317 : decode code 1317 = .ok (.iconst 4, 1) := zDec_at zB_dL_law_1296 19 rfl
theorem dL_law_1318 : decode code 1318 = .ok (.iadd, 1) := zDec_at zB_dL_law_1296 20 rfl
theorem dL_law_1319 : decode code 1319 = .ok (.iaload, 1) := zDec_at zB_dL_law_1296 21 rfl
theorem dL_law_1320 : decode code 1320 = .ok (.invokevirtual 113, 3) := zDec_at zB_dL_law_1296 22 rfl
theorem dL_law_1323 : decode code 1323 = .ok (.pop, 1) := zDec_at zB_dL_law_1296 23 rfl
theorem dL_law_1324 : decode code 1324 = .ok (.aload_n 2, 1) := zDec_at zB_dL_law_1296 24 rfl
theorem dL_law_1325 : decode code 1325 = .ok (.aload_n 0, 1) := zDec_at zB_dL_law_1296 25 rfl
theorem dL_law_1326 : decode code 1326 = .ok (.iload_n 3, 1) := zDec_at zB_dL_law_1296 26 rfl
theorem dL_law_1327 : decode code 1327 = .ok (.iconst 1, 1) := zDec_at zB_dL_law_1296 27 rfl
theorem dL_law_1328 : decode code 1328 = .ok (.iadd, 1) := zDec_at zB_dL_law_1296 28 rfl
theorem dL_law_1329 : decode code 1329 = .ok (.iaload, 1) := zDec_at zB_dL_law_1296 29 rfl
theorem dL_law_1330 : decode code 1330 = .ok (.aload_n 0, 1) := zDec_at zB_dL_law_1296 30 rfl
theorem dL_law_1331 : decode code 1331 = .ok (.iload_n 3, 1) := zDec_at zB_dL_law_1296 31 rfl
theorem dL_law_1332 : decode code 1332 = .ok (.iconst 2, 1) := zDec_at zB_dL_law_1296 32 rfl
theorem dL_law_1333 : decode code 1333 = .ok (.iadd, 1) := zDec_at zB_dL_law_1296 33 rfl
theorem dL_law_1334 : decode code 1334 = .ok (.iaload, 1) := zDec_at zB_dL_law_1296 34 rfl
theorem dL_law_1335 : decode code 1335 = .ok (.aload_n 0, 1) := zDec_at zB_dL_law_1296 35 rfl
theorem dL_law_1336 : decode code 1336 = .ok (.iload_n 3, 1) := zDec_at zB_dL_law_1296 36 rfl
theorem dL_law_1337 : decode code 1337 = .ok (.iconst 3, 1) := zDec_at zB_dL_law_1296 37 rfl
theorem dL_law_1338 : decode code 1338 = .ok (.iadd, 1) := zDec_at zB_dL_law_1296 38 rfl
theorem dL_law_1339 : decode code 1339 = .ok (.iaload, 1) := zDec_at zB_dL_law_1296 39 rfl
theorem zB_dL_law_1340 : zDecB code [(1340, .aload_n 0, 1), (1341, .iload_n 3, 1), (1342, .iconst 4, 1), (1343, .iadd, 1), (1344, .iaload, 1), (1345, .invokevirtual 116, 3), (1348, .pop, 1), (1349, .goto 729, 3), (1352, .aload_n 1, 1), (1353, .aload_n 0, 1), (1354, .iload_n 3, 1), (1355, .iconst 1, 1), (1356, .iadd, 1), (1357, .iaload, 1), (1358, .aload_n 0, 1), (1359, .iload_n 3, 1), (1360, .iconst 2, 1), (1361, .iadd, 1), (1362, .iaload, 1), (1363, .aload_n 0, 1)] = true := by decide +kernel
theorem dL_law_1340 : decode code 1340 = .ok (.aload_n 0, 1) := zDec_at zB_dL_law_1340 0 rfl
theorem dL_law_1341 : decode code 1341 = .ok (.iload_n 3, 1) := zDec_at zB_dL_law_1340 1 rfl
theorem dL_law_1342 : decode code 1342 = .ok (.iconst 4, 1) := zDec_at zB_dL_law_1340 2 rfl
theorem dL_law_1343 : decode code 1343 = .ok (.iadd, 1) := zDec_at zB_dL_law_1340 3 rfl
theorem dL_law_1344 : decode code 1344 = .ok (.iaload, 1) := zDec_at zB_dL_law_1340 4 rfl
theorem dL_law_1345 : decode code 1345 = .ok (.invokevirtual 116, 3) := zDec_at zB_dL_law_1340 5 rfl
theorem dL_law_1348 : decode code 1348 = .ok (.pop, 1) := zDec_at zB_dL_law_1340 6 rfl
theorem dL_law_1349 : decode code 1349 = .ok (.goto 729, 3) := zDec_at zB_dL_law_1340 7 rfl
theorem dL_law_1352 : decode code 1352 = .ok (.aload_n 1, 1) := zDec_at zB_dL_law_1340 8 rfl
theorem dL_law_1353 : decode code 1353 = .ok (.aload_n 0, 1) := zDec_at zB_dL_law_1340 9 rfl
theorem dL_law_1354 : decode code 1354 = .ok (.iload_n 3, 1) := zDec_at zB_dL_law_1340 10 rfl
theorem dL_law_1355 : decode code 1355 = .ok (.iconst 1, 1) := zDec_at zB_dL_law_1340 11 rfl
theorem dL_law_1356 : decode code 1356 = .ok (.iadd, 1) := zDec_at zB_dL_law_1340 12 rfl
theorem dL_law_1357 : decode code 1357 = .ok (.iaload, 1) := zDec_at zB_dL_law_1340 13 rfl
theorem dL_law_1358 : decode code 1358 = .ok (.aload_n 0, 1) := zDec_at zB_dL_law_1340 14 rfl
theorem dL_law_1359 : decode code 1359 = .ok (.iload_n 3, 1) := zDec_at zB_dL_law_1340 15 rfl
theorem dL_law_1360 : decode code 1360 = .ok (.iconst 2, 1) := zDec_at zB_dL_law_1340 16 rfl
theorem dL_law_1361 : decode code 1361 = .ok (.iadd, 1) := zDec_at zB_dL_law_1340 17 rfl
theorem dL_law_1362 : decode code 1362 = .ok (.iaload, 1) := zDec_at zB_dL_law_1340 18 rfl
theorem dL_law_1363 : decode code 1363 = .ok (.aload_n 0, 1) := zDec_at zB_dL_law_1340 19 rfl
