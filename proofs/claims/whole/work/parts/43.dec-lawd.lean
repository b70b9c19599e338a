theorem dL_law_840 : decode code 840 = .ok (.iadd, 1) := by decide +kernel
theorem dL_law_841 : decode code 841 = .ok (.iaload, 1) := by decide +kernel
theorem dL_law_842 : decode code 842 = .ok (.aload_n 0, 1) := by decide +kernel
theorem dL_law_843 : decode code 843 = .ok (.iload 4, 2) := by decide +kernel
theorem dL_law_845 : decode code 845 = .ok (.iconst 2, 1) := by decide +kernel
theorem dL_law_846 : decode code 846 = .ok (.iadd, 1) := by decide +kernel
theorem dL_law_847 : decode code 847 = .ok (.iaload, 1) := by decide +kernel
theorem dL_law_848 : decode code 848 = .ok (.aload_n 3, 1) := by decide +kernel
theorem dL_law_849 : decode code 849 = .ok (.invokestatic 106, 3) := by decide +kernel
theorem dL_law_852 : decode code 852 = .ok (.istore 5, 2) := by decide +kernel
theorem dL_law_854 : decode code 854 = .ok (.aload_n 2, 1) := by decide +kernel
theorem dL_law_855 : decode code 855 = .ok (.aload_n 0, 1) := by decide +kernel
theorem dL_law_856 : decode code 856 = .ok (.iload 4, 2) := by decide +kernel
theorem dL_law_858 : decode code 858 = .ok (.iconst 1, 1) := by decide +kernel
theorem dL_law_859 : decode code 859 = .ok (.iadd, 1) := by decide +kernel
theorem dL_law_860 : decode code 860 = .ok (.iaload, 1) := by decide +kernel
theorem dL_law_861 : decode code 861 = .ok (.aload_n 0, 1) := by decide +kernel
theorem dL_law_862 : decode code 862 = .ok (.iload 4, 2) := by decide +kernel
theorem dL_law_864 : decode code 864 = .ok (.iconst 2, 1) := by decide +kernel
theorem dL_law_865 : decode code 865 = .ok (.iadd, 1) := by decide +kernel
theorem dL_law_866 : decode code 866 = .ok (.iaload, 1) := by decide +kernel
theorem dL_law_867 : decode code 867 = .ok (.invokevirtual 108, 3) := by decide +kernel
theorem dL_law_870 : decode code 870 = .ok (.istore 6, 2) := by decide +kernel
theorem dL_law_872 : decode code 872 = .ok (.aload_n 2, 1) := by decide +kernel
theorem dL_law_873 : decode code 873 = .ok (.invokevirtual 71, 3) := by decide +kernel
theorem dL_law_876 : decode code 876 = .ok (.iload 5, 2) := by decide +kernel
theorem dL_law_878 : decode code 878 = .ok (.if_icmp .eq 5, 3) := by decide +kernel
theorem dL_law_881 : decode code 881 = .ok (.iconst 0, 1) := by decide +kernel
theorem dL_law_882 : decode code 882 = .ok (.ireturn, 1) := by decide +kernel
theorem dL_law_883 : decode code 883 = .ok (.iload 5, 2) := by decide +kernel
theorem dL_law_885 : decode code 885 = .ok (.ifCond .ne 15, 3) := by decide +kernel
theorem dL_law_888 : decode code 888 = .ok (.aload_n 3, 1) := by decide +kernel
theorem dL_law_889 : decode code 889 = .ok (.iconst 0, 1) := by decide +kernel
theorem dL_law_890 : decode code 890 = .ok (.laload, 1) := by decide +kernel
theorem dL_law_891 : decode code 891 = .ok (.iload 6, 2) := by decide +kernel
theorem dL_law_893 : decode code 893 = .ok (.i2l, 1) := by decide +kernel
theorem dL_law_894 : decode code 894 = .ok (.lcmp, 1) := by decide +kernel
theorem dL_law_895 : decode code 895 = .ok (.ifCond .eq 5, 3) := by decide +kernel
theorem dL_law_898 : decode code 898 = .ok (.iconst 0, 1) := by decide +kernel
theorem dL_law_899 : decode code 899 = .ok (.ireturn, 1) := by decide +kernel
theorem dL_law_900 : decode code 900 = .ok (.goto 183, 3) := by decide +kernel
theorem dL_law_903 : decode code 903 = .ok (.aload_n 1, 1) := by decide +kernel
theorem dL_law_904 : decode code 904 = .ok (.aload_n 0, 1) := by decide +kernel
theorem dL_law_905 : decode code 905 = .ok (.iload 4, 2) := by decide +kernel
theorem dL_law_907 : decode code 907 = .ok (.iconst 1, 1) := by decide +kernel
theorem dL_law_908 : decode code 908 = .ok (.iadd, 1) := by decide +kernel
theorem dL_law_909 : decode code 909 = .ok (.iaload, 1) := by decide +kernel
theorem dL_law_910 : decode code 910 = .ok (.aload_n 3, 1) := by decide +kernel
theorem dL_law_911 : decode code 911 = .ok (.invokestatic 109, 3) := by decide +kernel
theorem dL_law_914 : decode code 914 = .ok (.istore 5, 2) := by decide +kernel
theorem dL_law_916 : decode code 916 = .ok (.aload_n 2, 1) := by decide +kernel
theorem dL_law_917 : decode code 917 = .ok (.aload_n 0, 1) := by decide +kernel
theorem dL_law_918 : decode code 918 = .ok (.iload 4, 2) := by decide +kernel
theorem dL_law_920 : decode code 920 = .ok (.iconst 1, 1) := by decide +kernel
theorem dL_law_921 : decode code 921 = .ok (.iadd, 1) := by decide +kernel
theorem dL_law_922 : decode code 922 = .ok (.iaload, 1) := by decide +kernel
theorem dL_law_923 : decode code 923 = .ok (.invokevirtual 111, 3) := by decide +kernel
theorem dL_law_926 : decode code 926 = .ok (.istore 6, 2) := by decide +kernel
theorem dL_law_928 : decode code 928 = .ok (.aload_n 2, 1) := by decide +kernel
theorem dL_law_929 : decode code 929 = .ok (.invokevirtual 71, 3) := by decide +kernel
theorem dL_law_932 : decode code 932 = .ok (.iload 5, 2) := by decide +kernel
theorem dL_law_934 : decode code 934 = .ok (.if_icmp .eq 5, 3) := by decide +kernel
theorem dL_law_937 : decode code 937 = .ok (.iconst 0, 1) := by decide +kernel
theorem dL_law_938 : decode code 938 = .ok (.ireturn, 1) := by decide +kernel
theorem dL_law_939 : decode code 939 = .ok (.iload 5, 2) := by decide +kernel
theorem dL_law_941 : decode code 941 = .ok (.ifCond .ne 15, 3) := by decide +kernel
theorem dL_law_944 : decode code 944 = .ok (.aload_n 3, 1) := by decide +kernel
theorem dL_law_945 : decode code 945 = .ok (.iconst 0, 1) := by decide +kernel
theorem dL_law_946 : decode code 946 = .ok (.laload, 1) := by decide +kernel
theorem dL_law_947 : decode code 947 = .ok (.iload 6, 2) := by decide +kernel
theorem dL_law_949 : decode code 949 = .ok (.i2l, 1) := by decide +kernel
theorem dL_law_950 : decode code 950 = .ok (.lcmp, 1) := by decide +kernel
theorem dL_law_951 : decode code 951 = .ok (.ifCond .eq 5, 3) := by decide +kernel
theorem dL_law_954 : decode code 954 = .ok (.iconst 0, 1) := by decide +kernel
theorem dL_law_955 : decode code 955 = .ok (.ireturn, 1) := by decide +kernel
theorem dL_law_956 : decode code 956 = .ok (.goto 127, 3) := by decide +kernel
theorem dL_law_959 : decode code 959 = .ok (.aload_n 1, 1) := by decide +kernel
theorem dL_law_960 : decode code 960 = .ok (.aload_n 0, 1) := by decide +kernel
theorem dL_law_961 : decode code 961 = .ok (.iload 4, 2) := by decide +kernel
theorem dL_law_963 : decode code 963 = .ok (.iconst 1, 1) := by decide +kernel
theorem dL_law_964 : decode code 964 = .ok (.iadd, 1) := by decide +kernel
theorem dL_law_965 : decode code 965 = .ok (.iaload, 1) := by decide +kernel
theorem dL_law_966 : decode code 966 = .ok (.aload_n 3, 1) := by decide +kernel
theorem dL_law_967 : decode code 967 = .ok (.invokestatic 112, 3) := by decide +kernel
theorem dL_law_970 : decode code 970 = .ok (.istore 5, 2) := by decide +kernel
theorem dL_law_972 : decode code 972 = .ok (.aload_n 2, 1) := by decide +kernel
theorem dL_law_973 : decode code 973 = .ok (.aload_n 0, 1) := by decide +kernel
theorem dL_law_974 : decode code 974 = .ok (.iload 4, 2) := by decide +kernel
theorem dL_law_976 : decode code 976 = .ok (.iconst 1, 1) := by decide +kernel
theorem dL_law_977 : decode code 977 = .ok (.iadd, 1) := by decide +kernel
theorem dL_law_978 : decode code 978 = .ok (.iaload, 1) := by decide +kernel
theorem dL_law_979 : decode code 979 = .ok (.invokevirtual 114, 3) := by decide +kernel
theorem dL_law_982 : decode code 982 = .ok (.istore 6, 2) := by decide +kernel
theorem dL_law_984 : decode code 984 = .ok (.aload_n 2, 1) := by decide +kernel
theorem dL_law_985 : decode code 985 = .ok (.invokevirtual 71, 3) := by decide +kernel
theorem dL_law_988 : decode code 988 = .ok (.iload 5, 2) := by decide +kernel
theorem dL_law_990 : decode code 990 = .ok (.if_icmp .eq 5, 3) := by decide +kernel
theorem dL_law_993 : decode code 993 = .ok (.iconst 0, 1) := by decide +kernel
theorem dL_law_994 : decode code 994 = .ok (.ireturn, 1) := by decide +kernel
theorem dL_law_995 : decode code 995 = .ok (.iload 5, 2) := by decide +kernel
theorem dL_law_997 : decode code 997 = .ok (.ifCond .ne 15, 3) := by decide +kernel
theorem dL_law_1000 : decode code 1000 = .ok (.aload_n 3, 1) := by decide +kernel
theorem dL_law_1001 : decode code 1001 = .ok (.iconst 0, 1) := by decide +kernel
theorem dL_law_1002 : decode code 1002 = .ok (.laload, 1) := by decide +kernel
theorem dL_law_1003 : decode code 1003 = .ok (.iload 6, 2) := by decide +kernel
theorem dL_law_1005 : decode code 1005 = .ok (.i2l, 1) := by decide +kernel
theorem dL_law_1006 : decode code 1006 = .ok (.lcmp, 1) := by decide +kernel
theorem dL_law_1007 : decode code 1007 = .ok (.ifCond .eq 5, 3) := by decide +kernel
theorem dL_law_1010 : decode code 1010 = .ok (.iconst 0, 1) := by decide +kernel
theorem dL_law_1011 : decode code 1011 = .ok (.ireturn, 1) := by decide +kernel
theorem dL_law_1012 : decode code 1012 = .ok (.goto 71, 3) := by decide +kernel
theorem dL_law_1015 : decode code 1015 = .ok (.aload_n 1, 1) := by decide +kernel
theorem dL_law_1016 : decode code 1016 = .ok (.aload_n 0, 1) := by decide +kernel
theorem dL_law_1017 : decode code 1017 = .ok (.iload 4, 2) := by decide +kernel
theorem dL_law_1019 : decode code 1019 = .ok (.iconst 1, 1) := by decide +kernel
theorem dL_law_1020 : decode code 1020 = .ok (.iadd, 1) := by decide +kernel
theorem dL_law_1021 : decode code 1021 = .ok (.iaload, 1) := by decide +kernel
theorem dL_law_1022 : decode code 1022 = .ok (.aload_n 0, 1) := by decide +kernel
theorem dL_law_1023 : decode code 1023 = .ok (.iload 4, 2) := by decide +kernel
theorem dL_law_1025 : decode code 1025 = .ok (.iconst 2, 1) := by decide +kernel
theorem dL_law_1026 : decode code 1026 = .ok (.iadd, 1) := by decide +kernel
theorem dL_law_1027 : decode code 1027 = .ok (.iaload, 1) := by decide +kernel
theorem dL_law_1028 : decode code 1028 = .ok (.aload_n 3, 1) := by decide +kernel
theorem dL_law_1029 : decode code 1029 = .ok (.invokestatic 115, 3) := by decide +kernel
theorem dL_law_1032 : decode code 1032 = .ok (.istore 5, 2) := by decide +kernel
theorem dL_law_1034 : decode code 1034 = .ok (.aload_n 2, 1) := by decide +kernel
theorem dL_law_1035 : decode code 1035 = .ok (.aload_n 0, 1) := by decide +kernel
theorem dL_law_1036 : decode code 1036 = .ok (.iload 4, 2) := by decide +kernel
theorem dL_law_1038 : decode code 1038 = .ok (.iconst 1, 1) := by decide +kernel
theorem dL_law_1039 : decode code 1039 = .ok (.iadd, 1) := by decide +kernel
theorem dL_law_1040 : decode code 1040 = .ok (.iaload, 1) := by decide +kernel
theorem dL_law_1041 : decode code 1041 = .ok (.aload_n 0, 1) := by decide +kernel
theorem dL_law_1042 : decode code 1042 = .ok (.iload 4, 2) := by decide +kernel
theorem dL_law_1044 : decode code 1044 = .ok (.iconst 2, 1) := by decide +kernel
theorem dL_law_1045 : decode code 1045 = .ok (.iadd, 1) := by decide +kernel
theorem dL_law_1046 : decode code 1046 = .ok (.iaload, 1) := by decide +kernel
theorem dL_law_1047 : decode code 1047 = .ok (.invokevirtual 117, 3) := by decide +kernel
theorem dL_law_1050 : decode code 1050 = .ok (.istore 6, 2) := by decide +kernel
theorem dL_law_1052 : decode code 1052 = .ok (.aload_n 2, 1) := by decide +kernel
theorem dL_law_1053 : decode code 1053 = .ok (.invokevirtual 71, 3) := by decide +kernel
theorem dL_law_1056 : decode code 1056 = .ok (.iload 5, 2) := by decide +kernel
theorem dL_law_1058 : decode code 1058 = .ok (.if_icmp .eq 5, 3) := by decide +kernel
theorem dL_law_1061 : decode code 1061 = .ok (.iconst 0, 1) := by decide +kernel
theorem dL_law_1062 : decode code 1062 = .ok (.ireturn, 1) := by decide +kernel
theorem dL_law_1063 : decode code 1063 = .ok (.iload 5, 2) := by decide +kernel
theorem dL_law_1065 : decode code 1065 = .ok (.ifCond .ne 15, 3) := by decide +kernel
theorem dL_law_1068 : decode code 1068 = .ok (.aload_n 3, 1) := by decide +kernel
theorem dL_law_1069 : decode code 1069 = .ok (.iconst 0, 1) := by decide +kernel
theorem dL_law_1070 : decode code 1070 = .ok (.laload, 1) := by decide +kernel
theorem dL_law_1071 : decode code 1071 = .ok (.iload 6, 2) := by decide +kernel
theorem dL_law_1073 : decode code 1073 = .ok (.i2l, 1) := by decide +kernel
theorem dL_law_1074 : decode code 1074 = .ok (.lcmp, 1) := by decide +kernel
theorem dL_law_1075 : decode code 1075 = .ok (.ifCond .eq 5, 3) := by decide +kernel
theorem dL_law_1078 : decode code 1078 = .ok (.iconst 0, 1) := by decide +kernel
theorem dL_law_1079 : decode code 1079 = .ok (.ireturn, 1) := by decide +kernel
theorem dL_law_1080 : decode code 1080 = .ok (.goto 3, 3) := by decide +kernel
theorem dL_law_1083 : decode code 1083 = .ok (.iinc 4 5, 3) := by decide +kernel
theorem dL_law_1086 : decode code 1086 = .ok (.goto (-1063), 3) := by decide +kernel
theorem dL_law_1089 : decode code 1089 = .ok (.iconst 1, 1) := by decide +kernel
theorem dL_law_1090 : decode code 1090 = .ok (.ireturn, 1) := by decide +kernel
