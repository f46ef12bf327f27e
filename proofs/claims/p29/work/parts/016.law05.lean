theorem dL_law_789 : decode cL_law 789 = .ok (.iload 17, 2) := by decide +kernel
theorem dL_law_791 : decode cL_law 791 = .ok (.iconst 3, 1) := by decide +kernel
theorem dL_law_792 : decode cL_law 792 = .ok (.ishr, 1) := by decide +kernel
theorem dL_law_793 : decode cL_law 793 = .ok (.iload 17, 2) := by decide +kernel
theorem dL_law_795 : decode cL_law 795 = .ok (.iconst 1, 1) := by decide +kernel
theorem dL_law_796 : decode cL_law 796 = .ok (.iand, 1) := by decide +kernel
theorem dL_law_797 : decode cL_law 797 = .ok (.ifCond .ne 7, 3) := by decide +kernel
theorem dL_law_800 : decode cL_law 800 = .ok (.iconst 4, 1) := by decide +kernel
theorem dL_law_801 : decode cL_law 801 = .ok (.goto 5, 3) := by decide +kernel
theorem dL_law_804 : decode cL_law 804 = .ok (.bipush 12, 2) := by decide +kernel
theorem dL_law_806 : decode cL_law 806 = .ok (.irem, 1) := by decide +kernel
theorem dL_law_807 : decode cL_law 807 = .ok (.iadd, 1) := by decide +kernel
theorem dL_law_808 : decode cL_law 808 = .ok (.iastore, 1) := by decide +kernel
theorem dL_law_809 : decode cL_law 809 = .ok (.aload_n 1, 1) := by decide +kernel
theorem dL_law_810 : decode cL_law 810 = .ok (.aload_n 3, 1) := by decide +kernel
theorem dL_law_811 : decode cL_law 811 = .ok (.iload 10, 2) := by decide +kernel
theorem dL_law_813 : decode cL_law 813 = .ok (.iaload, 1) := by decide +kernel
theorem dL_law_814 : decode cL_law 814 = .ok (.invokevirtual 68, 3) := by decide +kernel
theorem dL_law_817 : decode cL_law 817 = .ok (.istore 23, 2) := by decide +kernel
theorem dL_law_819 : decode cL_law 819 = .ok (.aload_n 1, 1) := by decide +kernel
theorem dL_law_820 : decode cL_law 820 = .ok (.invokevirtual 64, 3) := by decide +kernel
theorem dL_law_823 : decode cL_law 823 = .ok (.istore 24, 2) := by decide +kernel
theorem dL_law_825 : decode cL_law 825 = .ok (.aload_n 1, 1) := by decide +kernel
theorem dL_law_826 : decode cL_law 826 = .ok (.bipush 8, 2) := by decide +kernel
theorem dL_law_828 : decode cL_law 828 = .ok (.aload_n 3, 1) := by decide +kernel
theorem dL_law_829 : decode cL_law 829 = .ok (.iload 10, 2) := by decide +kernel
theorem dL_law_831 : decode cL_law 831 = .ok (.iaload, 1) := by decide +kernel
theorem dL_law_832 : decode cL_law 832 = .ok (.bipush 10, 2) := by decide +kernel
theorem dL_law_834 : decode cL_law 834 = .ok (.iload 17, 2) := by decide +kernel
theorem dL_law_836 : decode cL_law 836 = .ok (.bipush 7, 2) := by decide +kernel
theorem dL_law_838 : decode cL_law 838 = .ok (.ishr, 1) := by decide +kernel
theorem dL_law_839 : decode cL_law 839 = .ok (.bipush 120, 2) := by decide +kernel
theorem dL_law_841 : decode cL_law 841 = .ok (.irem, 1) := by decide +kernel
theorem dL_law_842 : decode cL_law 842 = .ok (.iadd, 1) := by decide +kernel
theorem dL_law_843 : decode cL_law 843 = .ok (.iconst 0, 1) := by decide +kernel
theorem dL_law_844 : decode cL_law 844 = .ok (.invokestatic 55, 3) := by decide +kernel
theorem dL_law_847 : decode cL_law 847 = .ok (.iload 10, 2) := by decide +kernel
theorem dL_law_849 : decode cL_law 849 = .ok (.if_icmp .ne 54, 3) := by decide +kernel
theorem dL_law_852 : decode cL_law 852 = .ok (.aload_n 1, 1) := by decide +kernel
theorem dL_law_853 : decode cL_law 853 = .ok (.iload 10, 2) := by decide +kernel
theorem dL_law_855 : decode cL_law 855 = .ok (.invokevirtual 49, 3) := by decide +kernel
theorem dL_law_858 : decode cL_law 858 = .ok (.ifCond .lt 7, 3) := by decide +kernel
theorem dL_law_861 : decode cL_law 861 = .ok (.iconst 1, 1) := by decide +kernel
theorem dL_law_862 : decode cL_law 862 = .ok (.goto 4, 3) := by decide +kernel
theorem dL_law_865 : decode cL_law 865 = .ok (.iconst 0, 1) := by decide +kernel
theorem dL_law_866 : decode cL_law 866 = .ok (.iload 23, 2) := by decide +kernel
theorem dL_law_868 : decode cL_law 868 = .ok (.ifCond .lt 7, 3) := by decide +kernel
theorem dL_law_871 : decode cL_law 871 = .ok (.iconst 1, 1) := by decide +kernel
theorem dL_law_872 : decode cL_law 872 = .ok (.goto 4, 3) := by decide +kernel
theorem dL_law_875 : decode cL_law 875 = .ok (.iconst 0, 1) := by decide +kernel
theorem dL_law_876 : decode cL_law 876 = .ok (.if_icmp .ne 27, 3) := by decide +kernel
theorem dL_law_879 : decode cL_law 879 = .ok (.aload_n 1, 1) := by decide +kernel
theorem dL_law_880 : decode cL_law 880 = .ok (.invokevirtual 64, 3) := by decide +kernel
theorem dL_law_883 : decode cL_law 883 = .ok (.iload 24, 2) := by decide +kernel
theorem dL_law_885 : decode cL_law 885 = .ok (.iload 23, 2) := by decide +kernel
theorem dL_law_887 : decode cL_law 887 = .ok (.ifCond .ge 7, 3) := by decide +kernel
theorem dL_law_890 : decode cL_law 890 = .ok (.iconst 1, 1) := by decide +kernel
theorem dL_law_891 : decode cL_law 891 = .ok (.goto 4, 3) := by decide +kernel
theorem dL_law_894 : decode cL_law 894 = .ok (.iconst 0, 1) := by decide +kernel
theorem dL_law_895 : decode cL_law 895 = .ok (.iadd, 1) := by decide +kernel
theorem dL_law_896 : decode cL_law 896 = .ok (.if_icmp .ne 7, 3) := by decide +kernel
theorem dL_law_899 : decode cL_law 899 = .ok (.iconst 1, 1) := by decide +kernel
theorem dL_law_900 : decode cL_law 900 = .ok (.goto 4, 3) := by decide +kernel
theorem dL_law_903 : decode cL_law 903 = .ok (.iconst 0, 1) := by decide +kernel
theorem dL_law_904 : decode cL_law 904 = .ok (.istore 13, 2) := by decide +kernel
theorem dL_law_906 : decode cL_law 906 = .ok (.iconst 1, 1) := by decide +kernel
theorem dL_law_907 : decode cL_law 907 = .ok (.aload_n 1, 1) := by decide +kernel
theorem dL_law_908 : decode cL_law 908 = .ok (.iload 10, 2) := by decide +kernel
theorem dL_law_910 : decode cL_law 910 = .ok (.invokevirtual 52, 3) := by decide +kernel
theorem dL_law_913 : decode cL_law 913 = .ok (.isub, 1) := by decide +kernel
theorem dL_law_914 : decode cL_law 914 = .ok (.istore 25, 2) := by decide +kernel
theorem dL_law_916 : decode cL_law 916 = .ok (.iconst 0, 1) := by decide +kernel
theorem dL_law_917 : decode cL_law 917 = .ok (.istore 26, 2) := by decide +kernel
theorem dL_law_919 : decode cL_law 919 = .ok (.iload 26, 2) := by decide +kernel
theorem dL_law_921 : decode cL_law 921 = .ok (.aload_n 1, 1) := by decide +kernel
theorem dL_law_922 : decode cL_law 922 = .ok (.iload 10, 2) := by decide +kernel
theorem dL_law_924 : decode cL_law 924 = .ok (.invokevirtual 52, 3) := by decide +kernel
theorem dL_law_927 : decode cL_law 927 = .ok (.if_icmp .ge 25, 3) := by decide +kernel
theorem dL_law_930 : decode cL_law 930 = .ok (.iload 25, 2) := by decide +kernel
theorem dL_law_932 : decode cL_law 932 = .ok (.aload_n 2, 1) := by decide +kernel
theorem dL_law_933 : decode cL_law 933 = .ok (.aload_n 1, 1) := by decide +kernel
theorem dL_law_934 : decode cL_law 934 = .ok (.iload 10, 2) := by decide +kernel
theorem dL_law_936 : decode cL_law 936 = .ok (.invokevirtual 49, 3) := by decide +kernel
theorem dL_law_939 : decode cL_law 939 = .ok (.iload 26, 2) := by decide +kernel
theorem dL_law_941 : decode cL_law 941 = .ok (.iadd, 1) := by decide +kernel
theorem dL_law_942 : decode cL_law 942 = .ok (.iaload, 1) := by decide +kernel
theorem dL_law_943 : decode cL_law 943 = .ok (.iadd, 1) := by decide +kernel
theorem dL_law_944 : decode cL_law 944 = .ok (.istore 25, 2) := by decide +kernel
theorem dL_law_946 : decode cL_law 946 = .ok (.iinc 26 1, 3) := by decide +kernel
theorem dL_law_949 : decode cL_law 949 = .ok (.goto (-30), 3) := by decide +kernel
theorem dL_law_952 : decode cL_law 952 = .ok (.iload 13, 2) := by decide +kernel
theorem dL_law_954 : decode cL_law 954 = .ok (.ifCond .eq 24, 3) := by decide +kernel
theorem dL_law_957 : decode cL_law 957 = .ok (.iload 23, 2) := by decide +kernel
theorem dL_law_959 : decode cL_law 959 = .ok (.ifCond .lt 15, 3) := by decide +kernel
theorem dL_law_962 : decode cL_law 962 = .ok (.iload 25, 2) := by decide +kernel
theorem dL_law_964 : decode cL_law 964 = .ok (.aload_n 3, 1) := by decide +kernel
theorem dL_law_965 : decode cL_law 965 = .ok (.iload 10, 2) := by decide +kernel
theorem dL_law_967 : decode cL_law 967 = .ok (.iaload, 1) := by decide +kernel
theorem dL_law_968 : decode cL_law 968 = .ok (.iload 23, 2) := by decide +kernel
theorem dL_law_970 : decode cL_law 970 = .ok (.iadd, 1) := by decide +kernel
theorem dL_law_971 : decode cL_law 971 = .ok (.if_icmp .ne 7, 3) := by decide +kernel
theorem dL_law_974 : decode cL_law 974 = .ok (.iconst 1, 1) := by decide +kernel
theorem dL_law_975 : decode cL_law 975 = .ok (.goto 4, 3) := by decide +kernel
theorem dL_law_978 : decode cL_law 978 = .ok (.iconst 0, 1) := by decide +kernel
theorem dL_law_979 : decode cL_law 979 = .ok (.istore 13, 2) := by decide +kernel
theorem dL_law_981 : decode cL_law 981 = .ok (.iinc 10 1, 3) := by decide +kernel
theorem dL_law_984 : decode cL_law 984 = .ok (.goto 786, 3) := by decide +kernel
theorem dL_law_987 : decode cL_law 987 = .ok (.iload 18, 2) := by decide +kernel
theorem dL_law_989 : decode cL_law 989 = .ok (.bipush 6, 2) := by decide +kernel
theorem dL_law_991 : decode cL_law 991 = .ok (.if_icmp .ne 117, 3) := by decide +kernel
theorem dL_law_994 : decode cL_law 994 = .ok (.iload 17, 2) := by decide +kernel
theorem dL_law_996 : decode cL_law 996 = .ok (.iconst 3, 1) := by decide +kernel
theorem dL_law_997 : decode cL_law 997 = .ok (.iand, 1) := by decide +kernel
theorem dL_law_998 : decode cL_law 998 = .ok (.ifCond .ne 110, 3) := by decide +kernel
theorem dL_law_1001 : decode cL_law 1001 = .ok (.iload 10, 2) := by decide +kernel
theorem dL_law_1003 : decode cL_law 1003 = .ok (.ifCond .ne 8, 3) := by decide +kernel
theorem dL_law_1006 : decode cL_law 1006 = .ok (.bipush (-13), 2) := by decide +kernel
theorem dL_law_1008 : decode cL_law 1008 = .ok (.goto 12, 3) := by decide +kernel
theorem dL_law_1011 : decode cL_law 1011 = .ok (.aload_n 1, 1) := by decide +kernel
theorem dL_law_1012 : decode cL_law 1012 = .ok (.iconst 1, 1) := by decide +kernel
theorem dL_law_1013 : decode cL_law 1013 = .ok (.iload 19, 2) := by decide +kernel
theorem dL_law_1015 : decode cL_law 1015 = .ok (.iconst 0, 1) := by decide +kernel
theorem dL_law_1016 : decode cL_law 1016 = .ok (.iconst 0, 1) := by decide +kernel
theorem dL_law_1017 : decode cL_law 1017 = .ok (.invokestatic 55, 3) := by decide +kernel
theorem dL_law_1020 : decode cL_law 1020 = .ok (.istore 23, 2) := by decide +kernel
theorem dL_law_1022 : decode cL_law 1022 = .ok (.iconst 1, 1) := by decide +kernel
theorem dL_law_1023 : decode cL_law 1023 = .ok (.iload 17, 2) := by decide +kernel
theorem dL_law_1025 : decode cL_law 1025 = .ok (.iconst 2, 1) := by decide +kernel
theorem dL_law_1026 : decode cL_law 1026 = .ok (.ishr, 1) := by decide +kernel
theorem dL_law_1027 : decode cL_law 1027 = .ok (.bipush 30, 2) := by decide +kernel
theorem dL_law_1029 : decode cL_law 1029 = .ok (.irem, 1) := by decide +kernel
theorem dL_law_1030 : decode cL_law 1030 = .ok (.iadd, 1) := by decide +kernel
theorem dL_law_1031 : decode cL_law 1031 = .ok (.istore 24, 2) := by decide +kernel
theorem dL_law_1033 : decode cL_law 1033 = .ok (.aload_n 1, 1) := by decide +kernel
theorem dL_law_1034 : decode cL_law 1034 = .ok (.invokevirtual 84, 3) := by decide +kernel
theorem dL_law_1037 : decode cL_law 1037 = .ok (.istore 25, 2) := by decide +kernel
theorem dL_law_1039 : decode cL_law 1039 = .ok (.aload_n 1, 1) := by decide +kernel
theorem dL_law_1040 : decode cL_law 1040 = .ok (.iload 24, 2) := by decide +kernel
theorem dL_law_1042 : decode cL_law 1042 = .ok (.invokevirtual 107, 3) := by decide +kernel
theorem dL_law_1045 : decode cL_law 1045 = .ok (.iload 25, 2) := by decide +kernel
theorem dL_law_1047 : decode cL_law 1047 = .ok (.iload 24, 2) := by decide +kernel
theorem dL_law_1049 : decode cL_law 1049 = .ok (.iadd, 1) := by decide +kernel
theorem dL_law_1050 : decode cL_law 1050 = .ok (.if_icmp .ne 52, 3) := by decide +kernel
theorem dL_law_1053 : decode cL_law 1053 = .ok (.iload 10, 2) := by decide +kernel
theorem dL_law_1055 : decode cL_law 1055 = .ok (.ifCond .eq 43, 3) := by decide +kernel
theorem dL_law_1058 : decode cL_law 1058 = .ok (.aload_n 1, 1) := by decide +kernel
theorem dL_law_1059 : decode cL_law 1059 = .ok (.iconst 1, 1) := by decide +kernel
theorem dL_law_1060 : decode cL_law 1060 = .ok (.iload 19, 2) := by decide +kernel
theorem dL_law_1062 : decode cL_law 1062 = .ok (.iconst 0, 1) := by decide +kernel
theorem dL_law_1063 : decode cL_law 1063 = .ok (.iconst 0, 1) := by decide +kernel
theorem dL_law_1064 : decode cL_law 1064 = .ok (.invokestatic 55, 3) := by decide +kernel
theorem dL_law_1067 : decode cL_law 1067 = .ok (.iload 23, 2) := by decide +kernel
theorem dL_law_1069 : decode cL_law 1069 = .ok (.bipush (-13), 2) := by decide +kernel
theorem dL_law_1071 : decode cL_law 1071 = .ok (.if_icmp .ne 8, 3) := by decide +kernel
theorem dL_law_1074 : decode cL_law 1074 = .ok (.bipush (-13), 2) := by decide +kernel
theorem dL_law_1076 : decode cL_law 1076 = .ok (.goto 19, 3) := by decide +kernel
theorem dL_law_1079 : decode cL_law 1079 = .ok (.iload 23, 2) := by decide +kernel
theorem dL_law_1081 : decode cL_law 1081 = .ok (.iload 24, 2) := by decide +kernel
theorem dL_law_1083 : decode cL_law 1083 = .ok (.if_icmp .le 11, 3) := by decide +kernel
theorem dL_law_1086 : decode cL_law 1086 = .ok (.iload 23, 2) := by decide +kernel
theorem dL_law_1088 : decode cL_law 1088 = .ok (.iload 24, 2) := by decide +kernel
theorem dL_law_1090 : decode cL_law 1090 = .ok (.isub, 1) := by decide +kernel
theorem dL_law_1091 : decode cL_law 1091 = .ok (.goto 4, 3) := by decide +kernel
theorem dL_law_1094 : decode cL_law 1094 = .ok (.iconst 0, 1) := by decide +kernel
theorem dL_law_1095 : decode cL_law 1095 = .ok (.if_icmp .ne 7, 3) := by decide +kernel
theorem dL_law_1098 : decode cL_law 1098 = .ok (.iconst 1, 1) := by decide +kernel
theorem dL_law_1099 : decode cL_law 1099 = .ok (.goto 4, 3) := by decide +kernel
theorem dL_law_1102 : decode cL_law 1102 = .ok (.iconst 0, 1) := by decide +kernel
theorem dL_law_1103 : decode cL_law 1103 = .ok (.istore 13, 2) := by decide +kernel
theorem dL_law_1105 : decode cL_law 1105 = .ok (.goto 665, 3) := by decide +kernel
theorem dL_law_1108 : decode cL_law 1108 = .ok (.iload 18, 2) := by decide +kernel
theorem dL_law_1110 : decode cL_law 1110 = .ok (.bipush 8, 2) := by decide +kernel
theorem dL_law_1112 : decode cL_law 1112 = .ok (.if_icmp .ge 178, 3) := by decide +kernel
theorem dL_law_1115 : decode cL_law 1115 = .ok (.iload 10, 2) := by decide +kernel
theorem dL_law_1117 : decode cL_law 1117 = .ok (.ifCond .le 173, 3) := by decide +kernel
theorem dL_law_1120 : decode cL_law 1120 = .ok (.aload_n 1, 1) := by decide +kernel
theorem dL_law_1121 : decode cL_law 1121 = .ok (.invokevirtual 64, 3) := by decide +kernel
theorem dL_law_1124 : decode cL_law 1124 = .ok (.istore 23, 2) := by decide +kernel
theorem dL_law_1126 : decode cL_law 1126 = .ok (.aload_n 1, 1) := by decide +kernel
theorem dL_law_1127 : decode cL_law 1127 = .ok (.iload 19, 2) := by decide +kernel
theorem dL_law_1129 : decode cL_law 1129 = .ok (.invokevirtual 49, 3) := by decide +kernel
theorem dL_law_1132 : decode cL_law 1132 = .ok (.ifCond .ge 15, 3) := by decide +kernel
theorem dL_law_1135 : decode cL_law 1135 = .ok (.aload 4, 2) := by decide +kernel
theorem dL_law_1137 : decode cL_law 1137 = .ok (.iload 19, 2) := by decide +kernel
theorem dL_law_1139 : decode cL_law 1139 = .ok (.iaload, 1) := by decide +kernel
theorem dL_law_1140 : decode cL_law 1140 = .ok (.ifCond .ne 7, 3) := by decide +kernel
theorem dL_law_1143 : decode cL_law 1143 = .ok (.iconst 1, 1) := by decide +kernel
theorem dL_law_1144 : decode cL_law 1144 = .ok (.goto 4, 3) := by decide +kernel
theorem dL_law_1147 : decode cL_law 1147 = .ok (.iconst 0, 1) := by decide +kernel
theorem dL_law_1148 : decode cL_law 1148 = .ok (.istore 24, 2) := by decide +kernel
theorem dL_law_1150 : decode cL_law 1150 = .ok (.aload 4, 2) := by decide +kernel
theorem dL_law_1152 : decode cL_law 1152 = .ok (.iload 19, 2) := by decide +kernel
theorem dL_law_1154 : decode cL_law 1154 = .ok (.iaload, 1) := by decide +kernel
theorem dL_law_1155 : decode cL_law 1155 = .ok (.ifCond .ne 17, 3) := by decide +kernel
theorem dL_law_1158 : decode cL_law 1158 = .ok (.aload_n 1, 1) := by decide +kernel
theorem dL_law_1159 : decode cL_law 1159 = .ok (.iload 19, 2) := by decide +kernel
theorem dL_law_1161 : decode cL_law 1161 = .ok (.invokevirtual 58, 3) := by decide +kernel
theorem dL_law_1164 : decode cL_law 1164 = .ok (.iconst (-1), 1) := by decide +kernel
theorem dL_law_1165 : decode cL_law 1165 = .ok (.if_icmp .ne 7, 3) := by decide +kernel
theorem dL_law_1168 : decode cL_law 1168 = .ok (.iconst 1, 1) := by decide +kernel
theorem dL_law_1169 : decode cL_law 1169 = .ok (.goto 4, 3) := by decide +kernel
theorem dL_law_1172 : decode cL_law 1172 = .ok (.iconst 0, 1) := by decide +kernel
theorem dL_law_1173 : decode cL_law 1173 = .ok (.istore 25, 2) := by decide +kernel
theorem dL_law_1175 : decode cL_law 1175 = .ok (.aload_n 1, 1) := by decide +kernel
theorem dL_law_1176 : decode cL_law 1176 = .ok (.iconst 0, 1) := by decide +kernel
theorem dL_law_1177 : decode cL_law 1177 = .ok (.iload 19, 2) := by decide +kernel
theorem dL_law_1179 : decode cL_law 1179 = .ok (.iconst 0, 1) := by decide +kernel
theorem dL_law_1180 : decode cL_law 1180 = .ok (.iconst 0, 1) := by decide +kernel
theorem dL_law_1181 : decode cL_law 1181 = .ok (.invokestatic 55, 3) := by decide +kernel
theorem dL_law_1184 : decode cL_law 1184 = .ok (.istore 26, 2) := by decide +kernel
theorem dL_law_1186 : decode cL_law 1186 = .ok (.iload 26, 2) := by decide +kernel
theorem dL_law_1188 : decode cL_law 1188 = .ok (.bipush (-13), 2) := by decide +kernel
theorem dL_law_1190 : decode cL_law 1190 = .ok (.if_icmp .ne 7, 3) := by decide +kernel
theorem dL_law_1193 : decode cL_law 1193 = .ok (.iconst 1, 1) := by decide +kernel
theorem dL_law_1194 : decode cL_law 1194 = .ok (.goto 4, 3) := by decide +kernel
theorem dL_law_1197 : decode cL_law 1197 = .ok (.iconst 0, 1) := by decide +kernel
theorem dL_law_1198 : decode cL_law 1198 = .ok (.iload 25, 2) := by decide +kernel
theorem dL_law_1200 : decode cL_law 1200 = .ok (.ifCond .ne 7, 3) := by decide +kernel
theorem dL_law_1203 : decode cL_law 1203 = .ok (.iconst 1, 1) := by decide +kernel
theorem dL_law_1204 : decode cL_law 1204 = .ok (.goto 4, 3) := by decide +kernel
theorem dL_law_1207 : decode cL_law 1207 = .ok (.iconst 0, 1) := by decide +kernel
theorem dL_law_1208 : decode cL_law 1208 = .ok (.if_icmp .ne 57, 3) := by decide +kernel
theorem dL_law_1211 : decode cL_law 1211 = .ok (.iload 26, 2) := by decide +kernel
theorem dL_law_1213 : decode cL_law 1213 = .ok (.ifCond .ge 15, 3) := by decide +kernel
theorem dL_law_1216 : decode cL_law 1216 = .ok (.aload_n 1, 1) := by decide +kernel
theorem dL_law_1217 : decode cL_law 1217 = .ok (.invokevirtual 64, 3) := by decide +kernel
theorem dL_law_1220 : decode cL_law 1220 = .ok (.iload 23, 2) := by decide +kernel
theorem dL_law_1222 : decode cL_law 1222 = .ok (.if_icmp .ne 43, 3) := by decide +kernel
theorem dL_law_1225 : decode cL_law 1225 = .ok (.goto 36, 3) := by decide +kernel
theorem dL_law_1228 : decode cL_law 1228 = .ok (.aload_n 1, 1) := by decide +kernel
theorem dL_law_1229 : decode cL_law 1229 = .ok (.invokevirtual 64, 3) := by decide +kernel
theorem dL_law_1232 : decode cL_law 1232 = .ok (.iload 23, 2) := by decide +kernel
theorem dL_law_1234 : decode cL_law 1234 = .ok (.iload 26, 2) := by decide +kernel
theorem dL_law_1236 : decode cL_law 1236 = .ok (.isub, 1) := by decide +kernel
theorem dL_law_1237 : decode cL_law 1237 = .ok (.iload 24, 2) := by decide +kernel
theorem dL_law_1239 : decode cL_law 1239 = .ok (.ifCond .eq 7, 3) := by decide +kernel
theorem dL_law_1242 : decode cL_law 1242 = .ok (.iconst 1, 1) := by decide +kernel
theorem dL_law_1243 : decode cL_law 1243 = .ok (.goto 4, 3) := by decide +kernel
theorem dL_law_1246 : decode cL_law 1246 = .ok (.iconst 0, 1) := by decide +kernel
theorem dL_law_1247 : decode cL_law 1247 = .ok (.isub, 1) := by decide +kernel
theorem dL_law_1248 : decode cL_law 1248 = .ok (.if_icmp .ne 17, 3) := by decide +kernel
theorem dL_law_1251 : decode cL_law 1251 = .ok (.aload_n 1, 1) := by decide +kernel
theorem dL_law_1252 : decode cL_law 1252 = .ok (.iload 19, 2) := by decide +kernel
theorem dL_law_1254 : decode cL_law 1254 = .ok (.invokevirtual 49, 3) := by decide +kernel
theorem dL_law_1257 : decode cL_law 1257 = .ok (.iconst (-1), 1) := by decide +kernel
theorem dL_law_1258 : decode cL_law 1258 = .ok (.if_icmp .ne 7, 3) := by decide +kernel
theorem dL_law_1261 : decode cL_law 1261 = .ok (.iconst 1, 1) := by decide +kernel
theorem dL_law_1262 : decode cL_law 1262 = .ok (.goto 4, 3) := by decide +kernel
theorem dL_law_1265 : decode cL_law 1265 = .ok (.iconst 0, 1) := by decide +kernel
theorem dL_law_1266 : decode cL_law 1266 = .ok (.istore 13, 2) := by decide +kernel
theorem dL_law_1268 : decode cL_law 1268 = .ok (.aload 4, 2) := by decide +kernel
theorem dL_law_1270 : decode cL_law 1270 = .ok (.iload 19, 2) := by decide +kernel
theorem dL_law_1272 : decode cL_law 1272 = .ok (.iload 26, 2) := by decide +kernel
theorem dL_law_1274 : decode cL_law 1274 = .ok (.ifCond .ge 11, 3) := by decide +kernel
theorem dL_law_1277 : decode cL_law 1277 = .ok (.aload 4, 2) := by decide +kernel
theorem dL_law_1279 : decode cL_law 1279 = .ok (.iload 19, 2) := by decide +kernel
theorem dL_law_1281 : decode cL_law 1281 = .ok (.iaload, 1) := by decide +kernel
theorem dL_law_1282 : decode cL_law 1282 = .ok (.goto 4, 3) := by decide +kernel
theorem dL_law_1285 : decode cL_law 1285 = .ok (.iconst 1, 1) := by decide +kernel
theorem dL_law_1286 : decode cL_law 1286 = .ok (.iastore, 1) := by decide +kernel
theorem dL_law_1287 : decode cL_law 1287 = .ok (.goto 483, 3) := by decide +kernel
theorem dL_law_1290 : decode cL_law 1290 = .ok (.iload 18, 2) := by decide +kernel
theorem dL_law_1292 : decode cL_law 1292 = .ok (.bipush 12, 2) := by decide +kernel
theorem dL_law_1294 : decode cL_law 1294 = .ok (.if_icmp .ge 195, 3) := by decide +kernel
theorem dL_law_1297 : decode cL_law 1297 = .ok (.iload 10, 2) := by decide +kernel
theorem dL_law_1299 : decode cL_law 1299 = .ok (.ifCond .le 190, 3) := by decide +kernel
theorem dL_law_1302 : decode cL_law 1302 = .ok (.iload 11, 2) := by decide +kernel
theorem dL_law_1304 : decode cL_law 1304 = .ok (.ifCond .le 185, 3) := by decide +kernel
theorem dL_law_1307 : decode cL_law 1307 = .ok (.aload_n 1, 1) := by decide +kernel
theorem dL_law_1308 : decode cL_law 1308 = .ok (.iload 12, 2) := by decide +kernel
theorem dL_law_1310 : decode cL_law 1310 = .ok (.iload 22, 2) := by decide +kernel
theorem dL_law_1312 : decode cL_law 1312 = .ok (.invokestatic 110, 3) := by decide +kernel
theorem dL_law_1315 : decode cL_law 1315 = .ok (.istore 23, 2) := by decide +kernel
theorem dL_law_1317 : decode cL_law 1317 = .ok (.aload_n 1, 1) := by decide +kernel
theorem dL_law_1318 : decode cL_law 1318 = .ok (.iconst 2, 1) := by decide +kernel
theorem dL_law_1319 : decode cL_law 1319 = .ok (.iload 19, 2) := by decide +kernel
theorem dL_law_1321 : decode cL_law 1321 = .ok (.iload 20, 2) := by decide +kernel
theorem dL_law_1323 : decode cL_law 1323 = .ok (.iconst 0, 1) := by decide +kernel
theorem dL_law_1324 : decode cL_law 1324 = .ok (.invokestatic 55, 3) := by decide +kernel
theorem dL_law_1327 : decode cL_law 1327 = .ok (.istore 24, 2) := by decide +kernel
theorem dL_law_1329 : decode cL_law 1329 = .ok (.iload 24, 2) := by decide +kernel
theorem dL_law_1331 : decode cL_law 1331 = .ok (.bipush (-13), 2) := by decide +kernel
theorem dL_law_1333 : decode cL_law 1333 = .ok (.if_icmp .ne 66, 3) := by decide +kernel
theorem dL_law_1336 : decode cL_law 1336 = .ok (.iload 15, 2) := by decide +kernel
theorem dL_law_1338 : decode cL_law 1338 = .ok (.iconst 4, 1) := by decide +kernel
theorem dL_law_1339 : decode cL_law 1339 = .ok (.irem, 1) := by decide +kernel
theorem dL_law_1340 : decode cL_law 1340 = .ok (.ifCond .ne 12, 3) := by decide +kernel
theorem dL_law_1343 : decode cL_law 1343 = .ok (.aload_n 1, 1) := by decide +kernel
theorem dL_law_1344 : decode cL_law 1344 = .ok (.iload 19, 2) := by decide +kernel
theorem dL_law_1346 : decode cL_law 1346 = .ok (.invokevirtual 61, 3) := by decide +kernel
theorem dL_law_1349 : decode cL_law 1349 = .ok (.goto 4, 3) := by decide +kernel
theorem dL_law_1352 : decode cL_law 1352 = .ok (.iconst 0, 1) := by decide +kernel
theorem dL_law_1353 : decode cL_law 1353 = .ok (.istore 25, 2) := by decide +kernel
theorem dL_law_1355 : decode cL_law 1355 = .ok (.iconst 0, 1) := by decide +kernel
theorem dL_law_1356 : decode cL_law 1356 = .ok (.istore 26, 2) := by decide +kernel
theorem dL_law_1358 : decode cL_law 1358 = .ok (.iload 26, 2) := by decide +kernel
theorem dL_law_1360 : decode cL_law 1360 = .ok (.iload 25, 2) := by decide +kernel
theorem dL_law_1362 : decode cL_law 1362 = .ok (.if_icmp .ge 34, 3) := by decide +kernel
theorem dL_law_1365 : decode cL_law 1365 = .ok (.iload 13, 2) := by decide +kernel
theorem dL_law_1367 : decode cL_law 1367 = .ok (.ifCond .eq 20, 3) := by decide +kernel
