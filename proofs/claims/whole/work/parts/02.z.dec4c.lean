theorem d_LW_law_849 : decode code 849 = .ok (.iadd, 1) := by decide +kernel
theorem d_LW_law_850 : decode code 850 = .ok (.iaload, 1) := by decide +kernel
theorem d_LW_law_851 : decode code 851 = .ok (.aload_n 0, 1) := by decide +kernel
theorem d_LW_law_852 : decode code 852 = .ok (.iload 4, 2) := by decide +kernel
theorem d_LW_law_854 : decode code 854 = .ok (.iconst 4, 1) := by decide +kernel
theorem d_LW_law_855 : decode code 855 = .ok (.iadd, 1) := by decide +kernel
theorem d_LW_law_856 : decode code 856 = .ok (.iaload, 1) := by decide +kernel
theorem d_LW_law_857 : decode code 857 = .ok (.aload_n 0, 1) := by decide +kernel
theorem d_LW_law_858 : decode code 858 = .ok (.iload 4, 2) := by decide +kernel
theorem d_LW_law_860 : decode code 860 = .ok (.iconst 5, 1) := by decide +kernel
theorem d_LW_law_861 : decode code 861 = .ok (.iadd, 1) := by decide +kernel
theorem d_LW_law_862 : decode code 862 = .ok (.iaload, 1) := by decide +kernel
theorem d_LW_law_863 : decode code 863 = .ok (.invokevirtual 141, 3) := by decide +kernel
theorem d_LW_law_866 : decode code 866 = .ok (.aload_n 2, 1) := by decide +kernel
theorem d_LW_law_867 : decode code 867 = .ok (.invokevirtual 106, 3) := by decide +kernel
theorem d_LW_law_870 : decode code 870 = .ok (.iload 5, 2) := by decide +kernel
theorem d_LW_law_872 : decode code 872 = .ok (.if_icmp .eq 5, 3) := by decide +kernel
theorem d_LW_law_875 : decode code 875 = .ok (.iconst 0, 1) := by decide +kernel
theorem d_LW_law_876 : decode code 876 = .ok (.ireturn, 1) := by decide +kernel
theorem d_LW_law_877 : decode code 877 = .ok (.goto 734, 3) := by decide +kernel
theorem d_LW_law_880 : decode code 880 = .ok (.aload_n 1, 1) := by decide +kernel
theorem d_LW_law_881 : decode code 881 = .ok (.aload_n 0, 1) := by decide +kernel
theorem d_LW_law_882 : decode code 882 = .ok (.iload 4, 2) := by decide +kernel
theorem d_LW_law_884 : decode code 884 = .ok (.iconst 1, 1) := by decide +kernel
theorem d_LW_law_885 : decode code 885 = .ok (.iadd, 1) := by decide +kernel
theorem d_LW_law_886 : decode code 886 = .ok (.iaload, 1) := by decide +kernel
theorem d_LW_law_887 : decode code 887 = .ok (.aload_n 0, 1) := by decide +kernel
theorem d_LW_law_888 : decode code 888 = .ok (.iload 4, 2) := by decide +kernel
theorem d_LW_law_890 : decode code 890 = .ok (.iconst 2, 1) := by decide +kernel
theorem d_LW_law_891 : decode code 891 = .ok (.iadd, 1) := by decide +kernel
theorem d_LW_law_892 : decode code 892 = .ok (.iaload, 1) := by decide +kernel
theorem d_LW_law_893 : decode code 893 = .ok (.aload_n 0, 1) := by decide +kernel
theorem d_LW_law_894 : decode code 894 = .ok (.iload 4, 2) := by decide +kernel
theorem d_LW_law_896 : decode code 896 = .ok (.iconst 3, 1) := by decide +kernel
theorem d_LW_law_897 : decode code 897 = .ok (.iadd, 1) := by decide +kernel
theorem d_LW_law_898 : decode code 898 = .ok (.iaload, 1) := by decide +kernel
theorem d_LW_law_899 : decode code 899 = .ok (.invokestatic 142, 3) := by decide +kernel
theorem d_LW_law_902 : decode code 902 = .ok (.istore 5, 2) := by decide +kernel
theorem d_LW_law_904 : decode code 904 = .ok (.aload_n 2, 1) := by decide +kernel
theorem d_LW_law_905 : decode code 905 = .ok (.aload_n 0, 1) := by decide +kernel
theorem d_LW_law_906 : decode code 906 = .ok (.iload 4, 2) := by decide +kernel
theorem d_LW_law_908 : decode code 908 = .ok (.iconst 1, 1) := by decide +kernel
theorem d_LW_law_909 : decode code 909 = .ok (.iadd, 1) := by decide +kernel
theorem d_LW_law_910 : decode code 910 = .ok (.iaload, 1) := by decide +kernel
theorem d_LW_law_911 : decode code 911 = .ok (.aload_n 0, 1) := by decide +kernel
theorem d_LW_law_912 : decode code 912 = .ok (.iload 4, 2) := by decide +kernel
theorem d_LW_law_914 : decode code 914 = .ok (.iconst 2, 1) := by decide +kernel
theorem d_LW_law_915 : decode code 915 = .ok (.iadd, 1) := by decide +kernel
theorem d_LW_law_916 : decode code 916 = .ok (.iaload, 1) := by decide +kernel
theorem d_LW_law_917 : decode code 917 = .ok (.aload_n 0, 1) := by decide +kernel
theorem d_LW_law_918 : decode code 918 = .ok (.iload 4, 2) := by decide +kernel
theorem d_LW_law_920 : decode code 920 = .ok (.iconst 3, 1) := by decide +kernel
theorem d_LW_law_921 : decode code 921 = .ok (.iadd, 1) := by decide +kernel
theorem d_LW_law_922 : decode code 922 = .ok (.iaload, 1) := by decide +kernel
theorem d_LW_law_923 : decode code 923 = .ok (.invokevirtual 144, 3) := by decide +kernel
theorem d_LW_law_926 : decode code 926 = .ok (.aload_n 2, 1) := by decide +kernel
theorem d_LW_law_927 : decode code 927 = .ok (.invokevirtual 106, 3) := by decide +kernel
theorem d_LW_law_930 : decode code 930 = .ok (.iload 5, 2) := by decide +kernel
theorem d_LW_law_932 : decode code 932 = .ok (.if_icmp .eq 5, 3) := by decide +kernel
theorem d_LW_law_935 : decode code 935 = .ok (.iconst 0, 1) := by decide +kernel
theorem d_LW_law_936 : decode code 936 = .ok (.ireturn, 1) := by decide +kernel
theorem d_LW_law_937 : decode code 937 = .ok (.goto 674, 3) := by decide +kernel
theorem d_LW_law_940 : decode code 940 = .ok (.aload_n 1, 1) := by decide +kernel
theorem d_LW_law_941 : decode code 941 = .ok (.aload_n 0, 1) := by decide +kernel
theorem d_LW_law_942 : decode code 942 = .ok (.iload 4, 2) := by decide +kernel
theorem d_LW_law_944 : decode code 944 = .ok (.iconst 1, 1) := by decide +kernel
theorem d_LW_law_945 : decode code 945 = .ok (.iadd, 1) := by decide +kernel
theorem d_LW_law_946 : decode code 946 = .ok (.iaload, 1) := by decide +kernel
theorem d_LW_law_947 : decode code 947 = .ok (.aload_n 0, 1) := by decide +kernel
theorem d_LW_law_948 : decode code 948 = .ok (.iload 4, 2) := by decide +kernel
theorem d_LW_law_950 : decode code 950 = .ok (.iconst 2, 1) := by decide +kernel
theorem d_LW_law_951 : decode code 951 = .ok (.iadd, 1) := by decide +kernel
theorem d_LW_law_952 : decode code 952 = .ok (.iaload, 1) := by decide +kernel
theorem d_LW_law_953 : decode code 953 = .ok (.aload_n 0, 1) := by decide +kernel
theorem d_LW_law_954 : decode code 954 = .ok (.iload 4, 2) := by decide +kernel
theorem d_LW_law_956 : decode code 956 = .ok (.iconst 3, 1) := by decide +kernel
theorem d_LW_law_957 : decode code 957 = .ok (.iadd, 1) := by decide +kernel
theorem d_LW_law_958 : decode code 958 = .ok (.iaload, 1) := by decide +kernel
theorem d_LW_law_959 : decode code 959 = .ok (.invokestatic 145, 3) := by decide +kernel
theorem d_LW_law_962 : decode code 962 = .ok (.istore 5, 2) := by decide +kernel
theorem d_LW_law_964 : decode code 964 = .ok (.aload_n 2, 1) := by decide +kernel
theorem d_LW_law_965 : decode code 965 = .ok (.aload_n 0, 1) := by decide +kernel
theorem d_LW_law_966 : decode code 966 = .ok (.iload 4, 2) := by decide +kernel
theorem d_LW_law_968 : decode code 968 = .ok (.iconst 1, 1) := by decide +kernel
theorem d_LW_law_969 : decode code 969 = .ok (.iadd, 1) := by decide +kernel
theorem d_LW_law_970 : decode code 970 = .ok (.iaload, 1) := by decide +kernel
theorem d_LW_law_971 : decode code 971 = .ok (.aload_n 0, 1) := by decide +kernel
theorem d_LW_law_972 : decode code 972 = .ok (.iload 4, 2) := by decide +kernel
theorem d_LW_law_974 : decode code 974 = .ok (.iconst 2, 1) := by decide +kernel
theorem d_LW_law_975 : decode code 975 = .ok (.iadd, 1) := by decide +kernel
theorem d_LW_law_976 : decode code 976 = .ok (.iaload, 1) := by decide +kernel
theorem d_LW_law_977 : decode code 977 = .ok (.aload_n 0, 1) := by decide +kernel
theorem d_LW_law_978 : decode code 978 = .ok (.iload 4, 2) := by decide +kernel
theorem d_LW_law_980 : decode code 980 = .ok (.iconst 3, 1) := by decide +kernel
theorem d_LW_law_981 : decode code 981 = .ok (.iadd, 1) := by decide +kernel
theorem d_LW_law_982 : decode code 982 = .ok (.iaload, 1) := by decide +kernel
theorem d_LW_law_983 : decode code 983 = .ok (.invokevirtual 147, 3) := by decide +kernel
theorem d_LW_law_986 : decode code 986 = .ok (.aload_n 2, 1) := by decide +kernel
theorem d_LW_law_987 : decode code 987 = .ok (.invokevirtual 106, 3) := by decide +kernel
theorem d_LW_law_990 : decode code 990 = .ok (.iload 5, 2) := by decide +kernel
theorem d_LW_law_992 : decode code 992 = .ok (.if_icmp .eq 5, 3) := by decide +kernel
theorem d_LW_law_995 : decode code 995 = .ok (.iconst 0, 1) := by decide +kernel
theorem d_LW_law_996 : decode code 996 = .ok (.ireturn, 1) := by decide +kernel
theorem d_LW_law_997 : decode code 997 = .ok (.goto 614, 3) := by decide +kernel
theorem d_LW_law_1000 : decode code 1000 = .ok (.aload_n 1, 1) := by decide +kernel
theorem d_LW_law_1001 : decode code 1001 = .ok (.aload_n 0, 1) := by decide +kernel
theorem d_LW_law_1002 : decode code 1002 = .ok (.iload 4, 2) := by decide +kernel
theorem d_LW_law_1004 : decode code 1004 = .ok (.iconst 1, 1) := by decide +kernel
theorem d_LW_law_1005 : decode code 1005 = .ok (.iadd, 1) := by decide +kernel
theorem d_LW_law_1006 : decode code 1006 = .ok (.iaload, 1) := by decide +kernel
theorem d_LW_law_1007 : decode code 1007 = .ok (.aload_n 0, 1) := by decide +kernel
theorem d_LW_law_1008 : decode code 1008 = .ok (.iload 4, 2) := by decide +kernel
theorem d_LW_law_1010 : decode code 1010 = .ok (.iconst 2, 1) := by decide +kernel
theorem d_LW_law_1011 : decode code 1011 = .ok (.iadd, 1) := by decide +kernel
theorem d_LW_law_1012 : decode code 1012 = .ok (.iaload, 1) := by decide +kernel
theorem d_LW_law_1013 : decode code 1013 = .ok (.aload_n 0, 1) := by decide +kernel
theorem d_LW_law_1014 : decode code 1014 = .ok (.iload 4, 2) := by decide +kernel
theorem d_LW_law_1016 : decode code 1016 = .ok (.iconst 3, 1) := by decide +kernel
theorem d_LW_law_1017 : decode code 1017 = .ok (.iadd, 1) := by decide +kernel
theorem d_LW_law_1018 : decode code 1018 = .ok (.iaload, 1) := by decide +kernel
theorem d_LW_law_1019 : decode code 1019 = .ok (.ifCond .eq 7, 3) := by decide +kernel
theorem d_LW_law_1022 : decode code 1022 = .ok (.iconst 1, 1) := by decide +kernel
theorem d_LW_law_1023 : decode code 1023 = .ok (.goto 4, 3) := by decide +kernel
theorem d_LW_law_1026 : decode code 1026 = .ok (.iconst 0, 1) := by decide +kernel
theorem d_LW_law_1027 : decode code 1027 = .ok (.invokestatic 148, 3) := by decide +kernel
theorem d_LW_law_1030 : decode code 1030 = .ok (.istore 5, 2) := by decide +kernel
theorem d_LW_law_1032 : decode code 1032 = .ok (.aload_n 2, 1) := by decide +kernel
theorem d_LW_law_1033 : decode code 1033 = .ok (.aload_n 0, 1) := by decide +kernel
theorem d_LW_law_1034 : decode code 1034 = .ok (.iload 4, 2) := by decide +kernel
theorem d_LW_law_1036 : decode code 1036 = .ok (.iconst 1, 1) := by decide +kernel
theorem d_LW_law_1037 : decode code 1037 = .ok (.iadd, 1) := by decide +kernel
theorem d_LW_law_1038 : decode code 1038 = .ok (.iaload, 1) := by decide +kernel
theorem d_LW_law_1039 : decode code 1039 = .ok (.aload_n 0, 1) := by decide +kernel
theorem d_LW_law_1040 : decode code 1040 = .ok (.iload 4, 2) := by decide +kernel
theorem d_LW_law_1042 : decode code 1042 = .ok (.iconst 2, 1) := by decide +kernel
theorem d_LW_law_1043 : decode code 1043 = .ok (.iadd, 1) := by decide +kernel
theorem d_LW_law_1044 : decode code 1044 = .ok (.iaload, 1) := by decide +kernel
theorem d_LW_law_1045 : decode code 1045 = .ok (.aload_n 0, 1) := by decide +kernel
theorem d_LW_law_1046 : decode code 1046 = .ok (.iload 4, 2) := by decide +kernel
theorem d_LW_law_1048 : decode code 1048 = .ok (.iconst 3, 1) := by decide +kernel
theorem d_LW_law_1049 : decode code 1049 = .ok (.iadd, 1) := by decide +kernel
theorem d_LW_law_1050 : decode code 1050 = .ok (.iaload, 1) := by decide +kernel
theorem d_LW_law_1051 : decode code 1051 = .ok (.ifCond .eq 7, 3) := by decide +kernel
theorem d_LW_law_1054 : decode code 1054 = .ok (.iconst 1, 1) := by decide +kernel
theorem d_LW_law_1055 : decode code 1055 = .ok (.goto 4, 3) := by decide +kernel
theorem d_LW_law_1058 : decode code 1058 = .ok (.iconst 0, 1) := by decide +kernel
theorem d_LW_law_1059 : decode code 1059 = .ok (.invokevirtual 151, 3) := by decide +kernel
theorem d_LW_law_1062 : decode code 1062 = .ok (.aload_n 2, 1) := by decide +kernel
theorem d_LW_law_1063 : decode code 1063 = .ok (.invokevirtual 106, 3) := by decide +kernel
theorem d_LW_law_1066 : decode code 1066 = .ok (.iload 5, 2) := by decide +kernel
theorem d_LW_law_1068 : decode code 1068 = .ok (.if_icmp .eq 5, 3) := by decide +kernel
theorem d_LW_law_1071 : decode code 1071 = .ok (.iconst 0, 1) := by decide +kernel
theorem d_LW_law_1072 : decode code 1072 = .ok (.ireturn, 1) := by decide +kernel
theorem d_LW_law_1073 : decode code 1073 = .ok (.goto 538, 3) := by decide +kernel
theorem d_LW_law_1076 : decode code 1076 = .ok (.aload_n 1, 1) := by decide +kernel
theorem d_LW_law_1077 : decode code 1077 = .ok (.aload_n 0, 1) := by decide +kernel
theorem d_LW_law_1078 : decode code 1078 = .ok (.iload 4, 2) := by decide +kernel
theorem d_LW_law_1080 : decode code 1080 = .ok (.iconst 1, 1) := by decide +kernel
theorem d_LW_law_1081 : decode code 1081 = .ok (.iadd, 1) := by decide +kernel
theorem d_LW_law_1082 : decode code 1082 = .ok (.iaload, 1) := by decide +kernel
theorem d_LW_law_1083 : decode code 1083 = .ok (.invokestatic 152, 3) := by decide +kernel
theorem d_LW_law_1086 : decode code 1086 = .ok (.istore 5, 2) := by decide +kernel
theorem d_LW_law_1088 : decode code 1088 = .ok (.aload_n 2, 1) := by decide +kernel
theorem d_LW_law_1089 : decode code 1089 = .ok (.aload_n 0, 1) := by decide +kernel
theorem d_LW_law_1090 : decode code 1090 = .ok (.iload 4, 2) := by decide +kernel
theorem d_LW_law_1092 : decode code 1092 = .ok (.iconst 1, 1) := by decide +kernel
theorem d_LW_law_1093 : decode code 1093 = .ok (.iadd, 1) := by decide +kernel
theorem d_LW_law_1094 : decode code 1094 = .ok (.iaload, 1) := by decide +kernel
theorem d_LW_law_1095 : decode code 1095 = .ok (.invokevirtual 155, 3) := by decide +kernel
theorem d_LW_law_1098 : decode code 1098 = .ok (.aload_n 2, 1) := by decide +kernel
theorem d_LW_law_1099 : decode code 1099 = .ok (.invokevirtual 106, 3) := by decide +kernel
theorem d_LW_law_1102 : decode code 1102 = .ok (.iload 5, 2) := by decide +kernel
theorem d_LW_law_1104 : decode code 1104 = .ok (.if_icmp .eq 5, 3) := by decide +kernel
theorem d_LW_law_1107 : decode code 1107 = .ok (.iconst 0, 1) := by decide +kernel
theorem d_LW_law_1108 : decode code 1108 = .ok (.ireturn, 1) := by decide +kernel
theorem d_LW_law_1109 : decode code 1109 = .ok (.goto 502, 3) := by decide +kernel
theorem d_LW_law_1112 : decode code 1112 = .ok (.aload_n 1, 1) := by decide +kernel
theorem d_LW_law_1113 : decode code 1113 = .ok (.aload_n 0, 1) := by decide +kernel
theorem d_LW_law_1114 : decode code 1114 = .ok (.iload 4, 2) := by decide +kernel
theorem d_LW_law_1116 : decode code 1116 = .ok (.iconst 1, 1) := by decide +kernel
theorem d_LW_law_1117 : decode code 1117 = .ok (.iadd, 1) := by decide +kernel
theorem d_LW_law_1118 : decode code 1118 = .ok (.iaload, 1) := by decide +kernel
theorem d_LW_law_1119 : decode code 1119 = .ok (.aload_n 0, 1) := by decide +kernel
theorem d_LW_law_1120 : decode code 1120 = .ok (.iload 4, 2) := by decide +kernel
theorem d_LW_law_1122 : decode code 1122 = .ok (.iconst 2, 1) := by decide +kernel
theorem d_LW_law_1123 : decode code 1123 = .ok (.iadd, 1) := by decide +kernel
theorem d_LW_law_1124 : decode code 1124 = .ok (.iaload, 1) := by decide +kernel
theorem d_LW_law_1125 : decode code 1125 = .ok (.invokestatic 156, 3) := by decide +kernel
theorem d_LW_law_1128 : decode code 1128 = .ok (.istore 5, 2) := by decide +kernel
theorem d_LW_law_1130 : decode code 1130 = .ok (.aload_n 2, 1) := by decide +kernel
theorem d_LW_law_1131 : decode code 1131 = .ok (.aload_n 0, 1) := by decide +kernel
theorem d_LW_law_1132 : decode code 1132 = .ok (.iload 4, 2) := by decide +kernel
theorem d_LW_law_1134 : decode code 1134 = .ok (.iconst 1, 1) := by decide +kernel
theorem d_LW_law_1135 : decode code 1135 = .ok (.iadd, 1) := by decide +kernel
theorem d_LW_law_1136 : decode code 1136 = .ok (.iaload, 1) := by decide +kernel
theorem d_LW_law_1137 : decode code 1137 = .ok (.aload_n 0, 1) := by decide +kernel
theorem d_LW_law_1138 : decode code 1138 = .ok (.iload 4, 2) := by decide +kernel
theorem d_LW_law_1140 : decode code 1140 = .ok (.iconst 2, 1) := by decide +kernel
theorem d_LW_law_1141 : decode code 1141 = .ok (.iadd, 1) := by decide +kernel
theorem d_LW_law_1142 : decode code 1142 = .ok (.iaload, 1) := by decide +kernel
theorem d_LW_law_1143 : decode code 1143 = .ok (.invokevirtual 159, 3) := by decide +kernel
theorem d_LW_law_1146 : decode code 1146 = .ok (.aload_n 2, 1) := by decide +kernel
theorem d_LW_law_1147 : decode code 1147 = .ok (.invokevirtual 106, 3) := by decide +kernel
theorem d_LW_law_1150 : decode code 1150 = .ok (.iload 5, 2) := by decide +kernel
theorem d_LW_law_1152 : decode code 1152 = .ok (.if_icmp .eq 5, 3) := by decide +kernel
theorem d_LW_law_1155 : decode code 1155 = .ok (.iconst 0, 1) := by decide +kernel
theorem d_LW_law_1156 : decode code 1156 = .ok (.ireturn, 1) := by decide +kernel
theorem d_LW_law_1157 : decode code 1157 = .ok (.goto 454, 3) := by decide +kernel
theorem d_LW_law_1160 : decode code 1160 = .ok (.aload_n 1, 1) := by decide +kernel
theorem d_LW_law_1161 : decode code 1161 = .ok (.aload_n 0, 1) := by decide +kernel
theorem d_LW_law_1162 : decode code 1162 = .ok (.iload 4, 2) := by decide +kernel
theorem d_LW_law_1164 : decode code 1164 = .ok (.iconst 1, 1) := by decide +kernel
theorem d_LW_law_1165 : decode code 1165 = .ok (.iadd, 1) := by decide +kernel
theorem d_LW_law_1166 : decode code 1166 = .ok (.iaload, 1) := by decide +kernel
theorem d_LW_law_1167 : decode code 1167 = .ok (.aload_n 3, 1) := by decide +kernel
theorem d_LW_law_1168 : decode code 1168 = .ok (.invokestatic 160, 3) := by decide +kernel
theorem d_LW_law_1171 : decode code 1171 = .ok (.istore 5, 2) := by decide +kernel
theorem d_LW_law_1173 : decode code 1173 = .ok (.aload_n 2, 1) := by decide +kernel
theorem d_LW_law_1174 : decode code 1174 = .ok (.aload_n 0, 1) := by decide +kernel
theorem d_LW_law_1175 : decode code 1175 = .ok (.iload 4, 2) := by decide +kernel
theorem d_LW_law_1177 : decode code 1177 = .ok (.iconst 1, 1) := by decide +kernel
theorem d_LW_law_1178 : decode code 1178 = .ok (.iadd, 1) := by decide +kernel
theorem d_LW_law_1179 : decode code 1179 = .ok (.iaload, 1) := by decide +kernel
theorem d_LW_law_1180 : decode code 1180 = .ok (.invokevirtual 162, 3) := by decide +kernel
theorem d_LW_law_1183 : decode code 1183 = .ok (.istore 6, 2) := by decide +kernel
theorem d_LW_law_1185 : decode code 1185 = .ok (.aload_n 2, 1) := by decide +kernel
theorem d_LW_law_1186 : decode code 1186 = .ok (.invokevirtual 106, 3) := by decide +kernel
theorem d_LW_law_1189 : decode code 1189 = .ok (.iload 5, 2) := by decide +kernel
theorem d_LW_law_1191 : decode code 1191 = .ok (.if_icmp .eq 5, 3) := by decide +kernel
theorem d_LW_law_1194 : decode code 1194 = .ok (.iconst 0, 1) := by decide +kernel
theorem d_LW_law_1195 : decode code 1195 = .ok (.ireturn, 1) := by decide +kernel
theorem d_LW_law_1196 : decode code 1196 = .ok (.iload 5, 2) := by decide +kernel
theorem d_LW_law_1198 : decode code 1198 = .ok (.ifCond .ne 15, 3) := by decide +kernel
theorem d_LW_law_1201 : decode code 1201 = .ok (.aload_n 3, 1) := by decide +kernel
theorem d_LW_law_1202 : decode code 1202 = .ok (.iconst 0, 1) := by decide +kernel
theorem d_LW_law_1203 : decode code 1203 = .ok (.laload, 1) := by decide +kernel
theorem d_LW_law_1204 : decode code 1204 = .ok (.iload 6, 2) := by decide +kernel
theorem d_LW_law_1206 : decode code 1206 = .ok (.i2l, 1) := by decide +kernel
theorem d_LW_law_1207 : decode code 1207 = .ok (.lcmp, 1) := by decide +kernel
theorem d_LW_law_1208 : decode code 1208 = .ok (.ifCond .eq 5, 3) := by decide +kernel
theorem d_LW_law_1211 : decode code 1211 = .ok (.iconst 0, 1) := by decide +kernel
theorem d_LW_law_1212 : decode code 1212 = .ok (.ireturn, 1) := by decide +kernel
theorem d_LW_law_1213 : decode code 1213 = .ok (.goto 398, 3) := by decide +kernel
theorem d_LW_law_1216 : decode code 1216 = .ok (.aload_n 1, 1) := by decide +kernel
theorem d_LW_law_1217 : decode code 1217 = .ok (.aload_n 0, 1) := by decide +kernel
theorem d_LW_law_1218 : decode code 1218 = .ok (.iload 4, 2) := by decide +kernel
theorem d_LW_law_1220 : decode code 1220 = .ok (.iconst 1, 1) := by decide +kernel
theorem d_LW_law_1221 : decode code 1221 = .ok (.iadd, 1) := by decide +kernel
theorem d_LW_law_1222 : decode code 1222 = .ok (.iaload, 1) := by decide +kernel
theorem d_LW_law_1223 : decode code 1223 = .ok (.aload_n 0, 1) := by decide +kernel
theorem d_LW_law_1224 : decode code 1224 = .ok (.iload 4, 2) := by decide +kernel
theorem d_LW_law_1226 : decode code 1226 = .ok (.iconst 2, 1) := by decide +kernel
theorem d_LW_law_1227 : decode code 1227 = .ok (.iadd, 1) := by decide +kernel
theorem d_LW_law_1228 : decode code 1228 = .ok (.iaload, 1) := by decide +kernel
theorem d_LW_law_1229 : decode code 1229 = .ok (.aload_n 3, 1) := by decide +kernel
theorem d_LW_law_1230 : decode code 1230 = .ok (.invokestatic 163, 3) := by decide +kernel
theorem d_LW_law_1233 : decode code 1233 = .ok (.istore 5, 2) := by decide +kernel
theorem d_LW_law_1235 : decode code 1235 = .ok (.aload_n 2, 1) := by decide +kernel
theorem d_LW_law_1236 : decode code 1236 = .ok (.aload_n 0, 1) := by decide +kernel
theorem d_LW_law_1237 : decode code 1237 = .ok (.iload 4, 2) := by decide +kernel
