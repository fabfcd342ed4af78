theorem d_L_law_927 : decode md_L_law.2.1 927 = .ok (.ldc2_w 82, 3) := by decide +kernel
theorem d_L_law_930 : decode md_L_law.2.1 930 = .ok (.land, 1) := by decide +kernel
theorem d_L_law_931 : decode md_L_law.2.1 931 = .ok (.lor, 1) := by decide +kernel
theorem d_L_law_932 : decode md_L_law.2.1 932 = .ok (.aload_n 0, 1) := by decide +kernel
theorem d_L_law_933 : decode md_L_law.2.1 933 = .ok (.iload 4, 2) := by decide +kernel
theorem d_L_law_935 : decode md_L_law.2.1 935 = .ok (.iconst 3, 1) := by decide +kernel
theorem d_L_law_936 : decode md_L_law.2.1 936 = .ok (.iadd, 1) := by decide +kernel
theorem d_L_law_937 : decode md_L_law.2.1 937 = .ok (.iaload, 1) := by decide +kernel
theorem d_L_law_938 : decode md_L_law.2.1 938 = .ok (.aload_n 0, 1) := by decide +kernel
theorem d_L_law_939 : decode md_L_law.2.1 939 = .ok (.iload 4, 2) := by decide +kernel
theorem d_L_law_941 : decode md_L_law.2.1 941 = .ok (.iconst 4, 1) := by decide +kernel
theorem d_L_law_942 : decode md_L_law.2.1 942 = .ok (.iadd, 1) := by decide +kernel
theorem d_L_law_943 : decode md_L_law.2.1 943 = .ok (.iaload, 1) := by decide +kernel
theorem d_L_law_944 : decode md_L_law.2.1 944 = .ok (.aload_n 3, 1) := by decide +kernel
theorem d_L_law_945 : decode md_L_law.2.1 945 = .ok (.invokestatic 115, 3) := by decide +kernel
theorem d_L_law_948 : decode md_L_law.2.1 948 = .ok (.istore 5, 2) := by decide +kernel
theorem d_L_law_950 : decode md_L_law.2.1 950 = .ok (.aload_n 2, 1) := by decide +kernel
theorem d_L_law_951 : decode md_L_law.2.1 951 = .ok (.aload_n 0, 1) := by decide +kernel
theorem d_L_law_952 : decode md_L_law.2.1 952 = .ok (.iload 4, 2) := by decide +kernel
theorem d_L_law_954 : decode md_L_law.2.1 954 = .ok (.iconst 1, 1) := by decide +kernel
theorem d_L_law_955 : decode md_L_law.2.1 955 = .ok (.iadd, 1) := by decide +kernel
theorem d_L_law_956 : decode md_L_law.2.1 956 = .ok (.iaload, 1) := by decide +kernel
theorem d_L_law_957 : decode md_L_law.2.1 957 = .ok (.i2l, 1) := by decide +kernel
theorem d_L_law_958 : decode md_L_law.2.1 958 = .ok (.bipush 32, 2) := by decide +kernel
theorem d_L_law_960 : decode md_L_law.2.1 960 = .ok (.lshl, 1) := by decide +kernel
theorem d_L_law_961 : decode md_L_law.2.1 961 = .ok (.aload_n 0, 1) := by decide +kernel
theorem d_L_law_962 : decode md_L_law.2.1 962 = .ok (.iload 4, 2) := by decide +kernel
theorem d_L_law_964 : decode md_L_law.2.1 964 = .ok (.iconst 2, 1) := by decide +kernel
theorem d_L_law_965 : decode md_L_law.2.1 965 = .ok (.iadd, 1) := by decide +kernel
theorem d_L_law_966 : decode md_L_law.2.1 966 = .ok (.iaload, 1) := by decide +kernel
theorem d_L_law_967 : decode md_L_law.2.1 967 = .ok (.i2l, 1) := by decide +kernel
theorem d_L_law_968 : decode md_L_law.2.1 968 = .ok (.ldc2_w 82, 3) := by decide +kernel
theorem d_L_law_971 : decode md_L_law.2.1 971 = .ok (.land, 1) := by decide +kernel
theorem d_L_law_972 : decode md_L_law.2.1 972 = .ok (.lor, 1) := by decide +kernel
theorem d_L_law_973 : decode md_L_law.2.1 973 = .ok (.aload_n 0, 1) := by decide +kernel
theorem d_L_law_974 : decode md_L_law.2.1 974 = .ok (.iload 4, 2) := by decide +kernel
theorem d_L_law_976 : decode md_L_law.2.1 976 = .ok (.iconst 3, 1) := by decide +kernel
theorem d_L_law_977 : decode md_L_law.2.1 977 = .ok (.iadd, 1) := by decide +kernel
theorem d_L_law_978 : decode md_L_law.2.1 978 = .ok (.iaload, 1) := by decide +kernel
theorem d_L_law_979 : decode md_L_law.2.1 979 = .ok (.aload_n 0, 1) := by decide +kernel
theorem d_L_law_980 : decode md_L_law.2.1 980 = .ok (.iload 4, 2) := by decide +kernel
theorem d_L_law_982 : decode md_L_law.2.1 982 = .ok (.iconst 4, 1) := by decide +kernel
theorem d_L_law_983 : decode md_L_law.2.1 983 = .ok (.iadd, 1) := by decide +kernel
theorem d_L_law_984 : decode md_L_law.2.1 984 = .ok (.iaload, 1) := by decide +kernel
theorem d_L_law_985 : decode md_L_law.2.1 985 = .ok (.invokevirtual 118, 3) := by decide +kernel
theorem d_L_law_988 : decode md_L_law.2.1 988 = .ok (.lstore 6, 2) := by decide +kernel
theorem d_L_law_990 : decode md_L_law.2.1 990 = .ok (.aload_n 2, 1) := by decide +kernel
theorem d_L_law_991 : decode md_L_law.2.1 991 = .ok (.invokevirtual 88, 3) := by decide +kernel
theorem d_L_law_994 : decode md_L_law.2.1 994 = .ok (.iload 5, 2) := by decide +kernel
theorem d_L_law_996 : decode md_L_law.2.1 996 = .ok (.if_icmp .eq 5, 3) := by decide +kernel
theorem d_L_law_999 : decode md_L_law.2.1 999 = .ok (.iconst 0, 1) := by decide +kernel
theorem d_L_law_1000 : decode md_L_law.2.1 1000 = .ok (.ireturn, 1) := by decide +kernel
theorem d_L_law_1001 : decode md_L_law.2.1 1001 = .ok (.iload 5, 2) := by decide +kernel
theorem d_L_law_1003 : decode md_L_law.2.1 1003 = .ok (.ifCond .ne 14, 3) := by decide +kernel
theorem d_L_law_1006 : decode md_L_law.2.1 1006 = .ok (.aload_n 3, 1) := by decide +kernel
theorem d_L_law_1007 : decode md_L_law.2.1 1007 = .ok (.iconst 0, 1) := by decide +kernel
theorem d_L_law_1008 : decode md_L_law.2.1 1008 = .ok (.laload, 1) := by decide +kernel
theorem d_L_law_1009 : decode md_L_law.2.1 1009 = .ok (.lload 6, 2) := by decide +kernel
theorem d_L_law_1011 : decode md_L_law.2.1 1011 = .ok (.lcmp, 1) := by decide +kernel
theorem d_L_law_1012 : decode md_L_law.2.1 1012 = .ok (.ifCond .eq 5, 3) := by decide +kernel
theorem d_L_law_1015 : decode md_L_law.2.1 1015 = .ok (.iconst 0, 1) := by decide +kernel
theorem d_L_law_1016 : decode md_L_law.2.1 1016 = .ok (.ireturn, 1) := by decide +kernel
theorem d_L_law_1017 : decode md_L_law.2.1 1017 = .ok (.goto 394, 3) := by decide +kernel
theorem d_L_law_1020 : decode md_L_law.2.1 1020 = .ok (.aload_n 1, 1) := by decide +kernel
theorem d_L_law_1021 : decode md_L_law.2.1 1021 = .ok (.aload_n 0, 1) := by decide +kernel
theorem d_L_law_1022 : decode md_L_law.2.1 1022 = .ok (.iload 4, 2) := by decide +kernel
theorem d_L_law_1024 : decode md_L_law.2.1 1024 = .ok (.iconst 1, 1) := by decide +kernel
theorem d_L_law_1025 : decode md_L_law.2.1 1025 = .ok (.iadd, 1) := by decide +kernel
theorem d_L_law_1026 : decode md_L_law.2.1 1026 = .ok (.iaload, 1) := by decide +kernel
theorem d_L_law_1027 : decode md_L_law.2.1 1027 = .ok (.aload_n 0, 1) := by decide +kernel
theorem d_L_law_1028 : decode md_L_law.2.1 1028 = .ok (.iload 4, 2) := by decide +kernel
theorem d_L_law_1030 : decode md_L_law.2.1 1030 = .ok (.iconst 2, 1) := by decide +kernel
theorem d_L_law_1031 : decode md_L_law.2.1 1031 = .ok (.iadd, 1) := by decide +kernel
theorem d_L_law_1032 : decode md_L_law.2.1 1032 = .ok (.iaload, 1) := by decide +kernel
theorem d_L_law_1033 : decode md_L_law.2.1 1033 = .ok (.aload_n 3, 1) := by decide +kernel
theorem d_L_law_1034 : decode md_L_law.2.1 1034 = .ok (.invokestatic 119, 3) := by decide +kernel
theorem d_L_law_1037 : decode md_L_law.2.1 1037 = .ok (.istore 5, 2) := by decide +kernel
theorem d_L_law_1039 : decode md_L_law.2.1 1039 = .ok (.aload_n 2, 1) := by decide +kernel
theorem d_L_law_1040 : decode md_L_law.2.1 1040 = .ok (.aload_n 0, 1) := by decide +kernel
theorem d_L_law_1041 : decode md_L_law.2.1 1041 = .ok (.iload 4, 2) := by decide +kernel
theorem d_L_law_1043 : decode md_L_law.2.1 1043 = .ok (.iconst 1, 1) := by decide +kernel
theorem d_L_law_1044 : decode md_L_law.2.1 1044 = .ok (.iadd, 1) := by decide +kernel
theorem d_L_law_1045 : decode md_L_law.2.1 1045 = .ok (.iaload, 1) := by decide +kernel
theorem d_L_law_1046 : decode md_L_law.2.1 1046 = .ok (.aload_n 0, 1) := by decide +kernel
theorem d_L_law_1047 : decode md_L_law.2.1 1047 = .ok (.iload 4, 2) := by decide +kernel
theorem d_L_law_1049 : decode md_L_law.2.1 1049 = .ok (.iconst 2, 1) := by decide +kernel
theorem d_L_law_1050 : decode md_L_law.2.1 1050 = .ok (.iadd, 1) := by decide +kernel
theorem d_L_law_1051 : decode md_L_law.2.1 1051 = .ok (.iaload, 1) := by decide +kernel
theorem d_L_law_1052 : decode md_L_law.2.1 1052 = .ok (.invokevirtual 121, 3) := by decide +kernel
theorem d_L_law_1055 : decode md_L_law.2.1 1055 = .ok (.lstore 6, 2) := by decide +kernel
theorem d_L_law_1057 : decode md_L_law.2.1 1057 = .ok (.aload_n 2, 1) := by decide +kernel
theorem d_L_law_1058 : decode md_L_law.2.1 1058 = .ok (.invokevirtual 88, 3) := by decide +kernel
theorem d_L_law_1061 : decode md_L_law.2.1 1061 = .ok (.iload 5, 2) := by decide +kernel
theorem d_L_law_1063 : decode md_L_law.2.1 1063 = .ok (.if_icmp .eq 5, 3) := by decide +kernel
theorem d_L_law_1066 : decode md_L_law.2.1 1066 = .ok (.iconst 0, 1) := by decide +kernel
theorem d_L_law_1067 : decode md_L_law.2.1 1067 = .ok (.ireturn, 1) := by decide +kernel
theorem d_L_law_1068 : decode md_L_law.2.1 1068 = .ok (.iload 5, 2) := by decide +kernel
theorem d_L_law_1070 : decode md_L_law.2.1 1070 = .ok (.ifCond .ne 14, 3) := by decide +kernel
theorem d_L_law_1073 : decode md_L_law.2.1 1073 = .ok (.aload_n 3, 1) := by decide +kernel
theorem d_L_law_1074 : decode md_L_law.2.1 1074 = .ok (.iconst 0, 1) := by decide +kernel
theorem d_L_law_1075 : decode md_L_law.2.1 1075 = .ok (.laload, 1) := by decide +kernel
theorem d_L_law_1076 : decode md_L_law.2.1 1076 = .ok (.lload 6, 2) := by decide +kernel
theorem d_L_law_1078 : decode md_L_law.2.1 1078 = .ok (.lcmp, 1) := by decide +kernel
theorem d_L_law_1079 : decode md_L_law.2.1 1079 = .ok (.ifCond .eq 5, 3) := by decide +kernel
theorem d_L_law_1082 : decode md_L_law.2.1 1082 = .ok (.iconst 0, 1) := by decide +kernel
theorem d_L_law_1083 : decode md_L_law.2.1 1083 = .ok (.ireturn, 1) := by decide +kernel
theorem d_L_law_1084 : decode md_L_law.2.1 1084 = .ok (.goto 327, 3) := by decide +kernel
theorem d_L_law_1087 : decode md_L_law.2.1 1087 = .ok (.aload_n 1, 1) := by decide +kernel
theorem d_L_law_1088 : decode md_L_law.2.1 1088 = .ok (.aload_n 0, 1) := by decide +kernel
theorem d_L_law_1089 : decode md_L_law.2.1 1089 = .ok (.iload 4, 2) := by decide +kernel
theorem d_L_law_1091 : decode md_L_law.2.1 1091 = .ok (.iconst 1, 1) := by decide +kernel
theorem d_L_law_1092 : decode md_L_law.2.1 1092 = .ok (.iadd, 1) := by decide +kernel
theorem d_L_law_1093 : decode md_L_law.2.1 1093 = .ok (.iaload, 1) := by decide +kernel
theorem d_L_law_1094 : decode md_L_law.2.1 1094 = .ok (.aload_n 0, 1) := by decide +kernel
theorem d_L_law_1095 : decode md_L_law.2.1 1095 = .ok (.iload 4, 2) := by decide +kernel
theorem d_L_law_1097 : decode md_L_law.2.1 1097 = .ok (.iconst 2, 1) := by decide +kernel
theorem d_L_law_1098 : decode md_L_law.2.1 1098 = .ok (.iadd, 1) := by decide +kernel
theorem d_L_law_1099 : decode md_L_law.2.1 1099 = .ok (.iaload, 1) := by decide +kernel
theorem d_L_law_1100 : decode md_L_law.2.1 1100 = .ok (.aload_n 3, 1) := by decide +kernel
theorem d_L_law_1101 : decode md_L_law.2.1 1101 = .ok (.invokestatic 122, 3) := by decide +kernel
theorem d_L_law_1104 : decode md_L_law.2.1 1104 = .ok (.istore 5, 2) := by decide +kernel
theorem d_L_law_1106 : decode md_L_law.2.1 1106 = .ok (.aload_n 2, 1) := by decide +kernel
theorem d_L_law_1107 : decode md_L_law.2.1 1107 = .ok (.aload_n 0, 1) := by decide +kernel
theorem d_L_law_1108 : decode md_L_law.2.1 1108 = .ok (.iload 4, 2) := by decide +kernel
theorem d_L_law_1110 : decode md_L_law.2.1 1110 = .ok (.iconst 1, 1) := by decide +kernel
theorem d_L_law_1111 : decode md_L_law.2.1 1111 = .ok (.iadd, 1) := by decide +kernel
theorem d_L_law_1112 : decode md_L_law.2.1 1112 = .ok (.iaload, 1) := by decide +kernel
theorem d_L_law_1113 : decode md_L_law.2.1 1113 = .ok (.aload_n 0, 1) := by decide +kernel
theorem d_L_law_1114 : decode md_L_law.2.1 1114 = .ok (.iload 4, 2) := by decide +kernel
theorem d_L_law_1116 : decode md_L_law.2.1 1116 = .ok (.iconst 2, 1) := by decide +kernel
theorem d_L_law_1117 : decode md_L_law.2.1 1117 = .ok (.iadd, 1) := by decide +kernel
theorem d_L_law_1118 : decode md_L_law.2.1 1118 = .ok (.iaload, 1) := by decide +kernel
theorem d_L_law_1119 : decode md_L_law.2.1 1119 = .ok (.invokevirtual 124, 3) := by decide +kernel
theorem d_L_law_1122 : decode md_L_law.2.1 1122 = .ok (.lstore 6, 2) := by decide +kernel
theorem d_L_law_1124 : decode md_L_law.2.1 1124 = .ok (.aload_n 2, 1) := by decide +kernel
theorem d_L_law_1125 : decode md_L_law.2.1 1125 = .ok (.invokevirtual 88, 3) := by decide +kernel
theorem d_L_law_1128 : decode md_L_law.2.1 1128 = .ok (.iload 5, 2) := by decide +kernel
theorem d_L_law_1130 : decode md_L_law.2.1 1130 = .ok (.if_icmp .eq 5, 3) := by decide +kernel
theorem d_L_law_1133 : decode md_L_law.2.1 1133 = .ok (.iconst 0, 1) := by decide +kernel
theorem d_L_law_1134 : decode md_L_law.2.1 1134 = .ok (.ireturn, 1) := by decide +kernel
theorem d_L_law_1135 : decode md_L_law.2.1 1135 = .ok (.iload 5, 2) := by decide +kernel
theorem d_L_law_1137 : decode md_L_law.2.1 1137 = .ok (.ifCond .ne 14, 3) := by decide +kernel
theorem d_L_law_1140 : decode md_L_law.2.1 1140 = .ok (.aload_n 3, 1) := by decide +kernel
theorem d_L_law_1141 : decode md_L_law.2.1 1141 = .ok (.iconst 0, 1) := by decide +kernel
theorem d_L_law_1142 : decode md_L_law.2.1 1142 = .ok (.laload, 1) := by decide +kernel
theorem d_L_law_1143 : decode md_L_law.2.1 1143 = .ok (.lload 6, 2) := by decide +kernel
theorem d_L_law_1145 : decode md_L_law.2.1 1145 = .ok (.lcmp, 1) := by decide +kernel
theorem d_L_law_1146 : decode md_L_law.2.1 1146 = .ok (.ifCond .eq 5, 3) := by decide +kernel
theorem d_L_law_1149 : decode md_L_law.2.1 1149 = .ok (.iconst 0, 1) := by decide +kernel
theorem d_L_law_1150 : decode md_L_law.2.1 1150 = .ok (.ireturn, 1) := by decide +kernel
theorem d_L_law_1151 : decode md_L_law.2.1 1151 = .ok (.goto 260, 3) := by decide +kernel
theorem d_L_law_1154 : decode md_L_law.2.1 1154 = .ok (.aload_n 1, 1) := by decide +kernel
theorem d_L_law_1155 : decode md_L_law.2.1 1155 = .ok (.aload_n 3, 1) := by decide +kernel
theorem d_L_law_1156 : decode md_L_law.2.1 1156 = .ok (.invokestatic 125, 3) := by decide +kernel
theorem d_L_law_1159 : decode md_L_law.2.1 1159 = .ok (.istore 5, 2) := by decide +kernel
theorem d_L_law_1161 : decode md_L_law.2.1 1161 = .ok (.aload_n 2, 1) := by decide +kernel
theorem d_L_law_1162 : decode md_L_law.2.1 1162 = .ok (.invokevirtual 128, 3) := by decide +kernel
theorem d_L_law_1165 : decode md_L_law.2.1 1165 = .ok (.lstore 6, 2) := by decide +kernel
theorem d_L_law_1167 : decode md_L_law.2.1 1167 = .ok (.aload_n 2, 1) := by decide +kernel
theorem d_L_law_1168 : decode md_L_law.2.1 1168 = .ok (.invokevirtual 88, 3) := by decide +kernel
theorem d_L_law_1171 : decode md_L_law.2.1 1171 = .ok (.iload 5, 2) := by decide +kernel
theorem d_L_law_1173 : decode md_L_law.2.1 1173 = .ok (.if_icmp .eq 5, 3) := by decide +kernel
theorem d_L_law_1176 : decode md_L_law.2.1 1176 = .ok (.iconst 0, 1) := by decide +kernel
theorem d_L_law_1177 : decode md_L_law.2.1 1177 = .ok (.ireturn, 1) := by decide +kernel
theorem d_L_law_1178 : decode md_L_law.2.1 1178 = .ok (.iload 5, 2) := by decide +kernel
theorem d_L_law_1180 : decode md_L_law.2.1 1180 = .ok (.ifCond .ne 14, 3) := by decide +kernel
theorem d_L_law_1183 : decode md_L_law.2.1 1183 = .ok (.aload_n 3, 1) := by decide +kernel
theorem d_L_law_1184 : decode md_L_law.2.1 1184 = .ok (.iconst 0, 1) := by decide +kernel
theorem d_L_law_1185 : decode md_L_law.2.1 1185 = .ok (.laload, 1) := by decide +kernel
theorem d_L_law_1186 : decode md_L_law.2.1 1186 = .ok (.lload 6, 2) := by decide +kernel
theorem d_L_law_1188 : decode md_L_law.2.1 1188 = .ok (.lcmp, 1) := by decide +kernel
theorem d_L_law_1189 : decode md_L_law.2.1 1189 = .ok (.ifCond .eq 5, 3) := by decide +kernel
theorem d_L_law_1192 : decode md_L_law.2.1 1192 = .ok (.iconst 0, 1) := by decide +kernel
theorem d_L_law_1193 : decode md_L_law.2.1 1193 = .ok (.ireturn, 1) := by decide +kernel
theorem d_L_law_1194 : decode md_L_law.2.1 1194 = .ok (.goto 217, 3) := by decide +kernel
theorem d_L_law_1197 : decode md_L_law.2.1 1197 = .ok (.aload_n 1, 1) := by decide +kernel
theorem d_L_law_1198 : decode md_L_law.2.1 1198 = .ok (.aload_n 0, 1) := by decide +kernel
theorem d_L_law_1199 : decode md_L_law.2.1 1199 = .ok (.iload 4, 2) := by decide +kernel
theorem d_L_law_1201 : decode md_L_law.2.1 1201 = .ok (.iconst 1, 1) := by decide +kernel
theorem d_L_law_1202 : decode md_L_law.2.1 1202 = .ok (.iadd, 1) := by decide +kernel
theorem d_L_law_1203 : decode md_L_law.2.1 1203 = .ok (.iaload, 1) := by decide +kernel
theorem d_L_law_1204 : decode md_L_law.2.1 1204 = .ok (.aload_n 3, 1) := by decide +kernel
theorem d_L_law_1205 : decode md_L_law.2.1 1205 = .ok (.invokestatic 129, 3) := by decide +kernel
theorem d_L_law_1208 : decode md_L_law.2.1 1208 = .ok (.istore 5, 2) := by decide +kernel
theorem d_L_law_1210 : decode md_L_law.2.1 1210 = .ok (.aload_n 2, 1) := by decide +kernel
theorem d_L_law_1211 : decode md_L_law.2.1 1211 = .ok (.aload_n 0, 1) := by decide +kernel
theorem d_L_law_1212 : decode md_L_law.2.1 1212 = .ok (.iload 4, 2) := by decide +kernel
theorem d_L_law_1214 : decode md_L_law.2.1 1214 = .ok (.iconst 1, 1) := by decide +kernel
theorem d_L_law_1215 : decode md_L_law.2.1 1215 = .ok (.iadd, 1) := by decide +kernel
theorem d_L_law_1216 : decode md_L_law.2.1 1216 = .ok (.iaload, 1) := by decide +kernel
theorem d_L_law_1217 : decode md_L_law.2.1 1217 = .ok (.invokevirtual 132, 3) := by decide +kernel
theorem d_L_law_1220 : decode md_L_law.2.1 1220 = .ok (.istore 6, 2) := by decide +kernel
theorem d_L_law_1222 : decode md_L_law.2.1 1222 = .ok (.aload_n 2, 1) := by decide +kernel
theorem d_L_law_1223 : decode md_L_law.2.1 1223 = .ok (.invokevirtual 88, 3) := by decide +kernel
theorem d_L_law_1226 : decode md_L_law.2.1 1226 = .ok (.iload 5, 2) := by decide +kernel
theorem d_L_law_1228 : decode md_L_law.2.1 1228 = .ok (.if_icmp .eq 5, 3) := by decide +kernel
theorem d_L_law_1231 : decode md_L_law.2.1 1231 = .ok (.iconst 0, 1) := by decide +kernel
theorem d_L_law_1232 : decode md_L_law.2.1 1232 = .ok (.ireturn, 1) := by decide +kernel
theorem d_L_law_1233 : decode md_L_law.2.1 1233 = .ok (.iload 5, 2) := by decide +kernel
theorem d_L_law_1235 : decode md_L_law.2.1 1235 = .ok (.ifCond .ne 15, 3) := by decide +kernel
theorem d_L_law_1238 : decode md_L_law.2.1 1238 = .ok (.aload_n 3, 1) := by decide +kernel
theorem d_L_law_1239 : decode md_L_law.2.1 1239 = .ok (.iconst 0, 1) := by decide +kernel
theorem d_L_law_1240 : decode md_L_law.2.1 1240 = .ok (.laload, 1) := by decide +kernel
theorem d_L_law_1241 : decode md_L_law.2.1 1241 = .ok (.iload 6, 2) := by decide +kernel
theorem d_L_law_1243 : decode md_L_law.2.1 1243 = .ok (.i2l, 1) := by decide +kernel
theorem d_L_law_1244 : decode md_L_law.2.1 1244 = .ok (.lcmp, 1) := by decide +kernel
theorem d_L_law_1245 : decode md_L_law.2.1 1245 = .ok (.ifCond .eq 5, 3) := by decide +kernel
theorem d_L_law_1248 : decode md_L_law.2.1 1248 = .ok (.iconst 0, 1) := by decide +kernel
theorem d_L_law_1249 : decode md_L_law.2.1 1249 = .ok (.ireturn, 1) := by decide +kernel
theorem d_L_law_1250 : decode md_L_law.2.1 1250 = .ok (.goto 161, 3) := by decide +kernel
theorem d_L_law_1253 : decode md_L_law.2.1 1253 = .ok (.aload_n 1, 1) := by decide +kernel
theorem d_L_law_1254 : decode md_L_law.2.1 1254 = .ok (.aload_n 0, 1) := by decide +kernel
theorem d_L_law_1255 : decode md_L_law.2.1 1255 = .ok (.iload 4, 2) := by decide +kernel
theorem d_L_law_1257 : decode md_L_law.2.1 1257 = .ok (.iconst 1, 1) := by decide +kernel
theorem d_L_law_1258 : decode md_L_law.2.1 1258 = .ok (.iadd, 1) := by decide +kernel
theorem d_L_law_1259 : decode md_L_law.2.1 1259 = .ok (.iaload, 1) := by decide +kernel
theorem d_L_law_1260 : decode md_L_law.2.1 1260 = .ok (.i2l, 1) := by decide +kernel
theorem d_L_law_1261 : decode md_L_law.2.1 1261 = .ok (.bipush 32, 2) := by decide +kernel
theorem d_L_law_1263 : decode md_L_law.2.1 1263 = .ok (.lshl, 1) := by decide +kernel
theorem d_L_law_1264 : decode md_L_law.2.1 1264 = .ok (.aload_n 0, 1) := by decide +kernel
theorem d_L_law_1265 : decode md_L_law.2.1 1265 = .ok (.iload 4, 2) := by decide +kernel
theorem d_L_law_1267 : decode md_L_law.2.1 1267 = .ok (.iconst 2, 1) := by decide +kernel
theorem d_L_law_1268 : decode md_L_law.2.1 1268 = .ok (.iadd, 1) := by decide +kernel
theorem d_L_law_1269 : decode md_L_law.2.1 1269 = .ok (.iaload, 1) := by decide +kernel
theorem d_L_law_1270 : decode md_L_law.2.1 1270 = .ok (.i2l, 1) := by decide +kernel
theorem d_L_law_1271 : decode md_L_law.2.1 1271 = .ok (.ldc2_w 82, 3) := by decide +kernel
theorem d_L_law_1274 : decode md_L_law.2.1 1274 = .ok (.land, 1) := by decide +kernel
theorem d_L_law_1275 : decode md_L_law.2.1 1275 = .ok (.lor, 1) := by decide +kernel
theorem d_L_law_1276 : decode md_L_law.2.1 1276 = .ok (.aload_n 3, 1) := by decide +kernel
theorem d_L_law_1277 : decode md_L_law.2.1 1277 = .ok (.invokestatic 133, 3) := by decide +kernel
theorem d_L_law_1280 : decode md_L_law.2.1 1280 = .ok (.istore 5, 2) := by decide +kernel
theorem d_L_law_1282 : decode md_L_law.2.1 1282 = .ok (.aload_n 2, 1) := by decide +kernel
theorem d_L_law_1283 : decode md_L_law.2.1 1283 = .ok (.aload_n 0, 1) := by decide +kernel
theorem d_L_law_1284 : decode md_L_law.2.1 1284 = .ok (.iload 4, 2) := by decide +kernel
theorem d_L_law_1286 : decode md_L_law.2.1 1286 = .ok (.iconst 1, 1) := by decide +kernel
theorem d_L_law_1287 : decode md_L_law.2.1 1287 = .ok (.iadd, 1) := by decide +kernel
theorem d_L_law_1288 : decode md_L_law.2.1 1288 = .ok (.iaload, 1) := by decide +kernel
theorem d_L_law_1289 : decode md_L_law.2.1 1289 = .ok (.i2l, 1) := by decide +kernel
theorem d_L_law_1290 : decode md_L_law.2.1 1290 = .ok (.bipush 32, 2) := by decide +kernel
theorem d_L_law_1292 : decode md_L_law.2.1 1292 = .ok (.lshl, 1) := by decide +kernel
theorem d_L_law_1293 : decode md_L_law.2.1 1293 = .ok (.aload_n 0, 1) := by decide +kernel
theorem d_L_law_1294 : decode md_L_law.2.1 1294 = .ok (.iload 4, 2) := by decide +kernel
theorem d_L_law_1296 : decode md_L_law.2.1 1296 = .ok (.iconst 2, 1) := by decide +kernel
theorem d_L_law_1297 : decode md_L_law.2.1 1297 = .ok (.iadd, 1) := by decide +kernel
theorem d_L_law_1298 : decode md_L_law.2.1 1298 = .ok (.iaload, 1) := by decide +kernel
theorem d_L_law_1299 : decode md_L_law.2.1 1299 = .ok (.i2l, 1) := by decide +kernel
theorem d_L_law_1300 : decode md_L_law.2.1 1300 = .ok (.ldc2_w 82, 3) := by decide +kernel
theorem d_L_law_1303 : decode md_L_law.2.1 1303 = .ok (.land, 1) := by decide +kernel
theorem d_L_law_1304 : decode md_L_law.2.1 1304 = .ok (.lor, 1) := by decide +kernel
theorem d_L_law_1305 : decode md_L_law.2.1 1305 = .ok (.invokevirtual 136, 3) := by decide +kernel
theorem d_L_law_1308 : decode md_L_law.2.1 1308 = .ok (.istore 6, 2) := by decide +kernel
theorem d_L_law_1310 : decode md_L_law.2.1 1310 = .ok (.aload_n 2, 1) := by decide +kernel
theorem d_L_law_1311 : decode md_L_law.2.1 1311 = .ok (.invokevirtual 88, 3) := by decide +kernel
theorem d_L_law_1314 : decode md_L_law.2.1 1314 = .ok (.iload 5, 2) := by decide +kernel
theorem d_L_law_1316 : decode md_L_law.2.1 1316 = .ok (.if_icmp .eq 5, 3) := by decide +kernel
theorem d_L_law_1319 : decode md_L_law.2.1 1319 = .ok (.iconst 0, 1) := by decide +kernel
theorem d_L_law_1320 : decode md_L_law.2.1 1320 = .ok (.ireturn, 1) := by decide +kernel
theorem d_L_law_1321 : decode md_L_law.2.1 1321 = .ok (.iload 5, 2) := by decide +kernel
theorem d_L_law_1323 : decode md_L_law.2.1 1323 = .ok (.ifCond .ne 22, 3) := by decide +kernel
theorem d_L_law_1326 : decode md_L_law.2.1 1326 = .ok (.aload_n 3, 1) := by decide +kernel
theorem d_L_law_1327 : decode md_L_law.2.1 1327 = .ok (.iconst 0, 1) := by decide +kernel
theorem d_L_law_1328 : decode md_L_law.2.1 1328 = .ok (.laload, 1) := by decide +kernel
theorem d_L_law_1329 : decode md_L_law.2.1 1329 = .ok (.iload 6, 2) := by decide +kernel
theorem d_L_law_1331 : decode md_L_law.2.1 1331 = .ok (.ifCond .eq 7, 3) := by decide +kernel
theorem d_L_law_1334 : decode md_L_law.2.1 1334 = .ok (.lconst 1, 1) := by decide +kernel
theorem d_L_law_1335 : decode md_L_law.2.1 1335 = .ok (.goto 4, 3) := by decide +kernel
theorem d_L_law_1338 : decode md_L_law.2.1 1338 = .ok (.lconst 0, 1) := by decide +kernel
theorem d_L_law_1339 : decode md_L_law.2.1 1339 = .ok (.lcmp, 1) := by decide +kernel
theorem d_L_law_1340 : decode md_L_law.2.1 1340 = .ok (.ifCond .eq 5, 3) := by decide +kernel
theorem d_L_law_1343 : decode md_L_law.2.1 1343 = .ok (.iconst 0, 1) := by decide +kernel
theorem d_L_law_1344 : decode md_L_law.2.1 1344 = .ok (.ireturn, 1) := by decide +kernel
theorem d_L_law_1345 : decode md_L_law.2.1 1345 = .ok (.goto 66, 3) := by decide +kernel
theorem d_L_law_1348 : decode md_L_law.2.1 1348 = .ok (.aload_n 1, 1) := by decide +kernel
theorem d_L_law_1349 : decode md_L_law.2.1 1349 = .ok (.aload_n 0, 1) := by decide +kernel
theorem d_L_law_1350 : decode md_L_law.2.1 1350 = .ok (.iload 4, 2) := by decide +kernel
theorem d_L_law_1352 : decode md_L_law.2.1 1352 = .ok (.iconst 1, 1) := by decide +kernel
theorem d_L_law_1353 : decode md_L_law.2.1 1353 = .ok (.iadd, 1) := by decide +kernel
theorem d_L_law_1354 : decode md_L_law.2.1 1354 = .ok (.iaload, 1) := by decide +kernel
theorem d_L_law_1355 : decode md_L_law.2.1 1355 = .ok (.aload_n 3, 1) := by decide +kernel
theorem d_L_law_1356 : decode md_L_law.2.1 1356 = .ok (.invokestatic 137, 3) := by decide +kernel
theorem d_L_law_1359 : decode md_L_law.2.1 1359 = .ok (.istore 5, 2) := by decide +kernel
theorem d_L_law_1361 : decode md_L_law.2.1 1361 = .ok (.aload_n 2, 1) := by decide +kernel
theorem d_L_law_1362 : decode md_L_law.2.1 1362 = .ok (.aload_n 0, 1) := by decide +kernel
theorem d_L_law_1363 : decode md_L_law.2.1 1363 = .ok (.iload 4, 2) := by decide +kernel
theorem d_L_law_1365 : decode md_L_law.2.1 1365 = .ok (.iconst 1, 1) := by decide +kernel
theorem d_L_law_1366 : decode md_L_law.2.1 1366 = .ok (.iadd, 1) := by decide +kernel
theorem d_L_law_1367 : decode md_L_law.2.1 1367 = .ok (.iaload, 1) := by decide +kernel
theorem d_L_law_1368 : decode md_L_law.2.1 1368 = .ok (.invokevirtual 139, 3) := by decide +kernel
theorem d_L_law_1371 : decode md_L_law.2.1 1371 = .ok (.istore 6, 2) := by decide +kernel
theorem d_L_law_1373 : decode md_L_law.2.1 1373 = .ok (.aload_n 2, 1) := by decide +kernel
theorem d_L_law_1374 : decode md_L_law.2.1 1374 = .ok (.invokevirtual 88, 3) := by decide +kernel
theorem d_L_law_1377 : decode md_L_law.2.1 1377 = .ok (.iload 5, 2) := by decide +kernel
theorem d_L_law_1379 : decode md_L_law.2.1 1379 = .ok (.if_icmp .eq 5, 3) := by decide +kernel
theorem d_L_law_1382 : decode md_L_law.2.1 1382 = .ok (.iconst 0, 1) := by decide +kernel
theorem d_L_law_1383 : decode md_L_law.2.1 1383 = .ok (.ireturn, 1) := by decide +kernel
theorem d_L_law_1384 : decode md_L_law.2.1 1384 = .ok (.iload 5, 2) := by decide +kernel
theorem d_L_law_1386 : decode md_L_law.2.1 1386 = .ok (.ifCond .ne 22, 3) := by decide +kernel
theorem d_L_law_1389 : decode md_L_law.2.1 1389 = .ok (.aload_n 3, 1) := by decide +kernel
theorem d_L_law_1390 : decode md_L_law.2.1 1390 = .ok (.iconst 0, 1) := by decide +kernel
theorem d_L_law_1391 : decode md_L_law.2.1 1391 = .ok (.laload, 1) := by decide +kernel
theorem d_L_law_1392 : decode md_L_law.2.1 1392 = .ok (.iload 6, 2) := by decide +kernel
theorem d_L_law_1394 : decode md_L_law.2.1 1394 = .ok (.ifCond .eq 7, 3) := by decide +kernel
theorem d_L_law_1397 : decode md_L_law.2.1 1397 = .ok (.lconst 1, 1) := by decide +kernel
theorem d_L_law_1398 : decode md_L_law.2.1 1398 = .ok (.goto 4, 3) := by decide +kernel
theorem d_L_law_1401 : decode md_L_law.2.1 1401 = .ok (.lconst 0, 1) := by decide +kernel
theorem d_L_law_1402 : decode md_L_law.2.1 1402 = .ok (.lcmp, 1) := by decide +kernel
theorem d_L_law_1403 : decode md_L_law.2.1 1403 = .ok (.ifCond .eq 5, 3) := by decide +kernel
theorem d_L_law_1406 : decode md_L_law.2.1 1406 = .ok (.iconst 0, 1) := by decide +kernel
theorem d_L_law_1407 : decode md_L_law.2.1 1407 = .ok (.ireturn, 1) := by decide +kernel
theorem d_L_law_1408 : decode md_L_law.2.1 1408 = .ok (.goto 3, 3) := by decide +kernel
theorem d_L_law_1411 : decode md_L_law.2.1 1411 = .ok (.iinc 4 7, 3) := by decide +kernel
theorem d_L_law_1414 : decode md_L_law.2.1 1414 = .ok (.goto (-1351), 3) := by decide +kernel
theorem d_L_law_1417 : decode md_L_law.2.1 1417 = .ok (.iconst 1, 1) := by decide +kernel
theorem d_L_law_1418 : decode md_L_law.2.1 1418 = .ok (.ireturn, 1) := by decide +kernel
