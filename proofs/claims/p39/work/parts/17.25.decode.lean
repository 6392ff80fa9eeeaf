theorem d_L_law_915 : decode code 915 = .ok (.iadd, 1) := by decide +kernel
theorem d_L_law_926 : decode code 926 = .ok (.goto 476, 3) := by decide +kernel
theorem d_L_law_921 : decode code 921 = .ok (.iaload, 1) := by decide +kernel
theorem d_L_law_919 : decode code 919 = .ok (.iconst 3, 1) := by decide +kernel
theorem d_L_law_918 : decode code 918 = .ok (.iload_n 3, 1) := by decide +kernel
theorem d_L_law_920 : decode code 920 = .ok (.iadd, 1) := by decide +kernel
theorem d_L_law_925 : decode code 925 = .ok (.pop, 1) := by decide +kernel
theorem d_L_law_922 : decode code 922 = .ok (.invokevirtual 118, 3) := by decide +kernel
theorem d_L_law_932 : decode code 932 = .ok (.iconst 1, 1) := by decide +kernel
theorem d_L_law_930 : decode code 930 = .ok (.aload_n 0, 1) := by decide +kernel
theorem d_L_law_929 : decode code 929 = .ok (.aload_n 1, 1) := by decide +kernel
theorem d_L_law_931 : decode code 931 = .ok (.iload_n 3, 1) := by decide +kernel
theorem d_L_law_934 : decode code 934 = .ok (.iaload, 1) := by decide +kernel
theorem d_L_law_933 : decode code 933 = .ok (.iadd, 1) := by decide +kernel
theorem d_L_law_1007 : decode code 1007 = .ok (.iload_n 3, 1) := by decide +kernel
theorem d_L_law_968 : decode code 968 = .ok (.pop, 1) := by decide +kernel
theorem d_L_law_952 : decode code 952 = .ok (.iconst 1, 1) := by decide +kernel
theorem d_L_law_943 : decode code 943 = .ok (.iadd, 1) := by decide +kernel
theorem d_L_law_939 : decode code 939 = .ok (.iaload, 1) := by decide +kernel
theorem d_L_law_937 : decode code 937 = .ok (.iconst 2, 1) := by decide +kernel
theorem d_L_law_936 : decode code 936 = .ok (.iload_n 3, 1) := by decide +kernel
theorem d_L_law_938 : decode code 938 = .ok (.iadd, 1) := by decide +kernel
theorem d_L_law_941 : decode code 941 = .ok (.iload_n 3, 1) := by decide +kernel
theorem d_L_law_940 : decode code 940 = .ok (.aload_n 0, 1) := by decide +kernel
theorem d_L_law_942 : decode code 942 = .ok (.iconst 3, 1) := by decide +kernel
theorem d_L_law_949 : decode code 949 = .ok (.aload_n 2, 1) := by decide +kernel
theorem d_L_law_945 : decode code 945 = .ok (.invokevirtual 119, 3) := by decide +kernel
theorem d_L_law_944 : decode code 944 = .ok (.iaload, 1) := by decide +kernel
theorem d_L_law_948 : decode code 948 = .ok (.pop, 1) := by decide +kernel
theorem d_L_law_951 : decode code 951 = .ok (.iload_n 3, 1) := by decide +kernel
theorem d_L_law_950 : decode code 950 = .ok (.aload_n 0, 1) := by decide +kernel
theorem d_L_law_959 : decode code 959 = .ok (.iaload, 1) := by decide +kernel
theorem d_L_law_956 : decode code 956 = .ok (.iload_n 3, 1) := by decide +kernel
theorem d_L_law_954 : decode code 954 = .ok (.iaload, 1) := by decide +kernel
theorem d_L_law_953 : decode code 953 = .ok (.iadd, 1) := by decide +kernel
theorem d_L_law_955 : decode code 955 = .ok (.aload_n 0, 1) := by decide +kernel
theorem d_L_law_958 : decode code 958 = .ok (.iadd, 1) := by decide +kernel
theorem d_L_law_957 : decode code 957 = .ok (.iconst 2, 1) := by decide +kernel
theorem d_L_law_963 : decode code 963 = .ok (.iadd, 1) := by decide +kernel
theorem d_L_law_961 : decode code 961 = .ok (.iload_n 3, 1) := by decide +kernel
theorem d_L_law_960 : decode code 960 = .ok (.aload_n 0, 1) := by decide +kernel
theorem d_L_law_962 : decode code 962 = .ok (.iconst 3, 1) := by decide +kernel
theorem d_L_law_965 : decode code 965 = .ok (.invokevirtual 122, 3) := by decide +kernel
theorem d_L_law_964 : decode code 964 = .ok (.iaload, 1) := by decide +kernel
theorem d_L_law_987 : decode code 987 = .ok (.iaload, 1) := by decide +kernel
theorem d_L_law_978 : decode code 978 = .ok (.invokevirtual 123, 3) := by decide +kernel
theorem d_L_law_974 : decode code 974 = .ok (.iload_n 3, 1) := by decide +kernel
theorem d_L_law_972 : decode code 972 = .ok (.aload_n 1, 1) := by decide +kernel
theorem d_L_law_969 : decode code 969 = .ok (.goto 433, 3) := by decide +kernel
theorem d_L_law_973 : decode code 973 = .ok (.aload_n 0, 1) := by decide +kernel
theorem d_L_law_976 : decode code 976 = .ok (.iadd, 1) := by decide +kernel
theorem d_L_law_975 : decode code 975 = .ok (.iconst 1, 1) := by decide +kernel
theorem d_L_law_977 : decode code 977 = .ok (.iaload, 1) := by decide +kernel
theorem d_L_law_984 : decode code 984 = .ok (.iload_n 3, 1) := by decide +kernel
theorem d_L_law_982 : decode code 982 = .ok (.aload_n 2, 1) := by decide +kernel
theorem d_L_law_981 : decode code 981 = .ok (.pop, 1) := by decide +kernel
theorem d_L_law_983 : decode code 983 = .ok (.aload_n 0, 1) := by decide +kernel
theorem d_L_law_986 : decode code 986 = .ok (.iadd, 1) := by decide +kernel
theorem d_L_law_985 : decode code 985 = .ok (.iconst 1, 1) := by decide +kernel
theorem d_L_law_998 : decode code 998 = .ok (.iconst 1, 1) := by decide +kernel
theorem d_L_law_995 : decode code 995 = .ok (.aload_n 1, 1) := by decide +kernel
theorem d_L_law_991 : decode code 991 = .ok (.pop, 1) := by decide +kernel
theorem d_L_law_988 : decode code 988 = .ok (.invokevirtual 126, 3) := by decide +kernel
theorem d_L_law_992 : decode code 992 = .ok (.goto 410, 3) := by decide +kernel
theorem d_L_law_997 : decode code 997 = .ok (.iload_n 3, 1) := by decide +kernel
theorem d_L_law_996 : decode code 996 = .ok (.aload_n 0, 1) := by decide +kernel
theorem d_L_law_1004 : decode code 1004 = .ok (.pop, 1) := by decide +kernel
theorem d_L_law_1000 : decode code 1000 = .ok (.iaload, 1) := by decide +kernel
theorem d_L_law_999 : decode code 999 = .ok (.iadd, 1) := by decide +kernel
theorem d_L_law_1001 : decode code 1001 = .ok (.invokevirtual 127, 3) := by decide +kernel
theorem d_L_law_1006 : decode code 1006 = .ok (.aload_n 0, 1) := by decide +kernel
theorem d_L_law_1005 : decode code 1005 = .ok (.aload_n 2, 1) := by decide +kernel
theorem d_L_law_1050 : decode code 1050 = .ok (.pop, 1) := by decide +kernel
theorem d_L_law_1028 : decode code 1028 = .ok (.aload_n 2, 1) := by decide +kernel
theorem d_L_law_1019 : decode code 1019 = .ok (.aload_n 0, 1) := by decide +kernel
theorem d_L_law_1011 : decode code 1011 = .ok (.invokevirtual 130, 3) := by decide +kernel
theorem d_L_law_1009 : decode code 1009 = .ok (.iadd, 1) := by decide +kernel
theorem d_L_law_1008 : decode code 1008 = .ok (.iconst 1, 1) := by decide +kernel
theorem d_L_law_1010 : decode code 1010 = .ok (.iaload, 1) := by decide +kernel
theorem d_L_law_1015 : decode code 1015 = .ok (.goto 387, 3) := by decide +kernel
theorem d_L_law_1014 : decode code 1014 = .ok (.pop, 1) := by decide +kernel
theorem d_L_law_1018 : decode code 1018 = .ok (.aload_n 1, 1) := by decide +kernel
theorem d_L_law_1023 : decode code 1023 = .ok (.iaload, 1) := by decide +kernel
theorem d_L_law_1021 : decode code 1021 = .ok (.iconst 1, 1) := by decide +kernel
theorem d_L_law_1020 : decode code 1020 = .ok (.iload_n 3, 1) := by decide +kernel
theorem d_L_law_1022 : decode code 1022 = .ok (.iadd, 1) := by decide +kernel
theorem d_L_law_1027 : decode code 1027 = .ok (.pop, 1) := by decide +kernel
theorem d_L_law_1024 : decode code 1024 = .ok (.invokevirtual 131, 3) := by decide +kernel
theorem d_L_law_1037 : decode code 1037 = .ok (.pop, 1) := by decide +kernel
theorem d_L_law_1032 : decode code 1032 = .ok (.iadd, 1) := by decide +kernel
theorem d_L_law_1030 : decode code 1030 = .ok (.iload_n 3, 1) := by decide +kernel
theorem d_L_law_1029 : decode code 1029 = .ok (.aload_n 0, 1) := by decide +kernel
theorem d_L_law_1031 : decode code 1031 = .ok (.iconst 1, 1) := by decide +kernel
theorem d_L_law_1034 : decode code 1034 = .ok (.invokevirtual 134, 3) := by decide +kernel
theorem d_L_law_1033 : decode code 1033 = .ok (.iaload, 1) := by decide +kernel
theorem d_L_law_1045 : decode code 1045 = .ok (.pop, 1) := by decide +kernel
theorem d_L_law_1041 : decode code 1041 = .ok (.aload_n 1, 1) := by decide +kernel
theorem d_L_law_1038 : decode code 1038 = .ok (.goto 364, 3) := by decide +kernel
theorem d_L_law_1042 : decode code 1042 = .ok (.invokevirtual 135, 3) := by decide +kernel
theorem d_L_law_1047 : decode code 1047 = .ok (.invokevirtual 138, 3) := by decide +kernel
theorem d_L_law_1046 : decode code 1046 = .ok (.aload_n 2, 1) := by decide +kernel
theorem d_L_law_1077 : decode code 1077 = .ok (.goto 325, 3) := by decide +kernel
theorem d_L_law_1064 : decode code 1064 = .ok (.goto 338, 3) := by decide +kernel
theorem d_L_law_1058 : decode code 1058 = .ok (.pop, 1) := by decide +kernel
theorem d_L_law_1054 : decode code 1054 = .ok (.aload_n 1, 1) := by decide +kernel
theorem d_L_law_1051 : decode code 1051 = .ok (.goto 351, 3) := by decide +kernel
theorem d_L_law_1055 : decode code 1055 = .ok (.invokevirtual 139, 3) := by decide +kernel
theorem d_L_law_1060 : decode code 1060 = .ok (.invokevirtual 142, 3) := by decide +kernel
theorem d_L_law_1059 : decode code 1059 = .ok (.aload_n 2, 1) := by decide +kernel
theorem d_L_law_1063 : decode code 1063 = .ok (.pop, 1) := by decide +kernel
theorem d_L_law_1072 : decode code 1072 = .ok (.aload_n 2, 1) := by decide +kernel
theorem d_L_law_1068 : decode code 1068 = .ok (.invokevirtual 143, 3) := by decide +kernel
theorem d_L_law_1067 : decode code 1067 = .ok (.aload_n 1, 1) := by decide +kernel
theorem d_L_law_1071 : decode code 1071 = .ok (.pop, 1) := by decide +kernel
theorem d_L_law_1076 : decode code 1076 = .ok (.pop, 1) := by decide +kernel
theorem d_L_law_1073 : decode code 1073 = .ok (.invokevirtual 146, 3) := by decide +kernel
theorem d_L_law_1090 : decode code 1090 = .ok (.goto 312, 3) := by decide +kernel
theorem d_L_law_1085 : decode code 1085 = .ok (.aload_n 2, 1) := by decide +kernel
theorem d_L_law_1081 : decode code 1081 = .ok (.invokevirtual 147, 3) := by decide +kernel
theorem d_L_law_1080 : decode code 1080 = .ok (.aload_n 1, 1) := by decide +kernel
theorem d_L_law_1084 : decode code 1084 = .ok (.pop, 1) := by decide +kernel
theorem d_L_law_1089 : decode code 1089 = .ok (.pop, 1) := by decide +kernel
theorem d_L_law_1086 : decode code 1086 = .ok (.invokevirtual 150, 3) := by decide +kernel
theorem d_L_law_1096 : decode code 1096 = .ok (.iconst 1, 1) := by decide +kernel
theorem d_L_law_1094 : decode code 1094 = .ok (.aload_n 0, 1) := by decide +kernel
theorem d_L_law_1093 : decode code 1093 = .ok (.aload_n 1, 1) := by decide +kernel
theorem d_L_law_1095 : decode code 1095 = .ok (.iload_n 3, 1) := by decide +kernel
theorem d_L_law_1098 : decode code 1098 = .ok (.iaload, 1) := by decide +kernel
theorem d_L_law_1097 : decode code 1097 = .ok (.iadd, 1) := by decide +kernel
theorem d_L_law_1256 : decode code 1256 = .ok (.iload_n 3, 1) := by decide +kernel
theorem d_L_law_1176 : decode code 1176 = .ok (.iadd, 1) := by decide +kernel
theorem d_L_law_1141 : decode code 1141 = .ok (.iload_n 3, 1) := by decide +kernel
theorem d_L_law_1120 : decode code 1120 = .ok (.iadd, 1) := by decide +kernel
theorem d_L_law_1109 : decode code 1109 = .ok (.invokevirtual 154, 3) := by decide +kernel
theorem d_L_law_1105 : decode code 1105 = .ok (.iload_n 3, 1) := by decide +kernel
theorem d_L_law_1103 : decode code 1103 = .ok (.aload_n 2, 1) := by decide +kernel
theorem d_L_law_1102 : decode code 1102 = .ok (.pop, 1) := by decide +kernel
theorem d_L_law_1104 : decode code 1104 = .ok (.aload_n 0, 1) := by decide +kernel
theorem d_L_law_1107 : decode code 1107 = .ok (.iadd, 1) := by decide +kernel
theorem d_L_law_1106 : decode code 1106 = .ok (.iconst 1, 1) := by decide +kernel
theorem d_L_law_1108 : decode code 1108 = .ok (.iaload, 1) := by decide +kernel
theorem d_L_law_1117 : decode code 1117 = .ok (.aload_n 0, 1) := by decide +kernel
theorem d_L_law_1113 : decode code 1113 = .ok (.goto 289, 3) := by decide +kernel
theorem d_L_law_1112 : decode code 1112 = .ok (.pop, 1) := by decide +kernel
theorem d_L_law_1116 : decode code 1116 = .ok (.aload_n 1, 1) := by decide +kernel
theorem d_L_law_1119 : decode code 1119 = .ok (.iconst 1, 1) := by decide +kernel
theorem d_L_law_1118 : decode code 1118 = .ok (.iload_n 3, 1) := by decide +kernel
theorem d_L_law_1130 : decode code 1130 = .ok (.iadd, 1) := by decide +kernel
theorem d_L_law_1126 : decode code 1126 = .ok (.aload_n 2, 1) := by decide +kernel
theorem d_L_law_1122 : decode code 1122 = .ok (.invokevirtual 155, 3) := by decide +kernel
theorem d_L_law_1121 : decode code 1121 = .ok (.iaload, 1) := by decide +kernel
theorem d_L_law_1125 : decode code 1125 = .ok (.pop, 1) := by decide +kernel
theorem d_L_law_1128 : decode code 1128 = .ok (.iload_n 3, 1) := by decide +kernel
theorem d_L_law_1127 : decode code 1127 = .ok (.aload_n 0, 1) := by decide +kernel
theorem d_L_law_1129 : decode code 1129 = .ok (.iconst 1, 1) := by decide +kernel
theorem d_L_law_1136 : decode code 1136 = .ok (.goto 266, 3) := by decide +kernel
theorem d_L_law_1132 : decode code 1132 = .ok (.invokevirtual 158, 3) := by decide +kernel
theorem d_L_law_1131 : decode code 1131 = .ok (.iaload, 1) := by decide +kernel
theorem d_L_law_1135 : decode code 1135 = .ok (.pop, 1) := by decide +kernel
theorem d_L_law_1140 : decode code 1140 = .ok (.aload_n 0, 1) := by decide +kernel
theorem d_L_law_1139 : decode code 1139 = .ok (.aload_n 1, 1) := by decide +kernel
theorem d_L_law_1158 : decode code 1158 = .ok (.iconst 1, 1) := by decide +kernel
theorem d_L_law_1149 : decode code 1149 = .ok (.iaload, 1) := by decide +kernel
theorem d_L_law_1145 : decode code 1145 = .ok (.aload_n 0, 1) := by decide +kernel
theorem d_L_law_1143 : decode code 1143 = .ok (.iadd, 1) := by decide +kernel
theorem d_L_law_1142 : decode code 1142 = .ok (.iconst 1, 1) := by decide +kernel
theorem d_L_law_1144 : decode code 1144 = .ok (.iaload, 1) := by decide +kernel
theorem d_L_law_1147 : decode code 1147 = .ok (.iconst 2, 1) := by decide +kernel
theorem d_L_law_1146 : decode code 1146 = .ok (.iload_n 3, 1) := by decide +kernel
theorem d_L_law_1148 : decode code 1148 = .ok (.iadd, 1) := by decide +kernel
theorem d_L_law_1153 : decode code 1153 = .ok (.iadd, 1) := by decide +kernel
theorem d_L_law_1151 : decode code 1151 = .ok (.iload_n 3, 1) := by decide +kernel
theorem d_L_law_1150 : decode code 1150 = .ok (.aload_n 0, 1) := by decide +kernel
theorem d_L_law_1152 : decode code 1152 = .ok (.iconst 3, 1) := by decide +kernel
theorem d_L_law_1155 : decode code 1155 = .ok (.ifCond .eq 7, 3) := by decide +kernel
theorem d_L_law_1154 : decode code 1154 = .ok (.iaload, 1) := by decide +kernel
theorem d_L_law_1169 : decode code 1169 = .ok (.iload_n 3, 1) := by decide +kernel
theorem d_L_law_1166 : decode code 1166 = .ok (.pop, 1) := by decide +kernel
theorem d_L_law_1162 : decode code 1162 = .ok (.iconst 0, 1) := by decide +kernel
theorem d_L_law_1159 : decode code 1159 = .ok (.goto 4, 3) := by decide +kernel
theorem d_L_law_1163 : decode code 1163 = .ok (.invokevirtual 159, 3) := by decide +kernel
theorem d_L_law_1168 : decode code 1168 = .ok (.aload_n 0, 1) := by decide +kernel
theorem d_L_law_1167 : decode code 1167 = .ok (.aload_n 2, 1) := by decide +kernel
theorem d_L_law_1173 : decode code 1173 = .ok (.aload_n 0, 1) := by decide +kernel
theorem d_L_law_1171 : decode code 1171 = .ok (.iadd, 1) := by decide +kernel
theorem d_L_law_1170 : decode code 1170 = .ok (.iconst 1, 1) := by decide +kernel
theorem d_L_law_1172 : decode code 1172 = .ok (.iaload, 1) := by decide +kernel
theorem d_L_law_1175 : decode code 1175 = .ok (.iconst 2, 1) := by decide +kernel
theorem d_L_law_1174 : decode code 1174 = .ok (.iload_n 3, 1) := by decide +kernel
theorem d_L_law_1217 : decode code 1217 = .ok (.pop, 1) := by decide +kernel
theorem d_L_law_1199 : decode code 1199 = .ok (.aload_n 0, 1) := by decide +kernel
theorem d_L_law_1186 : decode code 1186 = .ok (.iconst 1, 1) := by decide +kernel
theorem d_L_law_1180 : decode code 1180 = .ok (.iconst 3, 1) := by decide +kernel
theorem d_L_law_1178 : decode code 1178 = .ok (.aload_n 0, 1) := by decide +kernel
theorem d_L_law_1177 : decode code 1177 = .ok (.iaload, 1) := by decide +kernel
theorem d_L_law_1179 : decode code 1179 = .ok (.iload_n 3, 1) := by decide +kernel
theorem d_L_law_1182 : decode code 1182 = .ok (.iaload, 1) := by decide +kernel
theorem d_L_law_1181 : decode code 1181 = .ok (.iadd, 1) := by decide +kernel
theorem d_L_law_1183 : decode code 1183 = .ok (.ifCond .eq 7, 3) := by decide +kernel
theorem d_L_law_1194 : decode code 1194 = .ok (.pop, 1) := by decide +kernel
theorem d_L_law_1190 : decode code 1190 = .ok (.iconst 0, 1) := by decide +kernel
theorem d_L_law_1187 : decode code 1187 = .ok (.goto 4, 3) := by decide +kernel
theorem d_L_law_1191 : decode code 1191 = .ok (.invokevirtual 163, 3) := by decide +kernel
theorem d_L_law_1198 : decode code 1198 = .ok (.aload_n 1, 1) := by decide +kernel
theorem d_L_law_1195 : decode code 1195 = .ok (.goto 207, 3) := by decide +kernel
theorem d_L_law_1208 : decode code 1208 = .ok (.aload_n 2, 1) := by decide +kernel
theorem d_L_law_1203 : decode code 1203 = .ok (.iaload, 1) := by decide +kernel
theorem d_L_law_1201 : decode code 1201 = .ok (.iconst 1, 1) := by decide +kernel
theorem d_L_law_1200 : decode code 1200 = .ok (.iload_n 3, 1) := by decide +kernel
theorem d_L_law_1202 : decode code 1202 = .ok (.iadd, 1) := by decide +kernel
theorem d_L_law_1207 : decode code 1207 = .ok (.pop, 1) := by decide +kernel
theorem d_L_law_1204 : decode code 1204 = .ok (.invokevirtual 164, 3) := by decide +kernel
theorem d_L_law_1212 : decode code 1212 = .ok (.iadd, 1) := by decide +kernel
theorem d_L_law_1210 : decode code 1210 = .ok (.iload_n 3, 1) := by decide +kernel
theorem d_L_law_1209 : decode code 1209 = .ok (.aload_n 0, 1) := by decide +kernel
theorem d_L_law_1211 : decode code 1211 = .ok (.iconst 1, 1) := by decide +kernel
theorem d_L_law_1214 : decode code 1214 = .ok (.invokevirtual 168, 3) := by decide +kernel
theorem d_L_law_1213 : decode code 1213 = .ok (.iaload, 1) := by decide +kernel
theorem d_L_law_1236 : decode code 1236 = .ok (.invokevirtual 172, 3) := by decide +kernel
theorem d_L_law_1227 : decode code 1227 = .ok (.invokevirtual 169, 3) := by decide +kernel
theorem d_L_law_1223 : decode code 1223 = .ok (.iload_n 3, 1) := by decide +kernel
theorem d_L_law_1221 : decode code 1221 = .ok (.aload_n 1, 1) := by decide +kernel
theorem d_L_law_1218 : decode code 1218 = .ok (.goto 184, 3) := by decide +kernel
theorem d_L_law_1222 : decode code 1222 = .ok (.aload_n 0, 1) := by decide +kernel
theorem d_L_law_1225 : decode code 1225 = .ok (.iadd, 1) := by decide +kernel
theorem d_L_law_1224 : decode code 1224 = .ok (.iconst 1, 1) := by decide +kernel
theorem d_L_law_1226 : decode code 1226 = .ok (.iaload, 1) := by decide +kernel
theorem d_L_law_1233 : decode code 1233 = .ok (.iconst 1, 1) := by decide +kernel
theorem d_L_law_1231 : decode code 1231 = .ok (.aload_n 0, 1) := by decide +kernel
theorem d_L_law_1230 : decode code 1230 = .ok (.aload_n 2, 1) := by decide +kernel
theorem d_L_law_1232 : decode code 1232 = .ok (.iload_n 3, 1) := by decide +kernel
theorem d_L_law_1235 : decode code 1235 = .ok (.iaload, 1) := by decide +kernel
theorem d_L_law_1234 : decode code 1234 = .ok (.iadd, 1) := by decide +kernel
theorem d_L_law_1247 : decode code 1247 = .ok (.iconst 1, 1) := by decide +kernel
theorem d_L_law_1244 : decode code 1244 = .ok (.aload_n 1, 1) := by decide +kernel
theorem d_L_law_1242 : decode code 1242 = .ok (.iconst 0, 1) := by decide +kernel
theorem d_L_law_1239 : decode code 1239 = .ok (.if_icmp .eq 163, 3) := by decide +kernel
theorem d_L_law_1243 : decode code 1243 = .ok (.ireturn, 1) := by decide +kernel
theorem d_L_law_1246 : decode code 1246 = .ok (.iload_n 3, 1) := by decide +kernel
theorem d_L_law_1245 : decode code 1245 = .ok (.aload_n 0, 1) := by decide +kernel
theorem d_L_law_1253 : decode code 1253 = .ok (.pop, 1) := by decide +kernel
theorem d_L_law_1249 : decode code 1249 = .ok (.iaload, 1) := by decide +kernel
theorem d_L_law_1248 : decode code 1248 = .ok (.iadd, 1) := by decide +kernel
theorem d_L_law_1250 : decode code 1250 = .ok (.invokevirtual 173, 3) := by decide +kernel
theorem d_L_law_1255 : decode code 1255 = .ok (.aload_n 0, 1) := by decide +kernel
theorem d_L_law_1254 : decode code 1254 = .ok (.aload_n 2, 1) := by decide +kernel
theorem d_L_law_1326 : decode code 1326 = .ok (.invokevirtual 184, 3) := by decide +kernel
theorem d_L_law_1291 : decode code 1291 = .ok (.iadd, 1) := by decide +kernel
theorem d_L_law_1275 : decode code 1275 = .ok (.iconst 2, 1) := by decide +kernel
theorem d_L_law_1268 : decode code 1268 = .ok (.aload_n 0, 1) := by decide +kernel
theorem d_L_law_1260 : decode code 1260 = .ok (.invokevirtual 176, 3) := by decide +kernel
theorem d_L_law_1258 : decode code 1258 = .ok (.iadd, 1) := by decide +kernel
theorem d_L_law_1257 : decode code 1257 = .ok (.iconst 1, 1) := by decide +kernel
theorem d_L_law_1259 : decode code 1259 = .ok (.iaload, 1) := by decide +kernel
theorem d_L_law_1264 : decode code 1264 = .ok (.goto 138, 3) := by decide +kernel
theorem d_L_law_1263 : decode code 1263 = .ok (.pop, 1) := by decide +kernel
theorem d_L_law_1267 : decode code 1267 = .ok (.aload_n 1, 1) := by decide +kernel
theorem d_L_law_1272 : decode code 1272 = .ok (.iaload, 1) := by decide +kernel
theorem d_L_law_1270 : decode code 1270 = .ok (.iconst 1, 1) := by decide +kernel
theorem d_L_law_1269 : decode code 1269 = .ok (.iload_n 3, 1) := by decide +kernel
theorem d_L_law_1271 : decode code 1271 = .ok (.iadd, 1) := by decide +kernel
theorem d_L_law_1274 : decode code 1274 = .ok (.iload_n 3, 1) := by decide +kernel
theorem d_L_law_1273 : decode code 1273 = .ok (.aload_n 0, 1) := by decide +kernel
theorem d_L_law_1284 : decode code 1284 = .ok (.iload_n 3, 1) := by decide +kernel
theorem d_L_law_1281 : decode code 1281 = .ok (.pop, 1) := by decide +kernel
theorem d_L_law_1277 : decode code 1277 = .ok (.iaload, 1) := by decide +kernel
theorem d_L_law_1276 : decode code 1276 = .ok (.iadd, 1) := by decide +kernel
theorem d_L_law_1278 : decode code 1278 = .ok (.invokevirtual 177, 3) := by decide +kernel
theorem d_L_law_1283 : decode code 1283 = .ok (.aload_n 0, 1) := by decide +kernel
theorem d_L_law_1282 : decode code 1282 = .ok (.aload_n 2, 1) := by decide +kernel
theorem d_L_law_1288 : decode code 1288 = .ok (.aload_n 0, 1) := by decide +kernel
theorem d_L_law_1286 : decode code 1286 = .ok (.iadd, 1) := by decide +kernel
theorem d_L_law_1285 : decode code 1285 = .ok (.iconst 1, 1) := by decide +kernel
theorem d_L_law_1287 : decode code 1287 = .ok (.iaload, 1) := by decide +kernel
theorem d_L_law_1290 : decode code 1290 = .ok (.iconst 2, 1) := by decide +kernel
theorem d_L_law_1289 : decode code 1289 = .ok (.iload_n 3, 1) := by decide +kernel
theorem d_L_law_1310 : decode code 1310 = .ok (.iaload, 1) := by decide +kernel
theorem d_L_law_1303 : decode code 1303 = .ok (.iconst 1, 1) := by decide +kernel
theorem d_L_law_1297 : decode code 1297 = .ok (.goto 105, 3) := by decide +kernel
theorem d_L_law_1293 : decode code 1293 = .ok (.invokevirtual 180, 3) := by decide +kernel
theorem d_L_law_1292 : decode code 1292 = .ok (.iaload, 1) := by decide +kernel
theorem d_L_law_1296 : decode code 1296 = .ok (.pop, 1) := by decide +kernel
theorem d_L_law_1301 : decode code 1301 = .ok (.aload_n 0, 1) := by decide +kernel
theorem d_L_law_1300 : decode code 1300 = .ok (.aload_n 1, 1) := by decide +kernel
theorem d_L_law_1302 : decode code 1302 = .ok (.iload_n 3, 1) := by decide +kernel
theorem d_L_law_1307 : decode code 1307 = .ok (.iload_n 3, 1) := by decide +kernel
theorem d_L_law_1305 : decode code 1305 = .ok (.iaload, 1) := by decide +kernel
theorem d_L_law_1304 : decode code 1304 = .ok (.iadd, 1) := by decide +kernel
theorem d_L_law_1306 : decode code 1306 = .ok (.aload_n 0, 1) := by decide +kernel
theorem d_L_law_1309 : decode code 1309 = .ok (.iadd, 1) := by decide +kernel
theorem d_L_law_1308 : decode code 1308 = .ok (.iconst 2, 1) := by decide +kernel
theorem d_L_law_1319 : decode code 1319 = .ok (.iadd, 1) := by decide +kernel
theorem d_L_law_1316 : decode code 1316 = .ok (.aload_n 0, 1) := by decide +kernel
theorem d_L_law_1314 : decode code 1314 = .ok (.pop, 1) := by decide +kernel
theorem d_L_law_1311 : decode code 1311 = .ok (.invokevirtual 181, 3) := by decide +kernel
theorem d_L_law_1315 : decode code 1315 = .ok (.aload_n 2, 1) := by decide +kernel
theorem d_L_law_1318 : decode code 1318 = .ok (.iconst 1, 1) := by decide +kernel
theorem d_L_law_1317 : decode code 1317 = .ok (.iload_n 3, 1) := by decide +kernel
theorem d_L_law_1323 : decode code 1323 = .ok (.iconst 2, 1) := by decide +kernel
theorem d_L_law_1321 : decode code 1321 = .ok (.aload_n 0, 1) := by decide +kernel
theorem d_L_law_1320 : decode code 1320 = .ok (.iaload, 1) := by decide +kernel
theorem d_L_law_1322 : decode code 1322 = .ok (.iload_n 3, 1) := by decide +kernel
theorem d_L_law_1325 : decode code 1325 = .ok (.iaload, 1) := by decide +kernel
theorem d_L_law_1324 : decode code 1324 = .ok (.iadd, 1) := by decide +kernel
theorem d_L_law_1367 : decode code 1367 = .ok (.aload_n 0, 1) := by decide +kernel
theorem d_L_law_1347 : decode code 1347 = .ok (.iadd, 1) := by decide +kernel
theorem d_L_law_1338 : decode code 1338 = .ok (.iaload, 1) := by decide +kernel
theorem d_L_law_1334 : decode code 1334 = .ok (.aload_n 0, 1) := by decide +kernel
theorem d_L_law_1330 : decode code 1330 = .ok (.goto 72, 3) := by decide +kernel
theorem d_L_law_1329 : decode code 1329 = .ok (.pop, 1) := by decide +kernel
theorem d_L_law_1333 : decode code 1333 = .ok (.aload_n 1, 1) := by decide +kernel
theorem d_L_law_1336 : decode code 1336 = .ok (.iconst 1, 1) := by decide +kernel
theorem d_L_law_1335 : decode code 1335 = .ok (.iload_n 3, 1) := by decide +kernel
theorem d_L_law_1337 : decode code 1337 = .ok (.iadd, 1) := by decide +kernel
theorem d_L_law_1344 : decode code 1344 = .ok (.aload_n 0, 1) := by decide +kernel
theorem d_L_law_1342 : decode code 1342 = .ok (.pop, 1) := by decide +kernel
theorem d_L_law_1339 : decode code 1339 = .ok (.invokevirtual 185, 3) := by decide +kernel
theorem d_L_law_1343 : decode code 1343 = .ok (.aload_n 2, 1) := by decide +kernel
theorem d_L_law_1346 : decode code 1346 = .ok (.iconst 1, 1) := by decide +kernel
theorem d_L_law_1345 : decode code 1345 = .ok (.iload_n 3, 1) := by decide +kernel
theorem d_L_law_1358 : decode code 1358 = .ok (.iload_n 3, 1) := by decide +kernel
theorem d_L_law_1353 : decode code 1353 = .ok (.goto 49, 3) := by decide +kernel
theorem d_L_law_1349 : decode code 1349 = .ok (.invokevirtual 188, 3) := by decide +kernel
theorem d_L_law_1348 : decode code 1348 = .ok (.iaload, 1) := by decide +kernel
theorem d_L_law_1352 : decode code 1352 = .ok (.pop, 1) := by decide +kernel
theorem d_L_law_1357 : decode code 1357 = .ok (.aload_n 0, 1) := by decide +kernel
theorem d_L_law_1356 : decode code 1356 = .ok (.aload_n 1, 1) := by decide +kernel
theorem d_L_law_1362 : decode code 1362 = .ok (.invokevirtual 189, 3) := by decide +kernel
theorem d_L_law_1360 : decode code 1360 = .ok (.iadd, 1) := by decide +kernel
theorem d_L_law_1359 : decode code 1359 = .ok (.iconst 1, 1) := by decide +kernel
theorem d_L_law_1361 : decode code 1361 = .ok (.iaload, 1) := by decide +kernel
theorem d_L_law_1366 : decode code 1366 = .ok (.aload_n 2, 1) := by decide +kernel
theorem d_L_law_1365 : decode code 1365 = .ok (.pop, 1) := by decide +kernel
theorem d_L_law_1388 : decode code 1388 = .ok (.pop, 1) := by decide +kernel
theorem d_L_law_1379 : decode code 1379 = .ok (.aload_n 1, 1) := by decide +kernel
theorem d_L_law_1371 : decode code 1371 = .ok (.iaload, 1) := by decide +kernel
theorem d_L_law_1369 : decode code 1369 = .ok (.iconst 1, 1) := by decide +kernel
theorem d_L_law_1368 : decode code 1368 = .ok (.iload_n 3, 1) := by decide +kernel
theorem d_L_law_1370 : decode code 1370 = .ok (.iadd, 1) := by decide +kernel
theorem d_L_law_1375 : decode code 1375 = .ok (.pop, 1) := by decide +kernel
theorem d_L_law_1372 : decode code 1372 = .ok (.invokevirtual 192, 3) := by decide +kernel
theorem d_L_law_1376 : decode code 1376 = .ok (.goto 26, 3) := by decide +kernel
theorem d_L_law_1383 : decode code 1383 = .ok (.iadd, 1) := by decide +kernel
theorem d_L_law_1381 : decode code 1381 = .ok (.iload_n 3, 1) := by decide +kernel
theorem d_L_law_1380 : decode code 1380 = .ok (.aload_n 0, 1) := by decide +kernel
theorem d_L_law_1382 : decode code 1382 = .ok (.iconst 1, 1) := by decide +kernel
theorem d_L_law_1385 : decode code 1385 = .ok (.invokevirtual 193, 3) := by decide +kernel
theorem d_L_law_1384 : decode code 1384 = .ok (.iaload, 1) := by decide +kernel
theorem d_L_law_1395 : decode code 1395 = .ok (.invokevirtual 196, 3) := by decide +kernel
theorem d_L_law_1392 : decode code 1392 = .ok (.iconst 1, 1) := by decide +kernel
theorem d_L_law_1390 : decode code 1390 = .ok (.aload_n 0, 1) := by decide +kernel
theorem d_L_law_1389 : decode code 1389 = .ok (.aload_n 2, 1) := by decide +kernel
theorem d_L_law_1391 : decode code 1391 = .ok (.iload_n 3, 1) := by decide +kernel
theorem d_L_law_1394 : decode code 1394 = .ok (.iaload, 1) := by decide +kernel
theorem d_L_law_1393 : decode code 1393 = .ok (.iadd, 1) := by decide +kernel
theorem d_L_law_1405 : decode code 1405 = .ok (.goto (-1387), 3) := by decide +kernel
theorem d_L_law_1399 : decode code 1399 = .ok (.goto 3, 3) := by decide +kernel
theorem d_L_law_1398 : decode code 1398 = .ok (.pop, 1) := by decide +kernel
theorem d_L_law_1402 : decode code 1402 = .ok (.iinc 3 6, 3) := by decide +kernel
theorem d_L_law_1409 : decode code 1409 = .ok (.ireturn, 1) := by decide +kernel
theorem d_L_law_1408 : decode code 1408 = .ok (.iconst 1, 1) := by decide +kernel
