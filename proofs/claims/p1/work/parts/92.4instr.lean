/-! instructions, decoded -/
theorem dF0_897 : decode code 897 = .ok (.ifCond .eq 5, 3) := by decide +kernel
theorem dF0_887 : decode code 887 = .ok (.ifCond .ne 15, 3) := by decide +kernel
theorem dF0_883 : decode code 883 = .ok (.iconst 0, 1) := by decide +kernel
theorem dF0_884 : decode code 884 = .ok (.ireturn, 1) := by decide +kernel
theorem dF0_880 : decode code 880 = .ok (.if_icmp .eq 5, 3) := by decide +kernel
theorem dF0_875 : decode code 875 = .ok (.invokevirtual 95, 3) := by decide +kernel
theorem dF0_869 : decode code 869 = .ok (.invokevirtual 132, 3) := by decide +kernel
theorem dF0_868 : decode code 868 = .ok (.iaload, 1) := by decide +kernel
theorem dF0_862 : decode code 862 = .ok (.iaload, 1) := by decide +kernel
theorem dF0_851 : decode code 851 = .ok (.invokestatic 130, 3) := by decide +kernel
theorem dF0_849 : decode code 849 = .ok (.iaload, 1) := by decide +kernel
theorem dF0_843 : decode code 843 = .ok (.iaload, 1) := by decide +kernel
theorem dF0_905 : decode code 905 = .ok (.aload_n 1, 1) := by decide +kernel
theorem dF0_906 : decode code 906 = .ok (.aload_n 0, 1) := by decide +kernel
theorem dF0_907 : decode code 907 = .ok (.iload 4, 2) := by decide +kernel
theorem dF0_909 : decode code 909 = .ok (.iconst 1, 1) := by decide +kernel
theorem dF0_910 : decode code 910 = .ok (.iadd, 1) := by decide +kernel
theorem dF0_912 : decode code 912 = .ok (.aload_n 0, 1) := by decide +kernel
theorem dF0_913 : decode code 913 = .ok (.iload 4, 2) := by decide +kernel
theorem dF0_915 : decode code 915 = .ok (.iconst 2, 1) := by decide +kernel
theorem dF0_916 : decode code 916 = .ok (.iadd, 1) := by decide +kernel
theorem dF0_918 : decode code 918 = .ok (.aload_n 3, 1) := by decide +kernel
theorem dF0_922 : decode code 922 = .ok (.istore 5, 2) := by decide +kernel
theorem dF0_924 : decode code 924 = .ok (.aload_n 2, 1) := by decide +kernel
theorem dF0_925 : decode code 925 = .ok (.aload_n 0, 1) := by decide +kernel
theorem dF0_926 : decode code 926 = .ok (.iload 4, 2) := by decide +kernel
theorem dF0_928 : decode code 928 = .ok (.iconst 1, 1) := by decide +kernel
theorem dF0_929 : decode code 929 = .ok (.iadd, 1) := by decide +kernel
theorem dF0_931 : decode code 931 = .ok (.aload_n 0, 1) := by decide +kernel
theorem dF0_932 : decode code 932 = .ok (.iload 4, 2) := by decide +kernel
theorem dF0_934 : decode code 934 = .ok (.iconst 2, 1) := by decide +kernel
theorem dF0_935 : decode code 935 = .ok (.iadd, 1) := by decide +kernel
theorem dF0_940 : decode code 940 = .ok (.istore 6, 2) := by decide +kernel
theorem dF0_942 : decode code 942 = .ok (.aload_n 2, 1) := by decide +kernel
theorem dF0_946 : decode code 946 = .ok (.iload 5, 2) := by decide +kernel
theorem dF0_953 : decode code 953 = .ok (.iload 5, 2) := by decide +kernel
theorem dF0_970 : decode code 970 = .ok (.goto 491, 3) := by decide +kernel
theorem dF0_958 : decode code 958 = .ok (.aload_n 3, 1) := by decide +kernel
theorem dF0_959 : decode code 959 = .ok (.iconst 0, 1) := by decide +kernel
theorem dF0_960 : decode code 960 = .ok (.laload, 1) := by decide +kernel
theorem dF0_961 : decode code 961 = .ok (.iload 6, 2) := by decide +kernel
theorem dF0_963 : decode code 963 = .ok (.i2l, 1) := by decide +kernel
theorem dF0_964 : decode code 964 = .ok (.lcmp, 1) := by decide +kernel
theorem dF0_968 : decode code 968 = .ok (.iconst 0, 1) := by decide +kernel
theorem dF0_969 : decode code 969 = .ok (.ireturn, 1) := by decide +kernel
theorem dF0_965 : decode code 965 = .ok (.ifCond .eq 5, 3) := by decide +kernel
theorem dF0_955 : decode code 955 = .ok (.ifCond .ne 15, 3) := by decide +kernel
theorem dF0_951 : decode code 951 = .ok (.iconst 0, 1) := by decide +kernel
theorem dF0_952 : decode code 952 = .ok (.ireturn, 1) := by decide +kernel
theorem dF0_948 : decode code 948 = .ok (.if_icmp .eq 5, 3) := by decide +kernel
theorem dF0_943 : decode code 943 = .ok (.invokevirtual 95, 3) := by decide +kernel
theorem dF0_937 : decode code 937 = .ok (.invokevirtual 135, 3) := by decide +kernel
theorem dF0_936 : decode code 936 = .ok (.iaload, 1) := by decide +kernel
theorem dF0_930 : decode code 930 = .ok (.iaload, 1) := by decide +kernel
theorem dF0_919 : decode code 919 = .ok (.invokestatic 133, 3) := by decide +kernel
theorem dF0_917 : decode code 917 = .ok (.iaload, 1) := by decide +kernel
theorem dF0_911 : decode code 911 = .ok (.iaload, 1) := by decide +kernel
theorem dF0_973 : decode code 973 = .ok (.aload_n 1, 1) := by decide +kernel
theorem dF0_974 : decode code 974 = .ok (.aload_n 0, 1) := by decide +kernel
theorem dF0_975 : decode code 975 = .ok (.iload 4, 2) := by decide +kernel
theorem dF0_977 : decode code 977 = .ok (.iconst 1, 1) := by decide +kernel
theorem dF0_978 : decode code 978 = .ok (.iadd, 1) := by decide +kernel
theorem dF0_980 : decode code 980 = .ok (.aload_n 0, 1) := by decide +kernel
theorem dF0_981 : decode code 981 = .ok (.iload 4, 2) := by decide +kernel
theorem dF0_983 : decode code 983 = .ok (.iconst 2, 1) := by decide +kernel
theorem dF0_984 : decode code 984 = .ok (.iadd, 1) := by decide +kernel
theorem dF0_993 : decode code 993 = .ok (.iconst 0, 1) := by decide +kernel
theorem dF0_994 : decode code 994 = .ok (.aload_n 3, 1) := by decide +kernel
theorem dF0_998 : decode code 998 = .ok (.istore 5, 2) := by decide +kernel
theorem dF0_1000 : decode code 1000 = .ok (.aload_n 2, 1) := by decide +kernel
theorem dF0_1001 : decode code 1001 = .ok (.aload_n 0, 1) := by decide +kernel
theorem dF0_1002 : decode code 1002 = .ok (.iload 4, 2) := by decide +kernel
theorem dF0_1004 : decode code 1004 = .ok (.iconst 1, 1) := by decide +kernel
theorem dF0_1005 : decode code 1005 = .ok (.iadd, 1) := by decide +kernel
theorem dF0_1007 : decode code 1007 = .ok (.aload_n 0, 1) := by decide +kernel
theorem dF0_1008 : decode code 1008 = .ok (.iload 4, 2) := by decide +kernel
theorem dF0_1010 : decode code 1010 = .ok (.iconst 2, 1) := by decide +kernel
theorem dF0_1011 : decode code 1011 = .ok (.iadd, 1) := by decide +kernel
theorem dF0_1020 : decode code 1020 = .ok (.iconst 0, 1) := by decide +kernel
theorem dF0_1024 : decode code 1024 = .ok (.istore 6, 2) := by decide +kernel
theorem dF0_1026 : decode code 1026 = .ok (.aload_n 2, 1) := by decide +kernel
theorem dF0_1030 : decode code 1030 = .ok (.iload 5, 2) := by decide +kernel
theorem dF0_1037 : decode code 1037 = .ok (.iload 5, 2) := by decide +kernel
theorem dF0_1054 : decode code 1054 = .ok (.goto 407, 3) := by decide +kernel
theorem dF0_1042 : decode code 1042 = .ok (.aload_n 3, 1) := by decide +kernel
theorem dF0_1043 : decode code 1043 = .ok (.iconst 0, 1) := by decide +kernel
theorem dF0_1044 : decode code 1044 = .ok (.laload, 1) := by decide +kernel
theorem dF0_1045 : decode code 1045 = .ok (.iload 6, 2) := by decide +kernel
theorem dF0_1047 : decode code 1047 = .ok (.i2l, 1) := by decide +kernel
theorem dF0_1048 : decode code 1048 = .ok (.lcmp, 1) := by decide +kernel
theorem dF0_1052 : decode code 1052 = .ok (.iconst 0, 1) := by decide +kernel
theorem dF0_1053 : decode code 1053 = .ok (.ireturn, 1) := by decide +kernel
theorem dF0_1049 : decode code 1049 = .ok (.ifCond .eq 5, 3) := by decide +kernel
theorem dF0_1039 : decode code 1039 = .ok (.ifCond .ne 15, 3) := by decide +kernel
theorem dF0_1035 : decode code 1035 = .ok (.iconst 0, 1) := by decide +kernel
theorem dF0_1036 : decode code 1036 = .ok (.ireturn, 1) := by decide +kernel
theorem dF0_1032 : decode code 1032 = .ok (.if_icmp .eq 5, 3) := by decide +kernel
theorem dF0_1027 : decode code 1027 = .ok (.invokevirtual 95, 3) := by decide +kernel
theorem dF0_1021 : decode code 1021 = .ok (.invokevirtual 139, 3) := by decide +kernel
theorem dF0_1016 : decode code 1016 = .ok (.iconst 1, 1) := by decide +kernel
theorem dF0_1017 : decode code 1017 = .ok (.goto 4, 3) := by decide +kernel
theorem dF0_1013 : decode code 1013 = .ok (.ifCond .eq 7, 3) := by decide +kernel
theorem dF0_1012 : decode code 1012 = .ok (.iaload, 1) := by decide +kernel
theorem dF0_1006 : decode code 1006 = .ok (.iaload, 1) := by decide +kernel
theorem dF0_995 : decode code 995 = .ok (.invokestatic 136, 3) := by decide +kernel
theorem dF0_989 : decode code 989 = .ok (.iconst 1, 1) := by decide +kernel
theorem dF0_990 : decode code 990 = .ok (.goto 4, 3) := by decide +kernel
theorem dF0_986 : decode code 986 = .ok (.ifCond .eq 7, 3) := by decide +kernel
theorem dF0_985 : decode code 985 = .ok (.iaload, 1) := by decide +kernel
theorem dF0_979 : decode code 979 = .ok (.iaload, 1) := by decide +kernel
theorem dF0_1057 : decode code 1057 = .ok (.aload_n 1, 1) := by decide +kernel
theorem dF0_1058 : decode code 1058 = .ok (.aload_n 0, 1) := by decide +kernel
theorem dF0_1059 : decode code 1059 = .ok (.iload 4, 2) := by decide +kernel
theorem dF0_1061 : decode code 1061 = .ok (.iconst 1, 1) := by decide +kernel
theorem dF0_1062 : decode code 1062 = .ok (.iadd, 1) := by decide +kernel
theorem dF0_1064 : decode code 1064 = .ok (.aload_n 3, 1) := by decide +kernel
theorem dF0_1068 : decode code 1068 = .ok (.istore 5, 2) := by decide +kernel
theorem dF0_1070 : decode code 1070 = .ok (.aload_n 2, 1) := by decide +kernel
theorem dF0_1071 : decode code 1071 = .ok (.aload_n 0, 1) := by decide +kernel
theorem dF0_1072 : decode code 1072 = .ok (.iload 4, 2) := by decide +kernel
theorem dF0_1074 : decode code 1074 = .ok (.iconst 1, 1) := by decide +kernel
theorem dF0_1075 : decode code 1075 = .ok (.iadd, 1) := by decide +kernel
theorem dF0_1080 : decode code 1080 = .ok (.istore 6, 2) := by decide +kernel
theorem dF0_1082 : decode code 1082 = .ok (.aload_n 2, 1) := by decide +kernel
theorem dF0_1086 : decode code 1086 = .ok (.iload 5, 2) := by decide +kernel
theorem dF0_1093 : decode code 1093 = .ok (.iload 5, 2) := by decide +kernel
theorem dF0_1110 : decode code 1110 = .ok (.goto 351, 3) := by decide +kernel
theorem dF0_1098 : decode code 1098 = .ok (.aload_n 3, 1) := by decide +kernel
theorem dF0_1099 : decode code 1099 = .ok (.iconst 0, 1) := by decide +kernel
theorem dF0_1100 : decode code 1100 = .ok (.laload, 1) := by decide +kernel
theorem dF0_1101 : decode code 1101 = .ok (.iload 6, 2) := by decide +kernel
theorem dF0_1103 : decode code 1103 = .ok (.i2l, 1) := by decide +kernel
theorem dF0_1104 : decode code 1104 = .ok (.lcmp, 1) := by decide +kernel
theorem dF0_1108 : decode code 1108 = .ok (.iconst 0, 1) := by decide +kernel
theorem dF0_1109 : decode code 1109 = .ok (.ireturn, 1) := by decide +kernel
theorem dF0_1105 : decode code 1105 = .ok (.ifCond .eq 5, 3) := by decide +kernel
theorem dF0_1095 : decode code 1095 = .ok (.ifCond .ne 15, 3) := by decide +kernel
theorem dF0_1091 : decode code 1091 = .ok (.iconst 0, 1) := by decide +kernel
theorem dF0_1092 : decode code 1092 = .ok (.ireturn, 1) := by decide +kernel
theorem dF0_1088 : decode code 1088 = .ok (.if_icmp .eq 5, 3) := by decide +kernel
theorem dF0_1083 : decode code 1083 = .ok (.invokevirtual 95, 3) := by decide +kernel
theorem dF0_1077 : decode code 1077 = .ok (.invokevirtual 142, 3) := by decide +kernel
theorem dF0_1076 : decode code 1076 = .ok (.iaload, 1) := by decide +kernel
theorem dF0_1065 : decode code 1065 = .ok (.invokestatic 140, 3) := by decide +kernel
theorem dF0_1063 : decode code 1063 = .ok (.iaload, 1) := by decide +kernel
theorem dF0_1113 : decode code 1113 = .ok (.aload_n 1, 1) := by decide +kernel
theorem dF0_1114 : decode code 1114 = .ok (.aload_n 0, 1) := by decide +kernel
theorem dF0_1115 : decode code 1115 = .ok (.iload 4, 2) := by decide +kernel
theorem dF0_1117 : decode code 1117 = .ok (.iconst 1, 1) := by decide +kernel
theorem dF0_1118 : decode code 1118 = .ok (.iadd, 1) := by decide +kernel
theorem dF0_1120 : decode code 1120 = .ok (.aload_n 3, 1) := by decide +kernel
theorem dF0_1124 : decode code 1124 = .ok (.istore 5, 2) := by decide +kernel
theorem dF0_1126 : decode code 1126 = .ok (.aload_n 2, 1) := by decide +kernel
theorem dF0_1127 : decode code 1127 = .ok (.aload_n 0, 1) := by decide +kernel
theorem dF0_1128 : decode code 1128 = .ok (.iload 4, 2) := by decide +kernel
theorem dF0_1130 : decode code 1130 = .ok (.iconst 1, 1) := by decide +kernel
theorem dF0_1131 : decode code 1131 = .ok (.iadd, 1) := by decide +kernel
theorem dF0_1136 : decode code 1136 = .ok (.istore 6, 2) := by decide +kernel
theorem dF0_1138 : decode code 1138 = .ok (.aload_n 2, 1) := by decide +kernel
theorem dF0_1142 : decode code 1142 = .ok (.iload 5, 2) := by decide +kernel
theorem dF0_1149 : decode code 1149 = .ok (.iload 5, 2) := by decide +kernel
theorem dF0_1166 : decode code 1166 = .ok (.goto 295, 3) := by decide +kernel
theorem dF0_1154 : decode code 1154 = .ok (.aload_n 3, 1) := by decide +kernel
theorem dF0_1155 : decode code 1155 = .ok (.iconst 0, 1) := by decide +kernel
theorem dF0_1156 : decode code 1156 = .ok (.laload, 1) := by decide +kernel
theorem dF0_1157 : decode code 1157 = .ok (.iload 6, 2) := by decide +kernel
theorem dF0_1159 : decode code 1159 = .ok (.i2l, 1) := by decide +kernel
theorem dF0_1160 : decode code 1160 = .ok (.lcmp, 1) := by decide +kernel
theorem dF0_1164 : decode code 1164 = .ok (.iconst 0, 1) := by decide +kernel
theorem dF0_1165 : decode code 1165 = .ok (.ireturn, 1) := by decide +kernel
theorem dF0_1161 : decode code 1161 = .ok (.ifCond .eq 5, 3) := by decide +kernel
theorem dF0_1151 : decode code 1151 = .ok (.ifCond .ne 15, 3) := by decide +kernel
theorem dF0_1147 : decode code 1147 = .ok (.iconst 0, 1) := by decide +kernel
theorem dF0_1148 : decode code 1148 = .ok (.ireturn, 1) := by decide +kernel
theorem dF0_1144 : decode code 1144 = .ok (.if_icmp .eq 5, 3) := by decide +kernel
theorem dF0_1139 : decode code 1139 = .ok (.invokevirtual 95, 3) := by decide +kernel
theorem dF0_1133 : decode code 1133 = .ok (.invokevirtual 145, 3) := by decide +kernel
theorem dF0_1132 : decode code 1132 = .ok (.iaload, 1) := by decide +kernel
theorem dF0_1121 : decode code 1121 = .ok (.invokestatic 143, 3) := by decide +kernel
theorem dF0_1119 : decode code 1119 = .ok (.iaload, 1) := by decide +kernel
theorem dF0_1169 : decode code 1169 = .ok (.aload_n 1, 1) := by decide +kernel
theorem dF0_1170 : decode code 1170 = .ok (.aload_n 3, 1) := by decide +kernel
theorem dF0_1174 : decode code 1174 = .ok (.istore 5, 2) := by decide +kernel
theorem dF0_1176 : decode code 1176 = .ok (.aload_n 2, 1) := by decide +kernel
theorem dF0_1180 : decode code 1180 = .ok (.istore 6, 2) := by decide +kernel
theorem dF0_1182 : decode code 1182 = .ok (.aload_n 2, 1) := by decide +kernel
theorem dF0_1186 : decode code 1186 = .ok (.iload 5, 2) := by decide +kernel
theorem dF0_1193 : decode code 1193 = .ok (.iload 5, 2) := by decide +kernel
theorem dF0_1210 : decode code 1210 = .ok (.goto 251, 3) := by decide +kernel
theorem dF0_1198 : decode code 1198 = .ok (.aload_n 3, 1) := by decide +kernel
theorem dF0_1199 : decode code 1199 = .ok (.iconst 0, 1) := by decide +kernel
theorem dF0_1200 : decode code 1200 = .ok (.laload, 1) := by decide +kernel
theorem dF0_1201 : decode code 1201 = .ok (.iload 6, 2) := by decide +kernel
theorem dF0_1203 : decode code 1203 = .ok (.i2l, 1) := by decide +kernel
theorem dF0_1204 : decode code 1204 = .ok (.lcmp, 1) := by decide +kernel
theorem dF0_1208 : decode code 1208 = .ok (.iconst 0, 1) := by decide +kernel
theorem dF0_1209 : decode code 1209 = .ok (.ireturn, 1) := by decide +kernel
theorem dF0_1205 : decode code 1205 = .ok (.ifCond .eq 5, 3) := by decide +kernel
theorem dF0_1195 : decode code 1195 = .ok (.ifCond .ne 15, 3) := by decide +kernel
theorem dF0_1191 : decode code 1191 = .ok (.iconst 0, 1) := by decide +kernel
theorem dF0_1192 : decode code 1192 = .ok (.ireturn, 1) := by decide +kernel
theorem dF0_1188 : decode code 1188 = .ok (.if_icmp .eq 5, 3) := by decide +kernel
theorem dF0_1183 : decode code 1183 = .ok (.invokevirtual 95, 3) := by decide +kernel
theorem dF0_1177 : decode code 1177 = .ok (.invokevirtual 149, 3) := by decide +kernel
theorem dF0_1171 : decode code 1171 = .ok (.invokestatic 146, 3) := by decide +kernel
theorem dF0_1213 : decode code 1213 = .ok (.aload_n 1, 1) := by decide +kernel
theorem dF0_1214 : decode code 1214 = .ok (.aload_n 0, 1) := by decide +kernel
theorem dF0_1215 : decode code 1215 = .ok (.iload 4, 2) := by decide +kernel
theorem dF0_1217 : decode code 1217 = .ok (.iconst 1, 1) := by decide +kernel
theorem dF0_1218 : decode code 1218 = .ok (.iadd, 1) := by decide +kernel
theorem dF0_1220 : decode code 1220 = .ok (.aload_n 3, 1) := by decide +kernel
theorem dF0_1224 : decode code 1224 = .ok (.istore 5, 2) := by decide +kernel
theorem dF0_1226 : decode code 1226 = .ok (.aload_n 2, 1) := by decide +kernel
theorem dF0_1227 : decode code 1227 = .ok (.aload_n 0, 1) := by decide +kernel
theorem dF0_1228 : decode code 1228 = .ok (.iload 4, 2) := by decide +kernel
theorem dF0_1230 : decode code 1230 = .ok (.iconst 1, 1) := by decide +kernel
theorem dF0_1231 : decode code 1231 = .ok (.iadd, 1) := by decide +kernel
theorem dF0_1236 : decode code 1236 = .ok (.istore 6, 2) := by decide +kernel
theorem dF0_1238 : decode code 1238 = .ok (.aload_n 2, 1) := by decide +kernel
theorem dF0_1242 : decode code 1242 = .ok (.iload 5, 2) := by decide +kernel
theorem dF0_1249 : decode code 1249 = .ok (.iload 5, 2) := by decide +kernel
theorem dF0_1266 : decode code 1266 = .ok (.goto 195, 3) := by decide +kernel
theorem dF0_1254 : decode code 1254 = .ok (.aload_n 3, 1) := by decide +kernel
theorem dF0_1255 : decode code 1255 = .ok (.iconst 0, 1) := by decide +kernel
theorem dF0_1256 : decode code 1256 = .ok (.laload, 1) := by decide +kernel
theorem dF0_1257 : decode code 1257 = .ok (.iload 6, 2) := by decide +kernel
theorem dF0_1259 : decode code 1259 = .ok (.i2l, 1) := by decide +kernel
theorem dF0_1260 : decode code 1260 = .ok (.lcmp, 1) := by decide +kernel
theorem dF0_1264 : decode code 1264 = .ok (.iconst 0, 1) := by decide +kernel
theorem dF0_1265 : decode code 1265 = .ok (.ireturn, 1) := by decide +kernel
theorem dF0_1261 : decode code 1261 = .ok (.ifCond .eq 5, 3) := by decide +kernel
theorem dF0_1251 : decode code 1251 = .ok (.ifCond .ne 15, 3) := by decide +kernel
theorem dF0_1247 : decode code 1247 = .ok (.iconst 0, 1) := by decide +kernel
theorem dF0_1248 : decode code 1248 = .ok (.ireturn, 1) := by decide +kernel
theorem dF0_1244 : decode code 1244 = .ok (.if_icmp .eq 5, 3) := by decide +kernel
theorem dF0_1239 : decode code 1239 = .ok (.invokevirtual 95, 3) := by decide +kernel
theorem dF0_1233 : decode code 1233 = .ok (.invokevirtual 152, 3) := by decide +kernel
theorem dF0_1232 : decode code 1232 = .ok (.iaload, 1) := by decide +kernel
theorem dF0_1221 : decode code 1221 = .ok (.invokestatic 150, 3) := by decide +kernel
theorem dF0_1219 : decode code 1219 = .ok (.iaload, 1) := by decide +kernel
theorem dF0_1269 : decode code 1269 = .ok (.aload_n 1, 1) := by decide +kernel
theorem dF0_1270 : decode code 1270 = .ok (.aload_n 0, 1) := by decide +kernel
theorem dF0_1271 : decode code 1271 = .ok (.iload 4, 2) := by decide +kernel
theorem dF0_1273 : decode code 1273 = .ok (.iconst 1, 1) := by decide +kernel
theorem dF0_1274 : decode code 1274 = .ok (.iadd, 1) := by decide +kernel
theorem dF0_1276 : decode code 1276 = .ok (.aload_n 0, 1) := by decide +kernel
theorem dF0_1277 : decode code 1277 = .ok (.iload 4, 2) := by decide +kernel
theorem dF0_1279 : decode code 1279 = .ok (.iconst 2, 1) := by decide +kernel
theorem dF0_1280 : decode code 1280 = .ok (.iadd, 1) := by decide +kernel
theorem dF0_1282 : decode code 1282 = .ok (.aload_n 3, 1) := by decide +kernel
theorem dF0_1286 : decode code 1286 = .ok (.istore 5, 2) := by decide +kernel
theorem dF0_1288 : decode code 1288 = .ok (.aload_n 2, 1) := by decide +kernel
theorem dF0_1289 : decode code 1289 = .ok (.aload_n 0, 1) := by decide +kernel
theorem dF0_1290 : decode code 1290 = .ok (.iload 4, 2) := by decide +kernel
theorem dF0_1292 : decode code 1292 = .ok (.iconst 1, 1) := by decide +kernel
theorem dF0_1293 : decode code 1293 = .ok (.iadd, 1) := by decide +kernel
theorem dF0_1295 : decode code 1295 = .ok (.aload_n 0, 1) := by decide +kernel
theorem dF0_1296 : decode code 1296 = .ok (.iload 4, 2) := by decide +kernel
theorem dF0_1298 : decode code 1298 = .ok (.iconst 2, 1) := by decide +kernel
theorem dF0_1299 : decode code 1299 = .ok (.iadd, 1) := by decide +kernel
theorem dF0_1304 : decode code 1304 = .ok (.istore 6, 2) := by decide +kernel
theorem dF0_1306 : decode code 1306 = .ok (.aload_n 2, 1) := by decide +kernel
theorem dF0_1310 : decode code 1310 = .ok (.iload 5, 2) := by decide +kernel
theorem dF0_1317 : decode code 1317 = .ok (.iload 5, 2) := by decide +kernel
theorem dF0_1334 : decode code 1334 = .ok (.goto 127, 3) := by decide +kernel
theorem dF0_1322 : decode code 1322 = .ok (.aload_n 3, 1) := by decide +kernel
theorem dF0_1323 : decode code 1323 = .ok (.iconst 0, 1) := by decide +kernel
theorem dF0_1324 : decode code 1324 = .ok (.laload, 1) := by decide +kernel
theorem dF0_1325 : decode code 1325 = .ok (.iload 6, 2) := by decide +kernel
theorem dF0_1327 : decode code 1327 = .ok (.i2l, 1) := by decide +kernel
theorem dF0_1328 : decode code 1328 = .ok (.lcmp, 1) := by decide +kernel
theorem dF0_1332 : decode code 1332 = .ok (.iconst 0, 1) := by decide +kernel
theorem dF0_1333 : decode code 1333 = .ok (.ireturn, 1) := by decide +kernel
theorem dF0_1329 : decode code 1329 = .ok (.ifCond .eq 5, 3) := by decide +kernel
theorem dF0_1319 : decode code 1319 = .ok (.ifCond .ne 15, 3) := by decide +kernel
theorem dF0_1315 : decode code 1315 = .ok (.iconst 0, 1) := by decide +kernel
theorem dF0_1316 : decode code 1316 = .ok (.ireturn, 1) := by decide +kernel
theorem dF0_1312 : decode code 1312 = .ok (.if_icmp .eq 5, 3) := by decide +kernel
theorem dF0_1307 : decode code 1307 = .ok (.invokevirtual 95, 3) := by decide +kernel
theorem dF0_1301 : decode code 1301 = .ok (.invokevirtual 155, 3) := by decide +kernel
theorem dF0_1300 : decode code 1300 = .ok (.iaload, 1) := by decide +kernel
theorem dF0_1294 : decode code 1294 = .ok (.iaload, 1) := by decide +kernel
theorem dF0_1283 : decode code 1283 = .ok (.invokestatic 153, 3) := by decide +kernel
theorem dF0_1281 : decode code 1281 = .ok (.iaload, 1) := by decide +kernel
theorem dF0_1275 : decode code 1275 = .ok (.iaload, 1) := by decide +kernel
theorem dF0_1337 : decode code 1337 = .ok (.aload_n 1, 1) := by decide +kernel
theorem dF0_1338 : decode code 1338 = .ok (.aload_n 0, 1) := by decide +kernel
theorem dF0_1339 : decode code 1339 = .ok (.iload 4, 2) := by decide +kernel
theorem dF0_1341 : decode code 1341 = .ok (.iconst 1, 1) := by decide +kernel
theorem dF0_1342 : decode code 1342 = .ok (.iadd, 1) := by decide +kernel
theorem dF0_1344 : decode code 1344 = .ok (.aload_n 0, 1) := by decide +kernel
theorem dF0_1345 : decode code 1345 = .ok (.iload 4, 2) := by decide +kernel
theorem dF0_1347 : decode code 1347 = .ok (.iconst 2, 1) := by decide +kernel
theorem dF0_1348 : decode code 1348 = .ok (.iadd, 1) := by decide +kernel
theorem dF0_1350 : decode code 1350 = .ok (.aload_n 3, 1) := by decide +kernel
theorem dF0_1354 : decode code 1354 = .ok (.istore 5, 2) := by decide +kernel
theorem dF0_1356 : decode code 1356 = .ok (.aload_n 2, 1) := by decide +kernel
theorem dF0_1357 : decode code 1357 = .ok (.aload_n 0, 1) := by decide +kernel
theorem dF0_1358 : decode code 1358 = .ok (.iload 4, 2) := by decide +kernel
theorem dF0_1360 : decode code 1360 = .ok (.iconst 1, 1) := by decide +kernel
theorem dF0_1361 : decode code 1361 = .ok (.iadd, 1) := by decide +kernel
theorem dF0_1363 : decode code 1363 = .ok (.aload_n 0, 1) := by decide +kernel
theorem dF0_1364 : decode code 1364 = .ok (.iload 4, 2) := by decide +kernel
theorem dF0_1366 : decode code 1366 = .ok (.iconst 2, 1) := by decide +kernel
theorem dF0_1367 : decode code 1367 = .ok (.iadd, 1) := by decide +kernel
theorem dF0_1372 : decode code 1372 = .ok (.istore 6, 2) := by decide +kernel
theorem dF0_1374 : decode code 1374 = .ok (.aload_n 2, 1) := by decide +kernel
theorem dF0_1378 : decode code 1378 = .ok (.iload 5, 2) := by decide +kernel
theorem dF0_1385 : decode code 1385 = .ok (.iload 5, 2) := by decide +kernel
theorem dF0_1402 : decode code 1402 = .ok (.goto 59, 3) := by decide +kernel
theorem dF0_1390 : decode code 1390 = .ok (.aload_n 3, 1) := by decide +kernel
theorem dF0_1391 : decode code 1391 = .ok (.iconst 0, 1) := by decide +kernel
theorem dF0_1392 : decode code 1392 = .ok (.laload, 1) := by decide +kernel
theorem dF0_1393 : decode code 1393 = .ok (.iload 6, 2) := by decide +kernel
theorem dF0_1395 : decode code 1395 = .ok (.i2l, 1) := by decide +kernel
theorem dF0_1396 : decode code 1396 = .ok (.lcmp, 1) := by decide +kernel
theorem dF0_1400 : decode code 1400 = .ok (.iconst 0, 1) := by decide +kernel
theorem dF0_1401 : decode code 1401 = .ok (.ireturn, 1) := by decide +kernel
theorem dF0_1397 : decode code 1397 = .ok (.ifCond .eq 5, 3) := by decide +kernel
theorem dF0_1387 : decode code 1387 = .ok (.ifCond .ne 15, 3) := by decide +kernel
theorem dF0_1383 : decode code 1383 = .ok (.iconst 0, 1) := by decide +kernel
theorem dF0_1384 : decode code 1384 = .ok (.ireturn, 1) := by decide +kernel
theorem dF0_1380 : decode code 1380 = .ok (.if_icmp .eq 5, 3) := by decide +kernel
theorem dF0_1375 : decode code 1375 = .ok (.invokevirtual 95, 3) := by decide +kernel
theorem dF0_1369 : decode code 1369 = .ok (.invokevirtual 158, 3) := by decide +kernel
theorem dF0_1368 : decode code 1368 = .ok (.iaload, 1) := by decide +kernel
theorem dF0_1362 : decode code 1362 = .ok (.iaload, 1) := by decide +kernel
theorem dF0_1351 : decode code 1351 = .ok (.invokestatic 156, 3) := by decide +kernel
theorem dF0_1349 : decode code 1349 = .ok (.iaload, 1) := by decide +kernel
theorem dF0_1343 : decode code 1343 = .ok (.iaload, 1) := by decide +kernel
theorem dF0_1405 : decode code 1405 = .ok (.aload_n 1, 1) := by decide +kernel
theorem dF0_1406 : decode code 1406 = .ok (.aload_n 0, 1) := by decide +kernel
theorem dF0_1407 : decode code 1407 = .ok (.iload 4, 2) := by decide +kernel
theorem dF0_1409 : decode code 1409 = .ok (.iconst 1, 1) := by decide +kernel
theorem dF0_1410 : decode code 1410 = .ok (.iadd, 1) := by decide +kernel
theorem dF0_1412 : decode code 1412 = .ok (.aload_n 3, 1) := by decide +kernel
theorem dF0_1416 : decode code 1416 = .ok (.istore 5, 2) := by decide +kernel
theorem dF0_1418 : decode code 1418 = .ok (.aload_n 2, 1) := by decide +kernel
theorem dF0_1419 : decode code 1419 = .ok (.aload_n 0, 1) := by decide +kernel
theorem dF0_1420 : decode code 1420 = .ok (.iload 4, 2) := by decide +kernel
theorem dF0_1422 : decode code 1422 = .ok (.iconst 1, 1) := by decide +kernel
theorem dF0_1423 : decode code 1423 = .ok (.iadd, 1) := by decide +kernel
theorem dF0_1428 : decode code 1428 = .ok (.istore 6, 2) := by decide +kernel
theorem dF0_1430 : decode code 1430 = .ok (.aload_n 2, 1) := by decide +kernel
theorem dF0_1434 : decode code 1434 = .ok (.iload 5, 2) := by decide +kernel
theorem dF0_1441 : decode code 1441 = .ok (.iload 5, 2) := by decide +kernel
theorem dF0_1458 : decode code 1458 = .ok (.goto 3, 3) := by decide +kernel
theorem dF0_1446 : decode code 1446 = .ok (.aload_n 3, 1) := by decide +kernel
theorem dF0_1447 : decode code 1447 = .ok (.iconst 0, 1) := by decide +kernel
theorem dF0_1448 : decode code 1448 = .ok (.laload, 1) := by decide +kernel
theorem dF0_1449 : decode code 1449 = .ok (.iload 6, 2) := by decide +kernel
theorem dF0_1451 : decode code 1451 = .ok (.i2l, 1) := by decide +kernel
theorem dF0_1452 : decode code 1452 = .ok (.lcmp, 1) := by decide +kernel
theorem dF0_1456 : decode code 1456 = .ok (.iconst 0, 1) := by decide +kernel
theorem dF0_1457 : decode code 1457 = .ok (.ireturn, 1) := by decide +kernel
theorem dF0_1453 : decode code 1453 = .ok (.ifCond .eq 5, 3) := by decide +kernel
theorem dF0_1443 : decode code 1443 = .ok (.ifCond .ne 15, 3) := by decide +kernel
theorem dF0_1439 : decode code 1439 = .ok (.iconst 0, 1) := by decide +kernel
theorem dF0_1440 : decode code 1440 = .ok (.ireturn, 1) := by decide +kernel
theorem dF0_1436 : decode code 1436 = .ok (.if_icmp .eq 5, 3) := by decide +kernel
theorem dF0_1431 : decode code 1431 = .ok (.invokevirtual 95, 3) := by decide +kernel
theorem dF0_1425 : decode code 1425 = .ok (.invokevirtual 161, 3) := by decide +kernel
theorem dF0_1424 : decode code 1424 = .ok (.iaload, 1) := by decide +kernel
theorem dF0_1413 : decode code 1413 = .ok (.invokestatic 159, 3) := by decide +kernel
theorem dF0_1411 : decode code 1411 = .ok (.iaload, 1) := by decide +kernel
theorem dF0_1461 : decode code 1461 = .ok (.iinc 4 6, 3) := by decide +kernel
theorem dF0_1464 : decode code 1464 = .ok (.goto (-1441), 3) := by decide +kernel
