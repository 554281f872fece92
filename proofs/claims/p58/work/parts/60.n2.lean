theorem kqdL_law_1112 : kq cL_law [(1112, .aload_n 1, 1), (1113, .aload_n 0, 1), (1114, .iload_n 3, 1), (1115, .iconst 1, 1), (1116, .iadd, 1), (1117, .iaload, 1), (1118, .invokevirtual 138, 3), (1121, .pop, 1), (1122, .aload_n 2, 1), (1123, .aload_n 0, 1), (1124, .iload_n 3, 1), (1125, .iconst 1, 1), (1126, .iadd, 1), (1127, .iaload, 1), (1128, .invokevirtual 141, 3), (1131, .pop, 1), (1132, .goto 824, 3), (1135, .aload_n 1, 1), (1136, .invokevirtual 142, 3), (1139, .pop, 1), (1140, .aload_n 2, 1), (1141, .invokevirtual 145, 3), (1144, .pop, 1), (1145, .goto 811, 3), (1148, .aload_n 1, 1), (1149, .aload_n 0, 1), (1150, .iload_n 3, 1), (1151, .iconst 1, 1), (1152, .iadd, 1), (1153, .iaload, 1), (1154, .aload_n 0, 1), (1155, .iload_n 3, 1), (1156, .iconst 2, 1), (1157, .iadd, 1), (1158, .iaload, 1), (1159, .invokevirtual 146, 3), (1162, .pop, 1), (1163, .aload_n 2, 1), (1164, .aload_n 0, 1), (1165, .iload_n 3, 1), (1166, .iconst 1, 1), (1167, .iadd, 1), (1168, .iaload, 1), (1169, .aload_n 0, 1), (1170, .iload_n 3, 1), (1171, .iconst 2, 1), (1172, .iadd, 1), (1173, .iaload, 1), (1174, .invokevirtual 149, 3), (1177, .pop, 1), (1178, .goto 778, 3), (1181, .aload_n 1, 1), (1182, .aload_n 0, 1), (1183, .iload_n 3, 1), (1184, .iconst 1, 1), (1185, .iadd, 1), (1186, .iaload, 1), (1187, .invokevirtual 150, 3), (1190, .pop, 1), (1191, .aload_n 2, 1), (1192, .aload_n 0, 1), (1193, .iload_n 3, 1), (1194, .iconst 1, 1), (1195, .iadd, 1)] = true := by decide +kernel
theorem dL_law_1112 : decode cL_law 1112 = .ok (.aload_n 1, 1) := kq.at kqdL_law_1112 0 rfl
theorem dL_law_1113 : decode cL_law 1113 = .ok (.aload_n 0, 1) := kq.at kqdL_law_1112 1 rfl
theorem dL_law_1114 : decode cL_law 1114 = .ok (.iload_n 3, 1) := kq.at kqdL_law_1112 2 rfl
theorem dL_law_1115 : decode cL_law 1115 = .ok (.iconst 1, 1) := kq.at kqdL_law_1112 3 rfl
theorem dL_law_1116 : decode cL_law 1116 = .ok (.iadd, 1) := kq.at kqdL_law_1112 4 rfl
theorem dL_law_1117 : decode cL_law 1117 = .ok (.iaload, 1) := kq.at kqdL_law_1112 5 rfl
theorem dL_law_1118 : decode cL_law 1118 = .ok (.invokevirtual 138, 3) := kq.at kqdL_law_1112 6 rfl
theorem dL_law_1121 : decode cL_law 1121 = .ok (.pop, 1) := kq.at kqdL_law_1112 7 rfl
theorem dL_law_1122 : decode cL_law 1122 = .ok (.aload_n 2, 1) := kq.at kqdL_law_1112 8 rfl
theorem dL_law_1123 : decode cL_law 1123 = .ok (.aload_n 0, 1) := kq.at kqdL_law_1112 9 rfl
theorem dL_law_1124 : decode cL_law 1124 = .ok (.iload_n 3, 1) := kq.at kqdL_law_1112 10 rfl
theorem dL_law_1125 : decode cL_law 1125 = .ok (.iconst 1, 1) := kq.at kqdL_law_1112 11 rfl
theorem dL_law_1126 : decode cL_law 1126 = .ok (.iadd, 1) := kq.at kqdL_law_1112 12 rfl
theorem dL_law_1127 : decode cL_law 1127 = .ok (.iaload, 1) := kq.at kqdL_law_1112 13 rfl
theorem dL_law_1128 : decode cL_law 1128 = .ok (.invokevirtual 141, 3) := kq.at kqdL_law_1112 14 rfl
theorem dL_law_1131 : decode cL_law 1131 = .ok (.pop, 1) := kq.at kqdL_law_1112 15 rfl
theorem dL_law_1132 : decode cL_law 1132 = .ok (.goto 824, 3) := kq.at kqdL_law_1112 16 rfl
theorem dL_law_1135 : decode cL_law 1135 = .ok (.aload_n 1, 1) := kq.at kqdL_law_1112 17 rfl
theorem dL_law_1136 : decode cL_law 1136 = .ok (.invokevirtual 142, 3) := kq.at kqdL_law_1112 18 rfl
theorem dL_law_1139 : decode cL_law 1139 = .ok (.pop, 1) := kq.at kqdL_law_1112 19 rfl
theorem dL_law_1140 : decode cL_law 1140 = .ok (.aload_n 2, 1) := kq.at kqdL_law_1112 20 rfl
theorem dL_law_1141 : decode cL_law 1141 = .ok (.invokevirtual 145, 3) := kq.at kqdL_law_1112 21 rfl
theorem dL_law_1144 : decode cL_law 1144 = .ok (.pop, 1) := kq.at kqdL_law_1112 22 rfl
theorem dL_law_1145 : decode cL_law 1145 = .ok (.goto 811, 3) := kq.at kqdL_law_1112 23 rfl
theorem dL_law_1148 : decode cL_law 1148 = .ok (.aload_n 1, 1) := kq.at kqdL_law_1112 24 rfl
theorem dL_law_1149 : decode cL_law 1149 = .ok (.aload_n 0, 1) := kq.at kqdL_law_1112 25 rfl
theorem dL_law_1150 : decode cL_law 1150 = .ok (.iload_n 3, 1) := kq.at kqdL_law_1112 26 rfl
theorem dL_law_1151 : decode cL_law 1151 = .ok (.iconst 1, 1) := kq.at kqdL_law_1112 27 rfl
theorem dL_law_1152 : decode cL_law 1152 = .ok (.iadd, 1) := kq.at kqdL_law_1112 28 rfl
theorem dL_law_1153 : decode cL_law 1153 = .ok (.iaload, 1) := kq.at kqdL_law_1112 29 rfl
theorem dL_law_1154 : decode cL_law 1154 = .ok (.aload_n 0, 1) := kq.at kqdL_law_1112 30 rfl
theorem dL_law_1155 : decode cL_law 1155 = .ok (.iload_n 3, 1) := kq.at kqdL_law_1112 31 rfl
theorem dL_law_1156 : decode cL_law 1156 = .ok (.iconst 2, 1) := kq.at kqdL_law_1112 32 rfl
theorem dL_law_1157 : decode cL_law 1157 = .ok (.iadd, 1) := kq.at kqdL_law_1112 33 rfl
theorem dL_law_1158 : decode cL_law 1158 = .ok (.iaload, 1) := kq.at kqdL_law_1112 34 rfl
theorem dL_law_1159 : decode cL_law 1159 = .ok (.invokevirtual 146, 3) := kq.at kqdL_law_1112 35 rfl
theorem dL_law_1162 : decode cL_law 1162 = .ok (.pop, 1) := kq.at kqdL_law_1112 36 rfl
theorem dL_law_1163 : decode cL_law 1163 = .ok (.aload_n 2, 1) := kq.at kqdL_law_1112 37 rfl
theorem dL_law_1164 : decode cL_law 1164 = .ok (.aload_n 0, 1) := kq.at kqdL_law_1112 38 rfl
theorem dL_law_1165 : decode cL_law 1165 = .ok (.iload_n 3, 1) := kq.at kqdL_law_1112 39 rfl
theorem dL_law_1166 : decode cL_law 1166 = .ok (.iconst 1, 1) := kq.at kqdL_law_1112 40 rfl
theorem dL_law_1167 : decode cL_law 1167 = .ok (.iadd, 1) := kq.at kqdL_law_1112 41 rfl
theorem dL_law_1168 : decode cL_law 1168 = .ok (.iaload, 1) := kq.at kqdL_law_1112 42 rfl
theorem dL_law_1169 : decode cL_law 1169 = .ok (.aload_n 0, 1) := kq.at kqdL_law_1112 43 rfl
theorem dL_law_1170 : decode cL_law 1170 = .ok (.iload_n 3, 1) := kq.at kqdL_law_1112 44 rfl
theorem dL_law_1171 : decode cL_law 1171 = .ok (.iconst 2, 1) := kq.at kqdL_law_1112 45 rfl
theorem dL_law_1172 : decode cL_law 1172 = .ok (.iadd, 1) := kq.at kqdL_law_1112 46 rfl
theorem dL_law_1173 : decode cL_law 1173 = .ok (.iaload, 1) := kq.at kqdL_law_1112 47 rfl
theorem dL_law_1174 : decode cL_law 1174 = .ok (.invokevirtual 149, 3) := kq.at kqdL_law_1112 48 rfl
theorem dL_law_1177 : decode cL_law 1177 = .ok (.pop, 1) := kq.at kqdL_law_1112 49 rfl
theorem dL_law_1178 : decode cL_law 1178 = .ok (.goto 778, 3) := kq.at kqdL_law_1112 50 rfl
theorem dL_law_1181 : decode cL_law 1181 = .ok (.aload_n 1, 1) := kq.at kqdL_law_1112 51 rfl
theorem dL_law_1182 : decode cL_law 1182 = .ok (.aload_n 0, 1) := kq.at kqdL_law_1112 52 rfl
theorem dL_law_1183 : decode cL_law 1183 = .ok (.iload_n 3, 1) := kq.at kqdL_law_1112 53 rfl
theorem dL_law_1184 : decode cL_law 1184 = .ok (.iconst 1, 1) := kq.at kqdL_law_1112 54 rfl
theorem dL_law_1185 : decode cL_law 1185 = .ok (.iadd, 1) := kq.at kqdL_law_1112 55 rfl
theorem dL_law_1186 : decode cL_law 1186 = .ok (.iaload, 1) := kq.at kqdL_law_1112 56 rfl
theorem dL_law_1187 : decode cL_law 1187 = .ok (.invokevirtual 150, 3) := kq.at kqdL_law_1112 57 rfl
theorem dL_law_1190 : decode cL_law 1190 = .ok (.pop, 1) := kq.at kqdL_law_1112 58 rfl
theorem dL_law_1191 : decode cL_law 1191 = .ok (.aload_n 2, 1) := kq.at kqdL_law_1112 59 rfl
theorem dL_law_1192 : decode cL_law 1192 = .ok (.aload_n 0, 1) := kq.at kqdL_law_1112 60 rfl
theorem dL_law_1193 : decode cL_law 1193 = .ok (.iload_n 3, 1) := kq.at kqdL_law_1112 61 rfl
theorem dL_law_1194 : decode cL_law 1194 = .ok (.iconst 1, 1) := kq.at kqdL_law_1112 62 rfl
theorem dL_law_1195 : decode cL_law 1195 = .ok (.iadd, 1) := kq.at kqdL_law_1112 63 rfl
theorem kqdL_law_1196 : kq cL_law [(1196, .iaload, 1), (1197, .invokevirtual 153, 3), (1200, .pop, 1), (1201, .goto 755, 3), (1204, .aload_n 1, 1), (1205, .aload_n 0, 1), (1206, .iload_n 3, 1), (1207, .iconst 1, 1), (1208, .iadd, 1), (1209, .iaload, 1), (1210, .invokevirtual 154, 3), (1213, .pop, 1), (1214, .aload_n 2, 1), (1215, .aload_n 0, 1), (1216, .iload_n 3, 1), (1217, .iconst 1, 1), (1218, .iadd, 1), (1219, .iaload, 1), (1220, .invokevirtual 157, 3), (1223, .pop, 1), (1224, .goto 732, 3), (1227, .aload_n 1, 1), (1228, .aload_n 0, 1), (1229, .iload_n 3, 1), (1230, .iconst 1, 1), (1231, .iadd, 1), (1232, .iaload, 1), (1233, .aload_n 0, 1), (1234, .iload_n 3, 1), (1235, .iconst 2, 1), (1236, .iadd, 1), (1237, .iaload, 1), (1238, .invokevirtual 158, 3), (1241, .pop, 1), (1242, .aload_n 2, 1), (1243, .aload_n 0, 1), (1244, .iload_n 3, 1), (1245, .iconst 1, 1), (1246, .iadd, 1), (1247, .iaload, 1), (1248, .aload_n 0, 1), (1249, .iload_n 3, 1), (1250, .iconst 2, 1), (1251, .iadd, 1), (1252, .iaload, 1), (1253, .invokevirtual 161, 3), (1256, .pop, 1), (1257, .goto 699, 3), (1260, .aload_n 1, 1), (1261, .invokevirtual 162, 3), (1264, .pop, 1), (1265, .aload_n 2, 1), (1266, .invokevirtual 165, 3), (1269, .pop, 1), (1270, .goto 686, 3), (1273, .aload_n 1, 1), (1274, .aload_n 0, 1), (1275, .iload_n 3, 1), (1276, .iconst 1, 1), (1277, .iadd, 1), (1278, .iaload, 1), (1279, .invokevirtual 166, 3), (1282, .pop, 1), (1283, .aload_n 2, 1)] = true := by decide +kernel
theorem dL_law_1196 : decode cL_law 1196 = .ok (.iaload, 1) := kq.at kqdL_law_1196 0 rfl
theorem dL_law_1197 : decode cL_law 1197 = .ok (.invokevirtual 153, 3) := kq.at kqdL_law_1196 1 rfl
theorem dL_law_1200 : decode cL_law 1200 = .ok (.pop, 1) := kq.at kqdL_law_1196 2 rfl
theorem dL_law_1201 : decode cL_law 1201 = .ok (.goto 755, 3) := kq.at kqdL_law_1196 3 rfl
theorem dL_law_1204 : decode cL_law 1204 = .ok (.aload_n 1, 1) := kq.at kqdL_law_1196 4 rfl
theorem dL_law_1205 : decode cL_law 1205 = .ok (.aload_n 0, 1) := kq.at kqdL_law_1196 5 rfl
theorem dL_law_1206 : decode cL_law 1206 = .ok (.iload_n 3, 1) := kq.at kqdL_law_1196 6 rfl
theorem dL_law_1207 : decode cL_law 1207 = .ok (.iconst 1, 1) := kq.at kqdL_law_1196 7 rfl
theorem dL_law_1208 : decode cL_law 1208 = .ok (.iadd, 1) := kq.at kqdL_law_1196 8 rfl
theorem dL_law_1209 : decode cL_law 1209 = .ok (.iaload, 1) := kq.at kqdL_law_1196 9 rfl
theorem dL_law_1210 : decode cL_law 1210 = .ok (.invokevirtual 154, 3) := kq.at kqdL_law_1196 10 rfl
theorem dL_law_1213 : decode cL_law 1213 = .ok (.pop, 1) := kq.at kqdL_law_1196 11 rfl
theorem dL_law_1214 : decode cL_law 1214 = .ok (.aload_n 2, 1) := kq.at kqdL_law_1196 12 rfl
theorem dL_law_1215 : decode cL_law 1215 = .ok (.aload_n 0, 1) := kq.at kqdL_law_1196 13 rfl
theorem dL_law_1216 : decode cL_law 1216 = .ok (.iload_n 3, 1) := kq.at kqdL_law_1196 14 rfl
theorem dL_law_1217 : decode cL_law 1217 = .ok (.iconst 1, 1) := kq.at kqdL_law_1196 15 rfl
theorem dL_law_1218 : decode cL_law 1218 = .ok (.iadd, 1) := kq.at kqdL_law_1196 16 rfl
theorem dL_law_1219 : decode cL_law 1219 = .ok (.iaload, 1) := kq.at kqdL_law_1196 17 rfl
theorem dL_law_1220 : decode cL_law 1220 = .ok (.invokevirtual 157, 3) := kq.at kqdL_law_1196 18 rfl
theorem dL_law_1223 : decode cL_law 1223 = .ok (.pop, 1) := kq.at kqdL_law_1196 19 rfl
theorem dL_law_1224 : decode cL_law 1224 = .ok (.goto 732, 3) := kq.at kqdL_law_1196 20 rfl
theorem dL_law_1227 : decode cL_law 1227 = .ok (.aload_n 1, 1) := kq.at kqdL_law_1196 21 rfl
theorem dL_law_1228 : decode cL_law 1228 = .ok (.aload_n 0, 1) := kq.at kqdL_law_1196 22 rfl
theorem dL_law_1229 : decode cL_law 1229 = .ok (.iload_n 3, 1) := kq.at kqdL_law_1196 23 rfl
theorem dL_law_1230 : decode cL_law 1230 = .ok (.iconst 1, 1) := kq.at kqdL_law_1196 24 rfl
theorem dL_law_1231 : decode cL_law 1231 = .ok (.iadd, 1) := kq.at kqdL_law_1196 25 rfl
theorem dL_law_1232 : decode cL_law 1232 = .ok (.iaload, 1) := kq.at kqdL_law_1196 26 rfl
theorem dL_law_1233 : decode cL_law 1233 = .ok (.aload_n 0, 1) := kq.at kqdL_law_1196 27 rfl
theorem dL_law_1234 : decode cL_law 1234 = .ok (.iload_n 3, 1) := kq.at kqdL_law_1196 28 rfl
theorem dL_law_1235 : decode cL_law 1235 = .ok (.iconst 2, 1) := kq.at kqdL_law_1196 29 rfl
theorem dL_law_1236 : decode cL_law 1236 = .ok (.iadd, 1) := kq.at kqdL_law_1196 30 rfl
theorem dL_law_1237 : decode cL_law 1237 = .ok (.iaload, 1) := kq.at kqdL_law_1196 31 rfl
theorem dL_law_1238 : decode cL_law 1238 = .ok (.invokevirtual 158, 3) := kq.at kqdL_law_1196 32 rfl
theorem dL_law_1241 : decode cL_law 1241 = .ok (.pop, 1) := kq.at kqdL_law_1196 33 rfl
theorem dL_law_1242 : decode cL_law 1242 = .ok (.aload_n 2, 1) := kq.at kqdL_law_1196 34 rfl
theorem dL_law_1243 : decode cL_law 1243 = .ok (.aload_n 0, 1) := kq.at kqdL_law_1196 35 rfl
theorem dL_law_1244 : decode cL_law 1244 = .ok (.iload_n 3, 1) := kq.at kqdL_law_1196 36 rfl
theorem dL_law_1245 : decode cL_law 1245 = .ok (.iconst 1, 1) := kq.at kqdL_law_1196 37 rfl
theorem dL_law_1246 : decode cL_law 1246 = .ok (.iadd, 1) := kq.at kqdL_law_1196 38 rfl
theorem dL_law_1247 : decode cL_law 1247 = .ok (.iaload, 1) := kq.at kqdL_law_1196 39 rfl
theorem dL_law_1248 : decode cL_law 1248 = .ok (.aload_n 0, 1) := kq.at kqdL_law_1196 40 rfl
theorem dL_law_1249 : decode cL_law 1249 = .ok (.iload_n 3, 1) := kq.at kqdL_law_1196 41 rfl
theorem dL_law_1250 : decode cL_law 1250 = .ok (.iconst 2, 1) := kq.at kqdL_law_1196 42 rfl
theorem dL_law_1251 : decode cL_law 1251 = .ok (.iadd, 1) := kq.at kqdL_law_1196 43 rfl
theorem dL_law_1252 : decode cL_law 1252 = .ok (.iaload, 1) := kq.at kqdL_law_1196 44 rfl
theorem dL_law_1253 : decode cL_law 1253 = .ok (.invokevirtual 161, 3) := kq.at kqdL_law_1196 45 rfl
theorem dL_law_1256 : decode cL_law 1256 = .ok (.pop, 1) := kq.at kqdL_law_1196 46 rfl
theorem dL_law_1257 : decode cL_law 1257 = .ok (.goto 699, 3) := kq.at kqdL_law_1196 47 rfl
theorem dL_law_1260 : decode cL_law 1260 = .ok (.aload_n 1, 1) := kq.at kqdL_law_1196 48 rfl
theorem dL_law_1261 : decode cL_law 1261 = .ok (.invokevirtual 162, 3) := kq.at kqdL_law_1196 49 rfl
theorem dL_law_1264 : decode cL_law 1264 = .ok (.pop, 1) := kq.at kqdL_law_1196 50 rfl
theorem dL_law_1265 : decode cL_law 1265 = .ok (.aload_n 2, 1) := kq.at kqdL_law_1196 51 rfl
theorem dL_law_1266 : decode cL_law 1266 = .ok (.invokevirtual 165, 3) := kq.at kqdL_law_1196 52 rfl
theorem dL_law_1269 : decode cL_law 1269 = .ok (.pop, 1) := kq.at kqdL_law_1196 53 rfl
theorem dL_law_1270 : decode cL_law 1270 = .ok (.goto 686, 3) := kq.at kqdL_law_1196 54 rfl
theorem dL_law_1273 : decode cL_law 1273 = .ok (.aload_n 1, 1) := kq.at kqdL_law_1196 55 rfl
theorem dL_law_1274 : decode cL_law 1274 = .ok (.aload_n 0, 1) := kq.at kqdL_law_1196 56 rfl
theorem dL_law_1275 : decode cL_law 1275 = .ok (.iload_n 3, 1) := kq.at kqdL_law_1196 57 rfl
theorem dL_law_1276 : decode cL_law 1276 = .ok (.iconst 1, 1) := kq.at kqdL_law_1196 58 rfl
theorem dL_law_1277 : decode cL_law 1277 = .ok (.iadd, 1) := kq.at kqdL_law_1196 59 rfl
theorem dL_law_1278 : decode cL_law 1278 = .ok (.iaload, 1) := kq.at kqdL_law_1196 60 rfl
theorem dL_law_1279 : decode cL_law 1279 = .ok (.invokevirtual 166, 3) := kq.at kqdL_law_1196 61 rfl
theorem dL_law_1282 : decode cL_law 1282 = .ok (.pop, 1) := kq.at kqdL_law_1196 62 rfl
theorem dL_law_1283 : decode cL_law 1283 = .ok (.aload_n 2, 1) := kq.at kqdL_law_1196 63 rfl
theorem kqdL_law_1284 : kq cL_law [(1284, .aload_n 0, 1), (1285, .iload_n 3, 1), (1286, .iconst 1, 1), (1287, .iadd, 1), (1288, .iaload, 1), (1289, .invokevirtual 169, 3), (1292, .pop, 1), (1293, .goto 663, 3), (1296, .aload_n 1, 1), (1297, .aload_n 0, 1), (1298, .iload_n 3, 1), (1299, .iconst 1, 1), (1300, .iadd, 1), (1301, .iaload, 1), (1302, .invokevirtual 170, 3), (1305, .pop, 1), (1306, .aload_n 2, 1), (1307, .aload_n 0, 1), (1308, .iload_n 3, 1), (1309, .iconst 1, 1), (1310, .iadd, 1), (1311, .iaload, 1), (1312, .invokevirtual 173, 3), (1315, .pop, 1), (1316, .goto 640, 3), (1319, .aload_n 1, 1), (1320, .invokevirtual 174, 3), (1323, .pop, 1), (1324, .aload_n 2, 1), (1325, .invokevirtual 177, 3), (1328, .pop, 1), (1329, .goto 627, 3), (1332, .aload_n 1, 1), (1333, .invokevirtual 178, 3), (1336, .pop, 1), (1337, .aload_n 2, 1), (1338, .invokevirtual 181, 3), (1341, .pop, 1), (1342, .goto 614, 3), (1345, .aload_n 1, 1), (1346, .aload_n 0, 1), (1347, .iload_n 3, 1), (1348, .iconst 1, 1), (1349, .iadd, 1), (1350, .iaload, 1), (1351, .invokevirtual 182, 3), (1354, .pop, 1), (1355, .aload_n 2, 1), (1356, .aload_n 0, 1), (1357, .iload_n 3, 1), (1358, .iconst 1, 1), (1359, .iadd, 1), (1360, .iaload, 1), (1361, .invokevirtual 185, 3), (1364, .pop, 1), (1365, .goto 591, 3), (1368, .aload_n 1, 1), (1369, .aload_n 0, 1), (1370, .iload_n 3, 1), (1371, .iconst 1, 1), (1372, .iadd, 1), (1373, .iaload, 1), (1374, .invokevirtual 186, 3), (1377, .pop, 1)] = true := by decide +kernel
theorem dL_law_1284 : decode cL_law 1284 = .ok (.aload_n 0, 1) := kq.at kqdL_law_1284 0 rfl
theorem dL_law_1285 : decode cL_law 1285 = .ok (.iload_n 3, 1) := kq.at kqdL_law_1284 1 rfl
theorem dL_law_1286 : decode cL_law 1286 = .ok (.iconst 1, 1) := kq.at kqdL_law_1284 2 rfl
theorem dL_law_1287 : decode cL_law 1287 = .ok (.iadd, 1) := kq.at kqdL_law_1284 3 rfl
theorem dL_law_1288 : decode cL_law 1288 = .ok (.iaload, 1) := kq.at kqdL_law_1284 4 rfl
theorem dL_law_1289 : decode cL_law 1289 = .ok (.invokevirtual 169, 3) := kq.at kqdL_law_1284 5 rfl
theorem dL_law_1292 : decode cL_law 1292 = .ok (.pop, 1) := kq.at kqdL_law_1284 6 rfl
theorem dL_law_1293 : decode cL_law 1293 = .ok (.goto 663, 3) := kq.at kqdL_law_1284 7 rfl
theorem dL_law_1296 : decode cL_law 1296 = .ok (.aload_n 1, 1) := kq.at kqdL_law_1284 8 rfl
theorem dL_law_1297 : decode cL_law 1297 = .ok (.aload_n 0, 1) := kq.at kqdL_law_1284 9 rfl
theorem dL_law_1298 : decode cL_law 1298 = .ok (.iload_n 3, 1) := kq.at kqdL_law_1284 10 rfl
theorem dL_law_1299 : decode cL_law 1299 = .ok (.iconst 1, 1) := kq.at kqdL_law_1284 11 rfl
theorem dL_law_1300 : decode cL_law 1300 = .ok (.iadd, 1) := kq.at kqdL_law_1284 12 rfl
theorem dL_law_1301 : decode cL_law 1301 = .ok (.iaload, 1) := kq.at kqdL_law_1284 13 rfl
theorem dL_law_1302 : decode cL_law 1302 = .ok (.invokevirtual 170, 3) := kq.at kqdL_law_1284 14 rfl
theorem dL_law_1305 : decode cL_law 1305 = .ok (.pop, 1) := kq.at kqdL_law_1284 15 rfl
theorem dL_law_1306 : decode cL_law 1306 = .ok (.aload_n 2, 1) := kq.at kqdL_law_1284 16 rfl
theorem dL_law_1307 : decode cL_law 1307 = .ok (.aload_n 0, 1) := kq.at kqdL_law_1284 17 rfl
theorem dL_law_1308 : decode cL_law 1308 = .ok (.iload_n 3, 1) := kq.at kqdL_law_1284 18 rfl
theorem dL_law_1309 : decode cL_law 1309 = .ok (.iconst 1, 1) := kq.at kqdL_law_1284 19 rfl
theorem dL_law_1310 : decode cL_law 1310 = .ok (.iadd, 1) := kq.at kqdL_law_1284 20 rfl
theorem dL_law_1311 : decode cL_law 1311 = .ok (.iaload, 1) := kq.at kqdL_law_1284 21 rfl
theorem dL_law_1312 : decode cL_law 1312 = .ok (.invokevirtual 173, 3) := kq.at kqdL_law_1284 22 rfl
theorem dL_law_1315 : decode cL_law 1315 = .ok (.pop, 1) := kq.at kqdL_law_1284 23 rfl
theorem dL_law_1316 : decode cL_law 1316 = .ok (.goto 640, 3) := kq.at kqdL_law_1284 24 rfl
theorem dL_law_1319 : decode cL_law 1319 = .ok (.aload_n 1, 1) := kq.at kqdL_law_1284 25 rfl
theorem dL_law_1320 : decode cL_law 1320 = .ok (.invokevirtual 174, 3) := kq.at kqdL_law_1284 26 rfl
theorem dL_law_1323 : decode cL_law 1323 = .ok (.pop, 1) := kq.at kqdL_law_1284 27 rfl
theorem dL_law_1324 : decode cL_law 1324 = .ok (.aload_n 2, 1) := kq.at kqdL_law_1284 28 rfl
theorem dL_law_1325 : decode cL_law 1325 = .ok (.invokevirtual 177, 3) := kq.at kqdL_law_1284 29 rfl
theorem dL_law_1328 : decode cL_law 1328 = .ok (.pop, 1) := kq.at kqdL_law_1284 30 rfl
theorem dL_law_1329 : decode cL_law 1329 = .ok (.goto 627, 3) := kq.at kqdL_law_1284 31 rfl
theorem dL_law_1332 : decode cL_law 1332 = .ok (.aload_n 1, 1) := kq.at kqdL_law_1284 32 rfl
theorem dL_law_1333 : decode cL_law 1333 = .ok (.invokevirtual 178, 3) := kq.at kqdL_law_1284 33 rfl
theorem dL_law_1336 : decode cL_law 1336 = .ok (.pop, 1) := kq.at kqdL_law_1284 34 rfl
theorem dL_law_1337 : decode cL_law 1337 = .ok (.aload_n 2, 1) := kq.at kqdL_law_1284 35 rfl
theorem dL_law_1338 : decode cL_law 1338 = .ok (.invokevirtual 181, 3) := kq.at kqdL_law_1284 36 rfl
theorem dL_law_1341 : decode cL_law 1341 = .ok (.pop, 1) := kq.at kqdL_law_1284 37 rfl
theorem dL_law_1342 : decode cL_law 1342 = .ok (.goto 614, 3) := kq.at kqdL_law_1284 38 rfl
theorem dL_law_1345 : decode cL_law 1345 = .ok (.aload_n 1, 1) := kq.at kqdL_law_1284 39 rfl
theorem dL_law_1346 : decode cL_law 1346 = .ok (.aload_n 0, 1) := kq.at kqdL_law_1284 40 rfl
theorem dL_law_1347 : decode cL_law 1347 = .ok (.iload_n 3, 1) := kq.at kqdL_law_1284 41 rfl
theorem dL_law_1348 : decode cL_law 1348 = .ok (.iconst 1, 1) := kq.at kqdL_law_1284 42 rfl
theorem dL_law_1349 : decode cL_law 1349 = .ok (.iadd, 1) := kq.at kqdL_law_1284 43 rfl
theorem dL_law_1350 : decode cL_law 1350 = .ok (.iaload, 1) := kq.at kqdL_law_1284 44 rfl
theorem dL_law_1351 : decode cL_law 1351 = .ok (.invokevirtual 182, 3) := kq.at kqdL_law_1284 45 rfl
theorem dL_law_1354 : decode cL_law 1354 = .ok (.pop, 1) := kq.at kqdL_law_1284 46 rfl
theorem dL_law_1355 : decode cL_law 1355 = .ok (.aload_n 2, 1) := kq.at kqdL_law_1284 47 rfl
theorem dL_law_1356 : decode cL_law 1356 = .ok (.aload_n 0, 1) := kq.at kqdL_law_1284 48 rfl
theorem dL_law_1357 : decode cL_law 1357 = .ok (.iload_n 3, 1) := kq.at kqdL_law_1284 49 rfl
theorem dL_law_1358 : decode cL_law 1358 = .ok (.iconst 1, 1) := kq.at kqdL_law_1284 50 rfl
theorem dL_law_1359 : decode cL_law 1359 = .ok (.iadd, 1) := kq.at kqdL_law_1284 51 rfl
theorem dL_law_1360 : decode cL_law 1360 = .ok (.iaload, 1) := kq.at kqdL_law_1284 52 rfl
theorem dL_law_1361 : decode cL_law 1361 = .ok (.invokevirtual 185, 3) := kq.at kqdL_law_1284 53 rfl
theorem dL_law_1364 : decode cL_law 1364 = .ok (.pop, 1) := kq.at kqdL_law_1284 54 rfl
theorem dL_law_1365 : decode cL_law 1365 = .ok (.goto 591, 3) := kq.at kqdL_law_1284 55 rfl
theorem dL_law_1368 : decode cL_law 1368 = .ok (.aload_n 1, 1) := kq.at kqdL_law_1284 56 rfl
theorem dL_law_1369 : decode cL_law 1369 = .ok (.aload_n 0, 1) := kq.at kqdL_law_1284 57 rfl
theorem dL_law_1370 : decode cL_law 1370 = .ok (.iload_n 3, 1) := kq.at kqdL_law_1284 58 rfl
theorem dL_law_1371 : decode cL_law 1371 = .ok (.iconst 1, 1) := kq.at kqdL_law_1284 59 rfl
theorem dL_law_1372 : decode cL_law 1372 = .ok (.iadd, 1) := kq.at kqdL_law_1284 60 rfl
theorem dL_law_1373 : decode cL_law 1373 = .ok (.iaload, 1) := kq.at kqdL_law_1284 61 rfl
theorem dL_law_1374 : decode cL_law 1374 = .ok (.invokevirtual 186, 3) := kq.at kqdL_law_1284 62 rfl
theorem dL_law_1377 : decode cL_law 1377 = .ok (.pop, 1) := kq.at kqdL_law_1284 63 rfl
theorem kqdL_law_1378 : kq cL_law [(1378, .aload_n 2, 1), (1379, .aload_n 0, 1), (1380, .iload_n 3, 1), (1381, .iconst 1, 1), (1382, .iadd, 1), (1383, .iaload, 1), (1384, .invokevirtual 189, 3), (1387, .pop, 1), (1388, .goto 568, 3), (1391, .aload_n 1, 1), (1392, .aload_n 0, 1), (1393, .iload_n 3, 1), (1394, .iconst 1, 1), (1395, .iadd, 1), (1396, .iaload, 1), (1397, .invokevirtual 190, 3), (1400, .pop, 1), (1401, .aload_n 2, 1), (1402, .aload_n 0, 1), (1403, .iload_n 3, 1), (1404, .iconst 1, 1), (1405, .iadd, 1), (1406, .iaload, 1), (1407, .invokevirtual 193, 3), (1410, .pop, 1), (1411, .goto 545, 3), (1414, .aload_n 1, 1), (1415, .aload_n 0, 1), (1416, .iload_n 3, 1), (1417, .iconst 1, 1), (1418, .iadd, 1), (1419, .iaload, 1), (1420, .invokevirtual 194, 3), (1423, .pop, 1), (1424, .aload_n 2, 1), (1425, .aload_n 0, 1), (1426, .iload_n 3, 1), (1427, .iconst 1, 1), (1428, .iadd, 1), (1429, .iaload, 1), (1430, .invokevirtual 197, 3), (1433, .pop, 1), (1434, .goto 522, 3), (1437, .aload_n 1, 1), (1438, .invokevirtual 198, 3), (1441, .pop, 1), (1442, .aload_n 2, 1), (1443, .invokevirtual 201, 3), (1446, .pop, 1), (1447, .goto 509, 3), (1450, .aload_n 1, 1), (1451, .invokevirtual 202, 3), (1454, .pop, 1), (1455, .aload_n 2, 1), (1456, .invokevirtual 205, 3), (1459, .pop, 1), (1460, .goto 496, 3), (1463, .aload_n 1, 1), (1464, .invokevirtual 206, 3), (1467, .pop, 1), (1468, .aload_n 2, 1), (1469, .invokevirtual 209, 3), (1472, .pop, 1), (1473, .goto 483, 3)] = true := by decide +kernel
theorem dL_law_1378 : decode cL_law 1378 = .ok (.aload_n 2, 1) := kq.at kqdL_law_1378 0 rfl
theorem dL_law_1379 : decode cL_law 1379 = .ok (.aload_n 0, 1) := kq.at kqdL_law_1378 1 rfl
theorem dL_law_1380 : decode cL_law 1380 = .ok (.iload_n 3, 1) := kq.at kqdL_law_1378 2 rfl
theorem dL_law_1381 : decode cL_law 1381 = .ok (.iconst 1, 1) := kq.at kqdL_law_1378 3 rfl
theorem dL_law_1382 : decode cL_law 1382 = .ok (.iadd, 1) := kq.at kqdL_law_1378 4 rfl
theorem dL_law_1383 : decode cL_law 1383 = .ok (.iaload, 1) := kq.at kqdL_law_1378 5 rfl
theorem dL_law_1384 : decode cL_law 1384 = .ok (.invokevirtual 189, 3) := kq.at kqdL_law_1378 6 rfl
theorem dL_law_1387 : decode cL_law 1387 = .ok (.pop, 1) := kq.at kqdL_law_1378 7 rfl
theorem dL_law_1388 : decode cL_law 1388 = .ok (.goto 568, 3) := kq.at kqdL_law_1378 8 rfl
theorem dL_law_1391 : decode cL_law 1391 = .ok (.aload_n 1, 1) := kq.at kqdL_law_1378 9 rfl
theorem dL_law_1392 : decode cL_law 1392 = .ok (.aload_n 0, 1) := kq.at kqdL_law_1378 10 rfl
theorem dL_law_1393 : decode cL_law 1393 = .ok (.iload_n 3, 1) := kq.at kqdL_law_1378 11 rfl
theorem dL_law_1394 : decode cL_law 1394 = .ok (.iconst 1, 1) := kq.at kqdL_law_1378 12 rfl
theorem dL_law_1395 : decode cL_law 1395 = .ok (.iadd, 1) := kq.at kqdL_law_1378 13 rfl
theorem dL_law_1396 : decode cL_law 1396 = .ok (.iaload, 1) := kq.at kqdL_law_1378 14 rfl
theorem dL_law_1397 : decode cL_law 1397 = .ok (.invokevirtual 190, 3) := kq.at kqdL_law_1378 15 rfl
theorem dL_law_1400 : decode cL_law 1400 = .ok (.pop, 1) := kq.at kqdL_law_1378 16 rfl
theorem dL_law_1401 : decode cL_law 1401 = .ok (.aload_n 2, 1) := kq.at kqdL_law_1378 17 rfl
theorem dL_law_1402 : decode cL_law 1402 = .ok (.aload_n 0, 1) := kq.at kqdL_law_1378 18 rfl
theorem dL_law_1403 : decode cL_law 1403 = .ok (.iload_n 3, 1) := kq.at kqdL_law_1378 19 rfl
theorem dL_law_1404 : decode cL_law 1404 = .ok (.iconst 1, 1) := kq.at kqdL_law_1378 20 rfl
theorem dL_law_1405 : decode cL_law 1405 = .ok (.iadd, 1) := kq.at kqdL_law_1378 21 rfl
theorem dL_law_1406 : decode cL_law 1406 = .ok (.iaload, 1) := kq.at kqdL_law_1378 22 rfl
theorem dL_law_1407 : decode cL_law 1407 = .ok (.invokevirtual 193, 3) := kq.at kqdL_law_1378 23 rfl
theorem dL_law_1410 : decode cL_law 1410 = .ok (.pop, 1) := kq.at kqdL_law_1378 24 rfl
theorem dL_law_1411 : decode cL_law 1411 = .ok (.goto 545, 3) := kq.at kqdL_law_1378 25 rfl
theorem dL_law_1414 : decode cL_law 1414 = .ok (.aload_n 1, 1) := kq.at kqdL_law_1378 26 rfl
theorem dL_law_1415 : decode cL_law 1415 = .ok (.aload_n 0, 1) := kq.at kqdL_law_1378 27 rfl
theorem dL_law_1416 : decode cL_law 1416 = .ok (.iload_n 3, 1) := kq.at kqdL_law_1378 28 rfl
theorem dL_law_1417 : decode cL_law 1417 = .ok (.iconst 1, 1) := kq.at kqdL_law_1378 29 rfl
theorem dL_law_1418 : decode cL_law 1418 = .ok (.iadd, 1) := kq.at kqdL_law_1378 30 rfl
theorem dL_law_1419 : decode cL_law 1419 = .ok (.iaload, 1) := kq.at kqdL_law_1378 31 rfl
theorem dL_law_1420 : decode cL_law 1420 = .ok (.invokevirtual 194, 3) := kq.at kqdL_law_1378 32 rfl
theorem dL_law_1423 : decode cL_law 1423 = .ok (.pop, 1) := kq.at kqdL_law_1378 33 rfl
theorem dL_law_1424 : decode cL_law 1424 = .ok (.aload_n 2, 1) := kq.at kqdL_law_1378 34 rfl
theorem dL_law_1425 : decode cL_law 1425 = .ok (.aload_n 0, 1) := kq.at kqdL_law_1378 35 rfl
theorem dL_law_1426 : decode cL_law 1426 = .ok (.iload_n 3, 1) := kq.at kqdL_law_1378 36 rfl
theorem dL_law_1427 : decode cL_law 1427 = .ok (.iconst 1, 1) := kq.at kqdL_law_1378 37 rfl
theorem dL_law_1428 : decode cL_law 1428 = .ok (.iadd, 1) := kq.at kqdL_law_1378 38 rfl
theorem dL_law_1429 : decode cL_law 1429 = .ok (.iaload, 1) := kq.at kqdL_law_1378 39 rfl
theorem dL_law_1430 : decode cL_law 1430 = .ok (.invokevirtual 197, 3) := kq.at kqdL_law_1378 40 rfl
theorem dL_law_1433 : decode cL_law 1433 = .ok (.pop, 1) := kq.at kqdL_law_1378 41 rfl
theorem dL_law_1434 : decode cL_law 1434 = .ok (.goto 522, 3) := kq.at kqdL_law_1378 42 rfl
theorem dL_law_1437 : decode cL_law 1437 = .ok (.aload_n 1, 1) := kq.at kqdL_law_1378 43 rfl
theorem dL_law_1438 : decode cL_law 1438 = .ok (.invokevirtual 198, 3) := kq.at kqdL_law_1378 44 rfl
theorem dL_law_1441 : decode cL_law 1441 = .ok (.pop, 1) := kq.at kqdL_law_1378 45 rfl
theorem dL_law_1442 : decode cL_law 1442 = .ok (.aload_n 2, 1) := kq.at kqdL_law_1378 46 rfl
theorem dL_law_1443 : decode cL_law 1443 = .ok (.invokevirtual 201, 3) := kq.at kqdL_law_1378 47 rfl
theorem dL_law_1446 : decode cL_law 1446 = .ok (.pop, 1) := kq.at kqdL_law_1378 48 rfl
theorem dL_law_1447 : decode cL_law 1447 = .ok (.goto 509, 3) := kq.at kqdL_law_1378 49 rfl
theorem dL_law_1450 : decode cL_law 1450 = .ok (.aload_n 1, 1) := kq.at kqdL_law_1378 50 rfl
theorem dL_law_1451 : decode cL_law 1451 = .ok (.invokevirtual 202, 3) := kq.at kqdL_law_1378 51 rfl
theorem dL_law_1454 : decode cL_law 1454 = .ok (.pop, 1) := kq.at kqdL_law_1378 52 rfl
theorem dL_law_1455 : decode cL_law 1455 = .ok (.aload_n 2, 1) := kq.at kqdL_law_1378 53 rfl
theorem dL_law_1456 : decode cL_law 1456 = .ok (.invokevirtual 205, 3) := kq.at kqdL_law_1378 54 rfl
theorem dL_law_1459 : decode cL_law 1459 = .ok (.pop, 1) := kq.at kqdL_law_1378 55 rfl
theorem dL_law_1460 : decode cL_law 1460 = .ok (.goto 496, 3) := kq.at kqdL_law_1378 56 rfl
theorem dL_law_1463 : decode cL_law 1463 = .ok (.aload_n 1, 1) := kq.at kqdL_law_1378 57 rfl
theorem dL_law_1464 : decode cL_law 1464 = .ok (.invokevirtual 206, 3) := kq.at kqdL_law_1378 58 rfl
theorem dL_law_1467 : decode cL_law 1467 = .ok (.pop, 1) := kq.at kqdL_law_1378 59 rfl
theorem dL_law_1468 : decode cL_law 1468 = .ok (.aload_n 2, 1) := kq.at kqdL_law_1378 60 rfl
theorem dL_law_1469 : decode cL_law 1469 = .ok (.invokevirtual 209, 3) := kq.at kqdL_law_1378 61 rfl
theorem dL_law_1472 : decode cL_law 1472 = .ok (.pop, 1) := kq.at kqdL_law_1378 62 rfl
theorem dL_law_1473 : decode cL_law 1473 = .ok (.goto 483, 3) := kq.at kqdL_law_1378 63 rfl
theorem kqdL_law_1476 : kq cL_law [(1476, .aload_n 1, 1), (1477, .aload_n 0, 1), (1478, .iload_n 3, 1), (1479, .iconst 1, 1), (1480, .iadd, 1), (1481, .iaload, 1), (1482, .aload_n 0, 1), (1483, .iload_n 3, 1), (1484, .iconst 2, 1), (1485, .iadd, 1), (1486, .iaload, 1), (1487, .invokevirtual 210, 3), (1490, .pop, 1), (1491, .aload_n 2, 1), (1492, .aload_n 0, 1), (1493, .iload_n 3, 1), (1494, .iconst 1, 1), (1495, .iadd, 1), (1496, .iaload, 1), (1497, .aload_n 0, 1), (1498, .iload_n 3, 1), (1499, .iconst 2, 1), (1500, .iadd, 1), (1501, .iaload, 1), (1502, .invokevirtual 213, 3), (1505, .pop, 1), (1506, .goto 450, 3), (1509, .aload_n 1, 1), (1510, .aload_n 0, 1), (1511, .iload_n 3, 1), (1512, .iconst 1, 1), (1513, .iadd, 1), (1514, .iaload, 1), (1515, .aload_n 0, 1), (1516, .iload_n 3, 1), (1517, .iconst 2, 1), (1518, .iadd, 1), (1519, .iaload, 1), (1520, .invokevirtual 214, 3), (1523, .pop, 1), (1524, .aload_n 2, 1), (1525, .aload_n 0, 1), (1526, .iload_n 3, 1), (1527, .iconst 1, 1), (1528, .iadd, 1), (1529, .iaload, 1), (1530, .aload_n 0, 1), (1531, .iload_n 3, 1), (1532, .iconst 2, 1), (1533, .iadd, 1), (1534, .iaload, 1), (1535, .invokevirtual 217, 3), (1538, .pop, 1), (1539, .goto 417, 3), (1542, .aload_n 1, 1), (1543, .aload_n 0, 1), (1544, .iload_n 3, 1), (1545, .iconst 1, 1), (1546, .iadd, 1), (1547, .iaload, 1), (1548, .invokevirtual 218, 3), (1551, .pop, 1), (1552, .aload_n 2, 1), (1553, .aload_n 0, 1)] = true := by decide +kernel
theorem dL_law_1476 : decode cL_law 1476 = .ok (.aload_n 1, 1) := kq.at kqdL_law_1476 0 rfl
theorem dL_law_1477 : decode cL_law 1477 = .ok (.aload_n 0, 1) := kq.at kqdL_law_1476 1 rfl
theorem dL_law_1478 : decode cL_law 1478 = .ok (.iload_n 3, 1) := kq.at kqdL_law_1476 2 rfl
theorem dL_law_1479 : decode cL_law 1479 = .ok (.iconst 1, 1) := kq.at kqdL_law_1476 3 rfl
theorem dL_law_1480 : decode cL_law 1480 = .ok (.iadd, 1) := kq.at kqdL_law_1476 4 rfl
theorem dL_law_1481 : decode cL_law 1481 = .ok (.iaload, 1) := kq.at kqdL_law_1476 5 rfl
theorem dL_law_1482 : decode cL_law 1482 = .ok (.aload_n 0, 1) := kq.at kqdL_law_1476 6 rfl
theorem dL_law_1483 : decode cL_law 1483 = .ok (.iload_n 3, 1) := kq.at kqdL_law_1476 7 rfl
theorem dL_law_1484 : decode cL_law 1484 = .ok (.iconst 2, 1) := kq.at kqdL_law_1476 8 rfl
theorem dL_law_1485 : decode cL_law 1485 = .ok (.iadd, 1) := kq.at kqdL_law_1476 9 rfl
theorem dL_law_1486 : decode cL_law 1486 = .ok (.iaload, 1) := kq.at kqdL_law_1476 10 rfl
theorem dL_law_1487 : decode cL_law 1487 = .ok (.invokevirtual 210, 3) := kq.at kqdL_law_1476 11 rfl
theorem dL_law_1490 : decode cL_law 1490 = .ok (.pop, 1) := kq.at kqdL_law_1476 12 rfl
theorem dL_law_1491 : decode cL_law 1491 = .ok (.aload_n 2, 1) := kq.at kqdL_law_1476 13 rfl
theorem dL_law_1492 : decode cL_law 1492 = .ok (.aload_n 0, 1) := kq.at kqdL_law_1476 14 rfl
theorem dL_law_1493 : decode cL_law 1493 = .ok (.iload_n 3, 1) := kq.at kqdL_law_1476 15 rfl
theorem dL_law_1494 : decode cL_law 1494 = .ok (.iconst 1, 1) := kq.at kqdL_law_1476 16 rfl
theorem dL_law_1495 : decode cL_law 1495 = .ok (.iadd, 1) := kq.at kqdL_law_1476 17 rfl
theorem dL_law_1496 : decode cL_law 1496 = .ok (.iaload, 1) := kq.at kqdL_law_1476 18 rfl
theorem dL_law_1497 : decode cL_law 1497 = .ok (.aload_n 0, 1) := kq.at kqdL_law_1476 19 rfl
theorem dL_law_1498 : decode cL_law 1498 = .ok (.iload_n 3, 1) := kq.at kqdL_law_1476 20 rfl
theorem dL_law_1499 : decode cL_law 1499 = .ok (.iconst 2, 1) := kq.at kqdL_law_1476 21 rfl
theorem dL_law_1500 : decode cL_law 1500 = .ok (.iadd, 1) := kq.at kqdL_law_1476 22 rfl
theorem dL_law_1501 : decode cL_law 1501 = .ok (.iaload, 1) := kq.at kqdL_law_1476 23 rfl
theorem dL_law_1502 : decode cL_law 1502 = .ok (.invokevirtual 213, 3) := kq.at kqdL_law_1476 24 rfl
theorem dL_law_1505 : decode cL_law 1505 = .ok (.pop, 1) := kq.at kqdL_law_1476 25 rfl
theorem dL_law_1506 : decode cL_law 1506 = .ok (.goto 450, 3) := kq.at kqdL_law_1476 26 rfl
theorem dL_law_1509 : decode cL_law 1509 = .ok (.aload_n 1, 1) := kq.at kqdL_law_1476 27 rfl
theorem dL_law_1510 : decode cL_law 1510 = .ok (.aload_n 0, 1) := kq.at kqdL_law_1476 28 rfl
theorem dL_law_1511 : decode cL_law 1511 = .ok (.iload_n 3, 1) := kq.at kqdL_law_1476 29 rfl
theorem dL_law_1512 : decode cL_law 1512 = .ok (.iconst 1, 1) := kq.at kqdL_law_1476 30 rfl
theorem dL_law_1513 : decode cL_law 1513 = .ok (.iadd, 1) := kq.at kqdL_law_1476 31 rfl
theorem dL_law_1514 : decode cL_law 1514 = .ok (.iaload, 1) := kq.at kqdL_law_1476 32 rfl
theorem dL_law_1515 : decode cL_law 1515 = .ok (.aload_n 0, 1) := kq.at kqdL_law_1476 33 rfl
theorem dL_law_1516 : decode cL_law 1516 = .ok (.iload_n 3, 1) := kq.at kqdL_law_1476 34 rfl
theorem dL_law_1517 : decode cL_law 1517 = .ok (.iconst 2, 1) := kq.at kqdL_law_1476 35 rfl
theorem dL_law_1518 : decode cL_law 1518 = .ok (.iadd, 1) := kq.at kqdL_law_1476 36 rfl
theorem dL_law_1519 : decode cL_law 1519 = .ok (.iaload, 1) := kq.at kqdL_law_1476 37 rfl
theorem dL_law_1520 : decode cL_law 1520 = .ok (.invokevirtual 214, 3) := kq.at kqdL_law_1476 38 rfl
theorem dL_law_1523 : decode cL_law 1523 = .ok (.pop, 1) := kq.at kqdL_law_1476 39 rfl
theorem dL_law_1524 : decode cL_law 1524 = .ok (.aload_n 2, 1) := kq.at kqdL_law_1476 40 rfl
theorem dL_law_1525 : decode cL_law 1525 = .ok (.aload_n 0, 1) := kq.at kqdL_law_1476 41 rfl
theorem dL_law_1526 : decode cL_law 1526 = .ok (.iload_n 3, 1) := kq.at kqdL_law_1476 42 rfl
theorem dL_law_1527 : decode cL_law 1527 = .ok (.iconst 1, 1) := kq.at kqdL_law_1476 43 rfl
theorem dL_law_1528 : decode cL_law 1528 = .ok (.iadd, 1) := kq.at kqdL_law_1476 44 rfl
theorem dL_law_1529 : decode cL_law 1529 = .ok (.iaload, 1) := kq.at kqdL_law_1476 45 rfl
theorem dL_law_1530 : decode cL_law 1530 = .ok (.aload_n 0, 1) := kq.at kqdL_law_1476 46 rfl
theorem dL_law_1531 : decode cL_law 1531 = .ok (.iload_n 3, 1) := kq.at kqdL_law_1476 47 rfl
theorem dL_law_1532 : decode cL_law 1532 = .ok (.iconst 2, 1) := kq.at kqdL_law_1476 48 rfl
theorem dL_law_1533 : decode cL_law 1533 = .ok (.iadd, 1) := kq.at kqdL_law_1476 49 rfl
theorem dL_law_1534 : decode cL_law 1534 = .ok (.iaload, 1) := kq.at kqdL_law_1476 50 rfl
theorem dL_law_1535 : decode cL_law 1535 = .ok (.invokevirtual 217, 3) := kq.at kqdL_law_1476 51 rfl
theorem dL_law_1538 : decode cL_law 1538 = .ok (.pop, 1) := kq.at kqdL_law_1476 52 rfl
theorem dL_law_1539 : decode cL_law 1539 = .ok (.goto 417, 3) := kq.at kqdL_law_1476 53 rfl
theorem dL_law_1542 : decode cL_law 1542 = .ok (.aload_n 1, 1) := kq.at kqdL_law_1476 54 rfl
theorem dL_law_1543 : decode cL_law 1543 = .ok (.aload_n 0, 1) := kq.at kqdL_law_1476 55 rfl
theorem dL_law_1544 : decode cL_law 1544 = .ok (.iload_n 3, 1) := kq.at kqdL_law_1476 56 rfl
theorem dL_law_1545 : decode cL_law 1545 = .ok (.iconst 1, 1) := kq.at kqdL_law_1476 57 rfl
theorem dL_law_1546 : decode cL_law 1546 = .ok (.iadd, 1) := kq.at kqdL_law_1476 58 rfl
theorem dL_law_1547 : decode cL_law 1547 = .ok (.iaload, 1) := kq.at kqdL_law_1476 59 rfl
theorem dL_law_1548 : decode cL_law 1548 = .ok (.invokevirtual 218, 3) := kq.at kqdL_law_1476 60 rfl
theorem dL_law_1551 : decode cL_law 1551 = .ok (.pop, 1) := kq.at kqdL_law_1476 61 rfl
theorem dL_law_1552 : decode cL_law 1552 = .ok (.aload_n 2, 1) := kq.at kqdL_law_1476 62 rfl
theorem dL_law_1553 : decode cL_law 1553 = .ok (.aload_n 0, 1) := kq.at kqdL_law_1476 63 rfl
