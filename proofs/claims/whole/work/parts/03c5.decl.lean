/-! the law's instructions -/
theorem dL_law__1099 : decode cL_law_ 1099 = .ok (.aload_n 3, 1) := by decide +kernel
theorem dL_law__1100 : decode cL_law_ 1100 = .ok (.invokestatic 198, 3) := by decide +kernel
theorem dL_law__1103 : decode cL_law_ 1103 = .ok (.istore 5, 2) := by decide +kernel
theorem dL_law__1105 : decode cL_law_ 1105 = .ok (.aload_n 2, 1) := by decide +kernel
theorem dL_law__1106 : decode cL_law_ 1106 = .ok (.aload_n 0, 1) := by decide +kernel
theorem dL_law__1107 : decode cL_law_ 1107 = .ok (.iload 4, 2) := by decide +kernel
theorem dL_law__1109 : decode cL_law_ 1109 = .ok (.iconst 1, 1) := by decide +kernel
theorem dL_law__1110 : decode cL_law_ 1110 = .ok (.iadd, 1) := by decide +kernel
theorem dL_law__1111 : decode cL_law_ 1111 = .ok (.iaload, 1) := by decide +kernel
theorem dL_law__1112 : decode cL_law_ 1112 = .ok (.aload_n 0, 1) := by decide +kernel
theorem dL_law__1113 : decode cL_law_ 1113 = .ok (.iload 4, 2) := by decide +kernel
theorem dL_law__1115 : decode cL_law_ 1115 = .ok (.iconst 2, 1) := by decide +kernel
theorem dL_law__1116 : decode cL_law_ 1116 = .ok (.iadd, 1) := by decide +kernel
theorem dL_law__1117 : decode cL_law_ 1117 = .ok (.iaload, 1) := by decide +kernel
theorem dL_law__1118 : decode cL_law_ 1118 = .ok (.invokevirtual 201, 3) := by decide +kernel
theorem dL_law__1121 : decode cL_law_ 1121 = .ok (.istore 6, 2) := by decide +kernel
theorem dL_law__1123 : decode cL_law_ 1123 = .ok (.aload_n 2, 1) := by decide +kernel
theorem dL_law__1124 : decode cL_law_ 1124 = .ok (.invokevirtual 157, 3) := by decide +kernel
theorem dL_law__1127 : decode cL_law_ 1127 = .ok (.iload 5, 2) := by decide +kernel
theorem dL_law__1129 : decode cL_law_ 1129 = .ok (.if_icmp .eq 5, 3) := by decide +kernel
theorem dL_law__1132 : decode cL_law_ 1132 = .ok (.iconst 0, 1) := by decide +kernel
theorem dL_law__1133 : decode cL_law_ 1133 = .ok (.ireturn, 1) := by decide +kernel
theorem dL_law__1134 : decode cL_law_ 1134 = .ok (.iload 5, 2) := by decide +kernel
theorem dL_law__1136 : decode cL_law_ 1136 = .ok (.ifCond .ne 15, 3) := by decide +kernel
theorem dL_law__1139 : decode cL_law_ 1139 = .ok (.aload_n 3, 1) := by decide +kernel
theorem dL_law__1140 : decode cL_law_ 1140 = .ok (.iconst 0, 1) := by decide +kernel
theorem dL_law__1141 : decode cL_law_ 1141 = .ok (.laload, 1) := by decide +kernel
theorem dL_law__1142 : decode cL_law_ 1142 = .ok (.iload 6, 2) := by decide +kernel
theorem dL_law__1144 : decode cL_law_ 1144 = .ok (.i2l, 1) := by decide +kernel
theorem dL_law__1145 : decode cL_law_ 1145 = .ok (.lcmp, 1) := by decide +kernel
theorem dL_law__1146 : decode cL_law_ 1146 = .ok (.ifCond .eq 5, 3) := by decide +kernel
theorem dL_law__1149 : decode cL_law_ 1149 = .ok (.iconst 0, 1) := by decide +kernel
theorem dL_law__1150 : decode cL_law_ 1150 = .ok (.ireturn, 1) := by decide +kernel
theorem dL_law__1151 : decode cL_law_ 1151 = .ok (.goto 2184, 3) := by decide +kernel
theorem dL_law__1154 : decode cL_law_ 1154 = .ok (.aload_n 1, 1) := by decide +kernel
theorem dL_law__1155 : decode cL_law_ 1155 = .ok (.aload_n 0, 1) := by decide +kernel
theorem dL_law__1156 : decode cL_law_ 1156 = .ok (.iload 4, 2) := by decide +kernel
theorem dL_law__1158 : decode cL_law_ 1158 = .ok (.iconst 1, 1) := by decide +kernel
theorem dL_law__1159 : decode cL_law_ 1159 = .ok (.iadd, 1) := by decide +kernel
theorem dL_law__1160 : decode cL_law_ 1160 = .ok (.iaload, 1) := by decide +kernel
theorem dL_law__1161 : decode cL_law_ 1161 = .ok (.aload_n 0, 1) := by decide +kernel
theorem dL_law__1162 : decode cL_law_ 1162 = .ok (.iload 4, 2) := by decide +kernel
theorem dL_law__1164 : decode cL_law_ 1164 = .ok (.iconst 2, 1) := by decide +kernel
theorem dL_law__1165 : decode cL_law_ 1165 = .ok (.iadd, 1) := by decide +kernel
theorem dL_law__1166 : decode cL_law_ 1166 = .ok (.iaload, 1) := by decide +kernel
theorem dL_law__1167 : decode cL_law_ 1167 = .ok (.i2l, 1) := by decide +kernel
theorem dL_law__1168 : decode cL_law_ 1168 = .ok (.bipush 32, 2) := by decide +kernel
theorem dL_law__1170 : decode cL_law_ 1170 = .ok (.lshl, 1) := by decide +kernel
theorem dL_law__1171 : decode cL_law_ 1171 = .ok (.aload_n 0, 1) := by decide +kernel
theorem dL_law__1172 : decode cL_law_ 1172 = .ok (.iload 4, 2) := by decide +kernel
theorem dL_law__1174 : decode cL_law_ 1174 = .ok (.iconst 3, 1) := by decide +kernel
theorem dL_law__1175 : decode cL_law_ 1175 = .ok (.iadd, 1) := by decide +kernel
theorem dL_law__1176 : decode cL_law_ 1176 = .ok (.iaload, 1) := by decide +kernel
theorem dL_law__1177 : decode cL_law_ 1177 = .ok (.i2l, 1) := by decide +kernel
theorem dL_law__1178 : decode cL_law_ 1178 = .ok (.ldc2_w 178, 3) := by decide +kernel
theorem dL_law__1181 : decode cL_law_ 1181 = .ok (.land, 1) := by decide +kernel
theorem dL_law__1182 : decode cL_law_ 1182 = .ok (.lor, 1) := by decide +kernel
theorem dL_law__1183 : decode cL_law_ 1183 = .ok (.aload_n 3, 1) := by decide +kernel
theorem dL_law__1184 : decode cL_law_ 1184 = .ok (.invokestatic 202, 3) := by decide +kernel
theorem dL_law__1187 : decode cL_law_ 1187 = .ok (.istore 5, 2) := by decide +kernel
theorem dL_law__1189 : decode cL_law_ 1189 = .ok (.aload_n 2, 1) := by decide +kernel
theorem dL_law__1190 : decode cL_law_ 1190 = .ok (.aload_n 0, 1) := by decide +kernel
theorem dL_law__1191 : decode cL_law_ 1191 = .ok (.iload 4, 2) := by decide +kernel
theorem dL_law__1193 : decode cL_law_ 1193 = .ok (.iconst 1, 1) := by decide +kernel
theorem dL_law__1194 : decode cL_law_ 1194 = .ok (.iadd, 1) := by decide +kernel
theorem dL_law__1195 : decode cL_law_ 1195 = .ok (.iaload, 1) := by decide +kernel
theorem dL_law__1196 : decode cL_law_ 1196 = .ok (.aload_n 0, 1) := by decide +kernel
theorem dL_law__1197 : decode cL_law_ 1197 = .ok (.iload 4, 2) := by decide +kernel
theorem dL_law__1199 : decode cL_law_ 1199 = .ok (.iconst 2, 1) := by decide +kernel
theorem dL_law__1200 : decode cL_law_ 1200 = .ok (.iadd, 1) := by decide +kernel
theorem dL_law__1201 : decode cL_law_ 1201 = .ok (.iaload, 1) := by decide +kernel
theorem dL_law__1202 : decode cL_law_ 1202 = .ok (.i2l, 1) := by decide +kernel
theorem dL_law__1203 : decode cL_law_ 1203 = .ok (.bipush 32, 2) := by decide +kernel
theorem dL_law__1205 : decode cL_law_ 1205 = .ok (.lshl, 1) := by decide +kernel
theorem dL_law__1206 : decode cL_law_ 1206 = .ok (.aload_n 0, 1) := by decide +kernel
theorem dL_law__1207 : decode cL_law_ 1207 = .ok (.iload 4, 2) := by decide +kernel
theorem dL_law__1209 : decode cL_law_ 1209 = .ok (.iconst 3, 1) := by decide +kernel
theorem dL_law__1210 : decode cL_law_ 1210 = .ok (.iadd, 1) := by decide +kernel
theorem dL_law__1211 : decode cL_law_ 1211 = .ok (.iaload, 1) := by decide +kernel
theorem dL_law__1212 : decode cL_law_ 1212 = .ok (.i2l, 1) := by decide +kernel
theorem dL_law__1213 : decode cL_law_ 1213 = .ok (.ldc2_w 178, 3) := by decide +kernel
theorem dL_law__1216 : decode cL_law_ 1216 = .ok (.land, 1) := by decide +kernel
theorem dL_law__1217 : decode cL_law_ 1217 = .ok (.lor, 1) := by decide +kernel
theorem dL_law__1218 : decode cL_law_ 1218 = .ok (.invokevirtual 205, 3) := by decide +kernel
theorem dL_law__1221 : decode cL_law_ 1221 = .ok (.lstore 6, 2) := by decide +kernel
theorem dL_law__1223 : decode cL_law_ 1223 = .ok (.aload_n 2, 1) := by decide +kernel
theorem dL_law__1224 : decode cL_law_ 1224 = .ok (.invokevirtual 157, 3) := by decide +kernel
theorem dL_law__1227 : decode cL_law_ 1227 = .ok (.iload 5, 2) := by decide +kernel
theorem dL_law__1229 : decode cL_law_ 1229 = .ok (.if_icmp .eq 5, 3) := by decide +kernel
theorem dL_law__1232 : decode cL_law_ 1232 = .ok (.iconst 0, 1) := by decide +kernel
theorem dL_law__1233 : decode cL_law_ 1233 = .ok (.ireturn, 1) := by decide +kernel
theorem dL_law__1234 : decode cL_law_ 1234 = .ok (.iload 5, 2) := by decide +kernel
theorem dL_law__1236 : decode cL_law_ 1236 = .ok (.ifCond .ne 14, 3) := by decide +kernel
theorem dL_law__1239 : decode cL_law_ 1239 = .ok (.aload_n 3, 1) := by decide +kernel
theorem dL_law__1240 : decode cL_law_ 1240 = .ok (.iconst 0, 1) := by decide +kernel
theorem dL_law__1241 : decode cL_law_ 1241 = .ok (.laload, 1) := by decide +kernel
theorem dL_law__1242 : decode cL_law_ 1242 = .ok (.lload 6, 2) := by decide +kernel
theorem dL_law__1244 : decode cL_law_ 1244 = .ok (.lcmp, 1) := by decide +kernel
theorem dL_law__1245 : decode cL_law_ 1245 = .ok (.ifCond .eq 5, 3) := by decide +kernel
theorem dL_law__1248 : decode cL_law_ 1248 = .ok (.iconst 0, 1) := by decide +kernel
theorem dL_law__1249 : decode cL_law_ 1249 = .ok (.ireturn, 1) := by decide +kernel
theorem dL_law__1250 : decode cL_law_ 1250 = .ok (.goto 2085, 3) := by decide +kernel
theorem dL_law__1253 : decode cL_law_ 1253 = .ok (.aload_n 1, 1) := by decide +kernel
theorem dL_law__1254 : decode cL_law_ 1254 = .ok (.aload_n 0, 1) := by decide +kernel
theorem dL_law__1255 : decode cL_law_ 1255 = .ok (.iload 4, 2) := by decide +kernel
theorem dL_law__1257 : decode cL_law_ 1257 = .ok (.iconst 1, 1) := by decide +kernel
theorem dL_law__1258 : decode cL_law_ 1258 = .ok (.iadd, 1) := by decide +kernel
theorem dL_law__1259 : decode cL_law_ 1259 = .ok (.iaload, 1) := by decide +kernel
theorem dL_law__1260 : decode cL_law_ 1260 = .ok (.i2l, 1) := by decide +kernel
theorem dL_law__1261 : decode cL_law_ 1261 = .ok (.bipush 32, 2) := by decide +kernel
theorem dL_law__1263 : decode cL_law_ 1263 = .ok (.lshl, 1) := by decide +kernel
theorem dL_law__1264 : decode cL_law_ 1264 = .ok (.aload_n 0, 1) := by decide +kernel
theorem dL_law__1265 : decode cL_law_ 1265 = .ok (.iload 4, 2) := by decide +kernel
theorem dL_law__1267 : decode cL_law_ 1267 = .ok (.iconst 2, 1) := by decide +kernel
theorem dL_law__1268 : decode cL_law_ 1268 = .ok (.iadd, 1) := by decide +kernel
theorem dL_law__1269 : decode cL_law_ 1269 = .ok (.iaload, 1) := by decide +kernel
theorem dL_law__1270 : decode cL_law_ 1270 = .ok (.i2l, 1) := by decide +kernel
theorem dL_law__1271 : decode cL_law_ 1271 = .ok (.ldc2_w 178, 3) := by decide +kernel
theorem dL_law__1274 : decode cL_law_ 1274 = .ok (.land, 1) := by decide +kernel
theorem dL_law__1275 : decode cL_law_ 1275 = .ok (.lor, 1) := by decide +kernel
theorem dL_law__1276 : decode cL_law_ 1276 = .ok (.aload_n 0, 1) := by decide +kernel
theorem dL_law__1277 : decode cL_law_ 1277 = .ok (.iload 4, 2) := by decide +kernel
theorem dL_law__1279 : decode cL_law_ 1279 = .ok (.iconst 3, 1) := by decide +kernel
theorem dL_law__1280 : decode cL_law_ 1280 = .ok (.iadd, 1) := by decide +kernel
theorem dL_law__1281 : decode cL_law_ 1281 = .ok (.iaload, 1) := by decide +kernel
theorem dL_law__1282 : decode cL_law_ 1282 = .ok (.i2l, 1) := by decide +kernel
theorem dL_law__1283 : decode cL_law_ 1283 = .ok (.bipush 32, 2) := by decide +kernel
theorem dL_law__1285 : decode cL_law_ 1285 = .ok (.lshl, 1) := by decide +kernel
theorem dL_law__1286 : decode cL_law_ 1286 = .ok (.aload_n 0, 1) := by decide +kernel
theorem dL_law__1287 : decode cL_law_ 1287 = .ok (.iload 4, 2) := by decide +kernel
theorem dL_law__1289 : decode cL_law_ 1289 = .ok (.iconst 4, 1) := by decide +kernel
theorem dL_law__1290 : decode cL_law_ 1290 = .ok (.iadd, 1) := by decide +kernel
theorem dL_law__1291 : decode cL_law_ 1291 = .ok (.iaload, 1) := by decide +kernel
theorem dL_law__1292 : decode cL_law_ 1292 = .ok (.i2l, 1) := by decide +kernel
theorem dL_law__1293 : decode cL_law_ 1293 = .ok (.ldc2_w 178, 3) := by decide +kernel
theorem dL_law__1296 : decode cL_law_ 1296 = .ok (.land, 1) := by decide +kernel
theorem dL_law__1297 : decode cL_law_ 1297 = .ok (.lor, 1) := by decide +kernel
theorem dL_law__1298 : decode cL_law_ 1298 = .ok (.aload_n 3, 1) := by decide +kernel
theorem dL_law__1299 : decode cL_law_ 1299 = .ok (.invokestatic 206, 3) := by decide +kernel
theorem dL_law__1302 : decode cL_law_ 1302 = .ok (.istore 5, 2) := by decide +kernel
theorem dL_law__1304 : decode cL_law_ 1304 = .ok (.aload_n 2, 1) := by decide +kernel
theorem dL_law__1305 : decode cL_law_ 1305 = .ok (.aload_n 0, 1) := by decide +kernel
theorem dL_law__1306 : decode cL_law_ 1306 = .ok (.iload 4, 2) := by decide +kernel
theorem dL_law__1308 : decode cL_law_ 1308 = .ok (.iconst 1, 1) := by decide +kernel
theorem dL_law__1309 : decode cL_law_ 1309 = .ok (.iadd, 1) := by decide +kernel
theorem dL_law__1310 : decode cL_law_ 1310 = .ok (.iaload, 1) := by decide +kernel
theorem dL_law__1311 : decode cL_law_ 1311 = .ok (.i2l, 1) := by decide +kernel
theorem dL_law__1312 : decode cL_law_ 1312 = .ok (.bipush 32, 2) := by decide +kernel
theorem dL_law__1314 : decode cL_law_ 1314 = .ok (.lshl, 1) := by decide +kernel
theorem dL_law__1315 : decode cL_law_ 1315 = .ok (.aload_n 0, 1) := by decide +kernel
