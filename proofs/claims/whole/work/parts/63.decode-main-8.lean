theorem d_law_1165 : decode code 1165 = .ok (.i2l, 1) := by decide +kernel
theorem d_law_1166 : decode code 1166 = .ok (.lcmp, 1) := by decide +kernel
theorem d_law_1167 : decode code 1167 = .ok (.ifCond .eq 5, 3) := by decide +kernel
theorem d_law_1170 : decode code 1170 = .ok (.iconst 0, 1) := by decide +kernel
theorem d_law_1171 : decode code 1171 = .ok (.ireturn, 1) := by decide +kernel
theorem d_law_1172 : decode code 1172 = .ok (.goto 140, 3) := by decide +kernel
theorem d_law_1175 : decode code 1175 = .ok (.aload_n 1, 1) := by decide +kernel
theorem d_law_1176 : decode code 1176 = .ok (.aload_n 0, 1) := by decide +kernel
theorem d_law_1177 : decode code 1177 = .ok (.iload 4, 2) := by decide +kernel
theorem d_law_1179 : decode code 1179 = .ok (.iconst 1, 1) := by decide +kernel
theorem d_law_1180 : decode code 1180 = .ok (.iadd, 1) := by decide +kernel
theorem d_law_1181 : decode code 1181 = .ok (.iaload, 1) := by decide +kernel
theorem d_law_1182 : decode code 1182 = .ok (.aload_n 0, 1) := by decide +kernel
theorem d_law_1183 : decode code 1183 = .ok (.iload 4, 2) := by decide +kernel
theorem d_law_1185 : decode code 1185 = .ok (.iconst 2, 1) := by decide +kernel
theorem d_law_1186 : decode code 1186 = .ok (.iadd, 1) := by decide +kernel
theorem d_law_1187 : decode code 1187 = .ok (.iaload, 1) := by decide +kernel
theorem d_law_1188 : decode code 1188 = .ok (.aload_n 3, 1) := by decide +kernel
theorem d_law_1189 : decode code 1189 = .ok (.invokestatic 141, 3) := by decide +kernel
theorem d_law_1192 : decode code 1192 = .ok (.istore 5, 2) := by decide +kernel
theorem d_law_1194 : decode code 1194 = .ok (.aload_n 2, 1) := by decide +kernel
theorem d_law_1195 : decode code 1195 = .ok (.aload_n 0, 1) := by decide +kernel
theorem d_law_1196 : decode code 1196 = .ok (.iload 4, 2) := by decide +kernel
theorem d_law_1198 : decode code 1198 = .ok (.iconst 1, 1) := by decide +kernel
theorem d_law_1199 : decode code 1199 = .ok (.iadd, 1) := by decide +kernel
theorem d_law_1200 : decode code 1200 = .ok (.iaload, 1) := by decide +kernel
theorem d_law_1201 : decode code 1201 = .ok (.aload_n 0, 1) := by decide +kernel
theorem d_law_1202 : decode code 1202 = .ok (.iload 4, 2) := by decide +kernel
theorem d_law_1204 : decode code 1204 = .ok (.iconst 2, 1) := by decide +kernel
theorem d_law_1205 : decode code 1205 = .ok (.iadd, 1) := by decide +kernel
theorem d_law_1206 : decode code 1206 = .ok (.iaload, 1) := by decide +kernel
theorem d_law_1207 : decode code 1207 = .ok (.invokevirtual 143, 3) := by decide +kernel
theorem d_law_1210 : decode code 1210 = .ok (.istore 6, 2) := by decide +kernel
theorem d_law_1212 : decode code 1212 = .ok (.aload_n 2, 1) := by decide +kernel
theorem d_law_1213 : decode code 1213 = .ok (.invokevirtual 87, 3) := by decide +kernel
theorem d_law_1216 : decode code 1216 = .ok (.iload 5, 2) := by decide +kernel
theorem d_law_1218 : decode code 1218 = .ok (.if_icmp .eq 5, 3) := by decide +kernel
theorem d_law_1221 : decode code 1221 = .ok (.iconst 0, 1) := by decide +kernel
theorem d_law_1222 : decode code 1222 = .ok (.ireturn, 1) := by decide +kernel
theorem d_law_1223 : decode code 1223 = .ok (.iload 5, 2) := by decide +kernel
theorem d_law_1225 : decode code 1225 = .ok (.ifCond .ne 15, 3) := by decide +kernel
theorem d_law_1228 : decode code 1228 = .ok (.aload_n 3, 1) := by decide +kernel
theorem d_law_1229 : decode code 1229 = .ok (.iconst 0, 1) := by decide +kernel
theorem d_law_1230 : decode code 1230 = .ok (.laload, 1) := by decide +kernel
theorem d_law_1231 : decode code 1231 = .ok (.iload 6, 2) := by decide +kernel
theorem d_law_1233 : decode code 1233 = .ok (.i2l, 1) := by decide +kernel
theorem d_law_1234 : decode code 1234 = .ok (.lcmp, 1) := by decide +kernel
theorem d_law_1235 : decode code 1235 = .ok (.ifCond .eq 5, 3) := by decide +kernel
theorem d_law_1238 : decode code 1238 = .ok (.iconst 0, 1) := by decide +kernel
theorem d_law_1239 : decode code 1239 = .ok (.ireturn, 1) := by decide +kernel
theorem d_law_1240 : decode code 1240 = .ok (.goto 72, 3) := by decide +kernel
theorem d_law_1243 : decode code 1243 = .ok (.aload_n 1, 1) := by decide +kernel
theorem d_law_1244 : decode code 1244 = .ok (.aload_n 3, 1) := by decide +kernel
theorem d_law_1245 : decode code 1245 = .ok (.invokestatic 144, 3) := by decide +kernel
theorem d_law_1248 : decode code 1248 = .ok (.istore 5, 2) := by decide +kernel
theorem d_law_1250 : decode code 1250 = .ok (.aload_n 2, 1) := by decide +kernel
theorem d_law_1251 : decode code 1251 = .ok (.invokevirtual 147, 3) := by decide +kernel
theorem d_law_1254 : decode code 1254 = .ok (.istore 6, 2) := by decide +kernel
theorem d_law_1256 : decode code 1256 = .ok (.aload_n 2, 1) := by decide +kernel
theorem d_law_1257 : decode code 1257 = .ok (.invokevirtual 87, 3) := by decide +kernel
theorem d_law_1260 : decode code 1260 = .ok (.iload 5, 2) := by decide +kernel
theorem d_law_1262 : decode code 1262 = .ok (.if_icmp .eq 5, 3) := by decide +kernel
theorem d_law_1265 : decode code 1265 = .ok (.iconst 0, 1) := by decide +kernel
theorem d_law_1266 : decode code 1266 = .ok (.ireturn, 1) := by decide +kernel
theorem d_law_1267 : decode code 1267 = .ok (.iload 5, 2) := by decide +kernel
theorem d_law_1269 : decode code 1269 = .ok (.ifCond .ne 15, 3) := by decide +kernel
theorem d_law_1272 : decode code 1272 = .ok (.aload_n 3, 1) := by decide +kernel
theorem d_law_1273 : decode code 1273 = .ok (.iconst 0, 1) := by decide +kernel
theorem d_law_1274 : decode code 1274 = .ok (.laload, 1) := by decide +kernel
theorem d_law_1275 : decode code 1275 = .ok (.iload 6, 2) := by decide +kernel
theorem d_law_1277 : decode code 1277 = .ok (.i2l, 1) := by decide +kernel
theorem d_law_1278 : decode code 1278 = .ok (.lcmp, 1) := by decide +kernel
theorem d_law_1279 : decode code 1279 = .ok (.ifCond .eq 5, 3) := by decide +kernel
theorem d_law_1282 : decode code 1282 = .ok (.iconst 0, 1) := by decide +kernel
theorem d_law_1283 : decode code 1283 = .ok (.ireturn, 1) := by decide +kernel
theorem d_law_1284 : decode code 1284 = .ok (.goto 28, 3) := by decide +kernel
theorem d_law_1287 : decode code 1287 = .ok (.aload_n 1, 1) := by decide +kernel
theorem d_law_1288 : decode code 1288 = .ok (.aload_n 0, 1) := by decide +kernel
theorem d_law_1289 : decode code 1289 = .ok (.iload 4, 2) := by decide +kernel
theorem d_law_1291 : decode code 1291 = .ok (.iconst 1, 1) := by decide +kernel
theorem d_law_1292 : decode code 1292 = .ok (.iadd, 1) := by decide +kernel
theorem d_law_1293 : decode code 1293 = .ok (.iaload, 1) := by decide +kernel
theorem d_law_1294 : decode code 1294 = .ok (.invokevirtual 148, 3) := by decide +kernel
theorem d_law_1297 : decode code 1297 = .ok (.aload_n 2, 1) := by decide +kernel
theorem d_law_1298 : decode code 1298 = .ok (.aload_n 0, 1) := by decide +kernel
theorem d_law_1299 : decode code 1299 = .ok (.iload 4, 2) := by decide +kernel
theorem d_law_1301 : decode code 1301 = .ok (.iconst 1, 1) := by decide +kernel
theorem d_law_1302 : decode code 1302 = .ok (.iadd, 1) := by decide +kernel
theorem d_law_1303 : decode code 1303 = .ok (.iaload, 1) := by decide +kernel
theorem d_law_1304 : decode code 1304 = .ok (.invokevirtual 151, 3) := by decide +kernel
theorem d_law_1307 : decode code 1307 = .ok (.if_icmp .eq 5, 3) := by decide +kernel
theorem d_law_1310 : decode code 1310 = .ok (.iconst 0, 1) := by decide +kernel
theorem d_law_1311 : decode code 1311 = .ok (.ireturn, 1) := by decide +kernel
theorem d_law_1312 : decode code 1312 = .ok (.iinc 4 4, 3) := by decide +kernel
theorem d_law_1315 : decode code 1315 = .ok (.goto (-1292), 3) := by decide +kernel
theorem d_law_1318 : decode code 1318 = .ok (.iconst 1, 1) := by decide +kernel
theorem d_law_1319 : decode code 1319 = .ok (.ireturn, 1) := by decide +kernel
