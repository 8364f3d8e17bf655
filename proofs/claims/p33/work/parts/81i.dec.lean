theorem dLaw_1194g : (decode code 1194 = .ok (.iconst 2, 1)) ∧ (decode code 1195 = .ok (.iadd, 1)) ∧ (decode code 1196 = .ok (.iaload, 1)) ∧ (decode code 1197 = .ok (.aload_n 0, 1)) ∧ (decode code 1198 = .ok (.iload_n 3, 1)) ∧ (decode code 1199 = .ok (.iconst 3, 1)) ∧ (decode code 1200 = .ok (.iadd, 1)) ∧ (decode code 1201 = .ok (.iaload, 1)) ∧ (decode code 1202 = .ok (.invokevirtual 127, 3)) ∧ (decode code 1205 = .ok (.pop, 1)) := by decide +kernel
theorem dLaw_1194 : decode code 1194 = .ok (.iconst 2, 1) := dLaw_1194g.1
theorem dLaw_1195 : decode code 1195 = .ok (.iadd, 1) := dLaw_1194g.2.1
theorem dLaw_1196 : decode code 1196 = .ok (.iaload, 1) := dLaw_1194g.2.2.1
theorem dLaw_1197 : decode code 1197 = .ok (.aload_n 0, 1) := dLaw_1194g.2.2.2.1
theorem dLaw_1198 : decode code 1198 = .ok (.iload_n 3, 1) := dLaw_1194g.2.2.2.2.1
theorem dLaw_1199 : decode code 1199 = .ok (.iconst 3, 1) := dLaw_1194g.2.2.2.2.2.1
theorem dLaw_1200 : decode code 1200 = .ok (.iadd, 1) := dLaw_1194g.2.2.2.2.2.2.1
theorem dLaw_1201 : decode code 1201 = .ok (.iaload, 1) := dLaw_1194g.2.2.2.2.2.2.2.1
theorem dLaw_1202 : decode code 1202 = .ok (.invokevirtual 127, 3) := dLaw_1194g.2.2.2.2.2.2.2.2.1
theorem dLaw_1205 : decode code 1205 = .ok (.pop, 1) := dLaw_1194g.2.2.2.2.2.2.2.2.2
theorem dLaw_1206g : (decode code 1206 = .ok (.goto 798, 3)) ∧ (decode code 1209 = .ok (.aload_n 1, 1)) ∧ (decode code 1210 = .ok (.aload_n 0, 1)) ∧ (decode code 1211 = .ok (.iload_n 3, 1)) ∧ (decode code 1212 = .ok (.iconst 1, 1)) ∧ (decode code 1213 = .ok (.iadd, 1)) ∧ (decode code 1214 = .ok (.iaload, 1)) ∧ (decode code 1215 = .ok (.aload_n 0, 1)) ∧ (decode code 1216 = .ok (.iload_n 3, 1)) ∧ (decode code 1217 = .ok (.iconst 2, 1)) := by decide +kernel
theorem dLaw_1206 : decode code 1206 = .ok (.goto 798, 3) := dLaw_1206g.1
theorem dLaw_1209 : decode code 1209 = .ok (.aload_n 1, 1) := dLaw_1206g.2.1
theorem dLaw_1210 : decode code 1210 = .ok (.aload_n 0, 1) := dLaw_1206g.2.2.1
theorem dLaw_1211 : decode code 1211 = .ok (.iload_n 3, 1) := dLaw_1206g.2.2.2.1
theorem dLaw_1212 : decode code 1212 = .ok (.iconst 1, 1) := dLaw_1206g.2.2.2.2.1
theorem dLaw_1213 : decode code 1213 = .ok (.iadd, 1) := dLaw_1206g.2.2.2.2.2.1
theorem dLaw_1214 : decode code 1214 = .ok (.iaload, 1) := dLaw_1206g.2.2.2.2.2.2.1
theorem dLaw_1215 : decode code 1215 = .ok (.aload_n 0, 1) := dLaw_1206g.2.2.2.2.2.2.2.1
theorem dLaw_1216 : decode code 1216 = .ok (.iload_n 3, 1) := dLaw_1206g.2.2.2.2.2.2.2.2.1
theorem dLaw_1217 : decode code 1217 = .ok (.iconst 2, 1) := dLaw_1206g.2.2.2.2.2.2.2.2.2
theorem dLaw_1218g : (decode code 1218 = .ok (.iadd, 1)) ∧ (decode code 1219 = .ok (.iaload, 1)) ∧ (decode code 1220 = .ok (.aload_n 0, 1)) ∧ (decode code 1221 = .ok (.iload_n 3, 1)) ∧ (decode code 1222 = .ok (.iconst 3, 1)) ∧ (decode code 1223 = .ok (.iadd, 1)) ∧ (decode code 1224 = .ok (.iaload, 1)) ∧ (decode code 1225 = .ok (.invokevirtual 128, 3)) ∧ (decode code 1228 = .ok (.pop, 1)) ∧ (decode code 1229 = .ok (.aload_n 2, 1)) := by decide +kernel
theorem dLaw_1218 : decode code 1218 = .ok (.iadd, 1) := dLaw_1218g.1
theorem dLaw_1219 : decode code 1219 = .ok (.iaload, 1) := dLaw_1218g.2.1
theorem dLaw_1220 : decode code 1220 = .ok (.aload_n 0, 1) := dLaw_1218g.2.2.1
theorem dLaw_1221 : decode code 1221 = .ok (.iload_n 3, 1) := dLaw_1218g.2.2.2.1
theorem dLaw_1222 : decode code 1222 = .ok (.iconst 3, 1) := dLaw_1218g.2.2.2.2.1
theorem dLaw_1223 : decode code 1223 = .ok (.iadd, 1) := dLaw_1218g.2.2.2.2.2.1
theorem dLaw_1224 : decode code 1224 = .ok (.iaload, 1) := dLaw_1218g.2.2.2.2.2.2.1
theorem dLaw_1225 : decode code 1225 = .ok (.invokevirtual 128, 3) := dLaw_1218g.2.2.2.2.2.2.2.1
theorem dLaw_1228 : decode code 1228 = .ok (.pop, 1) := dLaw_1218g.2.2.2.2.2.2.2.2.1
theorem dLaw_1229 : decode code 1229 = .ok (.aload_n 2, 1) := dLaw_1218g.2.2.2.2.2.2.2.2.2
theorem dLaw_1230g : (decode code 1230 = .ok (.aload_n 0, 1)) ∧ (decode code 1231 = .ok (.iload_n 3, 1)) ∧ (decode code 1232 = .ok (.iconst 1, 1)) ∧ (decode code 1233 = .ok (.iadd, 1)) ∧ (decode code 1234 = .ok (.iaload, 1)) ∧ (decode code 1235 = .ok (.aload_n 0, 1)) ∧ (decode code 1236 = .ok (.iload_n 3, 1)) ∧ (decode code 1237 = .ok (.iconst 2, 1)) ∧ (decode code 1238 = .ok (.iadd, 1)) ∧ (decode code 1239 = .ok (.iaload, 1)) := by decide +kernel
theorem dLaw_1230 : decode code 1230 = .ok (.aload_n 0, 1) := dLaw_1230g.1
theorem dLaw_1231 : decode code 1231 = .ok (.iload_n 3, 1) := dLaw_1230g.2.1
theorem dLaw_1232 : decode code 1232 = .ok (.iconst 1, 1) := dLaw_1230g.2.2.1
theorem dLaw_1233 : decode code 1233 = .ok (.iadd, 1) := dLaw_1230g.2.2.2.1
theorem dLaw_1234 : decode code 1234 = .ok (.iaload, 1) := dLaw_1230g.2.2.2.2.1
theorem dLaw_1235 : decode code 1235 = .ok (.aload_n 0, 1) := dLaw_1230g.2.2.2.2.2.1
theorem dLaw_1236 : decode code 1236 = .ok (.iload_n 3, 1) := dLaw_1230g.2.2.2.2.2.2.1
theorem dLaw_1237 : decode code 1237 = .ok (.iconst 2, 1) := dLaw_1230g.2.2.2.2.2.2.2.1
theorem dLaw_1238 : decode code 1238 = .ok (.iadd, 1) := dLaw_1230g.2.2.2.2.2.2.2.2.1
theorem dLaw_1239 : decode code 1239 = .ok (.iaload, 1) := dLaw_1230g.2.2.2.2.2.2.2.2.2
theorem dLaw_1240g : (decode code 1240 = .ok (.aload_n 0, 1)) ∧ (decode code 1241 = .ok (.iload_n 3, 1)) ∧ (decode code 1242 = .ok (.iconst 3, 1)) ∧ (decode code 1243 = .ok (.iadd, 1)) ∧ (decode code 1244 = .ok (.iaload, 1)) ∧ (decode code 1245 = .ok (.invokevirtual 131, 3)) ∧ (decode code 1248 = .ok (.pop, 1)) ∧ (decode code 1249 = .ok (.goto 755, 3)) ∧ (decode code 1252 = .ok (.aload_n 1, 1)) ∧ (decode code 1253 = .ok (.aload_n 0, 1)) := by decide +kernel
theorem dLaw_1240 : decode code 1240 = .ok (.aload_n 0, 1) := dLaw_1240g.1
theorem dLaw_1241 : decode code 1241 = .ok (.iload_n 3, 1) := dLaw_1240g.2.1
theorem dLaw_1242 : decode code 1242 = .ok (.iconst 3, 1) := dLaw_1240g.2.2.1
theorem dLaw_1243 : decode code 1243 = .ok (.iadd, 1) := dLaw_1240g.2.2.2.1
theorem dLaw_1244 : decode code 1244 = .ok (.iaload, 1) := dLaw_1240g.2.2.2.2.1
theorem dLaw_1245 : decode code 1245 = .ok (.invokevirtual 131, 3) := dLaw_1240g.2.2.2.2.2.1
theorem dLaw_1248 : decode code 1248 = .ok (.pop, 1) := dLaw_1240g.2.2.2.2.2.2.1
theorem dLaw_1249 : decode code 1249 = .ok (.goto 755, 3) := dLaw_1240g.2.2.2.2.2.2.2.1
theorem dLaw_1252 : decode code 1252 = .ok (.aload_n 1, 1) := dLaw_1240g.2.2.2.2.2.2.2.2.1
theorem dLaw_1253 : decode code 1253 = .ok (.aload_n 0, 1) := dLaw_1240g.2.2.2.2.2.2.2.2.2
theorem dLaw_1254g : (decode code 1254 = .ok (.iload_n 3, 1)) ∧ (decode code 1255 = .ok (.iconst 1, 1)) ∧ (decode code 1256 = .ok (.iadd, 1)) ∧ (decode code 1257 = .ok (.iaload, 1)) ∧ (decode code 1258 = .ok (.aload_n 0, 1)) ∧ (decode code 1259 = .ok (.iload_n 3, 1)) ∧ (decode code 1260 = .ok (.iconst 2, 1)) ∧ (decode code 1261 = .ok (.iadd, 1)) ∧ (decode code 1262 = .ok (.iaload, 1)) ∧ (decode code 1263 = .ok (.aload_n 0, 1)) := by decide +kernel
theorem dLaw_1254 : decode code 1254 = .ok (.iload_n 3, 1) := dLaw_1254g.1
theorem dLaw_1255 : decode code 1255 = .ok (.iconst 1, 1) := dLaw_1254g.2.1
theorem dLaw_1256 : decode code 1256 = .ok (.iadd, 1) := dLaw_1254g.2.2.1
theorem dLaw_1257 : decode code 1257 = .ok (.iaload, 1) := dLaw_1254g.2.2.2.1
theorem dLaw_1258 : decode code 1258 = .ok (.aload_n 0, 1) := dLaw_1254g.2.2.2.2.1
theorem dLaw_1259 : decode code 1259 = .ok (.iload_n 3, 1) := dLaw_1254g.2.2.2.2.2.1
theorem dLaw_1260 : decode code 1260 = .ok (.iconst 2, 1) := dLaw_1254g.2.2.2.2.2.2.1
theorem dLaw_1261 : decode code 1261 = .ok (.iadd, 1) := dLaw_1254g.2.2.2.2.2.2.2.1
theorem dLaw_1262 : decode code 1262 = .ok (.iaload, 1) := dLaw_1254g.2.2.2.2.2.2.2.2.1
theorem dLaw_1263 : decode code 1263 = .ok (.aload_n 0, 1) := dLaw_1254g.2.2.2.2.2.2.2.2.2
theorem dLaw_1264g : (decode code 1264 = .ok (.iload_n 3, 1)) ∧ (decode code 1265 = .ok (.iconst 3, 1)) ∧ (decode code 1266 = .ok (.iadd, 1)) ∧ (decode code 1267 = .ok (.iaload, 1)) ∧ (decode code 1268 = .ok (.invokevirtual 132, 3)) ∧ (decode code 1271 = .ok (.pop, 1)) ∧ (decode code 1272 = .ok (.aload_n 2, 1)) ∧ (decode code 1273 = .ok (.aload_n 0, 1)) ∧ (decode code 1274 = .ok (.iload_n 3, 1)) ∧ (decode code 1275 = .ok (.iconst 1, 1)) := by decide +kernel
theorem dLaw_1264 : decode code 1264 = .ok (.iload_n 3, 1) := dLaw_1264g.1
theorem dLaw_1265 : decode code 1265 = .ok (.iconst 3, 1) := dLaw_1264g.2.1
theorem dLaw_1266 : decode code 1266 = .ok (.iadd, 1) := dLaw_1264g.2.2.1
theorem dLaw_1267 : decode code 1267 = .ok (.iaload, 1) := dLaw_1264g.2.2.2.1
theorem dLaw_1268 : decode code 1268 = .ok (.invokevirtual 132, 3) := dLaw_1264g.2.2.2.2.1
theorem dLaw_1271 : decode code 1271 = .ok (.pop, 1) := dLaw_1264g.2.2.2.2.2.1
theorem dLaw_1272 : decode code 1272 = .ok (.aload_n 2, 1) := dLaw_1264g.2.2.2.2.2.2.1
theorem dLaw_1273 : decode code 1273 = .ok (.aload_n 0, 1) := dLaw_1264g.2.2.2.2.2.2.2.1
theorem dLaw_1274 : decode code 1274 = .ok (.iload_n 3, 1) := dLaw_1264g.2.2.2.2.2.2.2.2.1
theorem dLaw_1275 : decode code 1275 = .ok (.iconst 1, 1) := dLaw_1264g.2.2.2.2.2.2.2.2.2
theorem dLaw_1276g : (decode code 1276 = .ok (.iadd, 1)) ∧ (decode code 1277 = .ok (.iaload, 1)) ∧ (decode code 1278 = .ok (.aload_n 0, 1)) ∧ (decode code 1279 = .ok (.iload_n 3, 1)) ∧ (decode code 1280 = .ok (.iconst 2, 1)) ∧ (decode code 1281 = .ok (.iadd, 1)) ∧ (decode code 1282 = .ok (.iaload, 1)) ∧ (decode code 1283 = .ok (.aload_n 0, 1)) ∧ (decode code 1284 = .ok (.iload_n 3, 1)) ∧ (decode code 1285 = .ok (.iconst 3, 1)) := by decide +kernel
theorem dLaw_1276 : decode code 1276 = .ok (.iadd, 1) := dLaw_1276g.1
theorem dLaw_1277 : decode code 1277 = .ok (.iaload, 1) := dLaw_1276g.2.1
theorem dLaw_1278 : decode code 1278 = .ok (.aload_n 0, 1) := dLaw_1276g.2.2.1
theorem dLaw_1279 : decode code 1279 = .ok (.iload_n 3, 1) := dLaw_1276g.2.2.2.1
theorem dLaw_1280 : decode code 1280 = .ok (.iconst 2, 1) := dLaw_1276g.2.2.2.2.1
theorem dLaw_1281 : decode code 1281 = .ok (.iadd, 1) := dLaw_1276g.2.2.2.2.2.1
theorem dLaw_1282 : decode code 1282 = .ok (.iaload, 1) := dLaw_1276g.2.2.2.2.2.2.1
theorem dLaw_1283 : decode code 1283 = .ok (.aload_n 0, 1) := dLaw_1276g.2.2.2.2.2.2.2.1
theorem dLaw_1284 : decode code 1284 = .ok (.iload_n 3, 1) := dLaw_1276g.2.2.2.2.2.2.2.2.1
theorem dLaw_1285 : decode code 1285 = .ok (.iconst 3, 1) := dLaw_1276g.2.2.2.2.2.2.2.2.2
theorem dLaw_1286g : (decode code 1286 = .ok (.iadd, 1)) ∧ (decode code 1287 = .ok (.iaload, 1)) ∧ (decode code 1288 = .ok (.invokevirtual 135, 3)) ∧ (decode code 1291 = .ok (.pop, 1)) ∧ (decode code 1292 = .ok (.goto 712, 3)) ∧ (decode code 1295 = .ok (.aload_n 1, 1)) ∧ (decode code 1296 = .ok (.aload_n 0, 1)) ∧ (decode code 1297 = .ok (.iload_n 3, 1)) ∧ (decode code 1298 = .ok (.iconst 1, 1)) ∧ (decode code 1299 = .ok (.iadd, 1)) := by decide +kernel
theorem dLaw_1286 : decode code 1286 = .ok (.iadd, 1) := dLaw_1286g.1
theorem dLaw_1287 : decode code 1287 = .ok (.iaload, 1) := dLaw_1286g.2.1
theorem dLaw_1288 : decode code 1288 = .ok (.invokevirtual 135, 3) := dLaw_1286g.2.2.1
theorem dLaw_1291 : decode code 1291 = .ok (.pop, 1) := dLaw_1286g.2.2.2.1
theorem dLaw_1292 : decode code 1292 = .ok (.goto 712, 3) := dLaw_1286g.2.2.2.2.1
theorem dLaw_1295 : decode code 1295 = .ok (.aload_n 1, 1) := dLaw_1286g.2.2.2.2.2.1
theorem dLaw_1296 : decode code 1296 = .ok (.aload_n 0, 1) := dLaw_1286g.2.2.2.2.2.2.1
theorem dLaw_1297 : decode code 1297 = .ok (.iload_n 3, 1) := dLaw_1286g.2.2.2.2.2.2.2.1
theorem dLaw_1298 : decode code 1298 = .ok (.iconst 1, 1) := dLaw_1286g.2.2.2.2.2.2.2.2.1
theorem dLaw_1299 : decode code 1299 = .ok (.iadd, 1) := dLaw_1286g.2.2.2.2.2.2.2.2.2
theorem dLaw_1300g : (decode code 1300 = .ok (.iaload, 1)) ∧ (decode code 1301 = .ok (.aload_n 0, 1)) ∧ (decode code 1302 = .ok (.iload_n 3, 1)) ∧ (decode code 1303 = .ok (.iconst 2, 1)) ∧ (decode code 1304 = .ok (.iadd, 1)) ∧ (decode code 1305 = .ok (.iaload, 1)) ∧ (decode code 1306 = .ok (.aload_n 0, 1)) ∧ (decode code 1307 = .ok (.iload_n 3, 1)) ∧ (decode code 1308 = .ok (.iconst 3, 1)) ∧ (decode code 1309 = .ok (.iadd, 1)) := by decide +kernel
theorem dLaw_1300 : decode code 1300 = .ok (.iaload, 1) := dLaw_1300g.1
theorem dLaw_1301 : decode code 1301 = .ok (.aload_n 0, 1) := dLaw_1300g.2.1
theorem dLaw_1302 : decode code 1302 = .ok (.iload_n 3, 1) := dLaw_1300g.2.2.1
theorem dLaw_1303 : decode code 1303 = .ok (.iconst 2, 1) := dLaw_1300g.2.2.2.1
theorem dLaw_1304 : decode code 1304 = .ok (.iadd, 1) := dLaw_1300g.2.2.2.2.1
theorem dLaw_1305 : decode code 1305 = .ok (.iaload, 1) := dLaw_1300g.2.2.2.2.2.1
theorem dLaw_1306 : decode code 1306 = .ok (.aload_n 0, 1) := dLaw_1300g.2.2.2.2.2.2.1
theorem dLaw_1307 : decode code 1307 = .ok (.iload_n 3, 1) := dLaw_1300g.2.2.2.2.2.2.2.1
theorem dLaw_1308 : decode code 1308 = .ok (.iconst 3, 1) := dLaw_1300g.2.2.2.2.2.2.2.2.1
theorem dLaw_1309 : decode code 1309 = .ok (.iadd, 1) := dLaw_1300g.2.2.2.2.2.2.2.2.2
