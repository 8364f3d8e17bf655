theorem dLaw_0g : (decode code 0 = .ok (.new 7, 3)) ∧ (decode code 3 = .ok (.dup, 1)) ∧ (decode code 4 = .ok (.invokespecial 9, 3)) ∧ (decode code 7 = .ok (.astore_n 1, 1)) ∧ (decode code 8 = .ok (.new 10, 3)) ∧ (decode code 11 = .ok (.dup, 1)) ∧ (decode code 12 = .ok (.invokespecial 12, 3)) ∧ (decode code 15 = .ok (.astore_n 2, 1)) ∧ (decode code 16 = .ok (.iconst 0, 1)) ∧ (decode code 17 = .ok (.istore_n 3, 1)) := by decide +kernel
theorem dLaw_0 : decode code 0 = .ok (.new 7, 3) := dLaw_0g.1
theorem dLaw_3 : decode code 3 = .ok (.dup, 1) := dLaw_0g.2.1
theorem dLaw_4 : decode code 4 = .ok (.invokespecial 9, 3) := dLaw_0g.2.2.1
theorem dLaw_7 : decode code 7 = .ok (.astore_n 1, 1) := dLaw_0g.2.2.2.1
theorem dLaw_8 : decode code 8 = .ok (.new 10, 3) := dLaw_0g.2.2.2.2.1
theorem dLaw_11 : decode code 11 = .ok (.dup, 1) := dLaw_0g.2.2.2.2.2.1
theorem dLaw_12 : decode code 12 = .ok (.invokespecial 12, 3) := dLaw_0g.2.2.2.2.2.2.1
theorem dLaw_15 : decode code 15 = .ok (.astore_n 2, 1) := dLaw_0g.2.2.2.2.2.2.2.1
theorem dLaw_16 : decode code 16 = .ok (.iconst 0, 1) := dLaw_0g.2.2.2.2.2.2.2.2.1
theorem dLaw_17 : decode code 17 = .ok (.istore_n 3, 1) := dLaw_0g.2.2.2.2.2.2.2.2.2
theorem dLaw_18g : (decode code 18 = .ok (.iload_n 3, 1)) ∧ (decode code 19 = .ok (.aload_n 0, 1)) ∧ (decode code 20 = .ok (.arraylength, 1)) ∧ (decode code 21 = .ok (.bipush 7, 2)) ∧ (decode code 23 = .ok (.isub, 1)) ∧ (decode code 24 = .ok (.if_icmp .gt 1986, 3)) ∧ (decode code 27 = .ok (.aload_n 0, 1)) ∧ (decode code 28 = .ok (.iload_n 3, 1)) ∧ (decode code 29 = .ok (.iaload, 1)) ∧ (decode code 30 = .ok (.bipush 63, 2)) := by decide +kernel
theorem dLaw_18 : decode code 18 = .ok (.iload_n 3, 1) := dLaw_18g.1
theorem dLaw_19 : decode code 19 = .ok (.aload_n 0, 1) := dLaw_18g.2.1
theorem dLaw_20 : decode code 20 = .ok (.arraylength, 1) := dLaw_18g.2.2.1
theorem dLaw_21 : decode code 21 = .ok (.bipush 7, 2) := dLaw_18g.2.2.2.1
theorem dLaw_23 : decode code 23 = .ok (.isub, 1) := dLaw_18g.2.2.2.2.1
theorem dLaw_24 : decode code 24 = .ok (.if_icmp .gt 1986, 3) := dLaw_18g.2.2.2.2.2.1
theorem dLaw_27 : decode code 27 = .ok (.aload_n 0, 1) := dLaw_18g.2.2.2.2.2.2.1
theorem dLaw_28 : decode code 28 = .ok (.iload_n 3, 1) := dLaw_18g.2.2.2.2.2.2.2.1
theorem dLaw_29 : decode code 29 = .ok (.iaload, 1) := dLaw_18g.2.2.2.2.2.2.2.2.1
theorem dLaw_30 : decode code 30 = .ok (.bipush 63, 2) := dLaw_18g.2.2.2.2.2.2.2.2.2
theorem dLaw_32 : decode code 32 = .ok (.iand, 1) := by decide +kernel
set_option maxHeartbeats 4000000 in set_option maxRecDepth 100000 in theorem dLaw_33 : decode code 33 = .ok (.tableswitch 1971 0 51 #[223, 298, 331, 374, 417, 440, 463, 506, 539, 602, 625, 638, 651, 664, 677, 700, 733, 776, 819, 862, 905, 938, 981, 1024, 1067, 1120, 1133, 1176, 1219, 1262, 1325, 1378, 1391, 1414, 1447, 1470, 1513, 1526, 1549, 1602, 1645, 1698, 1751, 1764, 1777, 1810, 1833, 1866, 1889, 1912, 1935, 1958], 223) := by decide +kernel
theorem dLaw_256g : (decode code 256 = .ok (.aload_n 1, 1)) ∧ (decode code 257 = .ok (.aload_n 0, 1)) ∧ (decode code 258 = .ok (.iload_n 3, 1)) ∧ (decode code 259 = .ok (.iconst 1, 1)) ∧ (decode code 260 = .ok (.iadd, 1)) ∧ (decode code 261 = .ok (.iaload, 1)) ∧ (decode code 262 = .ok (.aload_n 0, 1)) ∧ (decode code 263 = .ok (.iload_n 3, 1)) ∧ (decode code 264 = .ok (.iconst 2, 1)) ∧ (decode code 265 = .ok (.iadd, 1)) := by decide +kernel
theorem dLaw_256 : decode code 256 = .ok (.aload_n 1, 1) := dLaw_256g.1
theorem dLaw_257 : decode code 257 = .ok (.aload_n 0, 1) := dLaw_256g.2.1
theorem dLaw_258 : decode code 258 = .ok (.iload_n 3, 1) := dLaw_256g.2.2.1
theorem dLaw_259 : decode code 259 = .ok (.iconst 1, 1) := dLaw_256g.2.2.2.1
theorem dLaw_260 : decode code 260 = .ok (.iadd, 1) := dLaw_256g.2.2.2.2.1
theorem dLaw_261 : decode code 261 = .ok (.iaload, 1) := dLaw_256g.2.2.2.2.2.1
theorem dLaw_262 : decode code 262 = .ok (.aload_n 0, 1) := dLaw_256g.2.2.2.2.2.2.1
theorem dLaw_263 : decode code 263 = .ok (.iload_n 3, 1) := dLaw_256g.2.2.2.2.2.2.2.1
theorem dLaw_264 : decode code 264 = .ok (.iconst 2, 1) := dLaw_256g.2.2.2.2.2.2.2.2.1
theorem dLaw_265 : decode code 265 = .ok (.iadd, 1) := dLaw_256g.2.2.2.2.2.2.2.2.2
theorem dLaw_266g : (decode code 266 = .ok (.iaload, 1)) ∧ (decode code 267 = .ok (.aload_n 0, 1)) ∧ (decode code 268 = .ok (.iload_n 3, 1)) ∧ (decode code 269 = .ok (.iconst 3, 1)) ∧ (decode code 270 = .ok (.iadd, 1)) ∧ (decode code 271 = .ok (.iaload, 1)) ∧ (decode code 272 = .ok (.aload_n 0, 1)) ∧ (decode code 273 = .ok (.iload_n 3, 1)) ∧ (decode code 274 = .ok (.iconst 4, 1)) ∧ (decode code 275 = .ok (.iadd, 1)) := by decide +kernel
theorem dLaw_266 : decode code 266 = .ok (.iaload, 1) := dLaw_266g.1
theorem dLaw_267 : decode code 267 = .ok (.aload_n 0, 1) := dLaw_266g.2.1
theorem dLaw_268 : decode code 268 = .ok (.iload_n 3, 1) := dLaw_266g.2.2.1
theorem dLaw_269 : decode code 269 = .ok (.iconst 3, 1) := dLaw_266g.2.2.2.1
theorem dLaw_270 : decode code 270 = .ok (.iadd, 1) := dLaw_266g.2.2.2.2.1
theorem dLaw_271 : decode code 271 = .ok (.iaload, 1) := dLaw_266g.2.2.2.2.2.1
theorem dLaw_272 : decode code 272 = .ok (.aload_n 0, 1) := dLaw_266g.2.2.2.2.2.2.1
theorem dLaw_273 : decode code 273 = .ok (.iload_n 3, 1) := dLaw_266g.2.2.2.2.2.2.2.1
theorem dLaw_274 : decode code 274 = .ok (.iconst 4, 1) := dLaw_266g.2.2.2.2.2.2.2.2.1
theorem dLaw_275 : decode code 275 = .ok (.iadd, 1) := dLaw_266g.2.2.2.2.2.2.2.2.2
theorem dLaw_276g : (decode code 276 = .ok (.iaload, 1)) ∧ (decode code 277 = .ok (.aload_n 0, 1)) ∧ (decode code 278 = .ok (.iload_n 3, 1)) ∧ (decode code 279 = .ok (.iconst 5, 1)) ∧ (decode code 280 = .ok (.iadd, 1)) ∧ (decode code 281 = .ok (.iaload, 1)) ∧ (decode code 282 = .ok (.aload_n 0, 1)) ∧ (decode code 283 = .ok (.iload_n 3, 1)) ∧ (decode code 284 = .ok (.bipush 6, 2)) ∧ (decode code 286 = .ok (.iadd, 1)) := by decide +kernel
theorem dLaw_276 : decode code 276 = .ok (.iaload, 1) := dLaw_276g.1
theorem dLaw_277 : decode code 277 = .ok (.aload_n 0, 1) := dLaw_276g.2.1
theorem dLaw_278 : decode code 278 = .ok (.iload_n 3, 1) := dLaw_276g.2.2.1
theorem dLaw_279 : decode code 279 = .ok (.iconst 5, 1) := dLaw_276g.2.2.2.1
theorem dLaw_280 : decode code 280 = .ok (.iadd, 1) := dLaw_276g.2.2.2.2.1
theorem dLaw_281 : decode code 281 = .ok (.iaload, 1) := dLaw_276g.2.2.2.2.2.1
theorem dLaw_282 : decode code 282 = .ok (.aload_n 0, 1) := dLaw_276g.2.2.2.2.2.2.1
theorem dLaw_283 : decode code 283 = .ok (.iload_n 3, 1) := dLaw_276g.2.2.2.2.2.2.2.1
theorem dLaw_284 : decode code 284 = .ok (.bipush 6, 2) := dLaw_276g.2.2.2.2.2.2.2.2.1
theorem dLaw_286 : decode code 286 = .ok (.iadd, 1) := dLaw_276g.2.2.2.2.2.2.2.2.2
theorem dLaw_287g : (decode code 287 = .ok (.iaload, 1)) ∧ (decode code 288 = .ok (.invokevirtual 13, 3)) ∧ (decode code 291 = .ok (.pop, 1)) ∧ (decode code 292 = .ok (.aload_n 2, 1)) ∧ (decode code 293 = .ok (.aload_n 0, 1)) ∧ (decode code 294 = .ok (.iload_n 3, 1)) ∧ (decode code 295 = .ok (.iconst 1, 1)) ∧ (decode code 296 = .ok (.iadd, 1)) ∧ (decode code 297 = .ok (.iaload, 1)) ∧ (decode code 298 = .ok (.aload_n 0, 1)) := by decide +kernel
theorem dLaw_287 : decode code 287 = .ok (.iaload, 1) := dLaw_287g.1
theorem dLaw_288 : decode code 288 = .ok (.invokevirtual 13, 3) := dLaw_287g.2.1
theorem dLaw_291 : decode code 291 = .ok (.pop, 1) := dLaw_287g.2.2.1
theorem dLaw_292 : decode code 292 = .ok (.aload_n 2, 1) := dLaw_287g.2.2.2.1
theorem dLaw_293 : decode code 293 = .ok (.aload_n 0, 1) := dLaw_287g.2.2.2.2.1
theorem dLaw_294 : decode code 294 = .ok (.iload_n 3, 1) := dLaw_287g.2.2.2.2.2.1
theorem dLaw_295 : decode code 295 = .ok (.iconst 1, 1) := dLaw_287g.2.2.2.2.2.2.1
theorem dLaw_296 : decode code 296 = .ok (.iadd, 1) := dLaw_287g.2.2.2.2.2.2.2.1
theorem dLaw_297 : decode code 297 = .ok (.iaload, 1) := dLaw_287g.2.2.2.2.2.2.2.2.1
theorem dLaw_298 : decode code 298 = .ok (.aload_n 0, 1) := dLaw_287g.2.2.2.2.2.2.2.2.2
theorem dLaw_299g : (decode code 299 = .ok (.iload_n 3, 1)) ∧ (decode code 300 = .ok (.iconst 2, 1)) ∧ (decode code 301 = .ok (.iadd, 1)) ∧ (decode code 302 = .ok (.iaload, 1)) ∧ (decode code 303 = .ok (.aload_n 0, 1)) ∧ (decode code 304 = .ok (.iload_n 3, 1)) ∧ (decode code 305 = .ok (.iconst 3, 1)) ∧ (decode code 306 = .ok (.iadd, 1)) ∧ (decode code 307 = .ok (.iaload, 1)) ∧ (decode code 308 = .ok (.aload_n 0, 1)) := by decide +kernel
theorem dLaw_299 : decode code 299 = .ok (.iload_n 3, 1) := dLaw_299g.1
theorem dLaw_300 : decode code 300 = .ok (.iconst 2, 1) := dLaw_299g.2.1
theorem dLaw_301 : decode code 301 = .ok (.iadd, 1) := dLaw_299g.2.2.1
theorem dLaw_302 : decode code 302 = .ok (.iaload, 1) := dLaw_299g.2.2.2.1
theorem dLaw_303 : decode code 303 = .ok (.aload_n 0, 1) := dLaw_299g.2.2.2.2.1
theorem dLaw_304 : decode code 304 = .ok (.iload_n 3, 1) := dLaw_299g.2.2.2.2.2.1
theorem dLaw_305 : decode code 305 = .ok (.iconst 3, 1) := dLaw_299g.2.2.2.2.2.2.1
theorem dLaw_306 : decode code 306 = .ok (.iadd, 1) := dLaw_299g.2.2.2.2.2.2.2.1
theorem dLaw_307 : decode code 307 = .ok (.iaload, 1) := dLaw_299g.2.2.2.2.2.2.2.2.1
theorem dLaw_308 : decode code 308 = .ok (.aload_n 0, 1) := dLaw_299g.2.2.2.2.2.2.2.2.2
theorem dLaw_309g : (decode code 309 = .ok (.iload_n 3, 1)) ∧ (decode code 310 = .ok (.iconst 4, 1)) ∧ (decode code 311 = .ok (.iadd, 1)) ∧ (decode code 312 = .ok (.iaload, 1)) ∧ (decode code 313 = .ok (.aload_n 0, 1)) ∧ (decode code 314 = .ok (.iload_n 3, 1)) ∧ (decode code 315 = .ok (.iconst 5, 1)) ∧ (decode code 316 = .ok (.iadd, 1)) ∧ (decode code 317 = .ok (.iaload, 1)) ∧ (decode code 318 = .ok (.aload_n 0, 1)) := by decide +kernel
theorem dLaw_309 : decode code 309 = .ok (.iload_n 3, 1) := dLaw_309g.1
theorem dLaw_310 : decode code 310 = .ok (.iconst 4, 1) := dLaw_309g.2.1
theorem dLaw_311 : decode code 311 = .ok (.iadd, 1) := dLaw_309g.2.2.1
theorem dLaw_312 : decode code 312 = .ok (.iaload, 1) := dLaw_309g.2.2.2.1
theorem dLaw_313 : decode code 313 = .ok (.aload_n 0, 1) := dLaw_309g.2.2.2.2.1
theorem dLaw_314 : decode code 314 = .ok (.iload_n 3, 1) := dLaw_309g.2.2.2.2.2.1
theorem dLaw_315 : decode code 315 = .ok (.iconst 5, 1) := dLaw_309g.2.2.2.2.2.2.1
theorem dLaw_316 : decode code 316 = .ok (.iadd, 1) := dLaw_309g.2.2.2.2.2.2.2.1
theorem dLaw_317 : decode code 317 = .ok (.iaload, 1) := dLaw_309g.2.2.2.2.2.2.2.2.1
theorem dLaw_318 : decode code 318 = .ok (.aload_n 0, 1) := dLaw_309g.2.2.2.2.2.2.2.2.2
theorem dLaw_319g : (decode code 319 = .ok (.iload_n 3, 1)) ∧ (decode code 320 = .ok (.bipush 6, 2)) ∧ (decode code 322 = .ok (.iadd, 1)) ∧ (decode code 323 = .ok (.iaload, 1)) ∧ (decode code 324 = .ok (.invokevirtual 17, 3)) ∧ (decode code 327 = .ok (.pop, 1)) ∧ (decode code 328 = .ok (.goto 1676, 3)) ∧ (decode code 331 = .ok (.aload_n 1, 1)) ∧ (decode code 332 = .ok (.aload_n 0, 1)) ∧ (decode code 333 = .ok (.iload_n 3, 1)) := by decide +kernel
theorem dLaw_319 : decode code 319 = .ok (.iload_n 3, 1) := dLaw_319g.1
theorem dLaw_320 : decode code 320 = .ok (.bipush 6, 2) := dLaw_319g.2.1
theorem dLaw_322 : decode code 322 = .ok (.iadd, 1) := dLaw_319g.2.2.1
theorem dLaw_323 : decode code 323 = .ok (.iaload, 1) := dLaw_319g.2.2.2.1
theorem dLaw_324 : decode code 324 = .ok (.invokevirtual 17, 3) := dLaw_319g.2.2.2.2.1
theorem dLaw_327 : decode code 327 = .ok (.pop, 1) := dLaw_319g.2.2.2.2.2.1
theorem dLaw_328 : decode code 328 = .ok (.goto 1676, 3) := dLaw_319g.2.2.2.2.2.2.1
theorem dLaw_331 : decode code 331 = .ok (.aload_n 1, 1) := dLaw_319g.2.2.2.2.2.2.2.1
theorem dLaw_332 : decode code 332 = .ok (.aload_n 0, 1) := dLaw_319g.2.2.2.2.2.2.2.2.1
theorem dLaw_333 : decode code 333 = .ok (.iload_n 3, 1) := dLaw_319g.2.2.2.2.2.2.2.2.2
theorem dLaw_334g : (decode code 334 = .ok (.iconst 1, 1)) ∧ (decode code 335 = .ok (.iadd, 1)) ∧ (decode code 336 = .ok (.iaload, 1)) ∧ (decode code 337 = .ok (.aload_n 0, 1)) ∧ (decode code 338 = .ok (.iload_n 3, 1)) ∧ (decode code 339 = .ok (.iconst 2, 1)) ∧ (decode code 340 = .ok (.iadd, 1)) ∧ (decode code 341 = .ok (.iaload, 1)) := by decide +kernel
theorem dLaw_334 : decode code 334 = .ok (.iconst 1, 1) := dLaw_334g.1
theorem dLaw_335 : decode code 335 = .ok (.iadd, 1) := dLaw_334g.2.1
theorem dLaw_336 : decode code 336 = .ok (.iaload, 1) := dLaw_334g.2.2.1
theorem dLaw_337 : decode code 337 = .ok (.aload_n 0, 1) := dLaw_334g.2.2.2.1
theorem dLaw_338 : decode code 338 = .ok (.iload_n 3, 1) := dLaw_334g.2.2.2.2.1
theorem dLaw_339 : decode code 339 = .ok (.iconst 2, 1) := dLaw_334g.2.2.2.2.2.1
theorem dLaw_340 : decode code 340 = .ok (.iadd, 1) := dLaw_334g.2.2.2.2.2.2.1
theorem dLaw_341 : decode code 341 = .ok (.iaload, 1) := dLaw_334g.2.2.2.2.2.2.2
