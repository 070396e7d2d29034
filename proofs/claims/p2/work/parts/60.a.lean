theorem t350_0 : zT 350 0 = some (.new 7, 3, 11, 0, 0, 128) := by decide +kernel
theorem t350_3 : zT 350 3 = some (.dup, 1, 0, 0, 0, 0) := by decide +kernel
theorem t350_4 : zT 350 4 = some (.invokespecial 9, 3, 0, 3, 0, 130) := by decide +kernel
theorem t350_7 : zT 350 7 = some (.astore_n 1, 1, 1, 0, 0, 0) := by decide +kernel
theorem t350_8 : zT 350 8 = some (.new 10, 3, 12, 0, 0, 1601) := by decide +kernel
theorem t350_11 : zT 350 11 = some (.dup, 1, 0, 0, 0, 0) := by decide +kernel
theorem t350_12 : zT 350 12 = some (.invokespecial 12, 3, 224, 3, 0, 1603) := by decide +kernel
theorem t350_15 : zT 350 15 = some (.astore_n 2, 1, 2, 0, 0, 0) := by decide +kernel
theorem t350_16 : zT 350 16 = some (.iconst 0, 1, 0, 0, 0, 0) := by decide +kernel
theorem t350_17 : zT 350 17 = some (.istore_n 3, 1, 3, 0, 0, 0) := by decide +kernel
theorem t350_18 : zT 350 18 = some (.iload_n 3, 1, 3, 0, 0, 0) := by decide +kernel
theorem t350_19 : zT 350 19 = some (.aload_n 0, 1, 0, 0, 0, 0) := by decide +kernel
theorem t350_20 : zT 350 20 = some (.arraylength, 1, 0, 0, 0, 0) := by decide +kernel
theorem t350_21 : zT 350 21 = some (.bipush 6, 2, 0, 0, 6, 0) := by decide +kernel
theorem t350_23 : zT 350 23 = some (.isub, 1, 0, 0, 0, 0) := by decide +kernel
theorem t350_24 : zT 350 24 = some (.if_icmp .gt 1384, 3, 1408, 0, 0, 0) := by decide +kernel
theorem t350_27 : zT 350 27 = some (.aload_n 0, 1, 0, 0, 0, 0) := by decide +kernel
theorem t350_28 : zT 350 28 = some (.iload_n 3, 1, 3, 0, 0, 0) := by decide +kernel
theorem t350_29 : zT 350 29 = some (.iaload, 1, 0, 0, 0, 0) := by decide +kernel
theorem t350_30 : zT 350 30 = some (.bipush 63, 2, 0, 0, 63, 0) := by decide +kernel
theorem t350_32 : zT 350 32 = some (.iand, 1, 0, 0, 0, 0) := by decide +kernel
theorem t350_33 : zT 350 33 = some (.tableswitch 1369 0 41 #[183, 246, 269, 282, 295, 308, 321, 334, 357, 390, 423, 456, 499, 542, 565, 598, 631, 664, 697, 710, 733, 746, 809, 852, 875, 898, 941, 964, 987, 1010, 1053, 1086, 1109, 1142, 1175, 1208, 1241, 1274, 1287, 1310, 1333, 1346], 183, 0, 0, 0, 0) := by decide +kernel
theorem t350_216 : zT 350 216 = some (.aload_n 1, 1, 1, 0, 0, 0) := by decide +kernel
theorem t350_217 : zT 350 217 = some (.aload_n 0, 1, 0, 0, 0, 0) := by decide +kernel
theorem t350_218 : zT 350 218 = some (.iload_n 3, 1, 3, 0, 0, 0) := by decide +kernel
theorem t350_219 : zT 350 219 = some (.iconst 1, 1, 0, 0, 1, 0) := by decide +kernel
theorem t350_220 : zT 350 220 = some (.iadd, 1, 0, 0, 0, 0) := by decide +kernel
theorem t350_221 : zT 350 221 = some (.iaload, 1, 0, 0, 0, 0) := by decide +kernel
theorem t350_222 : zT 350 222 = some (.aload_n 0, 1, 0, 0, 0, 0) := by decide +kernel
theorem t350_223 : zT 350 223 = some (.iload_n 3, 1, 3, 0, 0, 0) := by decide +kernel
theorem t350_224 : zT 350 224 = some (.iconst 2, 1, 0, 0, 2, 0) := by decide +kernel
theorem t350_225 : zT 350 225 = some (.iadd, 1, 0, 0, 0, 0) := by decide +kernel
theorem t350_226 : zT 350 226 = some (.iaload, 1, 0, 0, 0, 0) := by decide +kernel
theorem t350_227 : zT 350 227 = some (.aload_n 0, 1, 0, 0, 0, 0) := by decide +kernel
theorem t350_228 : zT 350 228 = some (.iload_n 3, 1, 3, 0, 0, 0) := by decide +kernel
theorem t350_229 : zT 350 229 = some (.iconst 3, 1, 0, 0, 3, 0) := by decide +kernel
theorem t350_230 : zT 350 230 = some (.iadd, 1, 0, 0, 0, 0) := by decide +kernel
theorem t350_231 : zT 350 231 = some (.iaload, 1, 0, 0, 0, 0) := by decide +kernel
theorem t350_232 : zT 350 232 = some (.aload_n 0, 1, 0, 0, 0, 0) := by decide +kernel
theorem t350_233 : zT 350 233 = some (.iload_n 3, 1, 3, 0, 0, 0) := by decide +kernel
theorem t350_234 : zT 350 234 = some (.iconst 4, 1, 0, 0, 4, 0) := by decide +kernel
theorem t350_235 : zT 350 235 = some (.iadd, 1, 0, 0, 0, 0) := by decide +kernel
theorem t350_236 : zT 350 236 = some (.iaload, 1, 0, 0, 0, 0) := by decide +kernel
theorem t350_237 : zT 350 237 = some (.aload_n 0, 1, 0, 0, 0, 0) := by decide +kernel
theorem t350_238 : zT 350 238 = some (.iload_n 3, 1, 3, 0, 0, 0) := by decide +kernel
theorem t350_239 : zT 350 239 = some (.iconst 5, 1, 0, 0, 5, 0) := by decide +kernel
theorem t350_240 : zT 350 240 = some (.iadd, 1, 0, 0, 0, 0) := by decide +kernel
theorem t350_241 : zT 350 241 = some (.iaload, 1, 0, 0, 0, 0) := by decide +kernel
theorem t350_242 : zT 350 242 = some (.invokevirtual 13, 3, 14, 0, 0, 638) := by decide +kernel
theorem t350_245 : zT 350 245 = some (.aload_n 2, 1, 2, 0, 0, 0) := by decide +kernel
theorem t350_246 : zT 350 246 = some (.aload_n 0, 1, 0, 0, 0, 0) := by decide +kernel
theorem t350_247 : zT 350 247 = some (.iload_n 3, 1, 3, 0, 0, 0) := by decide +kernel
theorem t350_248 : zT 350 248 = some (.iconst 1, 1, 0, 0, 1, 0) := by decide +kernel
theorem t350_249 : zT 350 249 = some (.iadd, 1, 0, 0, 0, 0) := by decide +kernel
theorem t350_250 : zT 350 250 = some (.iaload, 1, 0, 0, 0, 0) := by decide +kernel
theorem t350_251 : zT 350 251 = some (.aload_n 0, 1, 0, 0, 0, 0) := by decide +kernel
theorem t350_252 : zT 350 252 = some (.iload_n 3, 1, 3, 0, 0, 0) := by decide +kernel
theorem t350_253 : zT 350 253 = some (.iconst 2, 1, 0, 0, 2, 0) := by decide +kernel
theorem t350_254 : zT 350 254 = some (.iadd, 1, 0, 0, 0, 0) := by decide +kernel
theorem t350_255 : zT 350 255 = some (.iaload, 1, 0, 0, 0, 0) := by decide +kernel
theorem t350_256 : zT 350 256 = some (.aload_n 0, 1, 0, 0, 0, 0) := by decide +kernel
theorem t350_257 : zT 350 257 = some (.iload_n 3, 1, 3, 0, 0, 0) := by decide +kernel
theorem t350_258 : zT 350 258 = some (.iconst 3, 1, 0, 0, 3, 0) := by decide +kernel
theorem t350_259 : zT 350 259 = some (.iadd, 1, 0, 0, 0, 0) := by decide +kernel
theorem t350_260 : zT 350 260 = some (.iaload, 1, 0, 0, 0, 0) := by decide +kernel
theorem t350_261 : zT 350 261 = some (.aload_n 0, 1, 0, 0, 0, 0) := by decide +kernel
theorem t350_262 : zT 350 262 = some (.iload_n 3, 1, 3, 0, 0, 0) := by decide +kernel
theorem t350_263 : zT 350 263 = some (.iconst 4, 1, 0, 0, 4, 0) := by decide +kernel
theorem t350_264 : zT 350 264 = some (.iadd, 1, 0, 0, 0, 0) := by decide +kernel
theorem t350_265 : zT 350 265 = some (.iaload, 1, 0, 0, 0, 0) := by decide +kernel
theorem t350_266 : zT 350 266 = some (.aload_n 0, 1, 0, 0, 0, 0) := by decide +kernel
theorem t350_267 : zT 350 267 = some (.iload_n 3, 1, 3, 0, 0, 0) := by decide +kernel
theorem t350_268 : zT 350 268 = some (.iconst 5, 1, 0, 0, 5, 0) := by decide +kernel
theorem t350_269 : zT 350 269 = some (.iadd, 1, 0, 0, 0, 0) := by decide +kernel
theorem t350_270 : zT 350 270 = some (.iaload, 1, 0, 0, 0, 0) := by decide +kernel
theorem t350_271 : zT 350 271 = some (.invokevirtual 17, 3, 231, 0, 0, 1785) := by decide +kernel
theorem t350_274 : zT 350 274 = some (.if_icmp .eq 1128, 3, 1402, 0, 0, 0) := by decide +kernel
theorem t350_279 : zT 350 279 = some (.aload_n 1, 1, 1, 0, 0, 0) := by decide +kernel
theorem t350_280 : zT 350 280 = some (.aload_n 0, 1, 0, 0, 0, 0) := by decide +kernel
theorem t350_281 : zT 350 281 = some (.iload_n 3, 1, 3, 0, 0, 0) := by decide +kernel
theorem t350_282 : zT 350 282 = some (.iconst 1, 1, 0, 0, 1, 0) := by decide +kernel
theorem t350_283 : zT 350 283 = some (.iadd, 1, 0, 0, 0, 0) := by decide +kernel
theorem t350_284 : zT 350 284 = some (.iaload, 1, 0, 0, 0, 0) := by decide +kernel
theorem t350_285 : zT 350 285 = some (.invokevirtual 18, 3, 18, 0, 0, 654) := by decide +kernel
theorem t350_288 : zT 350 288 = some (.pop, 1, 0, 0, 0, 0) := by decide +kernel
theorem t350_289 : zT 350 289 = some (.aload_n 2, 1, 2, 0, 0, 0) := by decide +kernel
theorem t350_290 : zT 350 290 = some (.aload_n 0, 1, 0, 0, 0, 0) := by decide +kernel
theorem t350_291 : zT 350 291 = some (.iload_n 3, 1, 3, 0, 0, 0) := by decide +kernel
theorem t350_292 : zT 350 292 = some (.iconst 1, 1, 0, 0, 1, 0) := by decide +kernel
theorem t350_293 : zT 350 293 = some (.iadd, 1, 0, 0, 0, 0) := by decide +kernel
theorem t350_294 : zT 350 294 = some (.iaload, 1, 0, 0, 0, 0) := by decide +kernel
theorem t350_295 : zT 350 295 = some (.invokevirtual 22, 3, 233, 0, 0, 1793) := by decide +kernel
theorem t350_298 : zT 350 298 = some (.pop, 1, 0, 0, 0, 0) := by decide +kernel
theorem t350_299 : zT 350 299 = some (.goto 1103, 3, 1402, 0, 0, 0) := by decide +kernel
theorem t350_302 : zT 350 302 = some (.aload_n 1, 1, 1, 0, 0, 0) := by decide +kernel
theorem t350_303 : zT 350 303 = some (.invokevirtual 23, 3, 22, 0, 0, 668) := by decide +kernel
theorem t350_306 : zT 350 306 = some (.pop, 1, 0, 0, 0, 0) := by decide +kernel
theorem t350_307 : zT 350 307 = some (.aload_n 2, 1, 2, 0, 0, 0) := by decide +kernel
theorem t350_308 : zT 350 308 = some (.invokevirtual 27, 3, 235, 0, 0, 1801) := by decide +kernel
theorem t350_311 : zT 350 311 = some (.pop, 1, 0, 0, 0, 0) := by decide +kernel
theorem t350_312 : zT 350 312 = some (.goto 1090, 3, 1402, 0, 0, 0) := by decide +kernel
theorem t350_315 : zT 350 315 = some (.aload_n 1, 1, 1, 0, 0, 0) := by decide +kernel
theorem t350_316 : zT 350 316 = some (.invokevirtual 28, 3, 62, 0, 0, 835) := by decide +kernel
theorem t350_319 : zT 350 319 = some (.pop, 1, 0, 0, 0, 0) := by decide +kernel
theorem t350_320 : zT 350 320 = some (.aload_n 2, 1, 2, 0, 0, 0) := by decide +kernel
theorem t350_321 : zT 350 321 = some (.invokevirtual 31, 3, 254, 0, 0, 1879) := by decide +kernel
theorem t350_324 : zT 350 324 = some (.pop, 1, 0, 0, 0, 0) := by decide +kernel
theorem t350_325 : zT 350 325 = some (.goto 1077, 3, 1402, 0, 0, 0) := by decide +kernel
theorem t350_328 : zT 350 328 = some (.aload_n 1, 1, 1, 0, 0, 0) := by decide +kernel
theorem t350_329 : zT 350 329 = some (.invokevirtual 32, 3, 82, 0, 0, 969) := by decide +kernel
theorem t350_332 : zT 350 332 = some (.pop, 1, 0, 0, 0, 0) := by decide +kernel
theorem t350_333 : zT 350 333 = some (.aload_n 2, 1, 2, 0, 0, 0) := by decide +kernel
theorem t350_334 : zT 350 334 = some (.invokevirtual 35, 3, 342, 0, 0, 2237) := by decide +kernel
theorem t350_337 : zT 350 337 = some (.pop, 1, 0, 0, 0, 0) := by decide +kernel
theorem t350_338 : zT 350 338 = some (.goto 1064, 3, 1402, 0, 0, 0) := by decide +kernel
theorem t350_341 : zT 350 341 = some (.aload_n 1, 1, 1, 0, 0, 0) := by decide +kernel
theorem t350_342 : zT 350 342 = some (.invokevirtual 36, 3, 97, 0, 0, 1034) := by decide +kernel
theorem t350_345 : zT 350 345 = some (.pop, 1, 0, 0, 0, 0) := by decide +kernel
theorem t350_346 : zT 350 346 = some (.aload_n 2, 1, 2, 0, 0, 0) := by decide +kernel
theorem t350_347 : zT 350 347 = some (.invokevirtual 39, 3, 234, 0, 0, 1797) := by decide +kernel
theorem t350_350 : zT 350 350 = some (.pop, 1, 0, 0, 0, 0) := by decide +kernel
theorem t350_351 : zT 350 351 = some (.goto 1051, 3, 1402, 0, 0, 0) := by decide +kernel
theorem t350_354 : zT 350 354 = some (.aload_n 1, 1, 1, 0, 0, 0) := by decide +kernel
theorem t350_355 : zT 350 355 = some (.invokevirtual 40, 3, 98, 0, 0, 1038) := by decide +kernel
theorem t350_358 : zT 350 358 = some (.pop, 1, 0, 0, 0, 0) := by decide +kernel
theorem t350_359 : zT 350 359 = some (.aload_n 2, 1, 2, 0, 0, 0) := by decide +kernel
theorem t350_360 : zT 350 360 = some (.invokevirtual 43, 3, 345, 0, 0, 2253) := by decide +kernel
theorem t350_363 : zT 350 363 = some (.pop, 1, 0, 0, 0, 0) := by decide +kernel
theorem t350_364 : zT 350 364 = some (.goto 1038, 3, 1402, 0, 0, 0) := by decide +kernel
theorem t350_367 : zT 350 367 = some (.aload_n 1, 1, 1, 0, 0, 0) := by decide +kernel
theorem t350_368 : zT 350 368 = some (.aload_n 0, 1, 0, 0, 0, 0) := by decide +kernel
theorem t350_369 : zT 350 369 = some (.iload_n 3, 1, 3, 0, 0, 0) := by decide +kernel
theorem t350_370 : zT 350 370 = some (.iconst 1, 1, 0, 0, 1, 0) := by decide +kernel
theorem t350_371 : zT 350 371 = some (.iadd, 1, 0, 0, 0, 0) := by decide +kernel
theorem t350_372 : zT 350 372 = some (.iaload, 1, 0, 0, 0, 0) := by decide +kernel
theorem t350_373 : zT 350 373 = some (.invokevirtual 44, 3, 99, 0, 0, 1042) := by decide +kernel
theorem t350_376 : zT 350 376 = some (.pop, 1, 0, 0, 0, 0) := by decide +kernel
theorem t350_377 : zT 350 377 = some (.aload_n 2, 1, 2, 0, 0, 0) := by decide +kernel
theorem t350_378 : zT 350 378 = some (.aload_n 0, 1, 0, 0, 0, 0) := by decide +kernel
theorem t350_379 : zT 350 379 = some (.iload_n 3, 1, 3, 0, 0, 0) := by decide +kernel
theorem t350_380 : zT 350 380 = some (.iconst 1, 1, 0, 0, 1, 0) := by decide +kernel
theorem t350_381 : zT 350 381 = some (.iadd, 1, 0, 0, 0, 0) := by decide +kernel
theorem t350_382 : zT 350 382 = some (.iaload, 1, 0, 0, 0, 0) := by decide +kernel
theorem t350_383 : zT 350 383 = some (.invokevirtual 47, 3, 304, 0, 0, 2075) := by decide +kernel
theorem t350_386 : zT 350 386 = some (.pop, 1, 0, 0, 0, 0) := by decide +kernel
theorem t350_387 : zT 350 387 = some (.goto 1015, 3, 1402, 0, 0, 0) := by decide +kernel
theorem t350_390 : zT 350 390 = some (.aload_n 1, 1, 1, 0, 0, 0) := by decide +kernel
theorem t350_391 : zT 350 391 = some (.aload_n 0, 1, 0, 0, 0, 0) := by decide +kernel
theorem t350_392 : zT 350 392 = some (.iload_n 3, 1, 3, 0, 0, 0) := by decide +kernel
theorem t350_393 : zT 350 393 = some (.iconst 1, 1, 0, 0, 1, 0) := by decide +kernel
theorem t350_394 : zT 350 394 = some (.iadd, 1, 0, 0, 0, 0) := by decide +kernel
theorem t350_395 : zT 350 395 = some (.iaload, 1, 0, 0, 0, 0) := by decide +kernel
theorem t350_396 : zT 350 396 = some (.aload_n 0, 1, 0, 0, 0, 0) := by decide +kernel
theorem t350_397 : zT 350 397 = some (.iload_n 3, 1, 3, 0, 0, 0) := by decide +kernel
theorem t350_398 : zT 350 398 = some (.iconst 2, 1, 0, 0, 2, 0) := by decide +kernel
theorem t350_399 : zT 350 399 = some (.iadd, 1, 0, 0, 0, 0) := by decide +kernel
theorem t350_400 : zT 350 400 = some (.iaload, 1, 0, 0, 0, 0) := by decide +kernel
theorem t350_401 : zT 350 401 = some (.invokevirtual 48, 3, 102, 0, 0, 1054) := by decide +kernel
theorem t350_404 : zT 350 404 = some (.pop, 1, 0, 0, 0, 0) := by decide +kernel
theorem t350_405 : zT 350 405 = some (.aload_n 2, 1, 2, 0, 0, 0) := by decide +kernel
theorem t350_406 : zT 350 406 = some (.aload_n 0, 1, 0, 0, 0, 0) := by decide +kernel
theorem t350_407 : zT 350 407 = some (.iload_n 3, 1, 3, 0, 0, 0) := by decide +kernel
theorem t350_408 : zT 350 408 = some (.iconst 1, 1, 0, 0, 1, 0) := by decide +kernel
theorem t350_409 : zT 350 409 = some (.iadd, 1, 0, 0, 0, 0) := by decide +kernel
theorem t350_410 : zT 350 410 = some (.iaload, 1, 0, 0, 0, 0) := by decide +kernel
theorem t350_411 : zT 350 411 = some (.aload_n 0, 1, 0, 0, 0, 0) := by decide +kernel
theorem t350_412 : zT 350 412 = some (.iload_n 3, 1, 3, 0, 0, 0) := by decide +kernel
theorem t350_413 : zT 350 413 = some (.iconst 2, 1, 0, 0, 2, 0) := by decide +kernel
theorem t350_414 : zT 350 414 = some (.iadd, 1, 0, 0, 0, 0) := by decide +kernel
theorem t350_415 : zT 350 415 = some (.iaload, 1, 0, 0, 0, 0) := by decide +kernel
theorem t350_416 : zT 350 416 = some (.invokevirtual 52, 3, 305, 0, 0, 2080) := by decide +kernel
theorem t350_419 : zT 350 419 = some (.pop, 1, 0, 0, 0, 0) := by decide +kernel
theorem t350_420 : zT 350 420 = some (.goto 982, 3, 1402, 0, 0, 0) := by decide +kernel
theorem t350_423 : zT 350 423 = some (.aload_n 1, 1, 1, 0, 0, 0) := by decide +kernel
theorem t350_424 : zT 350 424 = some (.aload_n 0, 1, 0, 0, 0, 0) := by decide +kernel
theorem t350_425 : zT 350 425 = some (.iload_n 3, 1, 3, 0, 0, 0) := by decide +kernel
theorem t350_426 : zT 350 426 = some (.iconst 1, 1, 0, 0, 1, 0) := by decide +kernel
theorem t350_427 : zT 350 427 = some (.iadd, 1, 0, 0, 0, 0) := by decide +kernel
theorem t350_428 : zT 350 428 = some (.iaload, 1, 0, 0, 0, 0) := by decide +kernel
theorem t350_429 : zT 350 429 = some (.aload_n 0, 1, 0, 0, 0, 0) := by decide +kernel
theorem t350_430 : zT 350 430 = some (.iload_n 3, 1, 3, 0, 0, 0) := by decide +kernel
theorem t350_431 : zT 350 431 = some (.iconst 2, 1, 0, 0, 2, 0) := by decide +kernel
theorem t350_432 : zT 350 432 = some (.iadd, 1, 0, 0, 0, 0) := by decide +kernel
theorem t350_433 : zT 350 433 = some (.iaload, 1, 0, 0, 0, 0) := by decide +kernel
theorem t350_434 : zT 350 434 = some (.invokevirtual 53, 3, 104, 0, 0, 1062) := by decide +kernel
theorem t350_437 : zT 350 437 = some (.pop, 1, 0, 0, 0, 0) := by decide +kernel
theorem t350_438 : zT 350 438 = some (.aload_n 2, 1, 2, 0, 0, 0) := by decide +kernel
theorem t350_439 : zT 350 439 = some (.aload_n 0, 1, 0, 0, 0, 0) := by decide +kernel
theorem t350_440 : zT 350 440 = some (.iload_n 3, 1, 3, 0, 0, 0) := by decide +kernel
theorem t350_441 : zT 350 441 = some (.iconst 1, 1, 0, 0, 1, 0) := by decide +kernel
theorem t350_442 : zT 350 442 = some (.iadd, 1, 0, 0, 0, 0) := by decide +kernel
theorem t350_443 : zT 350 443 = some (.iaload, 1, 0, 0, 0, 0) := by decide +kernel
theorem t350_444 : zT 350 444 = some (.aload_n 0, 1, 0, 0, 0, 0) := by decide +kernel
theorem t350_445 : zT 350 445 = some (.iload_n 3, 1, 3, 0, 0, 0) := by decide +kernel
theorem t350_446 : zT 350 446 = some (.iconst 2, 1, 0, 0, 2, 0) := by decide +kernel
theorem t350_447 : zT 350 447 = some (.iadd, 1, 0, 0, 0, 0) := by decide +kernel
theorem t350_448 : zT 350 448 = some (.iaload, 1, 0, 0, 0, 0) := by decide +kernel
theorem t350_449 : zT 350 449 = some (.invokevirtual 56, 3, 307, 0, 0, 2088) := by decide +kernel
theorem t350_452 : zT 350 452 = some (.pop, 1, 0, 0, 0, 0) := by decide +kernel
theorem t350_453 : zT 350 453 = some (.goto 949, 3, 1402, 0, 0, 0) := by decide +kernel
theorem t350_456 : zT 350 456 = some (.aload_n 1, 1, 1, 0, 0, 0) := by decide +kernel
theorem t350_457 : zT 350 457 = some (.aload_n 0, 1, 0, 0, 0, 0) := by decide +kernel
theorem t350_458 : zT 350 458 = some (.iload_n 3, 1, 3, 0, 0, 0) := by decide +kernel
theorem t350_459 : zT 350 459 = some (.iconst 1, 1, 0, 0, 1, 0) := by decide +kernel
theorem t350_460 : zT 350 460 = some (.iadd, 1, 0, 0, 0, 0) := by decide +kernel
theorem t350_461 : zT 350 461 = some (.iaload, 1, 0, 0, 0, 0) := by decide +kernel
theorem t350_462 : zT 350 462 = some (.aload_n 0, 1, 0, 0, 0, 0) := by decide +kernel
theorem t350_463 : zT 350 463 = some (.iload_n 3, 1, 3, 0, 0, 0) := by decide +kernel
theorem t350_464 : zT 350 464 = some (.iconst 2, 1, 0, 0, 2, 0) := by decide +kernel
theorem t350_465 : zT 350 465 = some (.iadd, 1, 0, 0, 0, 0) := by decide +kernel
theorem t350_466 : zT 350 466 = some (.iaload, 1, 0, 0, 0, 0) := by decide +kernel
theorem t350_467 : zT 350 467 = some (.invokevirtual 57, 3, 143, 0, 0, 1231) := by decide +kernel
theorem t350_470 : zT 350 470 = some (.pop, 1, 0, 0, 0, 0) := by decide +kernel
theorem t350_471 : zT 350 471 = some (.aload_n 2, 1, 2, 0, 0, 0) := by decide +kernel
theorem t350_472 : zT 350 472 = some (.aload_n 0, 1, 0, 0, 0, 0) := by decide +kernel
theorem t350_473 : zT 350 473 = some (.iload_n 3, 1, 3, 0, 0, 0) := by decide +kernel
theorem t350_474 : zT 350 474 = some (.iconst 1, 1, 0, 0, 1, 0) := by decide +kernel
theorem t350_475 : zT 350 475 = some (.iadd, 1, 0, 0, 0, 0) := by decide +kernel
theorem t350_476 : zT 350 476 = some (.iaload, 1, 0, 0, 0, 0) := by decide +kernel
theorem t350_477 : zT 350 477 = some (.aload_n 0, 1, 0, 0, 0, 0) := by decide +kernel
theorem t350_478 : zT 350 478 = some (.iload_n 3, 1, 3, 0, 0, 0) := by decide +kernel
theorem t350_479 : zT 350 479 = some (.iconst 2, 1, 0, 0, 2, 0) := by decide +kernel
theorem t350_480 : zT 350 480 = some (.iadd, 1, 0, 0, 0, 0) := by decide +kernel
theorem t350_481 : zT 350 481 = some (.iaload, 1, 0, 0, 0, 0) := by decide +kernel
theorem t350_482 : zT 350 482 = some (.invokevirtual 60, 3, 309, 0, 0, 2096) := by decide +kernel
theorem t350_485 : zT 350 485 = some (.pop, 1, 0, 0, 0, 0) := by decide +kernel
theorem t350_486 : zT 350 486 = some (.goto 916, 3, 1402, 0, 0, 0) := by decide +kernel
theorem t350_489 : zT 350 489 = some (.aload_n 1, 1, 1, 0, 0, 0) := by decide +kernel
theorem t350_490 : zT 350 490 = some (.aload_n 0, 1, 0, 0, 0, 0) := by decide +kernel
theorem t350_491 : zT 350 491 = some (.iload_n 3, 1, 3, 0, 0, 0) := by decide +kernel
theorem t350_492 : zT 350 492 = some (.iconst 1, 1, 0, 0, 1, 0) := by decide +kernel
theorem t350_493 : zT 350 493 = some (.iadd, 1, 0, 0, 0, 0) := by decide +kernel
theorem t350_494 : zT 350 494 = some (.iaload, 1, 0, 0, 0, 0) := by decide +kernel
theorem t350_495 : zT 350 495 = some (.aload_n 0, 1, 0, 0, 0, 0) := by decide +kernel
theorem t350_496 : zT 350 496 = some (.iload_n 3, 1, 3, 0, 0, 0) := by decide +kernel
theorem t350_497 : zT 350 497 = some (.iconst 2, 1, 0, 0, 2, 0) := by decide +kernel
theorem t350_498 : zT 350 498 = some (.iadd, 1, 0, 0, 0, 0) := by decide +kernel
theorem t350_499 : zT 350 499 = some (.iaload, 1, 0, 0, 0, 0) := by decide +kernel
theorem t350_500 : zT 350 500 = some (.aload_n 0, 1, 0, 0, 0, 0) := by decide +kernel
theorem t350_501 : zT 350 501 = some (.iload_n 3, 1, 3, 0, 0, 0) := by decide +kernel
theorem t350_502 : zT 350 502 = some (.iconst 3, 1, 0, 0, 3, 0) := by decide +kernel
theorem t350_503 : zT 350 503 = some (.iadd, 1, 0, 0, 0, 0) := by decide +kernel
theorem t350_504 : zT 350 504 = some (.iaload, 1, 0, 0, 0, 0) := by decide +kernel
theorem t350_505 : zT 350 505 = some (.invokevirtual 61, 3, 147, 0, 0, 1250) := by decide +kernel
theorem t350_508 : zT 350 508 = some (.pop, 1, 0, 0, 0, 0) := by decide +kernel
theorem t350_509 : zT 350 509 = some (.aload_n 2, 1, 2, 0, 0, 0) := by decide +kernel
theorem t350_510 : zT 350 510 = some (.aload_n 0, 1, 0, 0, 0, 0) := by decide +kernel
theorem t350_511 : zT 350 511 = some (.iload_n 3, 1, 3, 0, 0, 0) := by decide +kernel
theorem t350_512 : zT 350 512 = some (.iconst 1, 1, 0, 0, 1, 0) := by decide +kernel
theorem t350_513 : zT 350 513 = some (.iadd, 1, 0, 0, 0, 0) := by decide +kernel
theorem t350_514 : zT 350 514 = some (.iaload, 1, 0, 0, 0, 0) := by decide +kernel
theorem t350_515 : zT 350 515 = some (.aload_n 0, 1, 0, 0, 0, 0) := by decide +kernel
theorem t350_516 : zT 350 516 = some (.iload_n 3, 1, 3, 0, 0, 0) := by decide +kernel
theorem t350_517 : zT 350 517 = some (.iconst 2, 1, 0, 0, 2, 0) := by decide +kernel
theorem t350_518 : zT 350 518 = some (.iadd, 1, 0, 0, 0, 0) := by decide +kernel
theorem t350_519 : zT 350 519 = some (.iaload, 1, 0, 0, 0, 0) := by decide +kernel
theorem t350_520 : zT 350 520 = some (.aload_n 0, 1, 0, 0, 0, 0) := by decide +kernel
theorem t350_521 : zT 350 521 = some (.iload_n 3, 1, 3, 0, 0, 0) := by decide +kernel
theorem t350_522 : zT 350 522 = some (.iconst 3, 1, 0, 0, 3, 0) := by decide +kernel
theorem t350_523 : zT 350 523 = some (.iadd, 1, 0, 0, 0, 0) := by decide +kernel
theorem t350_524 : zT 350 524 = some (.iaload, 1, 0, 0, 0, 0) := by decide +kernel
theorem t350_525 : zT 350 525 = some (.invokevirtual 65, 3, 314, 0, 0, 2117) := by decide +kernel
theorem t350_528 : zT 350 528 = some (.pop, 1, 0, 0, 0, 0) := by decide +kernel
theorem t350_529 : zT 350 529 = some (.goto 873, 3, 1402, 0, 0, 0) := by decide +kernel
theorem t350_532 : zT 350 532 = some (.aload_n 1, 1, 1, 0, 0, 0) := by decide +kernel
theorem t350_533 : zT 350 533 = some (.aload_n 0, 1, 0, 0, 0, 0) := by decide +kernel
theorem t350_534 : zT 350 534 = some (.iload_n 3, 1, 3, 0, 0, 0) := by decide +kernel
theorem t350_535 : zT 350 535 = some (.iconst 1, 1, 0, 0, 1, 0) := by decide +kernel
theorem t350_536 : zT 350 536 = some (.iadd, 1, 0, 0, 0, 0) := by decide +kernel
theorem t350_537 : zT 350 537 = some (.iaload, 1, 0, 0, 0, 0) := by decide +kernel
theorem t350_538 : zT 350 538 = some (.aload_n 0, 1, 0, 0, 0, 0) := by decide +kernel
theorem t350_539 : zT 350 539 = some (.iload_n 3, 1, 3, 0, 0, 0) := by decide +kernel
theorem t350_540 : zT 350 540 = some (.iconst 2, 1, 0, 0, 2, 0) := by decide +kernel
theorem t350_541 : zT 350 541 = some (.iadd, 1, 0, 0, 0, 0) := by decide +kernel
theorem t350_542 : zT 350 542 = some (.iaload, 1, 0, 0, 0, 0) := by decide +kernel
theorem t350_543 : zT 350 543 = some (.aload_n 0, 1, 0, 0, 0, 0) := by decide +kernel
theorem t350_544 : zT 350 544 = some (.iload_n 3, 1, 3, 0, 0, 0) := by decide +kernel
theorem t350_545 : zT 350 545 = some (.iconst 3, 1, 0, 0, 3, 0) := by decide +kernel
theorem t350_546 : zT 350 546 = some (.iadd, 1, 0, 0, 0, 0) := by decide +kernel
theorem t350_547 : zT 350 547 = some (.iaload, 1, 0, 0, 0, 0) := by decide +kernel
theorem t350_548 : zT 350 548 = some (.invokevirtual 66, 3, 148, 0, 0, 1256) := by decide +kernel
theorem t350_551 : zT 350 551 = some (.pop, 1, 0, 0, 0, 0) := by decide +kernel
theorem t350_552 : zT 350 552 = some (.aload_n 2, 1, 2, 0, 0, 0) := by decide +kernel
theorem t350_553 : zT 350 553 = some (.aload_n 0, 1, 0, 0, 0, 0) := by decide +kernel
theorem t350_554 : zT 350 554 = some (.iload_n 3, 1, 3, 0, 0, 0) := by decide +kernel
theorem t350_555 : zT 350 555 = some (.iconst 1, 1, 0, 0, 1, 0) := by decide +kernel
theorem t350_556 : zT 350 556 = some (.iadd, 1, 0, 0, 0, 0) := by decide +kernel
theorem t350_557 : zT 350 557 = some (.iaload, 1, 0, 0, 0, 0) := by decide +kernel
theorem t350_558 : zT 350 558 = some (.aload_n 0, 1, 0, 0, 0, 0) := by decide +kernel
theorem t350_559 : zT 350 559 = some (.iload_n 3, 1, 3, 0, 0, 0) := by decide +kernel
theorem t350_560 : zT 350 560 = some (.iconst 2, 1, 0, 0, 2, 0) := by decide +kernel
theorem t350_561 : zT 350 561 = some (.iadd, 1, 0, 0, 0, 0) := by decide +kernel
theorem t350_562 : zT 350 562 = some (.iaload, 1, 0, 0, 0, 0) := by decide +kernel
theorem t350_563 : zT 350 563 = some (.aload_n 0, 1, 0, 0, 0, 0) := by decide +kernel
theorem t350_564 : zT 350 564 = some (.iload_n 3, 1, 3, 0, 0, 0) := by decide +kernel
theorem t350_565 : zT 350 565 = some (.iconst 3, 1, 0, 0, 3, 0) := by decide +kernel
theorem t350_566 : zT 350 566 = some (.iadd, 1, 0, 0, 0, 0) := by decide +kernel
theorem t350_567 : zT 350 567 = some (.iaload, 1, 0, 0, 0, 0) := by decide +kernel
theorem t350_568 : zT 350 568 = some (.invokevirtual 69, 3, 315, 0, 0, 2123) := by decide +kernel
theorem t350_571 : zT 350 571 = some (.pop, 1, 0, 0, 0, 0) := by decide +kernel
theorem t350_572 : zT 350 572 = some (.goto 830, 3, 1402, 0, 0, 0) := by decide +kernel
theorem t350_575 : zT 350 575 = some (.aload_n 1, 1, 1, 0, 0, 0) := by decide +kernel
theorem t350_576 : zT 350 576 = some (.aload_n 0, 1, 0, 0, 0, 0) := by decide +kernel
theorem t350_577 : zT 350 577 = some (.iload_n 3, 1, 3, 0, 0, 0) := by decide +kernel
theorem t350_578 : zT 350 578 = some (.iconst 1, 1, 0, 0, 1, 0) := by decide +kernel
theorem t350_579 : zT 350 579 = some (.iadd, 1, 0, 0, 0, 0) := by decide +kernel
theorem t350_580 : zT 350 580 = some (.iaload, 1, 0, 0, 0, 0) := by decide +kernel
theorem t350_581 : zT 350 581 = some (.invokevirtual 70, 3, 150, 0, 0, 1265) := by decide +kernel
theorem t350_584 : zT 350 584 = some (.pop, 1, 0, 0, 0, 0) := by decide +kernel
theorem t350_585 : zT 350 585 = some (.aload_n 2, 1, 2, 0, 0, 0) := by decide +kernel
theorem t350_586 : zT 350 586 = some (.aload_n 0, 1, 0, 0, 0, 0) := by decide +kernel
theorem t350_587 : zT 350 587 = some (.iload_n 3, 1, 3, 0, 0, 0) := by decide +kernel
theorem t350_588 : zT 350 588 = some (.iconst 1, 1, 0, 0, 1, 0) := by decide +kernel
theorem t350_589 : zT 350 589 = some (.iadd, 1, 0, 0, 0, 0) := by decide +kernel
theorem t350_590 : zT 350 590 = some (.iaload, 1, 0, 0, 0, 0) := by decide +kernel
theorem t350_591 : zT 350 591 = some (.invokevirtual 73, 3, 316, 0, 0, 2127) := by decide +kernel
theorem t350_594 : zT 350 594 = some (.pop, 1, 0, 0, 0, 0) := by decide +kernel
theorem t350_595 : zT 350 595 = some (.goto 807, 3, 1402, 0, 0, 0) := by decide +kernel
theorem t350_598 : zT 350 598 = some (.aload_n 1, 1, 1, 0, 0, 0) := by decide +kernel
theorem t350_599 : zT 350 599 = some (.aload_n 0, 1, 0, 0, 0, 0) := by decide +kernel
theorem t350_600 : zT 350 600 = some (.iload_n 3, 1, 3, 0, 0, 0) := by decide +kernel
theorem t350_601 : zT 350 601 = some (.iconst 1, 1, 0, 0, 1, 0) := by decide +kernel
theorem t350_602 : zT 350 602 = some (.iadd, 1, 0, 0, 0, 0) := by decide +kernel
theorem t350_603 : zT 350 603 = some (.iaload, 1, 0, 0, 0, 0) := by decide +kernel
theorem t350_604 : zT 350 604 = some (.aload_n 0, 1, 0, 0, 0, 0) := by decide +kernel
theorem t350_605 : zT 350 605 = some (.iload_n 3, 1, 3, 0, 0, 0) := by decide +kernel
theorem t350_606 : zT 350 606 = some (.iconst 2, 1, 0, 0, 2, 0) := by decide +kernel
theorem t350_607 : zT 350 607 = some (.iadd, 1, 0, 0, 0, 0) := by decide +kernel
theorem t350_608 : zT 350 608 = some (.iaload, 1, 0, 0, 0, 0) := by decide +kernel
theorem t350_609 : zT 350 609 = some (.invokevirtual 74, 3, 169, 0, 0, 1352) := by decide +kernel
theorem t350_612 : zT 350 612 = some (.pop, 1, 0, 0, 0, 0) := by decide +kernel
theorem t350_613 : zT 350 613 = some (.aload_n 2, 1, 2, 0, 0, 0) := by decide +kernel
theorem t350_614 : zT 350 614 = some (.aload_n 0, 1, 0, 0, 0, 0) := by decide +kernel
theorem t350_615 : zT 350 615 = some (.iload_n 3, 1, 3, 0, 0, 0) := by decide +kernel
theorem t350_616 : zT 350 616 = some (.iconst 1, 1, 0, 0, 1, 0) := by decide +kernel
theorem t350_617 : zT 350 617 = some (.iadd, 1, 0, 0, 0, 0) := by decide +kernel
theorem t350_618 : zT 350 618 = some (.iaload, 1, 0, 0, 0, 0) := by decide +kernel
theorem t350_619 : zT 350 619 = some (.aload_n 0, 1, 0, 0, 0, 0) := by decide +kernel
theorem t350_620 : zT 350 620 = some (.iload_n 3, 1, 3, 0, 0, 0) := by decide +kernel
theorem t350_621 : zT 350 621 = some (.iconst 2, 1, 0, 0, 2, 0) := by decide +kernel
theorem t350_622 : zT 350 622 = some (.iadd, 1, 0, 0, 0, 0) := by decide +kernel
theorem t350_623 : zT 350 623 = some (.iaload, 1, 0, 0, 0, 0) := by decide +kernel
theorem t350_624 : zT 350 624 = some (.invokevirtual 77, 3, 317, 0, 0, 2131) := by decide +kernel
theorem t350_627 : zT 350 627 = some (.pop, 1, 0, 0, 0, 0) := by decide +kernel
theorem t350_628 : zT 350 628 = some (.goto 774, 3, 1402, 0, 0, 0) := by decide +kernel
theorem t350_631 : zT 350 631 = some (.aload_n 1, 1, 1, 0, 0, 0) := by decide +kernel
theorem t350_632 : zT 350 632 = some (.aload_n 0, 1, 0, 0, 0, 0) := by decide +kernel
theorem t350_633 : zT 350 633 = some (.iload_n 3, 1, 3, 0, 0, 0) := by decide +kernel
theorem t350_634 : zT 350 634 = some (.iconst 1, 1, 0, 0, 1, 0) := by decide +kernel
theorem t350_635 : zT 350 635 = some (.iadd, 1, 0, 0, 0, 0) := by decide +kernel
theorem t350_636 : zT 350 636 = some (.iaload, 1, 0, 0, 0, 0) := by decide +kernel
theorem t350_637 : zT 350 637 = some (.aload_n 0, 1, 0, 0, 0, 0) := by decide +kernel
theorem t350_638 : zT 350 638 = some (.iload_n 3, 1, 3, 0, 0, 0) := by decide +kernel
theorem t350_639 : zT 350 639 = some (.iconst 2, 1, 0, 0, 2, 0) := by decide +kernel
theorem t350_640 : zT 350 640 = some (.iadd, 1, 0, 0, 0, 0) := by decide +kernel
theorem t350_641 : zT 350 641 = some (.iaload, 1, 0, 0, 0, 0) := by decide +kernel
theorem t350_642 : zT 350 642 = some (.invokevirtual 78, 3, 172, 0, 0, 1367) := by decide +kernel
theorem t350_645 : zT 350 645 = some (.pop, 1, 0, 0, 0, 0) := by decide +kernel
theorem t350_646 : zT 350 646 = some (.aload_n 2, 1, 2, 0, 0, 0) := by decide +kernel
theorem t350_647 : zT 350 647 = some (.aload_n 0, 1, 0, 0, 0, 0) := by decide +kernel
theorem t350_648 : zT 350 648 = some (.iload_n 3, 1, 3, 0, 0, 0) := by decide +kernel
theorem t350_649 : zT 350 649 = some (.iconst 1, 1, 0, 0, 1, 0) := by decide +kernel
theorem t350_650 : zT 350 650 = some (.iadd, 1, 0, 0, 0, 0) := by decide +kernel
theorem t350_651 : zT 350 651 = some (.iaload, 1, 0, 0, 0, 0) := by decide +kernel
theorem t350_652 : zT 350 652 = some (.aload_n 0, 1, 0, 0, 0, 0) := by decide +kernel
theorem t350_653 : zT 350 653 = some (.iload_n 3, 1, 3, 0, 0, 0) := by decide +kernel
theorem t350_654 : zT 350 654 = some (.iconst 2, 1, 0, 0, 2, 0) := by decide +kernel
theorem t350_655 : zT 350 655 = some (.iadd, 1, 0, 0, 0, 0) := by decide +kernel
theorem t350_656 : zT 350 656 = some (.iaload, 1, 0, 0, 0, 0) := by decide +kernel
theorem t350_657 : zT 350 657 = some (.invokevirtual 81, 3, 321, 0, 0, 2147) := by decide +kernel
theorem t350_660 : zT 350 660 = some (.pop, 1, 0, 0, 0, 0) := by decide +kernel
theorem t350_661 : zT 350 661 = some (.goto 741, 3, 1402, 0, 0, 0) := by decide +kernel
theorem t350_664 : zT 350 664 = some (.aload_n 1, 1, 1, 0, 0, 0) := by decide +kernel
theorem t350_665 : zT 350 665 = some (.aload_n 0, 1, 0, 0, 0, 0) := by decide +kernel
theorem t350_666 : zT 350 666 = some (.iload_n 3, 1, 3, 0, 0, 0) := by decide +kernel
theorem t350_667 : zT 350 667 = some (.iconst 1, 1, 0, 0, 1, 0) := by decide +kernel
theorem t350_668 : zT 350 668 = some (.iadd, 1, 0, 0, 0, 0) := by decide +kernel
theorem t350_669 : zT 350 669 = some (.iaload, 1, 0, 0, 0, 0) := by decide +kernel
theorem t350_670 : zT 350 670 = some (.aload_n 0, 1, 0, 0, 0, 0) := by decide +kernel
theorem t350_671 : zT 350 671 = some (.iload_n 3, 1, 3, 0, 0, 0) := by decide +kernel
theorem t350_672 : zT 350 672 = some (.iconst 2, 1, 0, 0, 2, 0) := by decide +kernel
theorem t350_673 : zT 350 673 = some (.iadd, 1, 0, 0, 0, 0) := by decide +kernel
theorem t350_674 : zT 350 674 = some (.iaload, 1, 0, 0, 0, 0) := by decide +kernel
theorem t350_675 : zT 350 675 = some (.invokevirtual 82, 3, 173, 0, 0, 1371) := by decide +kernel
theorem t350_678 : zT 350 678 = some (.pop2, 1, 0, 0, 0, 0) := by decide +kernel
theorem t350_679 : zT 350 679 = some (.aload_n 2, 1, 2, 0, 0, 0) := by decide +kernel
theorem t350_680 : zT 350 680 = some (.aload_n 0, 1, 0, 0, 0, 0) := by decide +kernel
theorem t350_681 : zT 350 681 = some (.iload_n 3, 1, 3, 0, 0, 0) := by decide +kernel
theorem t350_682 : zT 350 682 = some (.iconst 1, 1, 0, 0, 1, 0) := by decide +kernel
theorem t350_683 : zT 350 683 = some (.iadd, 1, 0, 0, 0, 0) := by decide +kernel
theorem t350_684 : zT 350 684 = some (.iaload, 1, 0, 0, 0, 0) := by decide +kernel
theorem t350_685 : zT 350 685 = some (.aload_n 0, 1, 0, 0, 0, 0) := by decide +kernel
theorem t350_686 : zT 350 686 = some (.iload_n 3, 1, 3, 0, 0, 0) := by decide +kernel
theorem t350_687 : zT 350 687 = some (.iconst 2, 1, 0, 0, 2, 0) := by decide +kernel
theorem t350_688 : zT 350 688 = some (.iadd, 1, 0, 0, 0, 0) := by decide +kernel
theorem t350_689 : zT 350 689 = some (.iaload, 1, 0, 0, 0, 0) := by decide +kernel
theorem t350_690 : zT 350 690 = some (.invokevirtual 86, 3, 296, 0, 0, 2041) := by decide +kernel
theorem t350_693 : zT 350 693 = some (.pop2, 1, 0, 0, 0, 0) := by decide +kernel
theorem t350_694 : zT 350 694 = some (.goto 708, 3, 1402, 0, 0, 0) := by decide +kernel
theorem t350_697 : zT 350 697 = some (.aload_n 1, 1, 1, 0, 0, 0) := by decide +kernel
theorem t350_698 : zT 350 698 = some (.aload_n 0, 1, 0, 0, 0, 0) := by decide +kernel
theorem t350_699 : zT 350 699 = some (.iload_n 3, 1, 3, 0, 0, 0) := by decide +kernel
theorem t350_700 : zT 350 700 = some (.iconst 1, 1, 0, 0, 1, 0) := by decide +kernel
theorem t350_701 : zT 350 701 = some (.iadd, 1, 0, 0, 0, 0) := by decide +kernel
theorem t350_702 : zT 350 702 = some (.iaload, 1, 0, 0, 0, 0) := by decide +kernel
theorem t350_703 : zT 350 703 = some (.aload_n 0, 1, 0, 0, 0, 0) := by decide +kernel
theorem t350_704 : zT 350 704 = some (.iload_n 3, 1, 3, 0, 0, 0) := by decide +kernel
theorem t350_705 : zT 350 705 = some (.iconst 2, 1, 0, 0, 2, 0) := by decide +kernel
theorem t350_706 : zT 350 706 = some (.iadd, 1, 0, 0, 0, 0) := by decide +kernel
theorem t350_707 : zT 350 707 = some (.iaload, 1, 0, 0, 0, 0) := by decide +kernel
theorem t350_708 : zT 350 708 = some (.invokevirtual 87, 3, 177, 0, 0, 1386) := by decide +kernel
theorem t350_711 : zT 350 711 = some (.pop, 1, 0, 0, 0, 0) := by decide +kernel
theorem t350_712 : zT 350 712 = some (.aload_n 2, 1, 2, 0, 0, 0) := by decide +kernel
theorem t350_713 : zT 350 713 = some (.aload_n 0, 1, 0, 0, 0, 0) := by decide +kernel
theorem t350_714 : zT 350 714 = some (.iload_n 3, 1, 3, 0, 0, 0) := by decide +kernel
theorem t350_715 : zT 350 715 = some (.iconst 1, 1, 0, 0, 1, 0) := by decide +kernel
theorem t350_716 : zT 350 716 = some (.iadd, 1, 0, 0, 0, 0) := by decide +kernel
theorem t350_717 : zT 350 717 = some (.iaload, 1, 0, 0, 0, 0) := by decide +kernel
theorem t350_718 : zT 350 718 = some (.aload_n 0, 1, 0, 0, 0, 0) := by decide +kernel
theorem t350_719 : zT 350 719 = some (.iload_n 3, 1, 3, 0, 0, 0) := by decide +kernel
theorem t350_720 : zT 350 720 = some (.iconst 2, 1, 0, 0, 2, 0) := by decide +kernel
theorem t350_721 : zT 350 721 = some (.iadd, 1, 0, 0, 0, 0) := by decide +kernel
theorem t350_722 : zT 350 722 = some (.iaload, 1, 0, 0, 0, 0) := by decide +kernel
theorem t350_723 : zT 350 723 = some (.invokevirtual 90, 3, 301, 0, 0, 2062) := by decide +kernel
theorem t350_726 : zT 350 726 = some (.pop, 1, 0, 0, 0, 0) := by decide +kernel
theorem t350_727 : zT 350 727 = some (.goto 675, 3, 1402, 0, 0, 0) := by decide +kernel
theorem t350_730 : zT 350 730 = some (.aload_n 1, 1, 1, 0, 0, 0) := by decide +kernel
theorem t350_731 : zT 350 731 = some (.invokevirtual 91, 3, 180, 0, 0, 1400) := by decide +kernel
theorem t350_734 : zT 350 734 = some (.pop, 1, 0, 0, 0, 0) := by decide +kernel
theorem t350_735 : zT 350 735 = some (.aload_n 2, 1, 2, 0, 0, 0) := by decide +kernel
theorem t350_736 : zT 350 736 = some (.invokevirtual 94, 3, 266, 0, 0, 1925) := by decide +kernel
theorem t350_739 : zT 350 739 = some (.pop, 1, 0, 0, 0, 0) := by decide +kernel
theorem t350_740 : zT 350 740 = some (.goto 662, 3, 1402, 0, 0, 0) := by decide +kernel
theorem t350_743 : zT 350 743 = some (.aload_n 1, 1, 1, 0, 0, 0) := by decide +kernel
theorem t350_744 : zT 350 744 = some (.aload_n 0, 1, 0, 0, 0, 0) := by decide +kernel
theorem t350_745 : zT 350 745 = some (.iload_n 3, 1, 3, 0, 0, 0) := by decide +kernel
theorem t350_746 : zT 350 746 = some (.iconst 1, 1, 0, 0, 1, 0) := by decide +kernel
theorem t350_747 : zT 350 747 = some (.iadd, 1, 0, 0, 0, 0) := by decide +kernel
theorem t350_748 : zT 350 748 = some (.iaload, 1, 0, 0, 0, 0) := by decide +kernel
theorem t350_749 : zT 350 749 = some (.invokevirtual 95, 3, 151, 0, 0, 1434) := by decide +kernel
theorem t350_752 : zT 350 752 = some (.pop, 1, 0, 0, 0, 0) := by decide +kernel
theorem t350_753 : zT 350 753 = some (.aload_n 2, 1, 2, 0, 0, 0) := by decide +kernel
theorem t350_754 : zT 350 754 = some (.aload_n 0, 1, 0, 0, 0, 0) := by decide +kernel
theorem t350_755 : zT 350 755 = some (.iload_n 3, 1, 3, 0, 0, 0) := by decide +kernel
theorem t350_756 : zT 350 756 = some (.iconst 1, 1, 0, 0, 1, 0) := by decide +kernel
theorem t350_757 : zT 350 757 = some (.iadd, 1, 0, 0, 0, 0) := by decide +kernel
theorem t350_758 : zT 350 758 = some (.iaload, 1, 0, 0, 0, 0) := by decide +kernel
theorem t350_759 : zT 350 759 = some (.invokevirtual 98, 3, 295, 0, 0, 2037) := by decide +kernel
theorem t350_762 : zT 350 762 = some (.pop, 1, 0, 0, 0, 0) := by decide +kernel
theorem t350_763 : zT 350 763 = some (.goto 639, 3, 1402, 0, 0, 0) := by decide +kernel
theorem t350_766 : zT 350 766 = some (.aload_n 1, 1, 1, 0, 0, 0) := by decide +kernel
theorem t350_767 : zT 350 767 = some (.invokevirtual 99, 3, 187, 0, 0, 1435) := by decide +kernel
theorem t350_770 : zT 350 770 = some (.pop, 1, 0, 0, 0, 0) := by decide +kernel
theorem t350_771 : zT 350 771 = some (.aload_n 2, 1, 2, 0, 0, 0) := by decide +kernel
theorem t350_772 : zT 350 772 = some (.invokevirtual 102, 3, 322, 0, 0, 2151) := by decide +kernel
theorem t350_775 : zT 350 775 = some (.pop, 1, 0, 0, 0, 0) := by decide +kernel
theorem t350_776 : zT 350 776 = some (.goto 626, 3, 1402, 0, 0, 0) := by decide +kernel
theorem t350_779 : zT 350 779 = some (.aload_n 1, 1, 1, 0, 0, 0) := by decide +kernel
theorem t350_780 : zT 350 780 = some (.aload_n 0, 1, 0, 0, 0, 0) := by decide +kernel
theorem t350_781 : zT 350 781 = some (.iload_n 3, 1, 3, 0, 0, 0) := by decide +kernel
theorem t350_782 : zT 350 782 = some (.iconst 1, 1, 0, 0, 1, 0) := by decide +kernel
theorem t350_783 : zT 350 783 = some (.iadd, 1, 0, 0, 0, 0) := by decide +kernel
theorem t350_784 : zT 350 784 = some (.iaload, 1, 0, 0, 0, 0) := by decide +kernel
theorem t350_785 : zT 350 785 = some (.aload_n 0, 1, 0, 0, 0, 0) := by decide +kernel
theorem t350_786 : zT 350 786 = some (.iload_n 3, 1, 3, 0, 0, 0) := by decide +kernel
theorem t350_787 : zT 350 787 = some (.iconst 2, 1, 0, 0, 2, 0) := by decide +kernel
theorem t350_788 : zT 350 788 = some (.iadd, 1, 0, 0, 0, 0) := by decide +kernel
theorem t350_789 : zT 350 789 = some (.iaload, 1, 0, 0, 0, 0) := by decide +kernel
theorem t350_790 : zT 350 790 = some (.aload_n 0, 1, 0, 0, 0, 0) := by decide +kernel
theorem t350_791 : zT 350 791 = some (.iload_n 3, 1, 3, 0, 0, 0) := by decide +kernel
theorem t350_792 : zT 350 792 = some (.iconst 3, 1, 0, 0, 3, 0) := by decide +kernel
theorem t350_793 : zT 350 793 = some (.iadd, 1, 0, 0, 0, 0) := by decide +kernel
theorem t350_794 : zT 350 794 = some (.iaload, 1, 0, 0, 0, 0) := by decide +kernel
theorem t350_795 : zT 350 795 = some (.aload_n 0, 1, 0, 0, 0, 0) := by decide +kernel
theorem t350_796 : zT 350 796 = some (.iload_n 3, 1, 3, 0, 0, 0) := by decide +kernel
theorem t350_797 : zT 350 797 = some (.iconst 4, 1, 0, 0, 4, 0) := by decide +kernel
theorem t350_798 : zT 350 798 = some (.iadd, 1, 0, 0, 0, 0) := by decide +kernel
theorem t350_799 : zT 350 799 = some (.iaload, 1, 0, 0, 0, 0) := by decide +kernel
theorem t350_800 : zT 350 800 = some (.aload_n 0, 1, 0, 0, 0, 0) := by decide +kernel
theorem t350_801 : zT 350 801 = some (.iload_n 3, 1, 3, 0, 0, 0) := by decide +kernel
theorem t350_802 : zT 350 802 = some (.iconst 5, 1, 0, 0, 5, 0) := by decide +kernel
theorem t350_803 : zT 350 803 = some (.iadd, 1, 0, 0, 0, 0) := by decide +kernel
theorem t350_804 : zT 350 804 = some (.iaload, 1, 0, 0, 0, 0) := by decide +kernel
theorem t350_805 : zT 350 805 = some (.invokevirtual 103, 3, 188, 0, 0, 1439) := by decide +kernel
theorem t350_808 : zT 350 808 = some (.pop, 1, 0, 0, 0, 0) := by decide +kernel
theorem t350_809 : zT 350 809 = some (.aload_n 2, 1, 2, 0, 0, 0) := by decide +kernel
theorem t350_810 : zT 350 810 = some (.aload_n 0, 1, 0, 0, 0, 0) := by decide +kernel
theorem t350_811 : zT 350 811 = some (.iload_n 3, 1, 3, 0, 0, 0) := by decide +kernel
theorem t350_812 : zT 350 812 = some (.iconst 1, 1, 0, 0, 1, 0) := by decide +kernel
theorem t350_813 : zT 350 813 = some (.iadd, 1, 0, 0, 0, 0) := by decide +kernel
theorem t350_814 : zT 350 814 = some (.iaload, 1, 0, 0, 0, 0) := by decide +kernel
theorem t350_815 : zT 350 815 = some (.aload_n 0, 1, 0, 0, 0, 0) := by decide +kernel
theorem t350_816 : zT 350 816 = some (.iload_n 3, 1, 3, 0, 0, 0) := by decide +kernel
theorem t350_817 : zT 350 817 = some (.iconst 2, 1, 0, 0, 2, 0) := by decide +kernel
theorem t350_818 : zT 350 818 = some (.iadd, 1, 0, 0, 0, 0) := by decide +kernel
theorem t350_819 : zT 350 819 = some (.iaload, 1, 0, 0, 0, 0) := by decide +kernel
theorem t350_820 : zT 350 820 = some (.aload_n 0, 1, 0, 0, 0, 0) := by decide +kernel
theorem t350_821 : zT 350 821 = some (.iload_n 3, 1, 3, 0, 0, 0) := by decide +kernel
theorem t350_822 : zT 350 822 = some (.iconst 3, 1, 0, 0, 3, 0) := by decide +kernel
theorem t350_823 : zT 350 823 = some (.iadd, 1, 0, 0, 0, 0) := by decide +kernel
theorem t350_824 : zT 350 824 = some (.iaload, 1, 0, 0, 0, 0) := by decide +kernel
theorem t350_825 : zT 350 825 = some (.aload_n 0, 1, 0, 0, 0, 0) := by decide +kernel
theorem t350_826 : zT 350 826 = some (.iload_n 3, 1, 3, 0, 0, 0) := by decide +kernel
theorem t350_827 : zT 350 827 = some (.iconst 4, 1, 0, 0, 4, 0) := by decide +kernel
theorem t350_828 : zT 350 828 = some (.iadd, 1, 0, 0, 0, 0) := by decide +kernel
theorem t350_829 : zT 350 829 = some (.iaload, 1, 0, 0, 0, 0) := by decide +kernel
theorem t350_830 : zT 350 830 = some (.aload_n 0, 1, 0, 0, 0, 0) := by decide +kernel
theorem t350_831 : zT 350 831 = some (.iload_n 3, 1, 3, 0, 0, 0) := by decide +kernel
theorem t350_832 : zT 350 832 = some (.iconst 5, 1, 0, 0, 5, 0) := by decide +kernel
theorem t350_833 : zT 350 833 = some (.iadd, 1, 0, 0, 0, 0) := by decide +kernel
theorem t350_834 : zT 350 834 = some (.iaload, 1, 0, 0, 0, 0) := by decide +kernel
theorem t350_835 : zT 350 835 = some (.invokevirtual 106, 3, 323, 0, 0, 2155) := by decide +kernel
theorem t350_838 : zT 350 838 = some (.pop, 1, 0, 0, 0, 0) := by decide +kernel
theorem t350_839 : zT 350 839 = some (.goto 563, 3, 1402, 0, 0, 0) := by decide +kernel
theorem t350_842 : zT 350 842 = some (.aload_n 1, 1, 1, 0, 0, 0) := by decide +kernel
theorem t350_843 : zT 350 843 = some (.aload_n 0, 1, 0, 0, 0, 0) := by decide +kernel
theorem t350_844 : zT 350 844 = some (.iload_n 3, 1, 3, 0, 0, 0) := by decide +kernel
theorem t350_845 : zT 350 845 = some (.iconst 1, 1, 0, 0, 1, 0) := by decide +kernel
theorem t350_846 : zT 350 846 = some (.iadd, 1, 0, 0, 0, 0) := by decide +kernel
theorem t350_847 : zT 350 847 = some (.iaload, 1, 0, 0, 0, 0) := by decide +kernel
theorem t350_848 : zT 350 848 = some (.aload_n 0, 1, 0, 0, 0, 0) := by decide +kernel
theorem t350_849 : zT 350 849 = some (.iload_n 3, 1, 3, 0, 0, 0) := by decide +kernel
theorem t350_850 : zT 350 850 = some (.iconst 2, 1, 0, 0, 2, 0) := by decide +kernel
theorem t350_851 : zT 350 851 = some (.iadd, 1, 0, 0, 0, 0) := by decide +kernel
theorem t350_852 : zT 350 852 = some (.iaload, 1, 0, 0, 0, 0) := by decide +kernel
theorem t350_853 : zT 350 853 = some (.aload_n 0, 1, 0, 0, 0, 0) := by decide +kernel
theorem t350_854 : zT 350 854 = some (.iload_n 3, 1, 3, 0, 0, 0) := by decide +kernel
theorem t350_855 : zT 350 855 = some (.iconst 3, 1, 0, 0, 3, 0) := by decide +kernel
theorem t350_856 : zT 350 856 = some (.iadd, 1, 0, 0, 0, 0) := by decide +kernel
theorem t350_857 : zT 350 857 = some (.iaload, 1, 0, 0, 0, 0) := by decide +kernel
theorem t350_858 : zT 350 858 = some (.invokevirtual 107, 3, 193, 0, 0, 1460) := by decide +kernel
theorem t350_861 : zT 350 861 = some (.pop, 1, 0, 0, 0, 0) := by decide +kernel
theorem t350_862 : zT 350 862 = some (.aload_n 2, 1, 2, 0, 0, 0) := by decide +kernel
theorem t350_863 : zT 350 863 = some (.aload_n 0, 1, 0, 0, 0, 0) := by decide +kernel
theorem t350_864 : zT 350 864 = some (.iload_n 3, 1, 3, 0, 0, 0) := by decide +kernel
theorem t350_865 : zT 350 865 = some (.iconst 1, 1, 0, 0, 1, 0) := by decide +kernel
theorem t350_866 : zT 350 866 = some (.iadd, 1, 0, 0, 0, 0) := by decide +kernel
theorem t350_867 : zT 350 867 = some (.iaload, 1, 0, 0, 0, 0) := by decide +kernel
theorem t350_868 : zT 350 868 = some (.aload_n 0, 1, 0, 0, 0, 0) := by decide +kernel
theorem t350_869 : zT 350 869 = some (.iload_n 3, 1, 3, 0, 0, 0) := by decide +kernel
theorem t350_870 : zT 350 870 = some (.iconst 2, 1, 0, 0, 2, 0) := by decide +kernel
theorem t350_871 : zT 350 871 = some (.iadd, 1, 0, 0, 0, 0) := by decide +kernel
theorem t350_872 : zT 350 872 = some (.iaload, 1, 0, 0, 0, 0) := by decide +kernel
theorem t350_873 : zT 350 873 = some (.aload_n 0, 1, 0, 0, 0, 0) := by decide +kernel
theorem t350_874 : zT 350 874 = some (.iload_n 3, 1, 3, 0, 0, 0) := by decide +kernel
theorem t350_875 : zT 350 875 = some (.iconst 3, 1, 0, 0, 3, 0) := by decide +kernel
theorem t350_876 : zT 350 876 = some (.iadd, 1, 0, 0, 0, 0) := by decide +kernel
theorem t350_877 : zT 350 877 = some (.iaload, 1, 0, 0, 0, 0) := by decide +kernel
theorem t350_878 : zT 350 878 = some (.invokevirtual 110, 3, 326, 0, 0, 2171) := by decide +kernel
theorem t350_881 : zT 350 881 = some (.pop, 1, 0, 0, 0, 0) := by decide +kernel
theorem t350_882 : zT 350 882 = some (.goto 520, 3, 1402, 0, 0, 0) := by decide +kernel
theorem t350_885 : zT 350 885 = some (.aload_n 1, 1, 1, 0, 0, 0) := by decide +kernel
theorem t350_886 : zT 350 886 = some (.aload_n 0, 1, 0, 0, 0, 0) := by decide +kernel
theorem t350_887 : zT 350 887 = some (.iload_n 3, 1, 3, 0, 0, 0) := by decide +kernel
theorem t350_888 : zT 350 888 = some (.iconst 1, 1, 0, 0, 1, 0) := by decide +kernel
theorem t350_889 : zT 350 889 = some (.iadd, 1, 0, 0, 0, 0) := by decide +kernel
theorem t350_890 : zT 350 890 = some (.iaload, 1, 0, 0, 0, 0) := by decide +kernel
theorem t350_891 : zT 350 891 = some (.invokevirtual 111, 3, 194, 0, 0, 1464) := by decide +kernel
theorem t350_894 : zT 350 894 = some (.pop, 1, 0, 0, 0, 0) := by decide +kernel
theorem t350_895 : zT 350 895 = some (.aload_n 2, 1, 2, 0, 0, 0) := by decide +kernel
theorem t350_896 : zT 350 896 = some (.aload_n 0, 1, 0, 0, 0, 0) := by decide +kernel
theorem t350_897 : zT 350 897 = some (.iload_n 3, 1, 3, 0, 0, 0) := by decide +kernel
theorem t350_898 : zT 350 898 = some (.iconst 1, 1, 0, 0, 1, 0) := by decide +kernel
theorem t350_899 : zT 350 899 = some (.iadd, 1, 0, 0, 0, 0) := by decide +kernel
theorem t350_900 : zT 350 900 = some (.iaload, 1, 0, 0, 0, 0) := by decide +kernel
theorem t350_901 : zT 350 901 = some (.invokevirtual 114, 3, 327, 0, 0, 2175) := by decide +kernel
theorem t350_904 : zT 350 904 = some (.pop, 1, 0, 0, 0, 0) := by decide +kernel
theorem t350_905 : zT 350 905 = some (.goto 497, 3, 1402, 0, 0, 0) := by decide +kernel
theorem t350_908 : zT 350 908 = some (.aload_n 1, 1, 1, 0, 0, 0) := by decide +kernel
theorem t350_909 : zT 350 909 = some (.aload_n 0, 1, 0, 0, 0, 0) := by decide +kernel
theorem t350_910 : zT 350 910 = some (.iload_n 3, 1, 3, 0, 0, 0) := by decide +kernel
theorem t350_911 : zT 350 911 = some (.iconst 1, 1, 0, 0, 1, 0) := by decide +kernel
theorem t350_912 : zT 350 912 = some (.iadd, 1, 0, 0, 0, 0) := by decide +kernel
theorem t350_913 : zT 350 913 = some (.iaload, 1, 0, 0, 0, 0) := by decide +kernel
theorem t350_914 : zT 350 914 = some (.invokevirtual 115, 3, 196, 0, 0, 1473) := by decide +kernel
theorem t350_917 : zT 350 917 = some (.pop, 1, 0, 0, 0, 0) := by decide +kernel
theorem t350_918 : zT 350 918 = some (.aload_n 2, 1, 2, 0, 0, 0) := by decide +kernel
theorem t350_919 : zT 350 919 = some (.aload_n 0, 1, 0, 0, 0, 0) := by decide +kernel
theorem t350_920 : zT 350 920 = some (.iload_n 3, 1, 3, 0, 0, 0) := by decide +kernel
theorem t350_921 : zT 350 921 = some (.iconst 1, 1, 0, 0, 1, 0) := by decide +kernel
theorem t350_922 : zT 350 922 = some (.iadd, 1, 0, 0, 0, 0) := by decide +kernel
theorem t350_923 : zT 350 923 = some (.iaload, 1, 0, 0, 0, 0) := by decide +kernel
theorem t350_924 : zT 350 924 = some (.invokevirtual 118, 3, 328, 0, 0, 2179) := by decide +kernel
theorem t350_927 : zT 350 927 = some (.pop, 1, 0, 0, 0, 0) := by decide +kernel
theorem t350_928 : zT 350 928 = some (.goto 474, 3, 1402, 0, 0, 0) := by decide +kernel
theorem t350_931 : zT 350 931 = some (.aload_n 1, 1, 1, 0, 0, 0) := by decide +kernel
theorem t350_932 : zT 350 932 = some (.aload_n 0, 1, 0, 0, 0, 0) := by decide +kernel
theorem t350_933 : zT 350 933 = some (.iload_n 3, 1, 3, 0, 0, 0) := by decide +kernel
theorem t350_934 : zT 350 934 = some (.iconst 1, 1, 0, 0, 1, 0) := by decide +kernel
theorem t350_935 : zT 350 935 = some (.iadd, 1, 0, 0, 0, 0) := by decide +kernel
theorem t350_936 : zT 350 936 = some (.iaload, 1, 0, 0, 0, 0) := by decide +kernel
theorem t350_937 : zT 350 937 = some (.aload_n 0, 1, 0, 0, 0, 0) := by decide +kernel
theorem t350_938 : zT 350 938 = some (.iload_n 3, 1, 3, 0, 0, 0) := by decide +kernel
theorem t350_939 : zT 350 939 = some (.iconst 2, 1, 0, 0, 2, 0) := by decide +kernel
theorem t350_940 : zT 350 940 = some (.iadd, 1, 0, 0, 0, 0) := by decide +kernel
theorem t350_941 : zT 350 941 = some (.iaload, 1, 0, 0, 0, 0) := by decide +kernel
theorem t350_942 : zT 350 942 = some (.aload_n 0, 1, 0, 0, 0, 0) := by decide +kernel
theorem t350_943 : zT 350 943 = some (.iload_n 3, 1, 3, 0, 0, 0) := by decide +kernel
theorem t350_944 : zT 350 944 = some (.iconst 3, 1, 0, 0, 3, 0) := by decide +kernel
theorem t350_945 : zT 350 945 = some (.iadd, 1, 0, 0, 0, 0) := by decide +kernel
theorem t350_946 : zT 350 946 = some (.iaload, 1, 0, 0, 0, 0) := by decide +kernel
theorem t350_947 : zT 350 947 = some (.invokevirtual 119, 3, 89, 0, 0, 1493) := by decide +kernel
theorem t350_950 : zT 350 950 = some (.pop, 1, 0, 0, 0, 0) := by decide +kernel
theorem t350_951 : zT 350 951 = some (.aload_n 2, 1, 2, 0, 0, 0) := by decide +kernel
theorem t350_952 : zT 350 952 = some (.aload_n 0, 1, 0, 0, 0, 0) := by decide +kernel
theorem t350_953 : zT 350 953 = some (.iload_n 3, 1, 3, 0, 0, 0) := by decide +kernel
theorem t350_954 : zT 350 954 = some (.iconst 1, 1, 0, 0, 1, 0) := by decide +kernel
theorem t350_955 : zT 350 955 = some (.iadd, 1, 0, 0, 0, 0) := by decide +kernel
theorem t350_956 : zT 350 956 = some (.iaload, 1, 0, 0, 0, 0) := by decide +kernel
theorem t350_957 : zT 350 957 = some (.aload_n 0, 1, 0, 0, 0, 0) := by decide +kernel
theorem t350_958 : zT 350 958 = some (.iload_n 3, 1, 3, 0, 0, 0) := by decide +kernel
theorem t350_959 : zT 350 959 = some (.iconst 2, 1, 0, 0, 2, 0) := by decide +kernel
theorem t350_960 : zT 350 960 = some (.iadd, 1, 0, 0, 0, 0) := by decide +kernel
theorem t350_961 : zT 350 961 = some (.iaload, 1, 0, 0, 0, 0) := by decide +kernel
theorem t350_962 : zT 350 962 = some (.aload_n 0, 1, 0, 0, 0, 0) := by decide +kernel
theorem t350_963 : zT 350 963 = some (.iload_n 3, 1, 3, 0, 0, 0) := by decide +kernel
theorem t350_964 : zT 350 964 = some (.iconst 3, 1, 0, 0, 3, 0) := by decide +kernel
theorem t350_965 : zT 350 965 = some (.iadd, 1, 0, 0, 0, 0) := by decide +kernel
theorem t350_966 : zT 350 966 = some (.iaload, 1, 0, 0, 0, 0) := by decide +kernel
theorem t350_967 : zT 350 967 = some (.invokevirtual 122, 3, 331, 0, 0, 2191) := by decide +kernel
theorem t350_970 : zT 350 970 = some (.pop, 1, 0, 0, 0, 0) := by decide +kernel
theorem t350_971 : zT 350 971 = some (.goto 431, 3, 1402, 0, 0, 0) := by decide +kernel
theorem t350_974 : zT 350 974 = some (.aload_n 1, 1, 1, 0, 0, 0) := by decide +kernel
theorem t350_975 : zT 350 975 = some (.aload_n 0, 1, 0, 0, 0, 0) := by decide +kernel
theorem t350_976 : zT 350 976 = some (.iload_n 3, 1, 3, 0, 0, 0) := by decide +kernel
theorem t350_977 : zT 350 977 = some (.iconst 1, 1, 0, 0, 1, 0) := by decide +kernel
theorem t350_978 : zT 350 978 = some (.iadd, 1, 0, 0, 0, 0) := by decide +kernel
theorem t350_979 : zT 350 979 = some (.iaload, 1, 0, 0, 0, 0) := by decide +kernel
theorem t350_980 : zT 350 980 = some (.invokevirtual 123, 3, 90, 0, 0, 1494) := by decide +kernel
theorem t350_983 : zT 350 983 = some (.pop, 1, 0, 0, 0, 0) := by decide +kernel
theorem t350_984 : zT 350 984 = some (.aload_n 2, 1, 2, 0, 0, 0) := by decide +kernel
theorem t350_985 : zT 350 985 = some (.aload_n 0, 1, 0, 0, 0, 0) := by decide +kernel
theorem t350_986 : zT 350 986 = some (.iload_n 3, 1, 3, 0, 0, 0) := by decide +kernel
theorem t350_987 : zT 350 987 = some (.iconst 1, 1, 0, 0, 1, 0) := by decide +kernel
theorem t350_988 : zT 350 988 = some (.iadd, 1, 0, 0, 0, 0) := by decide +kernel
theorem t350_989 : zT 350 989 = some (.iaload, 1, 0, 0, 0, 0) := by decide +kernel
theorem t350_990 : zT 350 990 = some (.invokevirtual 126, 3, 332, 0, 0, 2195) := by decide +kernel
theorem t350_993 : zT 350 993 = some (.pop, 1, 0, 0, 0, 0) := by decide +kernel
theorem t350_994 : zT 350 994 = some (.goto 408, 3, 1402, 0, 0, 0) := by decide +kernel
theorem t350_997 : zT 350 997 = some (.aload_n 1, 1, 1, 0, 0, 0) := by decide +kernel
theorem t350_998 : zT 350 998 = some (.aload_n 0, 1, 0, 0, 0, 0) := by decide +kernel
theorem t350_999 : zT 350 999 = some (.iload_n 3, 1, 3, 0, 0, 0) := by decide +kernel
theorem t350_1000 : zT 350 1000 = some (.iconst 1, 1, 0, 0, 1, 0) := by decide +kernel
theorem t350_1001 : zT 350 1001 = some (.iadd, 1, 0, 0, 0, 0) := by decide +kernel
theorem t350_1002 : zT 350 1002 = some (.iaload, 1, 0, 0, 0, 0) := by decide +kernel
theorem t350_1003 : zT 350 1003 = some (.invokevirtual 127, 3, 94, 0, 0, 1495) := by decide +kernel
theorem t350_1006 : zT 350 1006 = some (.pop, 1, 0, 0, 0, 0) := by decide +kernel
theorem t350_1007 : zT 350 1007 = some (.aload_n 2, 1, 2, 0, 0, 0) := by decide +kernel
theorem t350_1008 : zT 350 1008 = some (.aload_n 0, 1, 0, 0, 0, 0) := by decide +kernel
theorem t350_1009 : zT 350 1009 = some (.iload_n 3, 1, 3, 0, 0, 0) := by decide +kernel
theorem t350_1010 : zT 350 1010 = some (.iconst 1, 1, 0, 0, 1, 0) := by decide +kernel
theorem t350_1011 : zT 350 1011 = some (.iadd, 1, 0, 0, 0, 0) := by decide +kernel
theorem t350_1012 : zT 350 1012 = some (.iaload, 1, 0, 0, 0, 0) := by decide +kernel
theorem t350_1013 : zT 350 1013 = some (.invokevirtual 130, 3, 333, 0, 0, 2199) := by decide +kernel
theorem t350_1016 : zT 350 1016 = some (.pop, 1, 0, 0, 0, 0) := by decide +kernel
theorem t350_1017 : zT 350 1017 = some (.goto 385, 3, 1402, 0, 0, 0) := by decide +kernel
theorem t350_1020 : zT 350 1020 = some (.aload_n 1, 1, 1, 0, 0, 0) := by decide +kernel
theorem t350_1021 : zT 350 1021 = some (.aload_n 0, 1, 0, 0, 0, 0) := by decide +kernel
theorem t350_1022 : zT 350 1022 = some (.iload_n 3, 1, 3, 0, 0, 0) := by decide +kernel
theorem t350_1023 : zT 350 1023 = some (.iconst 1, 1, 0, 0, 1, 0) := by decide +kernel
theorem t350_1024 : zT 350 1024 = some (.iadd, 1, 0, 0, 0, 0) := by decide +kernel
theorem t350_1025 : zT 350 1025 = some (.iaload, 1, 0, 0, 0, 0) := by decide +kernel
theorem t350_1026 : zT 350 1026 = some (.invokevirtual 131, 3, 95, 0, 0, 1496) := by decide +kernel
theorem t350_1029 : zT 350 1029 = some (.pop, 1, 0, 0, 0, 0) := by decide +kernel
theorem t350_1030 : zT 350 1030 = some (.aload_n 2, 1, 2, 0, 0, 0) := by decide +kernel
theorem t350_1031 : zT 350 1031 = some (.aload_n 0, 1, 0, 0, 0, 0) := by decide +kernel
theorem t350_1032 : zT 350 1032 = some (.iload_n 3, 1, 3, 0, 0, 0) := by decide +kernel
theorem t350_1033 : zT 350 1033 = some (.iconst 1, 1, 0, 0, 1, 0) := by decide +kernel
theorem t350_1034 : zT 350 1034 = some (.iadd, 1, 0, 0, 0, 0) := by decide +kernel
theorem t350_1035 : zT 350 1035 = some (.iaload, 1, 0, 0, 0, 0) := by decide +kernel
theorem t350_1036 : zT 350 1036 = some (.invokevirtual 134, 3, 334, 0, 0, 2203) := by decide +kernel
theorem t350_1039 : zT 350 1039 = some (.pop, 1, 0, 0, 0, 0) := by decide +kernel
theorem t350_1040 : zT 350 1040 = some (.goto 362, 3, 1402, 0, 0, 0) := by decide +kernel
theorem t350_1043 : zT 350 1043 = some (.aload_n 1, 1, 1, 0, 0, 0) := by decide +kernel
theorem t350_1044 : zT 350 1044 = some (.aload_n 0, 1, 0, 0, 0, 0) := by decide +kernel
theorem t350_1045 : zT 350 1045 = some (.iload_n 3, 1, 3, 0, 0, 0) := by decide +kernel
theorem t350_1046 : zT 350 1046 = some (.iconst 1, 1, 0, 0, 1, 0) := by decide +kernel
theorem t350_1047 : zT 350 1047 = some (.iadd, 1, 0, 0, 0, 0) := by decide +kernel
theorem t350_1048 : zT 350 1048 = some (.iaload, 1, 0, 0, 0, 0) := by decide +kernel
theorem t350_1049 : zT 350 1049 = some (.aload_n 0, 1, 0, 0, 0, 0) := by decide +kernel
theorem t350_1050 : zT 350 1050 = some (.iload_n 3, 1, 3, 0, 0, 0) := by decide +kernel
theorem t350_1051 : zT 350 1051 = some (.iconst 2, 1, 0, 0, 2, 0) := by decide +kernel
theorem t350_1052 : zT 350 1052 = some (.iadd, 1, 0, 0, 0, 0) := by decide +kernel
theorem t350_1053 : zT 350 1053 = some (.iaload, 1, 0, 0, 0, 0) := by decide +kernel
theorem t350_1054 : zT 350 1054 = some (.aload_n 0, 1, 0, 0, 0, 0) := by decide +kernel
theorem t350_1055 : zT 350 1055 = some (.iload_n 3, 1, 3, 0, 0, 0) := by decide +kernel
theorem t350_1056 : zT 350 1056 = some (.iconst 3, 1, 0, 0, 3, 0) := by decide +kernel
theorem t350_1057 : zT 350 1057 = some (.iadd, 1, 0, 0, 0, 0) := by decide +kernel
theorem t350_1058 : zT 350 1058 = some (.iaload, 1, 0, 0, 0, 0) := by decide +kernel
theorem t350_1059 : zT 350 1059 = some (.invokevirtual 135, 3, 200, 0, 0, 1497) := by decide +kernel
theorem t350_1062 : zT 350 1062 = some (.pop2, 1, 0, 0, 0, 0) := by decide +kernel
theorem t350_1063 : zT 350 1063 = some (.aload_n 2, 1, 2, 0, 0, 0) := by decide +kernel
theorem t350_1064 : zT 350 1064 = some (.aload_n 0, 1, 0, 0, 0, 0) := by decide +kernel
theorem t350_1065 : zT 350 1065 = some (.iload_n 3, 1, 3, 0, 0, 0) := by decide +kernel
theorem t350_1066 : zT 350 1066 = some (.iconst 1, 1, 0, 0, 1, 0) := by decide +kernel
theorem t350_1067 : zT 350 1067 = some (.iadd, 1, 0, 0, 0, 0) := by decide +kernel
theorem t350_1068 : zT 350 1068 = some (.iaload, 1, 0, 0, 0, 0) := by decide +kernel
theorem t350_1069 : zT 350 1069 = some (.aload_n 0, 1, 0, 0, 0, 0) := by decide +kernel
theorem t350_1070 : zT 350 1070 = some (.iload_n 3, 1, 3, 0, 0, 0) := by decide +kernel
theorem t350_1071 : zT 350 1071 = some (.iconst 2, 1, 0, 0, 2, 0) := by decide +kernel
theorem t350_1072 : zT 350 1072 = some (.iadd, 1, 0, 0, 0, 0) := by decide +kernel
theorem t350_1073 : zT 350 1073 = some (.iaload, 1, 0, 0, 0, 0) := by decide +kernel
theorem t350_1074 : zT 350 1074 = some (.aload_n 0, 1, 0, 0, 0, 0) := by decide +kernel
theorem t350_1075 : zT 350 1075 = some (.iload_n 3, 1, 3, 0, 0, 0) := by decide +kernel
theorem t350_1076 : zT 350 1076 = some (.iconst 3, 1, 0, 0, 3, 0) := by decide +kernel
theorem t350_1077 : zT 350 1077 = some (.iadd, 1, 0, 0, 0, 0) := by decide +kernel
theorem t350_1078 : zT 350 1078 = some (.iaload, 1, 0, 0, 0, 0) := by decide +kernel
theorem t350_1079 : zT 350 1079 = some (.invokevirtual 139, 3, 300, 0, 0, 2057) := by decide +kernel
theorem t350_1082 : zT 350 1082 = some (.pop2, 1, 0, 0, 0, 0) := by decide +kernel
theorem t350_1083 : zT 350 1083 = some (.goto 319, 3, 1402, 0, 0, 0) := by decide +kernel
theorem t350_1086 : zT 350 1086 = some (.aload_n 1, 1, 1, 0, 0, 0) := by decide +kernel
theorem t350_1087 : zT 350 1087 = some (.aload_n 0, 1, 0, 0, 0, 0) := by decide +kernel
theorem t350_1088 : zT 350 1088 = some (.iload_n 3, 1, 3, 0, 0, 0) := by decide +kernel
theorem t350_1089 : zT 350 1089 = some (.iconst 1, 1, 0, 0, 1, 0) := by decide +kernel
theorem t350_1090 : zT 350 1090 = some (.iadd, 1, 0, 0, 0, 0) := by decide +kernel
theorem t350_1091 : zT 350 1091 = some (.iaload, 1, 0, 0, 0, 0) := by decide +kernel
theorem t350_1092 : zT 350 1092 = some (.aload_n 0, 1, 0, 0, 0, 0) := by decide +kernel
theorem t350_1093 : zT 350 1093 = some (.iload_n 3, 1, 3, 0, 0, 0) := by decide +kernel
theorem t350_1094 : zT 350 1094 = some (.iconst 2, 1, 0, 0, 2, 0) := by decide +kernel
theorem t350_1095 : zT 350 1095 = some (.iadd, 1, 0, 0, 0, 0) := by decide +kernel
theorem t350_1096 : zT 350 1096 = some (.iaload, 1, 0, 0, 0, 0) := by decide +kernel
theorem t350_1097 : zT 350 1097 = some (.invokevirtual 140, 3, 201, 0, 0, 1503) := by decide +kernel
theorem t350_1100 : zT 350 1100 = some (.pop, 1, 0, 0, 0, 0) := by decide +kernel
theorem t350_1101 : zT 350 1101 = some (.aload_n 2, 1, 2, 0, 0, 0) := by decide +kernel
theorem t350_1102 : zT 350 1102 = some (.aload_n 0, 1, 0, 0, 0, 0) := by decide +kernel
theorem t350_1103 : zT 350 1103 = some (.iload_n 3, 1, 3, 0, 0, 0) := by decide +kernel
theorem t350_1104 : zT 350 1104 = some (.iconst 1, 1, 0, 0, 1, 0) := by decide +kernel
theorem t350_1105 : zT 350 1105 = some (.iadd, 1, 0, 0, 0, 0) := by decide +kernel
theorem t350_1106 : zT 350 1106 = some (.iaload, 1, 0, 0, 0, 0) := by decide +kernel
theorem t350_1107 : zT 350 1107 = some (.aload_n 0, 1, 0, 0, 0, 0) := by decide +kernel
theorem t350_1108 : zT 350 1108 = some (.iload_n 3, 1, 3, 0, 0, 0) := by decide +kernel
theorem t350_1109 : zT 350 1109 = some (.iconst 2, 1, 0, 0, 2, 0) := by decide +kernel
theorem t350_1110 : zT 350 1110 = some (.iadd, 1, 0, 0, 0, 0) := by decide +kernel
theorem t350_1111 : zT 350 1111 = some (.iaload, 1, 0, 0, 0, 0) := by decide +kernel
theorem t350_1112 : zT 350 1112 = some (.invokevirtual 143, 3, 336, 0, 0, 2212) := by decide +kernel
theorem t350_1115 : zT 350 1115 = some (.pop, 1, 0, 0, 0, 0) := by decide +kernel
theorem t350_1116 : zT 350 1116 = some (.goto 286, 3, 1402, 0, 0, 0) := by decide +kernel
theorem t350_1119 : zT 350 1119 = some (.aload_n 1, 1, 1, 0, 0, 0) := by decide +kernel
theorem t350_1120 : zT 350 1120 = some (.aload_n 0, 1, 0, 0, 0, 0) := by decide +kernel
theorem t350_1121 : zT 350 1121 = some (.iload_n 3, 1, 3, 0, 0, 0) := by decide +kernel
theorem t350_1122 : zT 350 1122 = some (.iconst 1, 1, 0, 0, 1, 0) := by decide +kernel
theorem t350_1123 : zT 350 1123 = some (.iadd, 1, 0, 0, 0, 0) := by decide +kernel
theorem t350_1124 : zT 350 1124 = some (.iaload, 1, 0, 0, 0, 0) := by decide +kernel
theorem t350_1125 : zT 350 1125 = some (.invokevirtual 144, 3, 203, 0, 0, 1512) := by decide +kernel
theorem t350_1128 : zT 350 1128 = some (.pop, 1, 0, 0, 0, 0) := by decide +kernel
theorem t350_1129 : zT 350 1129 = some (.aload_n 2, 1, 2, 0, 0, 0) := by decide +kernel
theorem t350_1130 : zT 350 1130 = some (.aload_n 0, 1, 0, 0, 0, 0) := by decide +kernel
theorem t350_1131 : zT 350 1131 = some (.iload_n 3, 1, 3, 0, 0, 0) := by decide +kernel
theorem t350_1132 : zT 350 1132 = some (.iconst 1, 1, 0, 0, 1, 0) := by decide +kernel
theorem t350_1133 : zT 350 1133 = some (.iadd, 1, 0, 0, 0, 0) := by decide +kernel
theorem t350_1134 : zT 350 1134 = some (.iaload, 1, 0, 0, 0, 0) := by decide +kernel
theorem t350_1135 : zT 350 1135 = some (.invokevirtual 147, 3, 338, 0, 0, 2220) := by decide +kernel
theorem t350_1138 : zT 350 1138 = some (.pop, 1, 0, 0, 0, 0) := by decide +kernel
theorem t350_1139 : zT 350 1139 = some (.goto 263, 3, 1402, 0, 0, 0) := by decide +kernel
theorem t350_1142 : zT 350 1142 = some (.aload_n 1, 1, 1, 0, 0, 0) := by decide +kernel
theorem t350_1143 : zT 350 1143 = some (.aload_n 0, 1, 0, 0, 0, 0) := by decide +kernel
theorem t350_1144 : zT 350 1144 = some (.iload_n 3, 1, 3, 0, 0, 0) := by decide +kernel
theorem t350_1145 : zT 350 1145 = some (.iconst 1, 1, 0, 0, 1, 0) := by decide +kernel
theorem t350_1146 : zT 350 1146 = some (.iadd, 1, 0, 0, 0, 0) := by decide +kernel
theorem t350_1147 : zT 350 1147 = some (.iaload, 1, 0, 0, 0, 0) := by decide +kernel
theorem t350_1148 : zT 350 1148 = some (.aload_n 0, 1, 0, 0, 0, 0) := by decide +kernel
theorem t350_1149 : zT 350 1149 = some (.iload_n 3, 1, 3, 0, 0, 0) := by decide +kernel
theorem t350_1150 : zT 350 1150 = some (.iconst 2, 1, 0, 0, 2, 0) := by decide +kernel
theorem t350_1151 : zT 350 1151 = some (.iadd, 1, 0, 0, 0, 0) := by decide +kernel
theorem t350_1152 : zT 350 1152 = some (.iaload, 1, 0, 0, 0, 0) := by decide +kernel
theorem t350_1153 : zT 350 1153 = some (.invokevirtual 148, 3, 204, 0, 0, 1516) := by decide +kernel
theorem t350_1156 : zT 350 1156 = some (.pop, 1, 0, 0, 0, 0) := by decide +kernel
theorem t350_1157 : zT 350 1157 = some (.aload_n 2, 1, 2, 0, 0, 0) := by decide +kernel
theorem t350_1158 : zT 350 1158 = some (.aload_n 0, 1, 0, 0, 0, 0) := by decide +kernel
theorem t350_1159 : zT 350 1159 = some (.iload_n 3, 1, 3, 0, 0, 0) := by decide +kernel
theorem t350_1160 : zT 350 1160 = some (.iconst 1, 1, 0, 0, 1, 0) := by decide +kernel
theorem t350_1161 : zT 350 1161 = some (.iadd, 1, 0, 0, 0, 0) := by decide +kernel
theorem t350_1162 : zT 350 1162 = some (.iaload, 1, 0, 0, 0, 0) := by decide +kernel
theorem t350_1163 : zT 350 1163 = some (.aload_n 0, 1, 0, 0, 0, 0) := by decide +kernel
theorem t350_1164 : zT 350 1164 = some (.iload_n 3, 1, 3, 0, 0, 0) := by decide +kernel
theorem t350_1165 : zT 350 1165 = some (.iconst 2, 1, 0, 0, 2, 0) := by decide +kernel
theorem t350_1166 : zT 350 1166 = some (.iadd, 1, 0, 0, 0, 0) := by decide +kernel
theorem t350_1167 : zT 350 1167 = some (.iaload, 1, 0, 0, 0, 0) := by decide +kernel
theorem t350_1168 : zT 350 1168 = some (.invokevirtual 151, 3, 339, 0, 0, 2224) := by decide +kernel
theorem t350_1171 : zT 350 1171 = some (.pop, 1, 0, 0, 0, 0) := by decide +kernel
theorem t350_1172 : zT 350 1172 = some (.goto 230, 3, 1402, 0, 0, 0) := by decide +kernel
theorem t350_1175 : zT 350 1175 = some (.aload_n 1, 1, 1, 0, 0, 0) := by decide +kernel
theorem t350_1176 : zT 350 1176 = some (.aload_n 0, 1, 0, 0, 0, 0) := by decide +kernel
theorem t350_1177 : zT 350 1177 = some (.iload_n 3, 1, 3, 0, 0, 0) := by decide +kernel
theorem t350_1178 : zT 350 1178 = some (.iconst 1, 1, 0, 0, 1, 0) := by decide +kernel
theorem t350_1179 : zT 350 1179 = some (.iadd, 1, 0, 0, 0, 0) := by decide +kernel
theorem t350_1180 : zT 350 1180 = some (.iaload, 1, 0, 0, 0, 0) := by decide +kernel
theorem t350_1181 : zT 350 1181 = some (.aload_n 0, 1, 0, 0, 0, 0) := by decide +kernel
theorem t350_1182 : zT 350 1182 = some (.iload_n 3, 1, 3, 0, 0, 0) := by decide +kernel
theorem t350_1183 : zT 350 1183 = some (.iconst 2, 1, 0, 0, 2, 0) := by decide +kernel
theorem t350_1184 : zT 350 1184 = some (.iadd, 1, 0, 0, 0, 0) := by decide +kernel
theorem t350_1185 : zT 350 1185 = some (.iaload, 1, 0, 0, 0, 0) := by decide +kernel
theorem t350_1186 : zT 350 1186 = some (.invokevirtual 152, 3, 205, 0, 0, 1521) := by decide +kernel
theorem t350_1189 : zT 350 1189 = some (.pop, 1, 0, 0, 0, 0) := by decide +kernel
theorem t350_1190 : zT 350 1190 = some (.aload_n 2, 1, 2, 0, 0, 0) := by decide +kernel
theorem t350_1191 : zT 350 1191 = some (.aload_n 0, 1, 0, 0, 0, 0) := by decide +kernel
theorem t350_1192 : zT 350 1192 = some (.iload_n 3, 1, 3, 0, 0, 0) := by decide +kernel
theorem t350_1193 : zT 350 1193 = some (.iconst 1, 1, 0, 0, 1, 0) := by decide +kernel
theorem t350_1194 : zT 350 1194 = some (.iadd, 1, 0, 0, 0, 0) := by decide +kernel
theorem t350_1195 : zT 350 1195 = some (.iaload, 1, 0, 0, 0, 0) := by decide +kernel
theorem t350_1196 : zT 350 1196 = some (.aload_n 0, 1, 0, 0, 0, 0) := by decide +kernel
theorem t350_1197 : zT 350 1197 = some (.iload_n 3, 1, 3, 0, 0, 0) := by decide +kernel
theorem t350_1198 : zT 350 1198 = some (.iconst 2, 1, 0, 0, 2, 0) := by decide +kernel
theorem t350_1199 : zT 350 1199 = some (.iadd, 1, 0, 0, 0, 0) := by decide +kernel
theorem t350_1200 : zT 350 1200 = some (.iaload, 1, 0, 0, 0, 0) := by decide +kernel
theorem t350_1201 : zT 350 1201 = some (.invokevirtual 155, 3, 340, 0, 0, 2228) := by decide +kernel
theorem t350_1204 : zT 350 1204 = some (.pop, 1, 0, 0, 0, 0) := by decide +kernel
theorem t350_1205 : zT 350 1205 = some (.goto 197, 3, 1402, 0, 0, 0) := by decide +kernel
theorem t350_1208 : zT 350 1208 = some (.aload_n 1, 1, 1, 0, 0, 0) := by decide +kernel
theorem t350_1209 : zT 350 1209 = some (.aload_n 0, 1, 0, 0, 0, 0) := by decide +kernel
theorem t350_1210 : zT 350 1210 = some (.iload_n 3, 1, 3, 0, 0, 0) := by decide +kernel
theorem t350_1211 : zT 350 1211 = some (.iconst 1, 1, 0, 0, 1, 0) := by decide +kernel
theorem t350_1212 : zT 350 1212 = some (.iadd, 1, 0, 0, 0, 0) := by decide +kernel
theorem t350_1213 : zT 350 1213 = some (.iaload, 1, 0, 0, 0, 0) := by decide +kernel
theorem t350_1214 : zT 350 1214 = some (.aload_n 0, 1, 0, 0, 0, 0) := by decide +kernel
theorem t350_1215 : zT 350 1215 = some (.iload_n 3, 1, 3, 0, 0, 0) := by decide +kernel
theorem t350_1216 : zT 350 1216 = some (.iconst 2, 1, 0, 0, 2, 0) := by decide +kernel
theorem t350_1217 : zT 350 1217 = some (.iadd, 1, 0, 0, 0, 0) := by decide +kernel
theorem t350_1218 : zT 350 1218 = some (.iaload, 1, 0, 0, 0, 0) := by decide +kernel
theorem t350_1219 : zT 350 1219 = some (.invokevirtual 156, 3, 206, 0, 0, 1526) := by decide +kernel
theorem t350_1222 : zT 350 1222 = some (.pop, 1, 0, 0, 0, 0) := by decide +kernel
theorem t350_1223 : zT 350 1223 = some (.aload_n 2, 1, 2, 0, 0, 0) := by decide +kernel
theorem t350_1224 : zT 350 1224 = some (.aload_n 0, 1, 0, 0, 0, 0) := by decide +kernel
theorem t350_1225 : zT 350 1225 = some (.iload_n 3, 1, 3, 0, 0, 0) := by decide +kernel
theorem t350_1226 : zT 350 1226 = some (.iconst 1, 1, 0, 0, 1, 0) := by decide +kernel
theorem t350_1227 : zT 350 1227 = some (.iadd, 1, 0, 0, 0, 0) := by decide +kernel
theorem t350_1228 : zT 350 1228 = some (.iaload, 1, 0, 0, 0, 0) := by decide +kernel
theorem t350_1229 : zT 350 1229 = some (.aload_n 0, 1, 0, 0, 0, 0) := by decide +kernel
theorem t350_1230 : zT 350 1230 = some (.iload_n 3, 1, 3, 0, 0, 0) := by decide +kernel
theorem t350_1231 : zT 350 1231 = some (.iconst 2, 1, 0, 0, 2, 0) := by decide +kernel
theorem t350_1232 : zT 350 1232 = some (.iadd, 1, 0, 0, 0, 0) := by decide +kernel
theorem t350_1233 : zT 350 1233 = some (.iaload, 1, 0, 0, 0, 0) := by decide +kernel
theorem t350_1234 : zT 350 1234 = some (.invokevirtual 159, 3, 335, 0, 0, 2207) := by decide +kernel
theorem t350_1237 : zT 350 1237 = some (.pop, 1, 0, 0, 0, 0) := by decide +kernel
theorem t350_1238 : zT 350 1238 = some (.goto 164, 3, 1402, 0, 0, 0) := by decide +kernel
theorem t350_1241 : zT 350 1241 = some (.aload_n 1, 1, 1, 0, 0, 0) := by decide +kernel
theorem t350_1242 : zT 350 1242 = some (.aload_n 0, 1, 0, 0, 0, 0) := by decide +kernel
theorem t350_1243 : zT 350 1243 = some (.iload_n 3, 1, 3, 0, 0, 0) := by decide +kernel
theorem t350_1244 : zT 350 1244 = some (.iconst 1, 1, 0, 0, 1, 0) := by decide +kernel
theorem t350_1245 : zT 350 1245 = some (.iadd, 1, 0, 0, 0, 0) := by decide +kernel
theorem t350_1246 : zT 350 1246 = some (.iaload, 1, 0, 0, 0, 0) := by decide +kernel
theorem t350_1247 : zT 350 1247 = some (.aload_n 0, 1, 0, 0, 0, 0) := by decide +kernel
theorem t350_1248 : zT 350 1248 = some (.iload_n 3, 1, 3, 0, 0, 0) := by decide +kernel
theorem t350_1249 : zT 350 1249 = some (.iconst 2, 1, 0, 0, 2, 0) := by decide +kernel
theorem t350_1250 : zT 350 1250 = some (.iadd, 1, 0, 0, 0, 0) := by decide +kernel
theorem t350_1251 : zT 350 1251 = some (.iaload, 1, 0, 0, 0, 0) := by decide +kernel
theorem t350_1252 : zT 350 1252 = some (.invokevirtual 160, 3, 207, 0, 0, 1531) := by decide +kernel
theorem t350_1255 : zT 350 1255 = some (.pop, 1, 0, 0, 0, 0) := by decide +kernel
theorem t350_1256 : zT 350 1256 = some (.aload_n 2, 1, 2, 0, 0, 0) := by decide +kernel
theorem t350_1257 : zT 350 1257 = some (.aload_n 0, 1, 0, 0, 0, 0) := by decide +kernel
theorem t350_1258 : zT 350 1258 = some (.iload_n 3, 1, 3, 0, 0, 0) := by decide +kernel
theorem t350_1259 : zT 350 1259 = some (.iconst 1, 1, 0, 0, 1, 0) := by decide +kernel
theorem t350_1260 : zT 350 1260 = some (.iadd, 1, 0, 0, 0, 0) := by decide +kernel
theorem t350_1261 : zT 350 1261 = some (.iaload, 1, 0, 0, 0, 0) := by decide +kernel
theorem t350_1262 : zT 350 1262 = some (.aload_n 0, 1, 0, 0, 0, 0) := by decide +kernel
theorem t350_1263 : zT 350 1263 = some (.iload_n 3, 1, 3, 0, 0, 0) := by decide +kernel
theorem t350_1264 : zT 350 1264 = some (.iconst 2, 1, 0, 0, 2, 0) := by decide +kernel
theorem t350_1265 : zT 350 1265 = some (.iadd, 1, 0, 0, 0, 0) := by decide +kernel
theorem t350_1266 : zT 350 1266 = some (.iaload, 1, 0, 0, 0, 0) := by decide +kernel
theorem t350_1267 : zT 350 1267 = some (.invokevirtual 163, 3, 302, 0, 0, 2067) := by decide +kernel
theorem t350_1270 : zT 350 1270 = some (.pop, 1, 0, 0, 0, 0) := by decide +kernel
theorem t350_1271 : zT 350 1271 = some (.goto 131, 3, 1402, 0, 0, 0) := by decide +kernel
theorem t350_1274 : zT 350 1274 = some (.aload_n 1, 1, 1, 0, 0, 0) := by decide +kernel
theorem t350_1275 : zT 350 1275 = some (.aload_n 0, 1, 0, 0, 0, 0) := by decide +kernel
theorem t350_1276 : zT 350 1276 = some (.iload_n 3, 1, 3, 0, 0, 0) := by decide +kernel
theorem t350_1277 : zT 350 1277 = some (.iconst 1, 1, 0, 0, 1, 0) := by decide +kernel
theorem t350_1278 : zT 350 1278 = some (.iadd, 1, 0, 0, 0, 0) := by decide +kernel
theorem t350_1279 : zT 350 1279 = some (.iaload, 1, 0, 0, 0, 0) := by decide +kernel
theorem t350_1280 : zT 350 1280 = some (.aload_n 0, 1, 0, 0, 0, 0) := by decide +kernel
theorem t350_1281 : zT 350 1281 = some (.iload_n 3, 1, 3, 0, 0, 0) := by decide +kernel
theorem t350_1282 : zT 350 1282 = some (.iconst 2, 1, 0, 0, 2, 0) := by decide +kernel
theorem t350_1283 : zT 350 1283 = some (.iadd, 1, 0, 0, 0, 0) := by decide +kernel
theorem t350_1284 : zT 350 1284 = some (.iaload, 1, 0, 0, 0, 0) := by decide +kernel
theorem t350_1285 : zT 350 1285 = some (.invokevirtual 164, 3, 210, 0, 0, 1544) := by decide +kernel
theorem t350_1288 : zT 350 1288 = some (.pop, 1, 0, 0, 0, 0) := by decide +kernel
theorem t350_1289 : zT 350 1289 = some (.aload_n 2, 1, 2, 0, 0, 0) := by decide +kernel
theorem t350_1290 : zT 350 1290 = some (.aload_n 0, 1, 0, 0, 0, 0) := by decide +kernel
theorem t350_1291 : zT 350 1291 = some (.iload_n 3, 1, 3, 0, 0, 0) := by decide +kernel
theorem t350_1292 : zT 350 1292 = some (.iconst 1, 1, 0, 0, 1, 0) := by decide +kernel
theorem t350_1293 : zT 350 1293 = some (.iadd, 1, 0, 0, 0, 0) := by decide +kernel
theorem t350_1294 : zT 350 1294 = some (.iaload, 1, 0, 0, 0, 0) := by decide +kernel
theorem t350_1295 : zT 350 1295 = some (.aload_n 0, 1, 0, 0, 0, 0) := by decide +kernel
theorem t350_1296 : zT 350 1296 = some (.iload_n 3, 1, 3, 0, 0, 0) := by decide +kernel
theorem t350_1297 : zT 350 1297 = some (.iconst 2, 1, 0, 0, 2, 0) := by decide +kernel
theorem t350_1298 : zT 350 1298 = some (.iadd, 1, 0, 0, 0, 0) := by decide +kernel
theorem t350_1299 : zT 350 1299 = some (.iaload, 1, 0, 0, 0, 0) := by decide +kernel
theorem t350_1300 : zT 350 1300 = some (.invokevirtual 167, 3, 341, 0, 0, 2232) := by decide +kernel
theorem t350_1303 : zT 350 1303 = some (.pop, 1, 0, 0, 0, 0) := by decide +kernel
theorem t350_1304 : zT 350 1304 = some (.goto 98, 3, 1402, 0, 0, 0) := by decide +kernel
theorem t350_1307 : zT 350 1307 = some (.aload_n 1, 1, 1, 0, 0, 0) := by decide +kernel
theorem t350_1308 : zT 350 1308 = some (.invokevirtual 168, 3, 212, 0, 0, 1552) := by decide +kernel
theorem t350_1311 : zT 350 1311 = some (.pop, 1, 0, 0, 0, 0) := by decide +kernel
theorem t350_1312 : zT 350 1312 = some (.aload_n 2, 1, 2, 0, 0, 0) := by decide +kernel
theorem t350_1313 : zT 350 1313 = some (.invokevirtual 171, 3, 225, 0, 0, 1762) := by decide +kernel
theorem t350_1316 : zT 350 1316 = some (.pop, 1, 0, 0, 0, 0) := by decide +kernel
theorem t350_1317 : zT 350 1317 = some (.goto 85, 3, 1402, 0, 0, 0) := by decide +kernel
theorem t350_1320 : zT 350 1320 = some (.aload_n 1, 1, 1, 0, 0, 0) := by decide +kernel
theorem t350_1321 : zT 350 1321 = some (.aload_n 0, 1, 0, 0, 0, 0) := by decide +kernel
theorem t350_1322 : zT 350 1322 = some (.iload_n 3, 1, 3, 0, 0, 0) := by decide +kernel
theorem t350_1323 : zT 350 1323 = some (.iconst 1, 1, 0, 0, 1, 0) := by decide +kernel
theorem t350_1324 : zT 350 1324 = some (.iadd, 1, 0, 0, 0, 0) := by decide +kernel
theorem t350_1325 : zT 350 1325 = some (.iaload, 1, 0, 0, 0, 0) := by decide +kernel
theorem t350_1326 : zT 350 1326 = some (.invokevirtual 172, 3, 214, 0, 0, 1560) := by decide +kernel
theorem t350_1329 : zT 350 1329 = some (.pop, 1, 0, 0, 0, 0) := by decide +kernel
theorem t350_1330 : zT 350 1330 = some (.aload_n 2, 1, 2, 0, 0, 0) := by decide +kernel
theorem t350_1331 : zT 350 1331 = some (.aload_n 0, 1, 0, 0, 0, 0) := by decide +kernel
theorem t350_1332 : zT 350 1332 = some (.iload_n 3, 1, 3, 0, 0, 0) := by decide +kernel
theorem t350_1333 : zT 350 1333 = some (.iconst 1, 1, 0, 0, 1, 0) := by decide +kernel
theorem t350_1334 : zT 350 1334 = some (.iadd, 1, 0, 0, 0, 0) := by decide +kernel
theorem t350_1335 : zT 350 1335 = some (.iaload, 1, 0, 0, 0, 0) := by decide +kernel
theorem t350_1336 : zT 350 1336 = some (.invokevirtual 176, 3, 227, 0, 0, 1770) := by decide +kernel
theorem t350_1339 : zT 350 1339 = some (.pop, 1, 0, 0, 0, 0) := by decide +kernel
theorem t350_1340 : zT 350 1340 = some (.goto 62, 3, 1402, 0, 0, 0) := by decide +kernel
theorem t350_1343 : zT 350 1343 = some (.aload_n 1, 1, 1, 0, 0, 0) := by decide +kernel
theorem t350_1344 : zT 350 1344 = some (.aload_n 0, 1, 0, 0, 0, 0) := by decide +kernel
theorem t350_1345 : zT 350 1345 = some (.iload_n 3, 1, 3, 0, 0, 0) := by decide +kernel
theorem t350_1346 : zT 350 1346 = some (.iconst 1, 1, 0, 0, 1, 0) := by decide +kernel
theorem t350_1347 : zT 350 1347 = some (.iadd, 1, 0, 0, 0, 0) := by decide +kernel
theorem t350_1348 : zT 350 1348 = some (.iaload, 1, 0, 0, 0, 0) := by decide +kernel
theorem t350_1349 : zT 350 1349 = some (.invokevirtual 177, 3, 216, 0, 0, 1568) := by decide +kernel
theorem t350_1352 : zT 350 1352 = some (.pop, 1, 0, 0, 0, 0) := by decide +kernel
theorem t350_1353 : zT 350 1353 = some (.aload_n 2, 1, 2, 0, 0, 0) := by decide +kernel
theorem t350_1354 : zT 350 1354 = some (.aload_n 0, 1, 0, 0, 0, 0) := by decide +kernel
theorem t350_1355 : zT 350 1355 = some (.iload_n 3, 1, 3, 0, 0, 0) := by decide +kernel
theorem t350_1356 : zT 350 1356 = some (.iconst 1, 1, 0, 0, 1, 0) := by decide +kernel
theorem t350_1357 : zT 350 1357 = some (.iadd, 1, 0, 0, 0, 0) := by decide +kernel
theorem t350_1358 : zT 350 1358 = some (.iaload, 1, 0, 0, 0, 0) := by decide +kernel
theorem t350_1359 : zT 350 1359 = some (.invokevirtual 180, 3, 229, 0, 0, 1777) := by decide +kernel
theorem t350_1362 : zT 350 1362 = some (.pop, 1, 0, 0, 0, 0) := by decide +kernel
theorem t350_1363 : zT 350 1363 = some (.goto 39, 3, 1402, 0, 0, 0) := by decide +kernel
theorem t350_1366 : zT 350 1366 = some (.aload_n 1, 1, 1, 0, 0, 0) := by decide +kernel
theorem t350_1367 : zT 350 1367 = some (.invokevirtual 181, 3, 219, 0, 0, 1581) := by decide +kernel
theorem t350_1370 : zT 350 1370 = some (.pop, 1, 0, 0, 0, 0) := by decide +kernel
theorem t350_1371 : zT 350 1371 = some (.aload_n 2, 1, 2, 0, 0, 0) := by decide +kernel
theorem t350_1372 : zT 350 1372 = some (.invokevirtual 184, 3, 346, 0, 0, 2257) := by decide +kernel
theorem t350_1375 : zT 350 1375 = some (.pop, 1, 0, 0, 0, 0) := by decide +kernel
theorem t350_1376 : zT 350 1376 = some (.goto 26, 3, 1402, 0, 0, 0) := by decide +kernel
theorem t350_1379 : zT 350 1379 = some (.aload_n 1, 1, 1, 0, 0, 0) := by decide +kernel
theorem t350_1380 : zT 350 1380 = some (.aload_n 0, 1, 0, 0, 0, 0) := by decide +kernel
theorem t350_1381 : zT 350 1381 = some (.iload_n 3, 1, 3, 0, 0, 0) := by decide +kernel
theorem t350_1382 : zT 350 1382 = some (.iconst 1, 1, 0, 0, 1, 0) := by decide +kernel
theorem t350_1383 : zT 350 1383 = some (.iadd, 1, 0, 0, 0, 0) := by decide +kernel
theorem t350_1384 : zT 350 1384 = some (.iaload, 1, 0, 0, 0, 0) := by decide +kernel
theorem t350_1385 : zT 350 1385 = some (.invokevirtual 185, 3, 223, 0, 0, 1597) := by decide +kernel
theorem t350_1388 : zT 350 1388 = some (.pop, 1, 0, 0, 0, 0) := by decide +kernel
theorem t350_1389 : zT 350 1389 = some (.aload_n 2, 1, 2, 0, 0, 0) := by decide +kernel
theorem t350_1390 : zT 350 1390 = some (.aload_n 0, 1, 0, 0, 0, 0) := by decide +kernel
theorem t350_1391 : zT 350 1391 = some (.iload_n 3, 1, 3, 0, 0, 0) := by decide +kernel
theorem t350_1392 : zT 350 1392 = some (.iconst 1, 1, 0, 0, 1, 0) := by decide +kernel
theorem t350_1393 : zT 350 1393 = some (.iadd, 1, 0, 0, 0, 0) := by decide +kernel
theorem t350_1394 : zT 350 1394 = some (.iaload, 1, 0, 0, 0, 0) := by decide +kernel
theorem t350_1395 : zT 350 1395 = some (.invokevirtual 188, 3, 349, 0, 0, 2269) := by decide +kernel
theorem t350_1398 : zT 350 1398 = some (.pop, 1, 0, 0, 0, 0) := by decide +kernel
theorem t350_1399 : zT 350 1399 = some (.goto 3, 3, 1402, 0, 0, 0) := by decide +kernel
theorem t350_1402 : zT 350 1402 = some (.iinc 3 6, 3, 0, 0, 0, 0) := by decide +kernel
theorem t350_1405 : zT 350 1405 = some (.goto (-1387), 3, 18, 0, 0, 0) := by decide +kernel
theorem t350_1408 : zT 350 1408 = some (.iconst 1, 1, 0, 0, 1, 0) := by decide +kernel
theorem t350_1409 : zT 350 1409 = some (.ireturn, 1, 0, 0, 0, 0) := by decide +kernel
