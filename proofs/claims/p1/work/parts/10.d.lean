theorem mf14 : zmf 14 6 11 1 6 := by unfold zmf; decide +kernel
theorem mf231 : zmf 231 6 12 1 6 := by unfold zmf; decide +kernel
theorem t350_0 : zT 350 0 = some (.new 7, 3, 11, 0, 0, 128) := by decide +kernel
theorem t350_3 : zT 350 3 = some (.dup, 1, 0, 0, 0, 0) := by decide +kernel
theorem t350_4 : zT 350 4 = some (.invokespecial 9, 3, 0, 3, 0, 130) := by decide +kernel
theorem t350_7 : zT 350 7 = some (.astore_n 1, 1, 1, 0, 0, 0) := by decide +kernel
theorem t350_8 : zT 350 8 = some (.new 10, 3, 12, 0, 0, 1601) := by decide +kernel
theorem t350_11 : zT 350 11 = some (.dup, 1, 0, 0, 0, 0) := by decide +kernel
theorem t350_12 : zT 350 12 = some (.invokespecial 12, 3, 224, 3, 0, 1603) := by decide +kernel
theorem t350_15 : zT 350 15 = some (.astore_n 2, 1, 2, 0, 0, 0) := by decide +kernel
theorem t350_16 : zT 350 16 = some (.iconst 0, 1, 0, 0, 0, 0) := by decide +kernel
theorem t350_17 : zT 350 17 = some (.istore_n 3, 1, 3, 0, 0, 0) := by decide +kernel
theorem t350_18 : zT 350 18 = some (.iload_n 3, 1, 3, 0, 0, 0) := by decide +kernel
theorem t350_19 : zT 350 19 = some (.aload_n 0, 1, 0, 0, 0, 0) := by decide +kernel
theorem t350_20 : zT 350 20 = some (.arraylength, 1, 0, 0, 0, 0) := by decide +kernel
theorem t350_21 : zT 350 21 = some (.bipush 6, 2, 0, 0, 6, 0) := by decide +kernel
theorem t350_23 : zT 350 23 = some (.isub, 1, 0, 0, 0, 0) := by decide +kernel
theorem t350_24 : zT 350 24 = some (.if_icmp .gt 1386, 3, 1410, 0, 0, 0) := by decide +kernel
theorem t350_27 : zT 350 27 = some (.aload_n 0, 1, 0, 0, 0, 0) := by decide +kernel
theorem t350_28 : zT 350 28 = some (.iload_n 3, 1, 3, 0, 0, 0) := by decide +kernel
theorem t350_29 : zT 350 29 = some (.iaload, 1, 0, 0, 0, 0) := by decide +kernel
theorem t350_30 : zT 350 30 = some (.bipush 63, 2, 0, 0, 63, 0) := by decide +kernel
theorem t350_32 : zT 350 32 = some (.iand, 1, 0, 0, 0, 0) := by decide +kernel
theorem t350_33 : zT 350 33 = some (.tableswitch 1371 0 41 #[183, 246, 269, 282, 295, 308, 321, 334, 357, 390, 423, 456, 499, 542, 565, 598, 631, 665, 698, 711, 734, 747, 810, 853, 876, 899, 942, 965, 988, 1011, 1055, 1088, 1111, 1144, 1177, 1210, 1243, 1276, 1289, 1312, 1335, 1348], 183, 0, 0, 0, 0) := by decide +kernel
theorem t350_216 : zT 350 216 = some (.aload_n 1, 1, 1, 0, 0, 0) := by decide +kernel
theorem t350_217 : zT 350 217 = some (.aload_n 0, 1, 0, 0, 0, 0) := by decide +kernel
theorem t350_218 : zT 350 218 = some (.iload_n 3, 1, 3, 0, 0, 0) := by decide +kernel
theorem t350_219 : zT 350 219 = some (.iconst 1, 1, 0, 0, 1, 0) := by decide +kernel
theorem t350_220 : zT 350 220 = some (.iadd, 1, 0, 0, 0, 0) := by decide +kernel
theorem t350_221 : zT 350 221 = some (.iaload, 1, 0, 0, 0, 0) := by decide +kernel
theorem t350_222 : zT 350 222 = some (.aload_n 0, 1, 0, 0, 0, 0) := by decide +kernel
theorem t350_223 : zT 350 223 = some (.iload_n 3, 1, 3, 0, 0, 0) := by decide +kernel
theorem t350_224 : zT 350 224 = some (.iconst 2, 1, 0, 0, 2, 0) := by decide +kernel
theorem t350_225 : zT 350 225 = some (.iadd, 1, 0, 0, 0, 0) := by decide +kernel
theorem t350_226 : zT 350 226 = some (.iaload, 1, 0, 0, 0, 0) := by decide +kernel
theorem t350_227 : zT 350 227 = some (.aload_n 0, 1, 0, 0, 0, 0) := by decide +kernel
theorem t350_228 : zT 350 228 = some (.iload_n 3, 1, 3, 0, 0, 0) := by decide +kernel
theorem t350_229 : zT 350 229 = some (.iconst 3, 1, 0, 0, 3, 0) := by decide +kernel
theorem t350_230 : zT 350 230 = some (.iadd, 1, 0, 0, 0, 0) := by decide +kernel
theorem t350_231 : zT 350 231 = some (.iaload, 1, 0, 0, 0, 0) := by decide +kernel
theorem t350_232 : zT 350 232 = some (.aload_n 0, 1, 0, 0, 0, 0) := by decide +kernel
theorem t350_233 : zT 350 233 = some (.iload_n 3, 1, 3, 0, 0, 0) := by decide +kernel
theorem t350_234 : zT 350 234 = some (.iconst 4, 1, 0, 0, 4, 0) := by decide +kernel
theorem t350_235 : zT 350 235 = some (.iadd, 1, 0, 0, 0, 0) := by decide +kernel
theorem t350_236 : zT 350 236 = some (.iaload, 1, 0, 0, 0, 0) := by decide +kernel
theorem t350_237 : zT 350 237 = some (.aload_n 0, 1, 0, 0, 0, 0) := by decide +kernel
theorem t350_238 : zT 350 238 = some (.iload_n 3, 1, 3, 0, 0, 0) := by decide +kernel
theorem t350_239 : zT 350 239 = some (.iconst 5, 1, 0, 0, 5, 0) := by decide +kernel
theorem t350_240 : zT 350 240 = some (.iadd, 1, 0, 0, 0, 0) := by decide +kernel
theorem t350_241 : zT 350 241 = some (.iaload, 1, 0, 0, 0, 0) := by decide +kernel
theorem t350_242 : zT 350 242 = some (.invokevirtual 13, 3, 14, 0, 0, 638) := by decide +kernel
theorem t350_245 : zT 350 245 = some (.aload_n 2, 1, 2, 0, 0, 0) := by decide +kernel
theorem t350_246 : zT 350 246 = some (.aload_n 0, 1, 0, 0, 0, 0) := by decide +kernel
theorem t350_247 : zT 350 247 = some (.iload_n 3, 1, 3, 0, 0, 0) := by decide +kernel
theorem t350_248 : zT 350 248 = some (.iconst 1, 1, 0, 0, 1, 0) := by decide +kernel
theorem t350_249 : zT 350 249 = some (.iadd, 1, 0, 0, 0, 0) := by decide +kernel
theorem t350_250 : zT 350 250 = some (.iaload, 1, 0, 0, 0, 0) := by decide +kernel
theorem t350_251 : zT 350 251 = some (.aload_n 0, 1, 0, 0, 0, 0) := by decide +kernel
theorem t350_252 : zT 350 252 = some (.iload_n 3, 1, 3, 0, 0, 0) := by decide +kernel
theorem t350_253 : zT 350 253 = some (.iconst 2, 1, 0, 0, 2, 0) := by decide +kernel
theorem t350_254 : zT 350 254 = some (.iadd, 1, 0, 0, 0, 0) := by decide +kernel
theorem t350_255 : zT 350 255 = some (.iaload, 1, 0, 0, 0, 0) := by decide +kernel
theorem t350_256 : zT 350 256 = some (.aload_n 0, 1, 0, 0, 0, 0) := by decide +kernel
theorem t350_257 : zT 350 257 = some (.iload_n 3, 1, 3, 0, 0, 0) := by decide +kernel
theorem t350_258 : zT 350 258 = some (.iconst 3, 1, 0, 0, 3, 0) := by decide +kernel
theorem t350_259 : zT 350 259 = some (.iadd, 1, 0, 0, 0, 0) := by decide +kernel
theorem t350_260 : zT 350 260 = some (.iaload, 1, 0, 0, 0, 0) := by decide +kernel
theorem t350_261 : zT 350 261 = some (.aload_n 0, 1, 0, 0, 0, 0) := by decide +kernel
theorem t350_262 : zT 350 262 = some (.iload_n 3, 1, 3, 0, 0, 0) := by decide +kernel
theorem t350_263 : zT 350 263 = some (.iconst 4, 1, 0, 0, 4, 0) := by decide +kernel
theorem t350_264 : zT 350 264 = some (.iadd, 1, 0, 0, 0, 0) := by decide +kernel
theorem t350_265 : zT 350 265 = some (.iaload, 1, 0, 0, 0, 0) := by decide +kernel
theorem t350_266 : zT 350 266 = some (.aload_n 0, 1, 0, 0, 0, 0) := by decide +kernel
theorem t350_267 : zT 350 267 = some (.iload_n 3, 1, 3, 0, 0, 0) := by decide +kernel
theorem t350_268 : zT 350 268 = some (.iconst 5, 1, 0, 0, 5, 0) := by decide +kernel
theorem t350_269 : zT 350 269 = some (.iadd, 1, 0, 0, 0, 0) := by decide +kernel
theorem t350_270 : zT 350 270 = some (.iaload, 1, 0, 0, 0, 0) := by decide +kernel
theorem t350_271 : zT 350 271 = some (.invokevirtual 17, 3, 231, 0, 0, 1785) := by decide +kernel
theorem t350_274 : zT 350 274 = some (.if_icmp .eq 1130, 3, 1404, 0, 0, 0) := by decide +kernel
theorem t350_279 : zT 350 279 = some (.aload_n 1, 1, 1, 0, 0, 0) := by decide +kernel
theorem t350_280 : zT 350 280 = some (.aload_n 0, 1, 0, 0, 0, 0) := by decide +kernel
theorem t350_281 : zT 350 281 = some (.iload_n 3, 1, 3, 0, 0, 0) := by decide +kernel
theorem t350_282 : zT 350 282 = some (.iconst 1, 1, 0, 0, 1, 0) := by decide +kernel
theorem t350_283 : zT 350 283 = some (.iadd, 1, 0, 0, 0, 0) := by decide +kernel
theorem t350_284 : zT 350 284 = some (.iaload, 1, 0, 0, 0, 0) := by decide +kernel
theorem t350_285 : zT 350 285 = some (.invokevirtual 18, 3, 18, 0, 0, 654) := by decide +kernel
theorem t350_288 : zT 350 288 = some (.aload_n 2, 1, 2, 0, 0, 0) := by decide +kernel
theorem t350_289 : zT 350 289 = some (.aload_n 0, 1, 0, 0, 0, 0) := by decide +kernel
theorem t350_290 : zT 350 290 = some (.iload_n 3, 1, 3, 0, 0, 0) := by decide +kernel
theorem t350_291 : zT 350 291 = some (.iconst 1, 1, 0, 0, 1, 0) := by decide +kernel
theorem t350_292 : zT 350 292 = some (.iadd, 1, 0, 0, 0, 0) := by decide +kernel
theorem t350_293 : zT 350 293 = some (.iaload, 1, 0, 0, 0, 0) := by decide +kernel
theorem t350_294 : zT 350 294 = some (.invokevirtual 22, 3, 233, 0, 0, 1793) := by decide +kernel
theorem t350_297 : zT 350 297 = some (.if_icmp .eq 1107, 3, 1404, 0, 0, 0) := by decide +kernel
theorem t350_302 : zT 350 302 = some (.aload_n 1, 1, 1, 0, 0, 0) := by decide +kernel
theorem t350_303 : zT 350 303 = some (.invokevirtual 23, 3, 22, 0, 0, 668) := by decide +kernel
theorem t350_306 : zT 350 306 = some (.aload_n 2, 1, 2, 0, 0, 0) := by decide +kernel
theorem t350_307 : zT 350 307 = some (.invokevirtual 27, 3, 235, 0, 0, 1801) := by decide +kernel
theorem t350_310 : zT 350 310 = some (.if_icmp .eq 1094, 3, 1404, 0, 0, 0) := by decide +kernel
theorem t350_315 : zT 350 315 = some (.aload_n 1, 1, 1, 0, 0, 0) := by decide +kernel
theorem t350_316 : zT 350 316 = some (.invokevirtual 28, 3, 62, 0, 0, 835) := by decide +kernel
theorem t350_319 : zT 350 319 = some (.aload_n 2, 1, 2, 0, 0, 0) := by decide +kernel
theorem t350_320 : zT 350 320 = some (.invokevirtual 31, 3, 254, 0, 0, 1879) := by decide +kernel
theorem t350_323 : zT 350 323 = some (.if_icmp .eq 1081, 3, 1404, 0, 0, 0) := by decide +kernel
theorem t350_328 : zT 350 328 = some (.aload_n 1, 1, 1, 0, 0, 0) := by decide +kernel
theorem t350_329 : zT 350 329 = some (.invokevirtual 32, 3, 82, 0, 0, 969) := by decide +kernel
theorem t350_332 : zT 350 332 = some (.aload_n 2, 1, 2, 0, 0, 0) := by decide +kernel
theorem t350_333 : zT 350 333 = some (.invokevirtual 35, 3, 342, 0, 0, 2237) := by decide +kernel
theorem t350_336 : zT 350 336 = some (.if_icmp .eq 1068, 3, 1404, 0, 0, 0) := by decide +kernel
theorem t350_341 : zT 350 341 = some (.aload_n 1, 1, 1, 0, 0, 0) := by decide +kernel
theorem t350_342 : zT 350 342 = some (.invokevirtual 36, 3, 97, 0, 0, 1034) := by decide +kernel
theorem t350_345 : zT 350 345 = some (.aload_n 2, 1, 2, 0, 0, 0) := by decide +kernel
theorem t350_346 : zT 350 346 = some (.invokevirtual 39, 3, 234, 0, 0, 1797) := by decide +kernel
theorem t350_349 : zT 350 349 = some (.if_icmp .eq 1055, 3, 1404, 0, 0, 0) := by decide +kernel
theorem t350_354 : zT 350 354 = some (.aload_n 1, 1, 1, 0, 0, 0) := by decide +kernel
theorem t350_355 : zT 350 355 = some (.invokevirtual 40, 3, 98, 0, 0, 1038) := by decide +kernel
theorem t350_358 : zT 350 358 = some (.aload_n 2, 1, 2, 0, 0, 0) := by decide +kernel
theorem t350_359 : zT 350 359 = some (.invokevirtual 43, 3, 345, 0, 0, 2253) := by decide +kernel
theorem t350_362 : zT 350 362 = some (.if_icmp .eq 1042, 3, 1404, 0, 0, 0) := by decide +kernel
theorem t350_367 : zT 350 367 = some (.aload_n 1, 1, 1, 0, 0, 0) := by decide +kernel
theorem t350_368 : zT 350 368 = some (.aload_n 0, 1, 0, 0, 0, 0) := by decide +kernel
theorem t350_369 : zT 350 369 = some (.iload_n 3, 1, 3, 0, 0, 0) := by decide +kernel
theorem t350_370 : zT 350 370 = some (.iconst 1, 1, 0, 0, 1, 0) := by decide +kernel
theorem t350_371 : zT 350 371 = some (.iadd, 1, 0, 0, 0, 0) := by decide +kernel
theorem t350_372 : zT 350 372 = some (.iaload, 1, 0, 0, 0, 0) := by decide +kernel
theorem t350_373 : zT 350 373 = some (.invokevirtual 44, 3, 99, 0, 0, 1042) := by decide +kernel
theorem t350_376 : zT 350 376 = some (.aload_n 2, 1, 2, 0, 0, 0) := by decide +kernel
theorem t350_377 : zT 350 377 = some (.aload_n 0, 1, 0, 0, 0, 0) := by decide +kernel
theorem t350_378 : zT 350 378 = some (.iload_n 3, 1, 3, 0, 0, 0) := by decide +kernel
theorem t350_379 : zT 350 379 = some (.iconst 1, 1, 0, 0, 1, 0) := by decide +kernel
theorem t350_380 : zT 350 380 = some (.iadd, 1, 0, 0, 0, 0) := by decide +kernel
theorem t350_381 : zT 350 381 = some (.iaload, 1, 0, 0, 0, 0) := by decide +kernel
theorem t350_382 : zT 350 382 = some (.invokevirtual 47, 3, 304, 0, 0, 2075) := by decide +kernel
theorem t350_385 : zT 350 385 = some (.if_icmp .eq 1019, 3, 1404, 0, 0, 0) := by decide +kernel
theorem t350_390 : zT 350 390 = some (.aload_n 1, 1, 1, 0, 0, 0) := by decide +kernel
theorem t350_391 : zT 350 391 = some (.aload_n 0, 1, 0, 0, 0, 0) := by decide +kernel
theorem t350_392 : zT 350 392 = some (.iload_n 3, 1, 3, 0, 0, 0) := by decide +kernel
theorem t350_393 : zT 350 393 = some (.iconst 1, 1, 0, 0, 1, 0) := by decide +kernel
theorem t350_394 : zT 350 394 = some (.iadd, 1, 0, 0, 0, 0) := by decide +kernel
theorem t350_395 : zT 350 395 = some (.iaload, 1, 0, 0, 0, 0) := by decide +kernel
theorem t350_396 : zT 350 396 = some (.aload_n 0, 1, 0, 0, 0, 0) := by decide +kernel
theorem t350_397 : zT 350 397 = some (.iload_n 3, 1, 3, 0, 0, 0) := by decide +kernel
theorem t350_398 : zT 350 398 = some (.iconst 2, 1, 0, 0, 2, 0) := by decide +kernel
theorem t350_399 : zT 350 399 = some (.iadd, 1, 0, 0, 0, 0) := by decide +kernel
theorem t350_400 : zT 350 400 = some (.iaload, 1, 0, 0, 0, 0) := by decide +kernel
theorem t350_401 : zT 350 401 = some (.invokevirtual 48, 3, 102, 0, 0, 1054) := by decide +kernel
theorem t350_404 : zT 350 404 = some (.aload_n 2, 1, 2, 0, 0, 0) := by decide +kernel
theorem t350_405 : zT 350 405 = some (.aload_n 0, 1, 0, 0, 0, 0) := by decide +kernel
theorem t350_406 : zT 350 406 = some (.iload_n 3, 1, 3, 0, 0, 0) := by decide +kernel
theorem t350_407 : zT 350 407 = some (.iconst 1, 1, 0, 0, 1, 0) := by decide +kernel
theorem t350_408 : zT 350 408 = some (.iadd, 1, 0, 0, 0, 0) := by decide +kernel
theorem t350_409 : zT 350 409 = some (.iaload, 1, 0, 0, 0, 0) := by decide +kernel
theorem t350_410 : zT 350 410 = some (.aload_n 0, 1, 0, 0, 0, 0) := by decide +kernel
theorem t350_411 : zT 350 411 = some (.iload_n 3, 1, 3, 0, 0, 0) := by decide +kernel
theorem t350_412 : zT 350 412 = some (.iconst 2, 1, 0, 0, 2, 0) := by decide +kernel
theorem t350_413 : zT 350 413 = some (.iadd, 1, 0, 0, 0, 0) := by decide +kernel
theorem t350_414 : zT 350 414 = some (.iaload, 1, 0, 0, 0, 0) := by decide +kernel
theorem t350_415 : zT 350 415 = some (.invokevirtual 52, 3, 305, 0, 0, 2080) := by decide +kernel
theorem t350_418 : zT 350 418 = some (.if_icmp .eq 986, 3, 1404, 0, 0, 0) := by decide +kernel
theorem t350_423 : zT 350 423 = some (.aload_n 1, 1, 1, 0, 0, 0) := by decide +kernel
theorem t350_424 : zT 350 424 = some (.aload_n 0, 1, 0, 0, 0, 0) := by decide +kernel
theorem t350_425 : zT 350 425 = some (.iload_n 3, 1, 3, 0, 0, 0) := by decide +kernel
theorem t350_426 : zT 350 426 = some (.iconst 1, 1, 0, 0, 1, 0) := by decide +kernel
theorem t350_427 : zT 350 427 = some (.iadd, 1, 0, 0, 0, 0) := by decide +kernel
theorem t350_428 : zT 350 428 = some (.iaload, 1, 0, 0, 0, 0) := by decide +kernel
theorem t350_429 : zT 350 429 = some (.aload_n 0, 1, 0, 0, 0, 0) := by decide +kernel
theorem t350_430 : zT 350 430 = some (.iload_n 3, 1, 3, 0, 0, 0) := by decide +kernel
theorem t350_431 : zT 350 431 = some (.iconst 2, 1, 0, 0, 2, 0) := by decide +kernel
theorem t350_432 : zT 350 432 = some (.iadd, 1, 0, 0, 0, 0) := by decide +kernel
theorem t350_433 : zT 350 433 = some (.iaload, 1, 0, 0, 0, 0) := by decide +kernel
theorem t350_434 : zT 350 434 = some (.invokevirtual 53, 3, 104, 0, 0, 1062) := by decide +kernel
theorem t350_437 : zT 350 437 = some (.aload_n 2, 1, 2, 0, 0, 0) := by decide +kernel
theorem t350_438 : zT 350 438 = some (.aload_n 0, 1, 0, 0, 0, 0) := by decide +kernel
theorem t350_439 : zT 350 439 = some (.iload_n 3, 1, 3, 0, 0, 0) := by decide +kernel
theorem t350_440 : zT 350 440 = some (.iconst 1, 1, 0, 0, 1, 0) := by decide +kernel
theorem t350_441 : zT 350 441 = some (.iadd, 1, 0, 0, 0, 0) := by decide +kernel
theorem t350_442 : zT 350 442 = some (.iaload, 1, 0, 0, 0, 0) := by decide +kernel
theorem t350_443 : zT 350 443 = some (.aload_n 0, 1, 0, 0, 0, 0) := by decide +kernel
theorem t350_444 : zT 350 444 = some (.iload_n 3, 1, 3, 0, 0, 0) := by decide +kernel
theorem t350_445 : zT 350 445 = some (.iconst 2, 1, 0, 0, 2, 0) := by decide +kernel
theorem t350_446 : zT 350 446 = some (.iadd, 1, 0, 0, 0, 0) := by decide +kernel
theorem t350_447 : zT 350 447 = some (.iaload, 1, 0, 0, 0, 0) := by decide +kernel
theorem t350_448 : zT 350 448 = some (.invokevirtual 56, 3, 307, 0, 0, 2088) := by decide +kernel
theorem t350_451 : zT 350 451 = some (.if_icmp .eq 953, 3, 1404, 0, 0, 0) := by decide +kernel
theorem t350_456 : zT 350 456 = some (.aload_n 1, 1, 1, 0, 0, 0) := by decide +kernel
theorem t350_457 : zT 350 457 = some (.aload_n 0, 1, 0, 0, 0, 0) := by decide +kernel
theorem t350_458 : zT 350 458 = some (.iload_n 3, 1, 3, 0, 0, 0) := by decide +kernel
theorem t350_459 : zT 350 459 = some (.iconst 1, 1, 0, 0, 1, 0) := by decide +kernel
theorem t350_460 : zT 350 460 = some (.iadd, 1, 0, 0, 0, 0) := by decide +kernel
theorem t350_461 : zT 350 461 = some (.iaload, 1, 0, 0, 0, 0) := by decide +kernel
theorem t350_462 : zT 350 462 = some (.aload_n 0, 1, 0, 0, 0, 0) := by decide +kernel
theorem t350_463 : zT 350 463 = some (.iload_n 3, 1, 3, 0, 0, 0) := by decide +kernel
theorem t350_464 : zT 350 464 = some (.iconst 2, 1, 0, 0, 2, 0) := by decide +kernel
theorem t350_465 : zT 350 465 = some (.iadd, 1, 0, 0, 0, 0) := by decide +kernel
theorem t350_466 : zT 350 466 = some (.iaload, 1, 0, 0, 0, 0) := by decide +kernel
theorem t350_467 : zT 350 467 = some (.invokevirtual 57, 3, 143, 0, 0, 1231) := by decide +kernel
theorem t350_470 : zT 350 470 = some (.aload_n 2, 1, 2, 0, 0, 0) := by decide +kernel
theorem t350_471 : zT 350 471 = some (.aload_n 0, 1, 0, 0, 0, 0) := by decide +kernel
theorem t350_472 : zT 350 472 = some (.iload_n 3, 1, 3, 0, 0, 0) := by decide +kernel
theorem t350_473 : zT 350 473 = some (.iconst 1, 1, 0, 0, 1, 0) := by decide +kernel
theorem t350_474 : zT 350 474 = some (.iadd, 1, 0, 0, 0, 0) := by decide +kernel
theorem t350_475 : zT 350 475 = some (.iaload, 1, 0, 0, 0, 0) := by decide +kernel
theorem t350_476 : zT 350 476 = some (.aload_n 0, 1, 0, 0, 0, 0) := by decide +kernel
theorem t350_477 : zT 350 477 = some (.iload_n 3, 1, 3, 0, 0, 0) := by decide +kernel
theorem t350_478 : zT 350 478 = some (.iconst 2, 1, 0, 0, 2, 0) := by decide +kernel
theorem t350_479 : zT 350 479 = some (.iadd, 1, 0, 0, 0, 0) := by decide +kernel
theorem t350_480 : zT 350 480 = some (.iaload, 1, 0, 0, 0, 0) := by decide +kernel
theorem t350_481 : zT 350 481 = some (.invokevirtual 60, 3, 309, 0, 0, 2096) := by decide +kernel
theorem t350_484 : zT 350 484 = some (.if_icmp .eq 920, 3, 1404, 0, 0, 0) := by decide +kernel
theorem t350_489 : zT 350 489 = some (.aload_n 1, 1, 1, 0, 0, 0) := by decide +kernel
theorem t350_490 : zT 350 490 = some (.aload_n 0, 1, 0, 0, 0, 0) := by decide +kernel
theorem t350_491 : zT 350 491 = some (.iload_n 3, 1, 3, 0, 0, 0) := by decide +kernel
theorem t350_492 : zT 350 492 = some (.iconst 1, 1, 0, 0, 1, 0) := by decide +kernel
theorem t350_493 : zT 350 493 = some (.iadd, 1, 0, 0, 0, 0) := by decide +kernel
theorem t350_494 : zT 350 494 = some (.iaload, 1, 0, 0, 0, 0) := by decide +kernel
theorem t350_495 : zT 350 495 = some (.aload_n 0, 1, 0, 0, 0, 0) := by decide +kernel
theorem t350_496 : zT 350 496 = some (.iload_n 3, 1, 3, 0, 0, 0) := by decide +kernel
theorem t350_497 : zT 350 497 = some (.iconst 2, 1, 0, 0, 2, 0) := by decide +kernel
theorem t350_498 : zT 350 498 = some (.iadd, 1, 0, 0, 0, 0) := by decide +kernel
theorem t350_499 : zT 350 499 = some (.iaload, 1, 0, 0, 0, 0) := by decide +kernel
theorem t350_500 : zT 350 500 = some (.aload_n 0, 1, 0, 0, 0, 0) := by decide +kernel
theorem t350_501 : zT 350 501 = some (.iload_n 3, 1, 3, 0, 0, 0) := by decide +kernel
theorem t350_502 : zT 350 502 = some (.iconst 3, 1, 0, 0, 3, 0) := by decide +kernel
theorem t350_503 : zT 350 503 = some (.iadd, 1, 0, 0, 0, 0) := by decide +kernel
theorem t350_504 : zT 350 504 = some (.iaload, 1, 0, 0, 0, 0) := by decide +kernel
theorem t350_505 : zT 350 505 = some (.invokevirtual 61, 3, 147, 0, 0, 1250) := by decide +kernel
theorem t350_508 : zT 350 508 = some (.aload_n 2, 1, 2, 0, 0, 0) := by decide +kernel
theorem t350_509 : zT 350 509 = some (.aload_n 0, 1, 0, 0, 0, 0) := by decide +kernel
theorem t350_510 : zT 350 510 = some (.iload_n 3, 1, 3, 0, 0, 0) := by decide +kernel
theorem t350_511 : zT 350 511 = some (.iconst 1, 1, 0, 0, 1, 0) := by decide +kernel
theorem t350_512 : zT 350 512 = some (.iadd, 1, 0, 0, 0, 0) := by decide +kernel
theorem t350_513 : zT 350 513 = some (.iaload, 1, 0, 0, 0, 0) := by decide +kernel
theorem t350_514 : zT 350 514 = some (.aload_n 0, 1, 0, 0, 0, 0) := by decide +kernel
theorem t350_515 : zT 350 515 = some (.iload_n 3, 1, 3, 0, 0, 0) := by decide +kernel
theorem t350_516 : zT 350 516 = some (.iconst 2, 1, 0, 0, 2, 0) := by decide +kernel
theorem t350_517 : zT 350 517 = some (.iadd, 1, 0, 0, 0, 0) := by decide +kernel
theorem t350_518 : zT 350 518 = some (.iaload, 1, 0, 0, 0, 0) := by decide +kernel
theorem t350_519 : zT 350 519 = some (.aload_n 0, 1, 0, 0, 0, 0) := by decide +kernel
theorem t350_520 : zT 350 520 = some (.iload_n 3, 1, 3, 0, 0, 0) := by decide +kernel
theorem t350_521 : zT 350 521 = some (.iconst 3, 1, 0, 0, 3, 0) := by decide +kernel
theorem t350_522 : zT 350 522 = some (.iadd, 1, 0, 0, 0, 0) := by decide +kernel
theorem t350_523 : zT 350 523 = some (.iaload, 1, 0, 0, 0, 0) := by decide +kernel
theorem t350_524 : zT 350 524 = some (.invokevirtual 65, 3, 314, 0, 0, 2117) := by decide +kernel
theorem t350_527 : zT 350 527 = some (.if_icmp .eq 877, 3, 1404, 0, 0, 0) := by decide +kernel
theorem t350_532 : zT 350 532 = some (.aload_n 1, 1, 1, 0, 0, 0) := by decide +kernel
theorem t350_533 : zT 350 533 = some (.aload_n 0, 1, 0, 0, 0, 0) := by decide +kernel
theorem t350_534 : zT 350 534 = some (.iload_n 3, 1, 3, 0, 0, 0) := by decide +kernel
theorem t350_535 : zT 350 535 = some (.iconst 1, 1, 0, 0, 1, 0) := by decide +kernel
theorem t350_536 : zT 350 536 = some (.iadd, 1, 0, 0, 0, 0) := by decide +kernel
theorem t350_537 : zT 350 537 = some (.iaload, 1, 0, 0, 0, 0) := by decide +kernel
theorem t350_538 : zT 350 538 = some (.aload_n 0, 1, 0, 0, 0, 0) := by decide +kernel
theorem t350_539 : zT 350 539 = some (.iload_n 3, 1, 3, 0, 0, 0) := by decide +kernel
theorem t350_540 : zT 350 540 = some (.iconst 2, 1, 0, 0, 2, 0) := by decide +kernel
theorem t350_541 : zT 350 541 = some (.iadd, 1, 0, 0, 0, 0) := by decide +kernel
theorem t350_542 : zT 350 542 = some (.iaload, 1, 0, 0, 0, 0) := by decide +kernel
theorem t350_543 : zT 350 543 = some (.aload_n 0, 1, 0, 0, 0, 0) := by decide +kernel
theorem t350_544 : zT 350 544 = some (.iload_n 3, 1, 3, 0, 0, 0) := by decide +kernel
theorem t350_545 : zT 350 545 = some (.iconst 3, 1, 0, 0, 3, 0) := by decide +kernel
theorem t350_546 : zT 350 546 = some (.iadd, 1, 0, 0, 0, 0) := by decide +kernel
theorem t350_547 : zT 350 547 = some (.iaload, 1, 0, 0, 0, 0) := by decide +kernel
theorem t350_548 : zT 350 548 = some (.invokevirtual 66, 3, 148, 0, 0, 1256) := by decide +kernel
theorem t350_551 : zT 350 551 = some (.aload_n 2, 1, 2, 0, 0, 0) := by decide +kernel
theorem t350_552 : zT 350 552 = some (.aload_n 0, 1, 0, 0, 0, 0) := by decide +kernel
theorem t350_553 : zT 350 553 = some (.iload_n 3, 1, 3, 0, 0, 0) := by decide +kernel
theorem t350_554 : zT 350 554 = some (.iconst 1, 1, 0, 0, 1, 0) := by decide +kernel
theorem t350_555 : zT 350 555 = some (.iadd, 1, 0, 0, 0, 0) := by decide +kernel
theorem t350_556 : zT 350 556 = some (.iaload, 1, 0, 0, 0, 0) := by decide +kernel
theorem t350_557 : zT 350 557 = some (.aload_n 0, 1, 0, 0, 0, 0) := by decide +kernel
theorem t350_558 : zT 350 558 = some (.iload_n 3, 1, 3, 0, 0, 0) := by decide +kernel
theorem t350_559 : zT 350 559 = some (.iconst 2, 1, 0, 0, 2, 0) := by decide +kernel
theorem t350_560 : zT 350 560 = some (.iadd, 1, 0, 0, 0, 0) := by decide +kernel
theorem t350_561 : zT 350 561 = some (.iaload, 1, 0, 0, 0, 0) := by decide +kernel
theorem t350_562 : zT 350 562 = some (.aload_n 0, 1, 0, 0, 0, 0) := by decide +kernel
theorem t350_563 : zT 350 563 = some (.iload_n 3, 1, 3, 0, 0, 0) := by decide +kernel
theorem t350_564 : zT 350 564 = some (.iconst 3, 1, 0, 0, 3, 0) := by decide +kernel
theorem t350_565 : zT 350 565 = some (.iadd, 1, 0, 0, 0, 0) := by decide +kernel
theorem t350_566 : zT 350 566 = some (.iaload, 1, 0, 0, 0, 0) := by decide +kernel
theorem t350_567 : zT 350 567 = some (.invokevirtual 69, 3, 315, 0, 0, 2123) := by decide +kernel
theorem t350_570 : zT 350 570 = some (.if_icmp .eq 834, 3, 1404, 0, 0, 0) := by decide +kernel
theorem t350_575 : zT 350 575 = some (.aload_n 1, 1, 1, 0, 0, 0) := by decide +kernel
theorem t350_576 : zT 350 576 = some (.aload_n 0, 1, 0, 0, 0, 0) := by decide +kernel
theorem t350_577 : zT 350 577 = some (.iload_n 3, 1, 3, 0, 0, 0) := by decide +kernel
theorem t350_578 : zT 350 578 = some (.iconst 1, 1, 0, 0, 1, 0) := by decide +kernel
theorem t350_579 : zT 350 579 = some (.iadd, 1, 0, 0, 0, 0) := by decide +kernel
theorem t350_580 : zT 350 580 = some (.iaload, 1, 0, 0, 0, 0) := by decide +kernel
theorem t350_581 : zT 350 581 = some (.invokevirtual 70, 3, 150, 0, 0, 1265) := by decide +kernel
theorem t350_584 : zT 350 584 = some (.aload_n 2, 1, 2, 0, 0, 0) := by decide +kernel
theorem t350_585 : zT 350 585 = some (.aload_n 0, 1, 0, 0, 0, 0) := by decide +kernel
theorem t350_586 : zT 350 586 = some (.iload_n 3, 1, 3, 0, 0, 0) := by decide +kernel
theorem t350_587 : zT 350 587 = some (.iconst 1, 1, 0, 0, 1, 0) := by decide +kernel
theorem t350_588 : zT 350 588 = some (.iadd, 1, 0, 0, 0, 0) := by decide +kernel
theorem t350_589 : zT 350 589 = some (.iaload, 1, 0, 0, 0, 0) := by decide +kernel
theorem t350_590 : zT 350 590 = some (.invokevirtual 73, 3, 316, 0, 0, 2127) := by decide +kernel
theorem t350_593 : zT 350 593 = some (.if_icmp .eq 811, 3, 1404, 0, 0, 0) := by decide +kernel
theorem t350_598 : zT 350 598 = some (.aload_n 1, 1, 1, 0, 0, 0) := by decide +kernel
theorem t350_599 : zT 350 599 = some (.aload_n 0, 1, 0, 0, 0, 0) := by decide +kernel
theorem t350_600 : zT 350 600 = some (.iload_n 3, 1, 3, 0, 0, 0) := by decide +kernel
theorem t350_601 : zT 350 601 = some (.iconst 1, 1, 0, 0, 1, 0) := by decide +kernel
theorem t350_602 : zT 350 602 = some (.iadd, 1, 0, 0, 0, 0) := by decide +kernel
theorem t350_603 : zT 350 603 = some (.iaload, 1, 0, 0, 0, 0) := by decide +kernel
theorem t350_604 : zT 350 604 = some (.aload_n 0, 1, 0, 0, 0, 0) := by decide +kernel
theorem t350_605 : zT 350 605 = some (.iload_n 3, 1, 3, 0, 0, 0) := by decide +kernel
theorem t350_606 : zT 350 606 = some (.iconst 2, 1, 0, 0, 2, 0) := by decide +kernel
theorem t350_607 : zT 350 607 = some (.iadd, 1, 0, 0, 0, 0) := by decide +kernel
theorem t350_608 : zT 350 608 = some (.iaload, 1, 0, 0, 0, 0) := by decide +kernel
theorem t350_609 : zT 350 609 = some (.invokevirtual 74, 3, 169, 0, 0, 1352) := by decide +kernel
theorem t350_612 : zT 350 612 = some (.aload_n 2, 1, 2, 0, 0, 0) := by decide +kernel
theorem t350_613 : zT 350 613 = some (.aload_n 0, 1, 0, 0, 0, 0) := by decide +kernel
theorem t350_614 : zT 350 614 = some (.iload_n 3, 1, 3, 0, 0, 0) := by decide +kernel
theorem t350_615 : zT 350 615 = some (.iconst 1, 1, 0, 0, 1, 0) := by decide +kernel
theorem t350_616 : zT 350 616 = some (.iadd, 1, 0, 0, 0, 0) := by decide +kernel
theorem t350_617 : zT 350 617 = some (.iaload, 1, 0, 0, 0, 0) := by decide +kernel
theorem t350_618 : zT 350 618 = some (.aload_n 0, 1, 0, 0, 0, 0) := by decide +kernel
theorem t350_619 : zT 350 619 = some (.iload_n 3, 1, 3, 0, 0, 0) := by decide +kernel
theorem t350_620 : zT 350 620 = some (.iconst 2, 1, 0, 0, 2, 0) := by decide +kernel
theorem t350_621 : zT 350 621 = some (.iadd, 1, 0, 0, 0, 0) := by decide +kernel
theorem t350_622 : zT 350 622 = some (.iaload, 1, 0, 0, 0, 0) := by decide +kernel
theorem t350_623 : zT 350 623 = some (.invokevirtual 77, 3, 317, 0, 0, 2131) := by decide +kernel
theorem t350_626 : zT 350 626 = some (.if_icmp .eq 778, 3, 1404, 0, 0, 0) := by decide +kernel
theorem t350_631 : zT 350 631 = some (.aload_n 1, 1, 1, 0, 0, 0) := by decide +kernel
theorem t350_632 : zT 350 632 = some (.aload_n 0, 1, 0, 0, 0, 0) := by decide +kernel
theorem t350_633 : zT 350 633 = some (.iload_n 3, 1, 3, 0, 0, 0) := by decide +kernel
theorem t350_634 : zT 350 634 = some (.iconst 1, 1, 0, 0, 1, 0) := by decide +kernel
theorem t350_635 : zT 350 635 = some (.iadd, 1, 0, 0, 0, 0) := by decide +kernel
theorem t350_636 : zT 350 636 = some (.iaload, 1, 0, 0, 0, 0) := by decide +kernel
theorem t350_637 : zT 350 637 = some (.aload_n 0, 1, 0, 0, 0, 0) := by decide +kernel
theorem t350_638 : zT 350 638 = some (.iload_n 3, 1, 3, 0, 0, 0) := by decide +kernel
theorem t350_639 : zT 350 639 = some (.iconst 2, 1, 0, 0, 2, 0) := by decide +kernel
theorem t350_640 : zT 350 640 = some (.iadd, 1, 0, 0, 0, 0) := by decide +kernel
theorem t350_641 : zT 350 641 = some (.iaload, 1, 0, 0, 0, 0) := by decide +kernel
theorem t350_642 : zT 350 642 = some (.invokevirtual 78, 3, 172, 0, 0, 1367) := by decide +kernel
theorem t350_645 : zT 350 645 = some (.aload_n 2, 1, 2, 0, 0, 0) := by decide +kernel
theorem t350_646 : zT 350 646 = some (.aload_n 0, 1, 0, 0, 0, 0) := by decide +kernel
theorem t350_647 : zT 350 647 = some (.iload_n 3, 1, 3, 0, 0, 0) := by decide +kernel
theorem t350_648 : zT 350 648 = some (.iconst 1, 1, 0, 0, 1, 0) := by decide +kernel
theorem t350_649 : zT 350 649 = some (.iadd, 1, 0, 0, 0, 0) := by decide +kernel
theorem t350_650 : zT 350 650 = some (.iaload, 1, 0, 0, 0, 0) := by decide +kernel
theorem t350_651 : zT 350 651 = some (.aload_n 0, 1, 0, 0, 0, 0) := by decide +kernel
theorem t350_652 : zT 350 652 = some (.iload_n 3, 1, 3, 0, 0, 0) := by decide +kernel
theorem t350_653 : zT 350 653 = some (.iconst 2, 1, 0, 0, 2, 0) := by decide +kernel
theorem t350_654 : zT 350 654 = some (.iadd, 1, 0, 0, 0, 0) := by decide +kernel
theorem t350_655 : zT 350 655 = some (.iaload, 1, 0, 0, 0, 0) := by decide +kernel
theorem t350_656 : zT 350 656 = some (.invokevirtual 81, 3, 321, 0, 0, 2147) := by decide +kernel
theorem t350_659 : zT 350 659 = some (.if_icmp .eq 745, 3, 1404, 0, 0, 0) := by decide +kernel
theorem t350_664 : zT 350 664 = some (.aload_n 1, 1, 1, 0, 0, 0) := by decide +kernel
theorem t350_665 : zT 350 665 = some (.aload_n 0, 1, 0, 0, 0, 0) := by decide +kernel
theorem t350_666 : zT 350 666 = some (.iload_n 3, 1, 3, 0, 0, 0) := by decide +kernel
theorem t350_667 : zT 350 667 = some (.iconst 1, 1, 0, 0, 1, 0) := by decide +kernel
theorem t350_668 : zT 350 668 = some (.iadd, 1, 0, 0, 0, 0) := by decide +kernel
theorem t350_669 : zT 350 669 = some (.iaload, 1, 0, 0, 0, 0) := by decide +kernel
theorem t350_670 : zT 350 670 = some (.aload_n 0, 1, 0, 0, 0, 0) := by decide +kernel
theorem t350_671 : zT 350 671 = some (.iload_n 3, 1, 3, 0, 0, 0) := by decide +kernel
theorem t350_672 : zT 350 672 = some (.iconst 2, 1, 0, 0, 2, 0) := by decide +kernel
theorem t350_673 : zT 350 673 = some (.iadd, 1, 0, 0, 0, 0) := by decide +kernel
theorem t350_674 : zT 350 674 = some (.iaload, 1, 0, 0, 0, 0) := by decide +kernel
theorem t350_675 : zT 350 675 = some (.invokevirtual 82, 3, 173, 0, 0, 1371) := by decide +kernel
theorem t350_678 : zT 350 678 = some (.aload_n 2, 1, 2, 0, 0, 0) := by decide +kernel
theorem t350_679 : zT 350 679 = some (.aload_n 0, 1, 0, 0, 0, 0) := by decide +kernel
theorem t350_680 : zT 350 680 = some (.iload_n 3, 1, 3, 0, 0, 0) := by decide +kernel
theorem t350_681 : zT 350 681 = some (.iconst 1, 1, 0, 0, 1, 0) := by decide +kernel
theorem t350_682 : zT 350 682 = some (.iadd, 1, 0, 0, 0, 0) := by decide +kernel
theorem t350_683 : zT 350 683 = some (.iaload, 1, 0, 0, 0, 0) := by decide +kernel
theorem t350_684 : zT 350 684 = some (.aload_n 0, 1, 0, 0, 0, 0) := by decide +kernel
theorem t350_685 : zT 350 685 = some (.iload_n 3, 1, 3, 0, 0, 0) := by decide +kernel
theorem t350_686 : zT 350 686 = some (.iconst 2, 1, 0, 0, 2, 0) := by decide +kernel
theorem t350_687 : zT 350 687 = some (.iadd, 1, 0, 0, 0, 0) := by decide +kernel
theorem t350_688 : zT 350 688 = some (.iaload, 1, 0, 0, 0, 0) := by decide +kernel
theorem t350_689 : zT 350 689 = some (.invokevirtual 86, 3, 296, 0, 0, 2041) := by decide +kernel
theorem t350_692 : zT 350 692 = some (.lcmp, 1, 0, 0, 0, 0) := by decide +kernel
theorem t350_693 : zT 350 693 = some (.ifCond .eq 711, 3, 1404, 0, 0, 0) := by decide +kernel
theorem t350_698 : zT 350 698 = some (.aload_n 1, 1, 1, 0, 0, 0) := by decide +kernel
theorem t350_699 : zT 350 699 = some (.aload_n 0, 1, 0, 0, 0, 0) := by decide +kernel
theorem t350_700 : zT 350 700 = some (.iload_n 3, 1, 3, 0, 0, 0) := by decide +kernel
theorem t350_701 : zT 350 701 = some (.iconst 1, 1, 0, 0, 1, 0) := by decide +kernel
theorem t350_702 : zT 350 702 = some (.iadd, 1, 0, 0, 0, 0) := by decide +kernel
theorem t350_703 : zT 350 703 = some (.iaload, 1, 0, 0, 0, 0) := by decide +kernel
theorem t350_704 : zT 350 704 = some (.aload_n 0, 1, 0, 0, 0, 0) := by decide +kernel
theorem t350_705 : zT 350 705 = some (.iload_n 3, 1, 3, 0, 0, 0) := by decide +kernel
theorem t350_706 : zT 350 706 = some (.iconst 2, 1, 0, 0, 2, 0) := by decide +kernel
theorem t350_707 : zT 350 707 = some (.iadd, 1, 0, 0, 0, 0) := by decide +kernel
theorem t350_708 : zT 350 708 = some (.iaload, 1, 0, 0, 0, 0) := by decide +kernel
theorem t350_709 : zT 350 709 = some (.invokevirtual 87, 3, 177, 0, 0, 1386) := by decide +kernel
theorem t350_712 : zT 350 712 = some (.aload_n 2, 1, 2, 0, 0, 0) := by decide +kernel
theorem t350_713 : zT 350 713 = some (.aload_n 0, 1, 0, 0, 0, 0) := by decide +kernel
theorem t350_714 : zT 350 714 = some (.iload_n 3, 1, 3, 0, 0, 0) := by decide +kernel
theorem t350_715 : zT 350 715 = some (.iconst 1, 1, 0, 0, 1, 0) := by decide +kernel
theorem t350_716 : zT 350 716 = some (.iadd, 1, 0, 0, 0, 0) := by decide +kernel
theorem t350_717 : zT 350 717 = some (.iaload, 1, 0, 0, 0, 0) := by decide +kernel
theorem t350_718 : zT 350 718 = some (.aload_n 0, 1, 0, 0, 0, 0) := by decide +kernel
theorem t350_719 : zT 350 719 = some (.iload_n 3, 1, 3, 0, 0, 0) := by decide +kernel
theorem t350_720 : zT 350 720 = some (.iconst 2, 1, 0, 0, 2, 0) := by decide +kernel
theorem t350_721 : zT 350 721 = some (.iadd, 1, 0, 0, 0, 0) := by decide +kernel
theorem t350_722 : zT 350 722 = some (.iaload, 1, 0, 0, 0, 0) := by decide +kernel
theorem t350_723 : zT 350 723 = some (.invokevirtual 90, 3, 301, 0, 0, 2062) := by decide +kernel
theorem t350_726 : zT 350 726 = some (.if_icmp .eq 678, 3, 1404, 0, 0, 0) := by decide +kernel
theorem t350_731 : zT 350 731 = some (.aload_n 1, 1, 1, 0, 0, 0) := by decide +kernel
theorem t350_732 : zT 350 732 = some (.invokevirtual 91, 3, 180, 0, 0, 1400) := by decide +kernel
theorem t350_735 : zT 350 735 = some (.aload_n 2, 1, 2, 0, 0, 0) := by decide +kernel
theorem t350_736 : zT 350 736 = some (.invokevirtual 94, 3, 266, 0, 0, 1925) := by decide +kernel
theorem t350_739 : zT 350 739 = some (.if_icmp .eq 665, 3, 1404, 0, 0, 0) := by decide +kernel
theorem t350_744 : zT 350 744 = some (.aload_n 1, 1, 1, 0, 0, 0) := by decide +kernel
theorem t350_745 : zT 350 745 = some (.aload_n 0, 1, 0, 0, 0, 0) := by decide +kernel
theorem t350_746 : zT 350 746 = some (.iload_n 3, 1, 3, 0, 0, 0) := by decide +kernel
theorem t350_747 : zT 350 747 = some (.iconst 1, 1, 0, 0, 1, 0) := by decide +kernel
theorem t350_748 : zT 350 748 = some (.iadd, 1, 0, 0, 0, 0) := by decide +kernel
theorem t350_749 : zT 350 749 = some (.iaload, 1, 0, 0, 0, 0) := by decide +kernel
theorem t350_750 : zT 350 750 = some (.invokevirtual 95, 3, 151, 0, 0, 1434) := by decide +kernel
theorem t350_753 : zT 350 753 = some (.aload_n 2, 1, 2, 0, 0, 0) := by decide +kernel
theorem t350_754 : zT 350 754 = some (.aload_n 0, 1, 0, 0, 0, 0) := by decide +kernel
theorem t350_755 : zT 350 755 = some (.iload_n 3, 1, 3, 0, 0, 0) := by decide +kernel
theorem t350_756 : zT 350 756 = some (.iconst 1, 1, 0, 0, 1, 0) := by decide +kernel
theorem t350_757 : zT 350 757 = some (.iadd, 1, 0, 0, 0, 0) := by decide +kernel
theorem t350_758 : zT 350 758 = some (.iaload, 1, 0, 0, 0, 0) := by decide +kernel
theorem t350_759 : zT 350 759 = some (.invokevirtual 98, 3, 295, 0, 0, 2037) := by decide +kernel
theorem t350_762 : zT 350 762 = some (.if_icmp .eq 642, 3, 1404, 0, 0, 0) := by decide +kernel
theorem t350_767 : zT 350 767 = some (.aload_n 1, 1, 1, 0, 0, 0) := by decide +kernel
theorem t350_768 : zT 350 768 = some (.invokevirtual 99, 3, 187, 0, 0, 1435) := by decide +kernel
theorem t350_771 : zT 350 771 = some (.aload_n 2, 1, 2, 0, 0, 0) := by decide +kernel
theorem t350_772 : zT 350 772 = some (.invokevirtual 102, 3, 322, 0, 0, 2151) := by decide +kernel
theorem t350_775 : zT 350 775 = some (.if_icmp .eq 629, 3, 1404, 0, 0, 0) := by decide +kernel
theorem t350_780 : zT 350 780 = some (.aload_n 1, 1, 1, 0, 0, 0) := by decide +kernel
theorem t350_781 : zT 350 781 = some (.aload_n 0, 1, 0, 0, 0, 0) := by decide +kernel
theorem t350_782 : zT 350 782 = some (.iload_n 3, 1, 3, 0, 0, 0) := by decide +kernel
theorem t350_783 : zT 350 783 = some (.iconst 1, 1, 0, 0, 1, 0) := by decide +kernel
theorem t350_784 : zT 350 784 = some (.iadd, 1, 0, 0, 0, 0) := by decide +kernel
theorem t350_785 : zT 350 785 = some (.iaload, 1, 0, 0, 0, 0) := by decide +kernel
theorem t350_786 : zT 350 786 = some (.aload_n 0, 1, 0, 0, 0, 0) := by decide +kernel
theorem t350_787 : zT 350 787 = some (.iload_n 3, 1, 3, 0, 0, 0) := by decide +kernel
theorem t350_788 : zT 350 788 = some (.iconst 2, 1, 0, 0, 2, 0) := by decide +kernel
theorem t350_789 : zT 350 789 = some (.iadd, 1, 0, 0, 0, 0) := by decide +kernel
theorem t350_790 : zT 350 790 = some (.iaload, 1, 0, 0, 0, 0) := by decide +kernel
theorem t350_791 : zT 350 791 = some (.aload_n 0, 1, 0, 0, 0, 0) := by decide +kernel
theorem t350_792 : zT 350 792 = some (.iload_n 3, 1, 3, 0, 0, 0) := by decide +kernel
theorem t350_793 : zT 350 793 = some (.iconst 3, 1, 0, 0, 3, 0) := by decide +kernel
theorem t350_794 : zT 350 794 = some (.iadd, 1, 0, 0, 0, 0) := by decide +kernel
theorem t350_795 : zT 350 795 = some (.iaload, 1, 0, 0, 0, 0) := by decide +kernel
theorem t350_796 : zT 350 796 = some (.aload_n 0, 1, 0, 0, 0, 0) := by decide +kernel
theorem t350_797 : zT 350 797 = some (.iload_n 3, 1, 3, 0, 0, 0) := by decide +kernel
theorem t350_798 : zT 350 798 = some (.iconst 4, 1, 0, 0, 4, 0) := by decide +kernel
theorem t350_799 : zT 350 799 = some (.iadd, 1, 0, 0, 0, 0) := by decide +kernel
theorem t350_800 : zT 350 800 = some (.iaload, 1, 0, 0, 0, 0) := by decide +kernel
theorem t350_801 : zT 350 801 = some (.aload_n 0, 1, 0, 0, 0, 0) := by decide +kernel
theorem t350_802 : zT 350 802 = some (.iload_n 3, 1, 3, 0, 0, 0) := by decide +kernel
theorem t350_803 : zT 350 803 = some (.iconst 5, 1, 0, 0, 5, 0) := by decide +kernel
theorem t350_804 : zT 350 804 = some (.iadd, 1, 0, 0, 0, 0) := by decide +kernel
theorem t350_805 : zT 350 805 = some (.iaload, 1, 0, 0, 0, 0) := by decide +kernel
theorem t350_806 : zT 350 806 = some (.invokevirtual 103, 3, 188, 0, 0, 1439) := by decide +kernel
theorem t350_809 : zT 350 809 = some (.aload_n 2, 1, 2, 0, 0, 0) := by decide +kernel
theorem t350_810 : zT 350 810 = some (.aload_n 0, 1, 0, 0, 0, 0) := by decide +kernel
theorem t350_811 : zT 350 811 = some (.iload_n 3, 1, 3, 0, 0, 0) := by decide +kernel
theorem t350_812 : zT 350 812 = some (.iconst 1, 1, 0, 0, 1, 0) := by decide +kernel
theorem t350_813 : zT 350 813 = some (.iadd, 1, 0, 0, 0, 0) := by decide +kernel
theorem t350_814 : zT 350 814 = some (.iaload, 1, 0, 0, 0, 0) := by decide +kernel
theorem t350_815 : zT 350 815 = some (.aload_n 0, 1, 0, 0, 0, 0) := by decide +kernel
theorem t350_816 : zT 350 816 = some (.iload_n 3, 1, 3, 0, 0, 0) := by decide +kernel
theorem t350_817 : zT 350 817 = some (.iconst 2, 1, 0, 0, 2, 0) := by decide +kernel
theorem t350_818 : zT 350 818 = some (.iadd, 1, 0, 0, 0, 0) := by decide +kernel
theorem t350_819 : zT 350 819 = some (.iaload, 1, 0, 0, 0, 0) := by decide +kernel
theorem t350_820 : zT 350 820 = some (.aload_n 0, 1, 0, 0, 0, 0) := by decide +kernel
theorem t350_821 : zT 350 821 = some (.iload_n 3, 1, 3, 0, 0, 0) := by decide +kernel
theorem t350_822 : zT 350 822 = some (.iconst 3, 1, 0, 0, 3, 0) := by decide +kernel
theorem t350_823 : zT 350 823 = some (.iadd, 1, 0, 0, 0, 0) := by decide +kernel
theorem t350_824 : zT 350 824 = some (.iaload, 1, 0, 0, 0, 0) := by decide +kernel
theorem t350_825 : zT 350 825 = some (.aload_n 0, 1, 0, 0, 0, 0) := by decide +kernel
theorem t350_826 : zT 350 826 = some (.iload_n 3, 1, 3, 0, 0, 0) := by decide +kernel
theorem t350_827 : zT 350 827 = some (.iconst 4, 1, 0, 0, 4, 0) := by decide +kernel
theorem t350_828 : zT 350 828 = some (.iadd, 1, 0, 0, 0, 0) := by decide +kernel
theorem t350_829 : zT 350 829 = some (.iaload, 1, 0, 0, 0, 0) := by decide +kernel
theorem t350_830 : zT 350 830 = some (.aload_n 0, 1, 0, 0, 0, 0) := by decide +kernel
theorem t350_831 : zT 350 831 = some (.iload_n 3, 1, 3, 0, 0, 0) := by decide +kernel
theorem t350_832 : zT 350 832 = some (.iconst 5, 1, 0, 0, 5, 0) := by decide +kernel
theorem t350_833 : zT 350 833 = some (.iadd, 1, 0, 0, 0, 0) := by decide +kernel
theorem t350_834 : zT 350 834 = some (.iaload, 1, 0, 0, 0, 0) := by decide +kernel
theorem t350_835 : zT 350 835 = some (.invokevirtual 106, 3, 323, 0, 0, 2155) := by decide +kernel
theorem t350_838 : zT 350 838 = some (.if_icmp .eq 566, 3, 1404, 0, 0, 0) := by decide +kernel
theorem t350_843 : zT 350 843 = some (.aload_n 1, 1, 1, 0, 0, 0) := by decide +kernel
theorem t350_844 : zT 350 844 = some (.aload_n 0, 1, 0, 0, 0, 0) := by decide +kernel
theorem t350_845 : zT 350 845 = some (.iload_n 3, 1, 3, 0, 0, 0) := by decide +kernel
theorem t350_846 : zT 350 846 = some (.iconst 1, 1, 0, 0, 1, 0) := by decide +kernel
theorem t350_847 : zT 350 847 = some (.iadd, 1, 0, 0, 0, 0) := by decide +kernel
theorem t350_848 : zT 350 848 = some (.iaload, 1, 0, 0, 0, 0) := by decide +kernel
theorem t350_849 : zT 350 849 = some (.aload_n 0, 1, 0, 0, 0, 0) := by decide +kernel
theorem t350_850 : zT 350 850 = some (.iload_n 3, 1, 3, 0, 0, 0) := by decide +kernel
theorem t350_851 : zT 350 851 = some (.iconst 2, 1, 0, 0, 2, 0) := by decide +kernel
theorem t350_852 : zT 350 852 = some (.iadd, 1, 0, 0, 0, 0) := by decide +kernel
theorem t350_853 : zT 350 853 = some (.iaload, 1, 0, 0, 0, 0) := by decide +kernel
theorem t350_854 : zT 350 854 = some (.aload_n 0, 1, 0, 0, 0, 0) := by decide +kernel
theorem t350_855 : zT 350 855 = some (.iload_n 3, 1, 3, 0, 0, 0) := by decide +kernel
theorem t350_856 : zT 350 856 = some (.iconst 3, 1, 0, 0, 3, 0) := by decide +kernel
theorem t350_857 : zT 350 857 = some (.iadd, 1, 0, 0, 0, 0) := by decide +kernel
theorem t350_858 : zT 350 858 = some (.iaload, 1, 0, 0, 0, 0) := by decide +kernel
theorem t350_859 : zT 350 859 = some (.invokevirtual 107, 3, 193, 0, 0, 1460) := by decide +kernel
theorem t350_862 : zT 350 862 = some (.aload_n 2, 1, 2, 0, 0, 0) := by decide +kernel
theorem t350_863 : zT 350 863 = some (.aload_n 0, 1, 0, 0, 0, 0) := by decide +kernel
theorem t350_864 : zT 350 864 = some (.iload_n 3, 1, 3, 0, 0, 0) := by decide +kernel
theorem t350_865 : zT 350 865 = some (.iconst 1, 1, 0, 0, 1, 0) := by decide +kernel
theorem t350_866 : zT 350 866 = some (.iadd, 1, 0, 0, 0, 0) := by decide +kernel
theorem t350_867 : zT 350 867 = some (.iaload, 1, 0, 0, 0, 0) := by decide +kernel
theorem t350_868 : zT 350 868 = some (.aload_n 0, 1, 0, 0, 0, 0) := by decide +kernel
theorem t350_869 : zT 350 869 = some (.iload_n 3, 1, 3, 0, 0, 0) := by decide +kernel
theorem t350_870 : zT 350 870 = some (.iconst 2, 1, 0, 0, 2, 0) := by decide +kernel
theorem t350_871 : zT 350 871 = some (.iadd, 1, 0, 0, 0, 0) := by decide +kernel
theorem t350_872 : zT 350 872 = some (.iaload, 1, 0, 0, 0, 0) := by decide +kernel
theorem t350_873 : zT 350 873 = some (.aload_n 0, 1, 0, 0, 0, 0) := by decide +kernel
theorem t350_874 : zT 350 874 = some (.iload_n 3, 1, 3, 0, 0, 0) := by decide +kernel
theorem t350_875 : zT 350 875 = some (.iconst 3, 1, 0, 0, 3, 0) := by decide +kernel
theorem t350_876 : zT 350 876 = some (.iadd, 1, 0, 0, 0, 0) := by decide +kernel
theorem t350_877 : zT 350 877 = some (.iaload, 1, 0, 0, 0, 0) := by decide +kernel
theorem t350_878 : zT 350 878 = some (.invokevirtual 110, 3, 326, 0, 0, 2171) := by decide +kernel
theorem t350_881 : zT 350 881 = some (.if_icmp .eq 523, 3, 1404, 0, 0, 0) := by decide +kernel
theorem t350_886 : zT 350 886 = some (.aload_n 1, 1, 1, 0, 0, 0) := by decide +kernel
theorem t350_887 : zT 350 887 = some (.aload_n 0, 1, 0, 0, 0, 0) := by decide +kernel
theorem t350_888 : zT 350 888 = some (.iload_n 3, 1, 3, 0, 0, 0) := by decide +kernel
theorem t350_889 : zT 350 889 = some (.iconst 1, 1, 0, 0, 1, 0) := by decide +kernel
theorem t350_890 : zT 350 890 = some (.iadd, 1, 0, 0, 0, 0) := by decide +kernel
theorem t350_891 : zT 350 891 = some (.iaload, 1, 0, 0, 0, 0) := by decide +kernel
theorem t350_892 : zT 350 892 = some (.invokevirtual 111, 3, 194, 0, 0, 1464) := by decide +kernel
theorem t350_895 : zT 350 895 = some (.aload_n 2, 1, 2, 0, 0, 0) := by decide +kernel
theorem t350_896 : zT 350 896 = some (.aload_n 0, 1, 0, 0, 0, 0) := by decide +kernel
theorem t350_897 : zT 350 897 = some (.iload_n 3, 1, 3, 0, 0, 0) := by decide +kernel
theorem t350_898 : zT 350 898 = some (.iconst 1, 1, 0, 0, 1, 0) := by decide +kernel
theorem t350_899 : zT 350 899 = some (.iadd, 1, 0, 0, 0, 0) := by decide +kernel
theorem t350_900 : zT 350 900 = some (.iaload, 1, 0, 0, 0, 0) := by decide +kernel
theorem t350_901 : zT 350 901 = some (.invokevirtual 114, 3, 327, 0, 0, 2175) := by decide +kernel
theorem t350_904 : zT 350 904 = some (.if_icmp .eq 500, 3, 1404, 0, 0, 0) := by decide +kernel
theorem t350_909 : zT 350 909 = some (.aload_n 1, 1, 1, 0, 0, 0) := by decide +kernel
theorem t350_910 : zT 350 910 = some (.aload_n 0, 1, 0, 0, 0, 0) := by decide +kernel
theorem t350_911 : zT 350 911 = some (.iload_n 3, 1, 3, 0, 0, 0) := by decide +kernel
theorem t350_912 : zT 350 912 = some (.iconst 1, 1, 0, 0, 1, 0) := by decide +kernel
theorem t350_913 : zT 350 913 = some (.iadd, 1, 0, 0, 0, 0) := by decide +kernel
theorem t350_914 : zT 350 914 = some (.iaload, 1, 0, 0, 0, 0) := by decide +kernel
theorem t350_915 : zT 350 915 = some (.invokevirtual 115, 3, 196, 0, 0, 1473) := by decide +kernel
theorem t350_918 : zT 350 918 = some (.aload_n 2, 1, 2, 0, 0, 0) := by decide +kernel
theorem t350_919 : zT 350 919 = some (.aload_n 0, 1, 0, 0, 0, 0) := by decide +kernel
theorem t350_920 : zT 350 920 = some (.iload_n 3, 1, 3, 0, 0, 0) := by decide +kernel
theorem t350_921 : zT 350 921 = some (.iconst 1, 1, 0, 0, 1, 0) := by decide +kernel
theorem t350_922 : zT 350 922 = some (.iadd, 1, 0, 0, 0, 0) := by decide +kernel
theorem t350_923 : zT 350 923 = some (.iaload, 1, 0, 0, 0, 0) := by decide +kernel
theorem t350_924 : zT 350 924 = some (.invokevirtual 118, 3, 328, 0, 0, 2179) := by decide +kernel
theorem t350_927 : zT 350 927 = some (.if_icmp .eq 477, 3, 1404, 0, 0, 0) := by decide +kernel
theorem t350_932 : zT 350 932 = some (.aload_n 1, 1, 1, 0, 0, 0) := by decide +kernel
theorem t350_933 : zT 350 933 = some (.aload_n 0, 1, 0, 0, 0, 0) := by decide +kernel
theorem t350_934 : zT 350 934 = some (.iload_n 3, 1, 3, 0, 0, 0) := by decide +kernel
theorem t350_935 : zT 350 935 = some (.iconst 1, 1, 0, 0, 1, 0) := by decide +kernel
theorem t350_936 : zT 350 936 = some (.iadd, 1, 0, 0, 0, 0) := by decide +kernel
theorem t350_937 : zT 350 937 = some (.iaload, 1, 0, 0, 0, 0) := by decide +kernel
theorem t350_938 : zT 350 938 = some (.aload_n 0, 1, 0, 0, 0, 0) := by decide +kernel
theorem t350_939 : zT 350 939 = some (.iload_n 3, 1, 3, 0, 0, 0) := by decide +kernel
theorem t350_940 : zT 350 940 = some (.iconst 2, 1, 0, 0, 2, 0) := by decide +kernel
theorem t350_941 : zT 350 941 = some (.iadd, 1, 0, 0, 0, 0) := by decide +kernel
theorem t350_942 : zT 350 942 = some (.iaload, 1, 0, 0, 0, 0) := by decide +kernel
theorem t350_943 : zT 350 943 = some (.aload_n 0, 1, 0, 0, 0, 0) := by decide +kernel
theorem t350_944 : zT 350 944 = some (.iload_n 3, 1, 3, 0, 0, 0) := by decide +kernel
theorem t350_945 : zT 350 945 = some (.iconst 3, 1, 0, 0, 3, 0) := by decide +kernel
theorem t350_946 : zT 350 946 = some (.iadd, 1, 0, 0, 0, 0) := by decide +kernel
theorem t350_947 : zT 350 947 = some (.iaload, 1, 0, 0, 0, 0) := by decide +kernel
theorem t350_948 : zT 350 948 = some (.invokevirtual 119, 3, 89, 0, 0, 1493) := by decide +kernel
theorem t350_951 : zT 350 951 = some (.aload_n 2, 1, 2, 0, 0, 0) := by decide +kernel
theorem t350_952 : zT 350 952 = some (.aload_n 0, 1, 0, 0, 0, 0) := by decide +kernel
theorem t350_953 : zT 350 953 = some (.iload_n 3, 1, 3, 0, 0, 0) := by decide +kernel
theorem t350_954 : zT 350 954 = some (.iconst 1, 1, 0, 0, 1, 0) := by decide +kernel
theorem t350_955 : zT 350 955 = some (.iadd, 1, 0, 0, 0, 0) := by decide +kernel
theorem t350_956 : zT 350 956 = some (.iaload, 1, 0, 0, 0, 0) := by decide +kernel
theorem t350_957 : zT 350 957 = some (.aload_n 0, 1, 0, 0, 0, 0) := by decide +kernel
theorem t350_958 : zT 350 958 = some (.iload_n 3, 1, 3, 0, 0, 0) := by decide +kernel
theorem t350_959 : zT 350 959 = some (.iconst 2, 1, 0, 0, 2, 0) := by decide +kernel
theorem t350_960 : zT 350 960 = some (.iadd, 1, 0, 0, 0, 0) := by decide +kernel
theorem t350_961 : zT 350 961 = some (.iaload, 1, 0, 0, 0, 0) := by decide +kernel
theorem t350_962 : zT 350 962 = some (.aload_n 0, 1, 0, 0, 0, 0) := by decide +kernel
theorem t350_963 : zT 350 963 = some (.iload_n 3, 1, 3, 0, 0, 0) := by decide +kernel
theorem t350_964 : zT 350 964 = some (.iconst 3, 1, 0, 0, 3, 0) := by decide +kernel
theorem t350_965 : zT 350 965 = some (.iadd, 1, 0, 0, 0, 0) := by decide +kernel
theorem t350_966 : zT 350 966 = some (.iaload, 1, 0, 0, 0, 0) := by decide +kernel
theorem t350_967 : zT 350 967 = some (.invokevirtual 122, 3, 331, 0, 0, 2191) := by decide +kernel
theorem t350_970 : zT 350 970 = some (.if_icmp .eq 434, 3, 1404, 0, 0, 0) := by decide +kernel
theorem t350_975 : zT 350 975 = some (.aload_n 1, 1, 1, 0, 0, 0) := by decide +kernel
theorem t350_976 : zT 350 976 = some (.aload_n 0, 1, 0, 0, 0, 0) := by decide +kernel
theorem t350_977 : zT 350 977 = some (.iload_n 3, 1, 3, 0, 0, 0) := by decide +kernel
theorem t350_978 : zT 350 978 = some (.iconst 1, 1, 0, 0, 1, 0) := by decide +kernel
theorem t350_979 : zT 350 979 = some (.iadd, 1, 0, 0, 0, 0) := by decide +kernel
theorem t350_980 : zT 350 980 = some (.iaload, 1, 0, 0, 0, 0) := by decide +kernel
theorem t350_981 : zT 350 981 = some (.invokevirtual 123, 3, 90, 0, 0, 1494) := by decide +kernel
theorem t350_984 : zT 350 984 = some (.aload_n 2, 1, 2, 0, 0, 0) := by decide +kernel
theorem t350_985 : zT 350 985 = some (.aload_n 0, 1, 0, 0, 0, 0) := by decide +kernel
theorem t350_986 : zT 350 986 = some (.iload_n 3, 1, 3, 0, 0, 0) := by decide +kernel
theorem t350_987 : zT 350 987 = some (.iconst 1, 1, 0, 0, 1, 0) := by decide +kernel
theorem t350_988 : zT 350 988 = some (.iadd, 1, 0, 0, 0, 0) := by decide +kernel
theorem t350_989 : zT 350 989 = some (.iaload, 1, 0, 0, 0, 0) := by decide +kernel
theorem t350_990 : zT 350 990 = some (.invokevirtual 126, 3, 332, 0, 0, 2195) := by decide +kernel
theorem t350_993 : zT 350 993 = some (.if_icmp .eq 411, 3, 1404, 0, 0, 0) := by decide +kernel
theorem t350_998 : zT 350 998 = some (.aload_n 1, 1, 1, 0, 0, 0) := by decide +kernel
theorem t350_999 : zT 350 999 = some (.aload_n 0, 1, 0, 0, 0, 0) := by decide +kernel
theorem t350_1000 : zT 350 1000 = some (.iload_n 3, 1, 3, 0, 0, 0) := by decide +kernel
theorem t350_1001 : zT 350 1001 = some (.iconst 1, 1, 0, 0, 1, 0) := by decide +kernel
theorem t350_1002 : zT 350 1002 = some (.iadd, 1, 0, 0, 0, 0) := by decide +kernel
theorem t350_1003 : zT 350 1003 = some (.iaload, 1, 0, 0, 0, 0) := by decide +kernel
theorem t350_1004 : zT 350 1004 = some (.invokevirtual 127, 3, 94, 0, 0, 1495) := by decide +kernel
theorem t350_1007 : zT 350 1007 = some (.aload_n 2, 1, 2, 0, 0, 0) := by decide +kernel
theorem t350_1008 : zT 350 1008 = some (.aload_n 0, 1, 0, 0, 0, 0) := by decide +kernel
theorem t350_1009 : zT 350 1009 = some (.iload_n 3, 1, 3, 0, 0, 0) := by decide +kernel
theorem t350_1010 : zT 350 1010 = some (.iconst 1, 1, 0, 0, 1, 0) := by decide +kernel
theorem t350_1011 : zT 350 1011 = some (.iadd, 1, 0, 0, 0, 0) := by decide +kernel
theorem t350_1012 : zT 350 1012 = some (.iaload, 1, 0, 0, 0, 0) := by decide +kernel
theorem t350_1013 : zT 350 1013 = some (.invokevirtual 130, 3, 333, 0, 0, 2199) := by decide +kernel
theorem t350_1016 : zT 350 1016 = some (.if_icmp .eq 388, 3, 1404, 0, 0, 0) := by decide +kernel
theorem t350_1021 : zT 350 1021 = some (.aload_n 1, 1, 1, 0, 0, 0) := by decide +kernel
theorem t350_1022 : zT 350 1022 = some (.aload_n 0, 1, 0, 0, 0, 0) := by decide +kernel
theorem t350_1023 : zT 350 1023 = some (.iload_n 3, 1, 3, 0, 0, 0) := by decide +kernel
theorem t350_1024 : zT 350 1024 = some (.iconst 1, 1, 0, 0, 1, 0) := by decide +kernel
theorem t350_1025 : zT 350 1025 = some (.iadd, 1, 0, 0, 0, 0) := by decide +kernel
theorem t350_1026 : zT 350 1026 = some (.iaload, 1, 0, 0, 0, 0) := by decide +kernel
theorem t350_1027 : zT 350 1027 = some (.invokevirtual 131, 3, 95, 0, 0, 1496) := by decide +kernel
theorem t350_1030 : zT 350 1030 = some (.aload_n 2, 1, 2, 0, 0, 0) := by decide +kernel
theorem t350_1031 : zT 350 1031 = some (.aload_n 0, 1, 0, 0, 0, 0) := by decide +kernel
theorem t350_1032 : zT 350 1032 = some (.iload_n 3, 1, 3, 0, 0, 0) := by decide +kernel
theorem t350_1033 : zT 350 1033 = some (.iconst 1, 1, 0, 0, 1, 0) := by decide +kernel
theorem t350_1034 : zT 350 1034 = some (.iadd, 1, 0, 0, 0, 0) := by decide +kernel
theorem t350_1035 : zT 350 1035 = some (.iaload, 1, 0, 0, 0, 0) := by decide +kernel
theorem t350_1036 : zT 350 1036 = some (.invokevirtual 134, 3, 334, 0, 0, 2203) := by decide +kernel
theorem t350_1039 : zT 350 1039 = some (.if_icmp .eq 365, 3, 1404, 0, 0, 0) := by decide +kernel
theorem t350_1044 : zT 350 1044 = some (.aload_n 1, 1, 1, 0, 0, 0) := by decide +kernel
theorem t350_1045 : zT 350 1045 = some (.aload_n 0, 1, 0, 0, 0, 0) := by decide +kernel
theorem t350_1046 : zT 350 1046 = some (.iload_n 3, 1, 3, 0, 0, 0) := by decide +kernel
theorem t350_1047 : zT 350 1047 = some (.iconst 1, 1, 0, 0, 1, 0) := by decide +kernel
theorem t350_1048 : zT 350 1048 = some (.iadd, 1, 0, 0, 0, 0) := by decide +kernel
theorem t350_1049 : zT 350 1049 = some (.iaload, 1, 0, 0, 0, 0) := by decide +kernel
theorem t350_1050 : zT 350 1050 = some (.aload_n 0, 1, 0, 0, 0, 0) := by decide +kernel
theorem t350_1051 : zT 350 1051 = some (.iload_n 3, 1, 3, 0, 0, 0) := by decide +kernel
theorem t350_1052 : zT 350 1052 = some (.iconst 2, 1, 0, 0, 2, 0) := by decide +kernel
theorem t350_1053 : zT 350 1053 = some (.iadd, 1, 0, 0, 0, 0) := by decide +kernel
theorem t350_1054 : zT 350 1054 = some (.iaload, 1, 0, 0, 0, 0) := by decide +kernel
theorem t350_1055 : zT 350 1055 = some (.aload_n 0, 1, 0, 0, 0, 0) := by decide +kernel
theorem t350_1056 : zT 350 1056 = some (.iload_n 3, 1, 3, 0, 0, 0) := by decide +kernel
theorem t350_1057 : zT 350 1057 = some (.iconst 3, 1, 0, 0, 3, 0) := by decide +kernel
theorem t350_1058 : zT 350 1058 = some (.iadd, 1, 0, 0, 0, 0) := by decide +kernel
theorem t350_1059 : zT 350 1059 = some (.iaload, 1, 0, 0, 0, 0) := by decide +kernel
theorem t350_1060 : zT 350 1060 = some (.invokevirtual 135, 3, 200, 0, 0, 1497) := by decide +kernel
theorem t350_1063 : zT 350 1063 = some (.aload_n 2, 1, 2, 0, 0, 0) := by decide +kernel
theorem t350_1064 : zT 350 1064 = some (.aload_n 0, 1, 0, 0, 0, 0) := by decide +kernel
theorem t350_1065 : zT 350 1065 = some (.iload_n 3, 1, 3, 0, 0, 0) := by decide +kernel
theorem t350_1066 : zT 350 1066 = some (.iconst 1, 1, 0, 0, 1, 0) := by decide +kernel
theorem t350_1067 : zT 350 1067 = some (.iadd, 1, 0, 0, 0, 0) := by decide +kernel
theorem t350_1068 : zT 350 1068 = some (.iaload, 1, 0, 0, 0, 0) := by decide +kernel
theorem t350_1069 : zT 350 1069 = some (.aload_n 0, 1, 0, 0, 0, 0) := by decide +kernel
theorem t350_1070 : zT 350 1070 = some (.iload_n 3, 1, 3, 0, 0, 0) := by decide +kernel
theorem t350_1071 : zT 350 1071 = some (.iconst 2, 1, 0, 0, 2, 0) := by decide +kernel
theorem t350_1072 : zT 350 1072 = some (.iadd, 1, 0, 0, 0, 0) := by decide +kernel
theorem t350_1073 : zT 350 1073 = some (.iaload, 1, 0, 0, 0, 0) := by decide +kernel
theorem t350_1074 : zT 350 1074 = some (.aload_n 0, 1, 0, 0, 0, 0) := by decide +kernel
theorem t350_1075 : zT 350 1075 = some (.iload_n 3, 1, 3, 0, 0, 0) := by decide +kernel
theorem t350_1076 : zT 350 1076 = some (.iconst 3, 1, 0, 0, 3, 0) := by decide +kernel
theorem t350_1077 : zT 350 1077 = some (.iadd, 1, 0, 0, 0, 0) := by decide +kernel
theorem t350_1078 : zT 350 1078 = some (.iaload, 1, 0, 0, 0, 0) := by decide +kernel
theorem t350_1079 : zT 350 1079 = some (.invokevirtual 139, 3, 300, 0, 0, 2057) := by decide +kernel
theorem t350_1082 : zT 350 1082 = some (.lcmp, 1, 0, 0, 0, 0) := by decide +kernel
theorem t350_1083 : zT 350 1083 = some (.ifCond .eq 321, 3, 1404, 0, 0, 0) := by decide +kernel
theorem t350_1088 : zT 350 1088 = some (.aload_n 1, 1, 1, 0, 0, 0) := by decide +kernel
theorem t350_1089 : zT 350 1089 = some (.aload_n 0, 1, 0, 0, 0, 0) := by decide +kernel
theorem t350_1090 : zT 350 1090 = some (.iload_n 3, 1, 3, 0, 0, 0) := by decide +kernel
theorem t350_1091 : zT 350 1091 = some (.iconst 1, 1, 0, 0, 1, 0) := by decide +kernel
theorem t350_1092 : zT 350 1092 = some (.iadd, 1, 0, 0, 0, 0) := by decide +kernel
theorem t350_1093 : zT 350 1093 = some (.iaload, 1, 0, 0, 0, 0) := by decide +kernel
theorem t350_1094 : zT 350 1094 = some (.aload_n 0, 1, 0, 0, 0, 0) := by decide +kernel
theorem t350_1095 : zT 350 1095 = some (.iload_n 3, 1, 3, 0, 0, 0) := by decide +kernel
theorem t350_1096 : zT 350 1096 = some (.iconst 2, 1, 0, 0, 2, 0) := by decide +kernel
theorem t350_1097 : zT 350 1097 = some (.iadd, 1, 0, 0, 0, 0) := by decide +kernel
theorem t350_1098 : zT 350 1098 = some (.iaload, 1, 0, 0, 0, 0) := by decide +kernel
theorem t350_1099 : zT 350 1099 = some (.invokevirtual 140, 3, 201, 0, 0, 1503) := by decide +kernel
theorem t350_1102 : zT 350 1102 = some (.aload_n 2, 1, 2, 0, 0, 0) := by decide +kernel
theorem t350_1103 : zT 350 1103 = some (.aload_n 0, 1, 0, 0, 0, 0) := by decide +kernel
theorem t350_1104 : zT 350 1104 = some (.iload_n 3, 1, 3, 0, 0, 0) := by decide +kernel
theorem t350_1105 : zT 350 1105 = some (.iconst 1, 1, 0, 0, 1, 0) := by decide +kernel
theorem t350_1106 : zT 350 1106 = some (.iadd, 1, 0, 0, 0, 0) := by decide +kernel
theorem t350_1107 : zT 350 1107 = some (.iaload, 1, 0, 0, 0, 0) := by decide +kernel
theorem t350_1108 : zT 350 1108 = some (.aload_n 0, 1, 0, 0, 0, 0) := by decide +kernel
theorem t350_1109 : zT 350 1109 = some (.iload_n 3, 1, 3, 0, 0, 0) := by decide +kernel
theorem t350_1110 : zT 350 1110 = some (.iconst 2, 1, 0, 0, 2, 0) := by decide +kernel
theorem t350_1111 : zT 350 1111 = some (.iadd, 1, 0, 0, 0, 0) := by decide +kernel
theorem t350_1112 : zT 350 1112 = some (.iaload, 1, 0, 0, 0, 0) := by decide +kernel
theorem t350_1113 : zT 350 1113 = some (.invokevirtual 143, 3, 336, 0, 0, 2212) := by decide +kernel
theorem t350_1116 : zT 350 1116 = some (.if_icmp .eq 288, 3, 1404, 0, 0, 0) := by decide +kernel
theorem t350_1121 : zT 350 1121 = some (.aload_n 1, 1, 1, 0, 0, 0) := by decide +kernel
theorem t350_1122 : zT 350 1122 = some (.aload_n 0, 1, 0, 0, 0, 0) := by decide +kernel
theorem t350_1123 : zT 350 1123 = some (.iload_n 3, 1, 3, 0, 0, 0) := by decide +kernel
theorem t350_1124 : zT 350 1124 = some (.iconst 1, 1, 0, 0, 1, 0) := by decide +kernel
theorem t350_1125 : zT 350 1125 = some (.iadd, 1, 0, 0, 0, 0) := by decide +kernel
theorem t350_1126 : zT 350 1126 = some (.iaload, 1, 0, 0, 0, 0) := by decide +kernel
theorem t350_1127 : zT 350 1127 = some (.invokevirtual 144, 3, 203, 0, 0, 1512) := by decide +kernel
theorem t350_1130 : zT 350 1130 = some (.aload_n 2, 1, 2, 0, 0, 0) := by decide +kernel
theorem t350_1131 : zT 350 1131 = some (.aload_n 0, 1, 0, 0, 0, 0) := by decide +kernel
theorem t350_1132 : zT 350 1132 = some (.iload_n 3, 1, 3, 0, 0, 0) := by decide +kernel
theorem t350_1133 : zT 350 1133 = some (.iconst 1, 1, 0, 0, 1, 0) := by decide +kernel
theorem t350_1134 : zT 350 1134 = some (.iadd, 1, 0, 0, 0, 0) := by decide +kernel
theorem t350_1135 : zT 350 1135 = some (.iaload, 1, 0, 0, 0, 0) := by decide +kernel
theorem t350_1136 : zT 350 1136 = some (.invokevirtual 147, 3, 338, 0, 0, 2220) := by decide +kernel
theorem t350_1139 : zT 350 1139 = some (.if_icmp .eq 265, 3, 1404, 0, 0, 0) := by decide +kernel
theorem t350_1144 : zT 350 1144 = some (.aload_n 1, 1, 1, 0, 0, 0) := by decide +kernel
theorem t350_1145 : zT 350 1145 = some (.aload_n 0, 1, 0, 0, 0, 0) := by decide +kernel
theorem t350_1146 : zT 350 1146 = some (.iload_n 3, 1, 3, 0, 0, 0) := by decide +kernel
theorem t350_1147 : zT 350 1147 = some (.iconst 1, 1, 0, 0, 1, 0) := by decide +kernel
theorem t350_1148 : zT 350 1148 = some (.iadd, 1, 0, 0, 0, 0) := by decide +kernel
theorem t350_1149 : zT 350 1149 = some (.iaload, 1, 0, 0, 0, 0) := by decide +kernel
theorem t350_1150 : zT 350 1150 = some (.aload_n 0, 1, 0, 0, 0, 0) := by decide +kernel
theorem t350_1151 : zT 350 1151 = some (.iload_n 3, 1, 3, 0, 0, 0) := by decide +kernel
theorem t350_1152 : zT 350 1152 = some (.iconst 2, 1, 0, 0, 2, 0) := by decide +kernel
theorem t350_1153 : zT 350 1153 = some (.iadd, 1, 0, 0, 0, 0) := by decide +kernel
theorem t350_1154 : zT 350 1154 = some (.iaload, 1, 0, 0, 0, 0) := by decide +kernel
theorem t350_1155 : zT 350 1155 = some (.invokevirtual 148, 3, 204, 0, 0, 1516) := by decide +kernel
theorem t350_1158 : zT 350 1158 = some (.aload_n 2, 1, 2, 0, 0, 0) := by decide +kernel
theorem t350_1159 : zT 350 1159 = some (.aload_n 0, 1, 0, 0, 0, 0) := by decide +kernel
theorem t350_1160 : zT 350 1160 = some (.iload_n 3, 1, 3, 0, 0, 0) := by decide +kernel
theorem t350_1161 : zT 350 1161 = some (.iconst 1, 1, 0, 0, 1, 0) := by decide +kernel
theorem t350_1162 : zT 350 1162 = some (.iadd, 1, 0, 0, 0, 0) := by decide +kernel
theorem t350_1163 : zT 350 1163 = some (.iaload, 1, 0, 0, 0, 0) := by decide +kernel
theorem t350_1164 : zT 350 1164 = some (.aload_n 0, 1, 0, 0, 0, 0) := by decide +kernel
theorem t350_1165 : zT 350 1165 = some (.iload_n 3, 1, 3, 0, 0, 0) := by decide +kernel
theorem t350_1166 : zT 350 1166 = some (.iconst 2, 1, 0, 0, 2, 0) := by decide +kernel
theorem t350_1167 : zT 350 1167 = some (.iadd, 1, 0, 0, 0, 0) := by decide +kernel
theorem t350_1168 : zT 350 1168 = some (.iaload, 1, 0, 0, 0, 0) := by decide +kernel
theorem t350_1169 : zT 350 1169 = some (.invokevirtual 151, 3, 339, 0, 0, 2224) := by decide +kernel
theorem t350_1172 : zT 350 1172 = some (.if_icmp .eq 232, 3, 1404, 0, 0, 0) := by decide +kernel
theorem t350_1177 : zT 350 1177 = some (.aload_n 1, 1, 1, 0, 0, 0) := by decide +kernel
theorem t350_1178 : zT 350 1178 = some (.aload_n 0, 1, 0, 0, 0, 0) := by decide +kernel
theorem t350_1179 : zT 350 1179 = some (.iload_n 3, 1, 3, 0, 0, 0) := by decide +kernel
theorem t350_1180 : zT 350 1180 = some (.iconst 1, 1, 0, 0, 1, 0) := by decide +kernel
theorem t350_1181 : zT 350 1181 = some (.iadd, 1, 0, 0, 0, 0) := by decide +kernel
theorem t350_1182 : zT 350 1182 = some (.iaload, 1, 0, 0, 0, 0) := by decide +kernel
theorem t350_1183 : zT 350 1183 = some (.aload_n 0, 1, 0, 0, 0, 0) := by decide +kernel
theorem t350_1184 : zT 350 1184 = some (.iload_n 3, 1, 3, 0, 0, 0) := by decide +kernel
theorem t350_1185 : zT 350 1185 = some (.iconst 2, 1, 0, 0, 2, 0) := by decide +kernel
theorem t350_1186 : zT 350 1186 = some (.iadd, 1, 0, 0, 0, 0) := by decide +kernel
theorem t350_1187 : zT 350 1187 = some (.iaload, 1, 0, 0, 0, 0) := by decide +kernel
theorem t350_1188 : zT 350 1188 = some (.invokevirtual 152, 3, 205, 0, 0, 1521) := by decide +kernel
theorem t350_1191 : zT 350 1191 = some (.aload_n 2, 1, 2, 0, 0, 0) := by decide +kernel
theorem t350_1192 : zT 350 1192 = some (.aload_n 0, 1, 0, 0, 0, 0) := by decide +kernel
theorem t350_1193 : zT 350 1193 = some (.iload_n 3, 1, 3, 0, 0, 0) := by decide +kernel
theorem t350_1194 : zT 350 1194 = some (.iconst 1, 1, 0, 0, 1, 0) := by decide +kernel
theorem t350_1195 : zT 350 1195 = some (.iadd, 1, 0, 0, 0, 0) := by decide +kernel
theorem t350_1196 : zT 350 1196 = some (.iaload, 1, 0, 0, 0, 0) := by decide +kernel
theorem t350_1197 : zT 350 1197 = some (.aload_n 0, 1, 0, 0, 0, 0) := by decide +kernel
theorem t350_1198 : zT 350 1198 = some (.iload_n 3, 1, 3, 0, 0, 0) := by decide +kernel
theorem t350_1199 : zT 350 1199 = some (.iconst 2, 1, 0, 0, 2, 0) := by decide +kernel
theorem t350_1200 : zT 350 1200 = some (.iadd, 1, 0, 0, 0, 0) := by decide +kernel
theorem t350_1201 : zT 350 1201 = some (.iaload, 1, 0, 0, 0, 0) := by decide +kernel
theorem t350_1202 : zT 350 1202 = some (.invokevirtual 155, 3, 340, 0, 0, 2228) := by decide +kernel
theorem t350_1205 : zT 350 1205 = some (.if_icmp .eq 199, 3, 1404, 0, 0, 0) := by decide +kernel
theorem t350_1210 : zT 350 1210 = some (.aload_n 1, 1, 1, 0, 0, 0) := by decide +kernel
theorem t350_1211 : zT 350 1211 = some (.aload_n 0, 1, 0, 0, 0, 0) := by decide +kernel
theorem t350_1212 : zT 350 1212 = some (.iload_n 3, 1, 3, 0, 0, 0) := by decide +kernel
theorem t350_1213 : zT 350 1213 = some (.iconst 1, 1, 0, 0, 1, 0) := by decide +kernel
theorem t350_1214 : zT 350 1214 = some (.iadd, 1, 0, 0, 0, 0) := by decide +kernel
theorem t350_1215 : zT 350 1215 = some (.iaload, 1, 0, 0, 0, 0) := by decide +kernel
theorem t350_1216 : zT 350 1216 = some (.aload_n 0, 1, 0, 0, 0, 0) := by decide +kernel
theorem t350_1217 : zT 350 1217 = some (.iload_n 3, 1, 3, 0, 0, 0) := by decide +kernel
theorem t350_1218 : zT 350 1218 = some (.iconst 2, 1, 0, 0, 2, 0) := by decide +kernel
theorem t350_1219 : zT 350 1219 = some (.iadd, 1, 0, 0, 0, 0) := by decide +kernel
theorem t350_1220 : zT 350 1220 = some (.iaload, 1, 0, 0, 0, 0) := by decide +kernel
theorem t350_1221 : zT 350 1221 = some (.invokevirtual 156, 3, 206, 0, 0, 1526) := by decide +kernel
theorem t350_1224 : zT 350 1224 = some (.aload_n 2, 1, 2, 0, 0, 0) := by decide +kernel
theorem t350_1225 : zT 350 1225 = some (.aload_n 0, 1, 0, 0, 0, 0) := by decide +kernel
theorem t350_1226 : zT 350 1226 = some (.iload_n 3, 1, 3, 0, 0, 0) := by decide +kernel
theorem t350_1227 : zT 350 1227 = some (.iconst 1, 1, 0, 0, 1, 0) := by decide +kernel
theorem t350_1228 : zT 350 1228 = some (.iadd, 1, 0, 0, 0, 0) := by decide +kernel
theorem t350_1229 : zT 350 1229 = some (.iaload, 1, 0, 0, 0, 0) := by decide +kernel
theorem t350_1230 : zT 350 1230 = some (.aload_n 0, 1, 0, 0, 0, 0) := by decide +kernel
theorem t350_1231 : zT 350 1231 = some (.iload_n 3, 1, 3, 0, 0, 0) := by decide +kernel
theorem t350_1232 : zT 350 1232 = some (.iconst 2, 1, 0, 0, 2, 0) := by decide +kernel
theorem t350_1233 : zT 350 1233 = some (.iadd, 1, 0, 0, 0, 0) := by decide +kernel
theorem t350_1234 : zT 350 1234 = some (.iaload, 1, 0, 0, 0, 0) := by decide +kernel
theorem t350_1235 : zT 350 1235 = some (.invokevirtual 159, 3, 335, 0, 0, 2207) := by decide +kernel
theorem t350_1238 : zT 350 1238 = some (.if_icmp .eq 166, 3, 1404, 0, 0, 0) := by decide +kernel
theorem t350_1243 : zT 350 1243 = some (.aload_n 1, 1, 1, 0, 0, 0) := by decide +kernel
theorem t350_1244 : zT 350 1244 = some (.aload_n 0, 1, 0, 0, 0, 0) := by decide +kernel
theorem t350_1245 : zT 350 1245 = some (.iload_n 3, 1, 3, 0, 0, 0) := by decide +kernel
theorem t350_1246 : zT 350 1246 = some (.iconst 1, 1, 0, 0, 1, 0) := by decide +kernel
theorem t350_1247 : zT 350 1247 = some (.iadd, 1, 0, 0, 0, 0) := by decide +kernel
theorem t350_1248 : zT 350 1248 = some (.iaload, 1, 0, 0, 0, 0) := by decide +kernel
theorem t350_1249 : zT 350 1249 = some (.aload_n 0, 1, 0, 0, 0, 0) := by decide +kernel
theorem t350_1250 : zT 350 1250 = some (.iload_n 3, 1, 3, 0, 0, 0) := by decide +kernel
theorem t350_1251 : zT 350 1251 = some (.iconst 2, 1, 0, 0, 2, 0) := by decide +kernel
theorem t350_1252 : zT 350 1252 = some (.iadd, 1, 0, 0, 0, 0) := by decide +kernel
theorem t350_1253 : zT 350 1253 = some (.iaload, 1, 0, 0, 0, 0) := by decide +kernel
theorem t350_1254 : zT 350 1254 = some (.invokevirtual 160, 3, 207, 0, 0, 1531) := by decide +kernel
theorem t350_1257 : zT 350 1257 = some (.aload_n 2, 1, 2, 0, 0, 0) := by decide +kernel
theorem t350_1258 : zT 350 1258 = some (.aload_n 0, 1, 0, 0, 0, 0) := by decide +kernel
theorem t350_1259 : zT 350 1259 = some (.iload_n 3, 1, 3, 0, 0, 0) := by decide +kernel
theorem t350_1260 : zT 350 1260 = some (.iconst 1, 1, 0, 0, 1, 0) := by decide +kernel
theorem t350_1261 : zT 350 1261 = some (.iadd, 1, 0, 0, 0, 0) := by decide +kernel
theorem t350_1262 : zT 350 1262 = some (.iaload, 1, 0, 0, 0, 0) := by decide +kernel
theorem t350_1263 : zT 350 1263 = some (.aload_n 0, 1, 0, 0, 0, 0) := by decide +kernel
theorem t350_1264 : zT 350 1264 = some (.iload_n 3, 1, 3, 0, 0, 0) := by decide +kernel
theorem t350_1265 : zT 350 1265 = some (.iconst 2, 1, 0, 0, 2, 0) := by decide +kernel
theorem t350_1266 : zT 350 1266 = some (.iadd, 1, 0, 0, 0, 0) := by decide +kernel
theorem t350_1267 : zT 350 1267 = some (.iaload, 1, 0, 0, 0, 0) := by decide +kernel
theorem t350_1268 : zT 350 1268 = some (.invokevirtual 163, 3, 302, 0, 0, 2067) := by decide +kernel
theorem t350_1271 : zT 350 1271 = some (.if_icmp .eq 133, 3, 1404, 0, 0, 0) := by decide +kernel
theorem t350_1276 : zT 350 1276 = some (.aload_n 1, 1, 1, 0, 0, 0) := by decide +kernel
theorem t350_1277 : zT 350 1277 = some (.aload_n 0, 1, 0, 0, 0, 0) := by decide +kernel
theorem t350_1278 : zT 350 1278 = some (.iload_n 3, 1, 3, 0, 0, 0) := by decide +kernel
theorem t350_1279 : zT 350 1279 = some (.iconst 1, 1, 0, 0, 1, 0) := by decide +kernel
theorem t350_1280 : zT 350 1280 = some (.iadd, 1, 0, 0, 0, 0) := by decide +kernel
theorem t350_1281 : zT 350 1281 = some (.iaload, 1, 0, 0, 0, 0) := by decide +kernel
theorem t350_1282 : zT 350 1282 = some (.aload_n 0, 1, 0, 0, 0, 0) := by decide +kernel
theorem t350_1283 : zT 350 1283 = some (.iload_n 3, 1, 3, 0, 0, 0) := by decide +kernel
theorem t350_1284 : zT 350 1284 = some (.iconst 2, 1, 0, 0, 2, 0) := by decide +kernel
theorem t350_1285 : zT 350 1285 = some (.iadd, 1, 0, 0, 0, 0) := by decide +kernel
theorem t350_1286 : zT 350 1286 = some (.iaload, 1, 0, 0, 0, 0) := by decide +kernel
theorem t350_1287 : zT 350 1287 = some (.invokevirtual 164, 3, 210, 0, 0, 1544) := by decide +kernel
theorem t350_1290 : zT 350 1290 = some (.aload_n 2, 1, 2, 0, 0, 0) := by decide +kernel
theorem t350_1291 : zT 350 1291 = some (.aload_n 0, 1, 0, 0, 0, 0) := by decide +kernel
theorem t350_1292 : zT 350 1292 = some (.iload_n 3, 1, 3, 0, 0, 0) := by decide +kernel
theorem t350_1293 : zT 350 1293 = some (.iconst 1, 1, 0, 0, 1, 0) := by decide +kernel
theorem t350_1294 : zT 350 1294 = some (.iadd, 1, 0, 0, 0, 0) := by decide +kernel
theorem t350_1295 : zT 350 1295 = some (.iaload, 1, 0, 0, 0, 0) := by decide +kernel
theorem t350_1296 : zT 350 1296 = some (.aload_n 0, 1, 0, 0, 0, 0) := by decide +kernel
theorem t350_1297 : zT 350 1297 = some (.iload_n 3, 1, 3, 0, 0, 0) := by decide +kernel
theorem t350_1298 : zT 350 1298 = some (.iconst 2, 1, 0, 0, 2, 0) := by decide +kernel
theorem t350_1299 : zT 350 1299 = some (.iadd, 1, 0, 0, 0, 0) := by decide +kernel
theorem t350_1300 : zT 350 1300 = some (.iaload, 1, 0, 0, 0, 0) := by decide +kernel
theorem t350_1301 : zT 350 1301 = some (.invokevirtual 167, 3, 341, 0, 0, 2232) := by decide +kernel
theorem t350_1304 : zT 350 1304 = some (.if_icmp .eq 100, 3, 1404, 0, 0, 0) := by decide +kernel
theorem t350_1309 : zT 350 1309 = some (.aload_n 1, 1, 1, 0, 0, 0) := by decide +kernel
theorem t350_1310 : zT 350 1310 = some (.invokevirtual 168, 3, 212, 0, 0, 1552) := by decide +kernel
theorem t350_1313 : zT 350 1313 = some (.aload_n 2, 1, 2, 0, 0, 0) := by decide +kernel
theorem t350_1314 : zT 350 1314 = some (.invokevirtual 171, 3, 225, 0, 0, 1762) := by decide +kernel
theorem t350_1317 : zT 350 1317 = some (.if_icmp .eq 87, 3, 1404, 0, 0, 0) := by decide +kernel
theorem t350_1322 : zT 350 1322 = some (.aload_n 1, 1, 1, 0, 0, 0) := by decide +kernel
theorem t350_1323 : zT 350 1323 = some (.aload_n 0, 1, 0, 0, 0, 0) := by decide +kernel
theorem t350_1324 : zT 350 1324 = some (.iload_n 3, 1, 3, 0, 0, 0) := by decide +kernel
theorem t350_1325 : zT 350 1325 = some (.iconst 1, 1, 0, 0, 1, 0) := by decide +kernel
theorem t350_1326 : zT 350 1326 = some (.iadd, 1, 0, 0, 0, 0) := by decide +kernel
theorem t350_1327 : zT 350 1327 = some (.iaload, 1, 0, 0, 0, 0) := by decide +kernel
theorem t350_1328 : zT 350 1328 = some (.invokevirtual 172, 3, 214, 0, 0, 1560) := by decide +kernel
theorem t350_1331 : zT 350 1331 = some (.aload_n 2, 1, 2, 0, 0, 0) := by decide +kernel
theorem t350_1332 : zT 350 1332 = some (.aload_n 0, 1, 0, 0, 0, 0) := by decide +kernel
theorem t350_1333 : zT 350 1333 = some (.iload_n 3, 1, 3, 0, 0, 0) := by decide +kernel
theorem t350_1334 : zT 350 1334 = some (.iconst 1, 1, 0, 0, 1, 0) := by decide +kernel
theorem t350_1335 : zT 350 1335 = some (.iadd, 1, 0, 0, 0, 0) := by decide +kernel
theorem t350_1336 : zT 350 1336 = some (.iaload, 1, 0, 0, 0, 0) := by decide +kernel
theorem t350_1337 : zT 350 1337 = some (.invokevirtual 176, 3, 227, 0, 0, 1770) := by decide +kernel
theorem t350_1340 : zT 350 1340 = some (.if_icmp .eq 64, 3, 1404, 0, 0, 0) := by decide +kernel
theorem t350_1345 : zT 350 1345 = some (.aload_n 1, 1, 1, 0, 0, 0) := by decide +kernel
theorem t350_1346 : zT 350 1346 = some (.aload_n 0, 1, 0, 0, 0, 0) := by decide +kernel
theorem t350_1347 : zT 350 1347 = some (.iload_n 3, 1, 3, 0, 0, 0) := by decide +kernel
theorem t350_1348 : zT 350 1348 = some (.iconst 1, 1, 0, 0, 1, 0) := by decide +kernel
theorem t350_1349 : zT 350 1349 = some (.iadd, 1, 0, 0, 0, 0) := by decide +kernel
theorem t350_1350 : zT 350 1350 = some (.iaload, 1, 0, 0, 0, 0) := by decide +kernel
theorem t350_1351 : zT 350 1351 = some (.invokevirtual 177, 3, 216, 0, 0, 1568) := by decide +kernel
theorem t350_1354 : zT 350 1354 = some (.aload_n 2, 1, 2, 0, 0, 0) := by decide +kernel
theorem t350_1355 : zT 350 1355 = some (.aload_n 0, 1, 0, 0, 0, 0) := by decide +kernel
theorem t350_1356 : zT 350 1356 = some (.iload_n 3, 1, 3, 0, 0, 0) := by decide +kernel
theorem t350_1357 : zT 350 1357 = some (.iconst 1, 1, 0, 0, 1, 0) := by decide +kernel
theorem t350_1358 : zT 350 1358 = some (.iadd, 1, 0, 0, 0, 0) := by decide +kernel
theorem t350_1359 : zT 350 1359 = some (.iaload, 1, 0, 0, 0, 0) := by decide +kernel
theorem t350_1360 : zT 350 1360 = some (.invokevirtual 180, 3, 229, 0, 0, 1777) := by decide +kernel
theorem t350_1363 : zT 350 1363 = some (.if_icmp .eq 41, 3, 1404, 0, 0, 0) := by decide +kernel
theorem t350_1368 : zT 350 1368 = some (.aload_n 1, 1, 1, 0, 0, 0) := by decide +kernel
theorem t350_1369 : zT 350 1369 = some (.invokevirtual 181, 3, 219, 0, 0, 1581) := by decide +kernel
theorem t350_1372 : zT 350 1372 = some (.aload_n 2, 1, 2, 0, 0, 0) := by decide +kernel
theorem t350_1373 : zT 350 1373 = some (.invokevirtual 184, 3, 346, 0, 0, 2257) := by decide +kernel
theorem t350_1376 : zT 350 1376 = some (.if_icmp .eq 28, 3, 1404, 0, 0, 0) := by decide +kernel
theorem t350_1381 : zT 350 1381 = some (.aload_n 1, 1, 1, 0, 0, 0) := by decide +kernel
theorem t350_1382 : zT 350 1382 = some (.aload_n 0, 1, 0, 0, 0, 0) := by decide +kernel
theorem t350_1383 : zT 350 1383 = some (.iload_n 3, 1, 3, 0, 0, 0) := by decide +kernel
theorem t350_1384 : zT 350 1384 = some (.iconst 1, 1, 0, 0, 1, 0) := by decide +kernel
theorem t350_1385 : zT 350 1385 = some (.iadd, 1, 0, 0, 0, 0) := by decide +kernel
theorem t350_1386 : zT 350 1386 = some (.iaload, 1, 0, 0, 0, 0) := by decide +kernel
theorem t350_1387 : zT 350 1387 = some (.invokevirtual 185, 3, 223, 0, 0, 1597) := by decide +kernel
theorem t350_1390 : zT 350 1390 = some (.aload_n 2, 1, 2, 0, 0, 0) := by decide +kernel
theorem t350_1391 : zT 350 1391 = some (.aload_n 0, 1, 0, 0, 0, 0) := by decide +kernel
theorem t350_1392 : zT 350 1392 = some (.iload_n 3, 1, 3, 0, 0, 0) := by decide +kernel
theorem t350_1393 : zT 350 1393 = some (.iconst 1, 1, 0, 0, 1, 0) := by decide +kernel
theorem t350_1394 : zT 350 1394 = some (.iadd, 1, 0, 0, 0, 0) := by decide +kernel
theorem t350_1395 : zT 350 1395 = some (.iaload, 1, 0, 0, 0, 0) := by decide +kernel
theorem t350_1396 : zT 350 1396 = some (.invokevirtual 188, 3, 349, 0, 0, 2269) := by decide +kernel
theorem t350_1399 : zT 350 1399 = some (.if_icmp .eq 5, 3, 1404, 0, 0, 0) := by decide +kernel
theorem t350_1404 : zT 350 1404 = some (.iinc 3 6, 3, 0, 0, 0, 0) := by decide +kernel
theorem t350_1407 : zT 350 1407 = some (.goto (-1389), 3, 18, 0, 0, 0) := by decide +kernel
theorem t350_1410 : zT 350 1410 = some (.iconst 1, 1, 0, 0, 1, 0) := by decide +kernel
theorem t350_1411 : zT 350 1411 = some (.ireturn, 1, 0, 0, 0, 0) := by decide +kernel
def zfcP (t : Int32 × Int32 × Int32 × Int32 × Int32) : Prop := zRun 546 14 [.ref 6, .int t.1, .int t.2.1, .int t.2.2.1, .int t.2.2.2.1, .int t.2.2.2.2] zMc (fun r _ => decide (r = some (.int (20 : Int32)))) = true
noncomputable def zfc : Int32 × Int32 × Int32 × Int32 × Int32 := Classical.epsilon (fun t => ¬ zfcP t)
theorem zfc1 : zfcP zfc := by
  unfold zfcP
  decide +kernel
theorem zfc2 (t : Int32 × Int32 × Int32 × Int32 × Int32) : zfcP t := by
  by_cases h : zfcP t
  · exact h
  · exact absurd zfc1 (Classical.epsilon_spec (p := fun t => ¬ zfcP t) ⟨t, h⟩)
theorem c0_0 {X : zX} {l : Launch} {a b c d e : Int32} : zCall X l 1 0 0 14 [.ref 6, .int a, .int b, .int c, .int d, .int e] zMc (fun r _ => r = some (.int (20 : Int32))) := zs_run (q := 546) (Qb := fun r _ => decide (r = some (.int (20 : Int32)))) mf14 (by decide) (zfc2 (a, b, c, d, e)) (fun _ _ q => of_decide_eq_true q)
def zfmP (t : Int32 × Int32 × Int32 × Int32 × Int32) : Prop := zRun 449 231 [.ref 336, .int t.1, .int t.2.1, .int t.2.2.1, .int t.2.2.2.1, .int t.2.2.2.2] zMm (fun r _ => decide (r = some (.int (20 : Int32)))) = true
noncomputable def zfm : Int32 × Int32 × Int32 × Int32 × Int32 := Classical.epsilon (fun t => ¬ zfmP t)
theorem zfm1 : zfmP zfm := by
  unfold zfmP
  decide +kernel
theorem zfm2 (t : Int32 × Int32 × Int32 × Int32 × Int32) : zfmP t := by
  by_cases h : zfmP t
  · exact h
  · exact absurd zfm1 (Classical.epsilon_spec (p := fun t => ¬ zfmP t) ⟨t, h⟩)
theorem m0_0 {X : zX} {l : Launch} {a b c d e : Int32} : zCall X l 1 0 0 231 [.ref 336, .int a, .int b, .int c, .int d, .int e] zMm (fun r _ => r = some (.int (20 : Int32))) := zs_run (q := 449) (Qb := fun r _ => decide (r = some (.int (20 : Int32)))) mf231 (by decide) (zfm2 (a, b, c, d, e)) (fun _ _ q => of_decide_eq_true q)
