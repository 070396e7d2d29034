theorem li99 : (99 : Int32).toInt = 99 := by decide
theorem mf325 : zmf 325 5 12 8 12 := by unfold zmf; decide +kernel
theorem mf341 : zmf 341 3 12 1 8 := by unfold zmf; decide +kernel
theorem mr325 : (mt 325).2.2.2.1 = none := by decide +kernel
theorem mr341 : (mt 341).2.2.2.1 = some .int := by decide +kernel
theorem t325_0 : zT 325 0 = some (.aload_n 0, 1, 0, 0, 0, 0) := by decide +kernel
theorem t325_1 : zT 325 1 = some (.invokevirtual 418, 3, 322, 0, 0, 2170) := by decide +kernel
theorem t325_4 : zT 325 4 = some (.aload_n 0, 1, 0, 0, 0, 0) := by decide +kernel
theorem t325_5 : zT 325 5 = some (.getfield 3, 3, 12, 0, 0, 1607) := by decide +kernel
theorem t325_8 : zT 325 8 = some (.bipush 12, 2, 0, 0, 12, 0) := by decide +kernel
theorem t325_10 : zT 325 10 = some (.iaload, 1, 0, 0, 0, 0) := by decide +kernel
theorem t325_11 : zT 325 11 = some (.iadd, 1, 0, 0, 0, 0) := by decide +kernel
theorem t325_12 : zT 325 12 = some (.iconst 1, 1, 0, 0, 1, 0) := by decide +kernel
theorem t325_13 : zT 325 13 = some (.isub, 1, 0, 0, 0, 0) := by decide +kernel
theorem t325_14 : zT 325 14 = some (.aload_n 0, 1, 0, 0, 0, 0) := by decide +kernel
theorem t325_15 : zT 325 15 = some (.getfield 3, 3, 12, 0, 0, 1607) := by decide +kernel
theorem t325_18 : zT 325 18 = some (.bipush 12, 2, 0, 0, 12, 0) := by decide +kernel
theorem t325_20 : zT 325 20 = some (.iaload, 1, 0, 0, 0, 0) := by decide +kernel
theorem t325_21 : zT 325 21 = some (.idiv, 1, 0, 0, 0, 0) := by decide +kernel
theorem t325_22 : zT 325 22 = some (.istore 5, 2, 0, 0, 0, 0) := by decide +kernel
theorem t325_24 : zT 325 24 = some (.iload 5, 2, 0, 0, 0, 0) := by decide +kernel
theorem t325_26 : zT 325 26 = some (.iconst 1, 1, 0, 0, 1, 0) := by decide +kernel
theorem t325_27 : zT 325 27 = some (.if_icmp .ge 7, 3, 34, 0, 0, 0) := by decide +kernel
theorem t325_30 : zT 325 30 = some (.iconst 1, 1, 0, 0, 1, 0) := by decide +kernel
theorem t325_31 : zT 325 31 = some (.goto 5, 3, 36, 0, 0, 0) := by decide +kernel
theorem t325_36 : zT 325 36 = some (.istore 5, 2, 0, 0, 0, 0) := by decide +kernel
theorem t325_38 : zT 325 38 = some (.iconst 0, 1, 0, 0, 0, 0) := by decide +kernel
theorem t325_39 : zT 325 39 = some (.istore 6, 2, 0, 0, 0, 0) := by decide +kernel
theorem t325_41 : zT 325 41 = some (.iload 6, 2, 0, 0, 0, 0) := by decide +kernel
theorem t325_43 : zT 325 43 = some (.iload_n 3, 1, 3, 0, 0, 0) := by decide +kernel
theorem t325_44 : zT 325 44 = some (.if_icmp .ge 17, 3, 61, 0, 0, 0) := by decide +kernel
theorem t325_47 : zT 325 47 = some (.aload_n 0, 1, 0, 0, 0, 0) := by decide +kernel
theorem t325_48 : zT 325 48 = some (.getfield 86, 3, 12, 40, 0, 1647) := by decide +kernel
theorem t325_51 : zT 325 51 = some (.iload 6, 2, 0, 0, 0, 0) := by decide +kernel
theorem t325_53 : zT 325 53 = some (.iconst 0, 1, 0, 0, 0, 0) := by decide +kernel
theorem t325_54 : zT 325 54 = some (.iastore, 1, 0, 0, 0, 0) := by decide +kernel
theorem t325_55 : zT 325 55 = some (.iinc 6 1, 3, 0, 0, 0, 0) := by decide +kernel
theorem t325_58 : zT 325 58 = some (.goto (-17), 3, 41, 0, 0, 0) := by decide +kernel
theorem t325_61 : zT 325 61 = some (.aload_n 0, 1, 0, 0, 0, 0) := by decide +kernel
theorem t325_62 : zT 325 62 = some (.iconst 0, 1, 0, 0, 0, 0) := by decide +kernel
theorem t325_63 : zT 325 63 = some (.putfield 421, 3, 12, 42, 0, 1649) := by decide +kernel
theorem t325_66 : zT 325 66 = some (.aload_n 0, 1, 0, 0, 0, 0) := by decide +kernel
theorem t325_67 : zT 325 67 = some (.iconst 0, 1, 0, 0, 0, 0) := by decide +kernel
theorem t325_68 : zT 325 68 = some (.putfield 424, 3, 12, 43, 0, 1650) := by decide +kernel
theorem t325_71 : zT 325 71 = some (.aload_n 0, 1, 0, 0, 0, 0) := by decide +kernel
theorem t325_72 : zT 325 72 = some (.iconst 0, 1, 0, 0, 0, 0) := by decide +kernel
theorem t325_73 : zT 325 73 = some (.putfield 427, 3, 12, 44, 0, 1651) := by decide +kernel
theorem t325_76 : zT 325 76 = some (.aload_n 0, 1, 0, 0, 0, 0) := by decide +kernel
theorem t325_77 : zT 325 77 = some (.iconst 0, 1, 0, 0, 0, 0) := by decide +kernel
theorem t325_78 : zT 325 78 = some (.putfield 430, 3, 12, 45, 0, 1652) := by decide +kernel
theorem t325_81 : zT 325 81 = some (.iconst 0, 1, 0, 0, 0, 0) := by decide +kernel
theorem t325_82 : zT 325 82 = some (.istore 6, 2, 0, 0, 0, 0) := by decide +kernel
theorem t325_84 : zT 325 84 = some (.iconst 0, 1, 0, 0, 0, 0) := by decide +kernel
theorem t325_85 : zT 325 85 = some (.istore 7, 2, 0, 0, 0, 0) := by decide +kernel
theorem t325_87 : zT 325 87 = some (.iload 7, 2, 0, 0, 0, 0) := by decide +kernel
theorem t325_89 : zT 325 89 = some (.iload_n 1, 1, 1, 0, 0, 0) := by decide +kernel
theorem t325_90 : zT 325 90 = some (.if_icmp .ge 278, 3, 368, 0, 0, 0) := by decide +kernel
theorem t325_93 : zT 325 93 = some (.iload 7, 2, 0, 0, 0, 0) := by decide +kernel
theorem t325_95 : zT 325 95 = some (.iload_n 2, 1, 2, 0, 0, 0) := by decide +kernel
theorem t325_96 : zT 325 96 = some (.imul, 1, 0, 0, 0, 0) := by decide +kernel
theorem t325_97 : zT 325 97 = some (.istore 8, 2, 0, 0, 0, 0) := by decide +kernel
theorem t325_99 : zT 325 99 = some (.iconst 0, 1, 0, 0, 0, 0) := by decide +kernel
theorem t325_100 : zT 325 100 = some (.istore 9, 2, 0, 0, 0, 0) := by decide +kernel
theorem t325_102 : zT 325 102 = some (.iconst 0, 1, 0, 0, 0, 0) := by decide +kernel
theorem t325_103 : zT 325 103 = some (.istore 10, 2, 0, 0, 0, 0) := by decide +kernel
theorem t325_105 : zT 325 105 = some (.iload 10, 2, 0, 0, 0, 0) := by decide +kernel
theorem t325_107 : zT 325 107 = some (.iload 6, 2, 0, 0, 0, 0) := by decide +kernel
theorem t325_109 : zT 325 109 = some (.if_icmp .ge 31, 3, 140, 0, 0, 0) := by decide +kernel
theorem t325_112 : zT 325 112 = some (.iload 9, 2, 0, 0, 0, 0) := by decide +kernel
theorem t325_114 : zT 325 114 = some (.aload_n 0, 1, 0, 0, 0, 0) := by decide +kernel
theorem t325_115 : zT 325 115 = some (.getfield 89, 3, 12, 41, 0, 1648) := by decide +kernel
theorem t325_118 : zT 325 118 = some (.iload 10, 2, 0, 0, 0, 0) := by decide +kernel
theorem t325_120 : zT 325 120 = some (.iaload, 1, 0, 0, 0, 0) := by decide +kernel
theorem t325_121 : zT 325 121 = some (.iload 8, 2, 0, 0, 0, 0) := by decide +kernel
theorem t325_123 : zT 325 123 = some (.if_icmp .le 7, 3, 130, 0, 0, 0) := by decide +kernel
theorem t325_130 : zT 325 130 = some (.iconst 0, 1, 0, 0, 0, 0) := by decide +kernel
theorem t325_131 : zT 325 131 = some (.iadd, 1, 0, 0, 0, 0) := by decide +kernel
theorem t325_132 : zT 325 132 = some (.istore 9, 2, 0, 0, 0, 0) := by decide +kernel
theorem t325_134 : zT 325 134 = some (.iinc 10 1, 3, 0, 0, 0, 0) := by decide +kernel
theorem t325_137 : zT 325 137 = some (.goto (-32), 3, 105, 0, 0, 0) := by decide +kernel
theorem t325_140 : zT 325 140 = some (.iconst 0, 1, 0, 0, 0, 0) := by decide +kernel
theorem t325_141 : zT 325 141 = some (.istore 10, 2, 0, 0, 0, 0) := by decide +kernel
theorem t325_143 : zT 325 143 = some (.iconst 1, 1, 0, 0, 1, 0) := by decide +kernel
theorem t325_144 : zT 325 144 = some (.istore 11, 2, 0, 0, 0, 0) := by decide +kernel
theorem t325_146 : zT 325 146 = some (.iload 11, 2, 0, 0, 0, 0) := by decide +kernel
theorem t325_148 : zT 325 148 = some (.iload_n 3, 1, 3, 0, 0, 0) := by decide +kernel
theorem t325_149 : zT 325 149 = some (.if_icmp .ge 35, 3, 184, 0, 0, 0) := by decide +kernel
theorem t325_152 : zT 325 152 = some (.aload_n 0, 1, 0, 0, 0, 0) := by decide +kernel
theorem t325_153 : zT 325 153 = some (.getfield 86, 3, 12, 40, 0, 1647) := by decide +kernel
theorem t325_156 : zT 325 156 = some (.iload 11, 2, 0, 0, 0, 0) := by decide +kernel
theorem t325_158 : zT 325 158 = some (.iaload, 1, 0, 0, 0, 0) := by decide +kernel
theorem t325_159 : zT 325 159 = some (.aload_n 0, 1, 0, 0, 0, 0) := by decide +kernel
theorem t325_160 : zT 325 160 = some (.getfield 86, 3, 12, 40, 0, 1647) := by decide +kernel
theorem t325_163 : zT 325 163 = some (.iload 10, 2, 0, 0, 0, 0) := by decide +kernel
theorem t325_165 : zT 325 165 = some (.iaload, 1, 0, 0, 0, 0) := by decide +kernel
theorem t325_166 : zT 325 166 = some (.if_icmp .ge 8, 3, 174, 0, 0, 0) := by decide +kernel
theorem t325_169 : zT 325 169 = some (.iload 11, 2, 0, 0, 0, 0) := by decide +kernel
theorem t325_171 : zT 325 171 = some (.goto 5, 3, 176, 0, 0, 0) := by decide +kernel
theorem t325_174 : zT 325 174 = some (.iload 10, 2, 0, 0, 0, 0) := by decide +kernel
theorem t325_176 : zT 325 176 = some (.istore 10, 2, 0, 0, 0, 0) := by decide +kernel
theorem t325_178 : zT 325 178 = some (.iinc 11 1, 3, 0, 0, 0, 0) := by decide +kernel
theorem t325_181 : zT 325 181 = some (.goto (-35), 3, 146, 0, 0, 0) := by decide +kernel
theorem t325_184 : zT 325 184 = some (.aload_n 0, 1, 0, 0, 0, 0) := by decide +kernel
theorem t325_185 : zT 325 185 = some (.getfield 86, 3, 12, 40, 0, 1647) := by decide +kernel
theorem t325_188 : zT 325 188 = some (.iload 10, 2, 0, 0, 0, 0) := by decide +kernel
theorem t325_190 : zT 325 190 = some (.iaload, 1, 0, 0, 0, 0) := by decide +kernel
theorem t325_191 : zT 325 191 = some (.iload 8, 2, 0, 0, 0, 0) := by decide +kernel
theorem t325_193 : zT 325 193 = some (.if_icmp .gt 7, 3, 200, 0, 0, 0) := by decide +kernel
theorem t325_196 : zT 325 196 = some (.iconst 1, 1, 0, 0, 1, 0) := by decide +kernel
theorem t325_197 : zT 325 197 = some (.goto 4, 3, 201, 0, 0, 0) := by decide +kernel
theorem t325_201 : zT 325 201 = some (.istore 11, 2, 0, 0, 0, 0) := by decide +kernel
theorem t325_203 : zT 325 203 = some (.iload 11, 2, 0, 0, 0, 0) := by decide +kernel
theorem t325_205 : zT 325 205 = some (.ifCond .ne 23, 3, 228, 0, 0, 0) := by decide +kernel
theorem t325_228 : zT 325 228 = some (.iload 11, 2, 0, 0, 0, 0) := by decide +kernel
theorem t325_230 : zT 325 230 = some (.ifCond .ne 22, 3, 252, 0, 0, 0) := by decide +kernel
theorem t325_252 : zT 325 252 = some (.aload_n 0, 1, 0, 0, 0, 0) := by decide +kernel
theorem t325_253 : zT 325 253 = some (.getfield 89, 3, 12, 41, 0, 1648) := by decide +kernel
theorem t325_256 : zT 325 256 = some (.iload 6, 2, 0, 0, 0, 0) := by decide +kernel
theorem t325_258 : zT 325 258 = some (.iload 11, 2, 0, 0, 0, 0) := by decide +kernel
theorem t325_260 : zT 325 260 = some (.ifCond .eq 8, 3, 268, 0, 0, 0) := by decide +kernel
theorem t325_263 : zT 325 263 = some (.iload 8, 2, 0, 0, 0, 0) := by decide +kernel
theorem t325_265 : zT 325 265 = some (.goto 10, 3, 275, 0, 0, 0) := by decide +kernel
theorem t325_275 : zT 325 275 = some (.iastore, 1, 0, 0, 0, 0) := by decide +kernel
theorem t325_276 : zT 325 276 = some (.aload_n 0, 1, 0, 0, 0, 0) := by decide +kernel
theorem t325_277 : zT 325 277 = some (.getfield 86, 3, 12, 40, 0, 1647) := by decide +kernel
theorem t325_280 : zT 325 280 = some (.iload 10, 2, 0, 0, 0, 0) := by decide +kernel
theorem t325_282 : zT 325 282 = some (.aload_n 0, 1, 0, 0, 0, 0) := by decide +kernel
theorem t325_283 : zT 325 283 = some (.getfield 89, 3, 12, 41, 0, 1648) := by decide +kernel
theorem t325_286 : zT 325 286 = some (.iload 6, 2, 0, 0, 0, 0) := by decide +kernel
theorem t325_288 : zT 325 288 = some (.iaload, 1, 0, 0, 0, 0) := by decide +kernel
theorem t325_289 : zT 325 289 = some (.iload 5, 2, 0, 0, 0, 0) := by decide +kernel
theorem t325_291 : zT 325 291 = some (.iadd, 1, 0, 0, 0, 0) := by decide +kernel
theorem t325_292 : zT 325 292 = some (.iastore, 1, 0, 0, 0, 0) := by decide +kernel
theorem t325_293 : zT 325 293 = some (.aload_n 0, 1, 0, 0, 0, 0) := by decide +kernel
theorem t325_294 : zT 325 294 = some (.dup, 1, 0, 0, 0, 0) := by decide +kernel
theorem t325_295 : zT 325 295 = some (.getfield 424, 3, 12, 43, 0, 1650) := by decide +kernel
theorem t325_298 : zT 325 298 = some (.aload_n 0, 1, 0, 0, 0, 0) := by decide +kernel
theorem t325_299 : zT 325 299 = some (.getfield 86, 3, 12, 40, 0, 1647) := by decide +kernel
theorem t325_302 : zT 325 302 = some (.iload 10, 2, 0, 0, 0, 0) := by decide +kernel
theorem t325_304 : zT 325 304 = some (.iaload, 1, 0, 0, 0, 0) := by decide +kernel
theorem t325_305 : zT 325 305 = some (.iload 8, 2, 0, 0, 0, 0) := by decide +kernel
theorem t325_307 : zT 325 307 = some (.isub, 1, 0, 0, 0, 0) := by decide +kernel
theorem t325_308 : zT 325 308 = some (.aload_n 0, 1, 0, 0, 0, 0) := by decide +kernel
theorem t325_309 : zT 325 309 = some (.getfield 3, 3, 12, 0, 0, 1607) := by decide +kernel
theorem t325_312 : zT 325 312 = some (.bipush 13, 2, 0, 0, 13, 0) := by decide +kernel
theorem t325_314 : zT 325 314 = some (.iaload, 1, 0, 0, 0, 0) := by decide +kernel
theorem t325_315 : zT 325 315 = some (.if_icmp .le 7, 3, 322, 0, 0, 0) := by decide +kernel
theorem t325_322 : zT 325 322 = some (.iconst 0, 1, 0, 0, 0, 0) := by decide +kernel
theorem t325_323 : zT 325 323 = some (.iadd, 1, 0, 0, 0, 0) := by decide +kernel
theorem t325_324 : zT 325 324 = some (.putfield 424, 3, 12, 43, 0, 1650) := by decide +kernel
theorem t325_327 : zT 325 327 = some (.aload_n 0, 1, 0, 0, 0, 0) := by decide +kernel
theorem t325_328 : zT 325 328 = some (.aload_n 0, 1, 0, 0, 0, 0) := by decide +kernel
theorem t325_329 : zT 325 329 = some (.getfield 86, 3, 12, 40, 0, 1647) := by decide +kernel
theorem t325_332 : zT 325 332 = some (.iload 10, 2, 0, 0, 0, 0) := by decide +kernel
theorem t325_334 : zT 325 334 = some (.iaload, 1, 0, 0, 0, 0) := by decide +kernel
theorem t325_335 : zT 325 335 = some (.aload_n 0, 1, 0, 0, 0, 0) := by decide +kernel
theorem t325_336 : zT 325 336 = some (.getfield 430, 3, 12, 45, 0, 1652) := by decide +kernel
theorem t325_339 : zT 325 339 = some (.if_icmp .le 13, 3, 352, 0, 0, 0) := by decide +kernel
theorem t325_342 : zT 325 342 = some (.aload_n 0, 1, 0, 0, 0, 0) := by decide +kernel
theorem t325_343 : zT 325 343 = some (.getfield 86, 3, 12, 40, 0, 1647) := by decide +kernel
theorem t325_346 : zT 325 346 = some (.iload 10, 2, 0, 0, 0, 0) := by decide +kernel
theorem t325_348 : zT 325 348 = some (.iaload, 1, 0, 0, 0, 0) := by decide +kernel
theorem t325_349 : zT 325 349 = some (.goto 7, 3, 356, 0, 0, 0) := by decide +kernel
theorem t325_356 : zT 325 356 = some (.putfield 430, 3, 12, 45, 0, 1652) := by decide +kernel
theorem t325_359 : zT 325 359 = some (.iinc 6 1, 3, 0, 0, 0, 0) := by decide +kernel
theorem t325_362 : zT 325 362 = some (.iinc 7 1, 3, 0, 0, 0, 0) := by decide +kernel
theorem t325_365 : zT 325 365 = some (.goto (-278), 3, 87, 0, 0, 0) := by decide +kernel
theorem t325_368 : zT 325 368 = some (.return_, 1, 0, 0, 0, 0) := by decide +kernel
theorem t341_32 : zT 341 32 = some (.iload 5, 2, 0, 0, 0, 0) := by decide +kernel
theorem t341_34 : zT 341 34 = some (.iload_n 1, 1, 1, 0, 0, 0) := by decide +kernel
theorem t341_35 : zT 341 35 = some (.iadd, 1, 0, 0, 0, 0) := by decide +kernel
theorem t341_36 : zT 341 36 = some (.sipush 1000, 3, 0, 0, 1000, 0) := by decide +kernel
theorem t341_39 : zT 341 39 = some (.if_icmp .gt 97, 3, 136, 0, 0, 0) := by decide +kernel
theorem t341_42 : zT 341 42 = some (.iconst 0, 1, 0, 0, 0, 0) := by decide +kernel
theorem t341_43 : zT 341 43 = some (.istore 6, 2, 0, 0, 0, 0) := by decide +kernel
theorem t341_45 : zT 341 45 = some (.iconst 0, 1, 0, 0, 0, 0) := by decide +kernel
theorem t341_46 : zT 341 46 = some (.istore 7, 2, 0, 0, 0, 0) := by decide +kernel
theorem t341_48 : zT 341 48 = some (.iload 7, 2, 0, 0, 0, 0) := by decide +kernel
theorem t341_50 : zT 341 50 = some (.aload_n 0, 1, 0, 0, 0, 0) := by decide +kernel
theorem t341_51 : zT 341 51 = some (.getfield 3, 3, 12, 0, 0, 1607) := by decide +kernel
theorem t341_54 : zT 341 54 = some (.iconst 1, 1, 0, 0, 1, 0) := by decide +kernel
theorem t341_55 : zT 341 55 = some (.iaload, 1, 0, 0, 0, 0) := by decide +kernel
theorem t341_56 : zT 341 56 = some (.if_icmp .ge 57, 3, 113, 0, 0, 0) := by decide +kernel
theorem t341_113 : zT 341 113 = some (.iload 6, 2, 0, 0, 0, 0) := by decide +kernel
theorem t341_115 : zT 341 115 = some (.iload 4, 2, 0, 0, 0, 0) := by decide +kernel
theorem t341_117 : zT 341 117 = some (.if_icmp .gt 6, 3, 123, 0, 0, 0) := by decide +kernel
theorem t341_120 : zT 341 120 = some (.goto 10, 3, 130, 0, 0, 0) := by decide +kernel
theorem t341_130 : zT 341 130 = some (.iinc 5 1, 3, 0, 0, 0, 0) := by decide +kernel
theorem t341_133 : zT 341 133 = some (.goto (-101), 3, 32, 0, 0, 0) := by decide +kernel
theorem t341_136 : zT 341 136 = some (.iload_n 2, 1, 2, 0, 0, 0) := by decide +kernel
theorem t341_137 : zT 341 137 = some (.ifCond .ne 7, 3, 144, 0, 0, 0) := by decide +kernel
theorem t341_140 : zT 341 140 = some (.iload_n 3, 1, 3, 0, 0, 0) := by decide +kernel
theorem t341_141 : zT 341 141 = some (.goto 5, 3, 146, 0, 0, 0) := by decide +kernel
theorem t341_144 : zT 341 144 = some (.iload 4, 2, 0, 0, 0, 0) := by decide +kernel
theorem t341_146 : zT 341 146 = some (.ireturn, 1, 0, 0, 0, 0) := by decide +kernel
theorem ccm1 {X : zX} {l : Launch} : zCall X l 7 0 0 322 [.ref 336] zMm (fun r M1 => r = some (.int (0 : Int32)) ∧ zK M1 336 = (12, 0) ∧ zfv M1 336 (cY 12 0) 0 = .ref 337 ∧ zK M1 337 = (20, 6072) ∧ zI M1 337 12 = (100 : Int32) ∧ zK M1 360 = (20, 8) ∧ zK M1 361 = (20, 200) ∧ zfv M1 336 (cY 12 40) 40 = .ref 360 ∧ zfv M1 336 (cY 12 41) 41 = .ref 361 ∧ zI M1 337 13 = (50 : Int32) ∧ True) := zs_run (q := 4266) (Qb := fun r M1 => decide (r = some (.int (0 : Int32)) ∧ zK M1 336 = (12, 0) ∧ zfv M1 336 (cY 12 0) 0 = .ref 337 ∧ zK M1 337 = (20, 6072) ∧ zI M1 337 12 = (100 : Int32) ∧ zK M1 360 = (20, 8) ∧ zK M1 361 = (20, 200) ∧ zfv M1 336 (cY 12 40) 40 = .ref 360 ∧ zfv M1 336 (cY 12 41) 41 = .ref 361 ∧ zI M1 337 13 = (50 : Int32) ∧ True)) mf322 (by decide) (by decide +kernel) (fun _ _ q => of_decide_eq_true q)
/-! ===== the model's waiting run and window, on a fresh object ===== -/
theorem zIs {M : zM} {k j : Nat} {v : Int32} : zI (zsI M k j v) k j = v := by
  show zr (zI M) k (upd (zI M k) j v) k j = v
  unfold zr upd
  rw [if_pos rfl, if_pos rfl]
theorem zIo {M : zM} {k j k' j' : Nat} {v : Int32} (h : k' ≠ k) : zI (zsI M k j v) k' j' = zI M k' j' := by
  show zr (zI M) k (upd (zI M k) j v) k' j' = _
  unfold zr
  rw [if_neg h]
theorem zIoj {M : zM} {k j k' j' : Nat} {v : Int32} (h : j' ≠ j) : zI (zsI M k j v) k' j' = zI M k' j' := by
  show zr (zI M) k (upd (zI M k) j v) k' j' = _
  unfold zr upd
  split
  · rename_i q
    subst q
    exact if_neg h
  · rfl
theorem zfvi {M : zM} {k j : Nat} {v : Int32} {t : FieldType} (ht : zft t = 0) (h : zI M k j = v) : zfv M k t j = .int v := by
  unfold zfv
  rw [if_pos ht, h]
def zWe (Mb : zM) : Prop := zK Mb 336 = (12, 0) ∧ zK Mb 337 = (20, 6072) ∧ zK Mb 360 = (20, 8) ∧ zK Mb 361 = (20, 200) ∧ zfv Mb 336 (cY 12 0) 0 = .ref 337 ∧ zfv Mb 336 (cY 12 40) 40 = .ref 360 ∧ zfv Mb 336 (cY 12 41) 41 = .ref 361
def zWd (Mb M : zM) (w i t : Nat) (last : Int) : Prop := M.2.1 = Mb.2.1 ∧ M.2.2.2.2 = Mb.2.2.2.2 ∧ zI M 337 13 = 50 ∧ (zI M 336 42 = 0 ∧ zI M 336 43 = 0 ∧ zI M 336 44 = 0) ∧ (zI M 336 45).toInt = last ∧ (∀ j, j < w → (zI M 360 j).toInt ≤ (t : Int)) ∧ ∀ j, j < i → (zI M 361 j).toInt ≤ (t : Int)
theorem zWe.t {Mb M : zM} (h1 : M.2.1 = Mb.2.1) (h2 : M.2.2.2.2 = Mb.2.2.2.2) (b : zWe Mb) : zWe M :=
  ⟨(congrFun h1 336).trans b.1, (congrFun h1 337).trans b.2.1, (congrFun h1 360).trans b.2.2.1, (congrFun h1 361).trans b.2.2.2.1, (zfvP h2 rfl).trans b.2.2.2.2.1, (zfvP h2 rfl).trans b.2.2.2.2.2.1, (zfvP h2 rfl).trans b.2.2.2.2.2.2⟩
section WAITM
variable {X : zX} {l : Launch} {Q : Option Value → zM → Prop}
theorem qk_l {Mb : zM} {w : Nat} {nv pv wv bv : Int32} (bb : zWe Mb) (hw : wv.toInt = (w : Int)) (hw8 : w ≤ 8) (hnext : ∀ M, M.2.1 = Mb.2.1 → M.2.2.2.2 = Mb.2.2.2.2 → zI M 337 13 = 50 → (∀ j, j < w → zI M 360 j = 0) → zGo X l 8 0 0 325 61 [(5, .int (1 : Int32)), (0, .ref 336), (1, .int nv), (2, .int pv), (3, .int wv), (4, .int bv)] [] M Q) : ∀ (m k : Nat) (kv : Int32) (M : zM), k + m = w → kv.toInt = (k : Int) → M.2.1 = Mb.2.1 → M.2.2.2.2 = Mb.2.2.2.2 → zI M 337 13 = 50 → (∀ j, j < k → zI M 360 j = 0) → zGo X l 8 0 0 325 41 [(6, .int kv), (5, .int (1 : Int32)), (0, .ref 336), (1, .int nv), (2, .int pv), (3, .int wv), (4, .int bv)] [] M Q := by
  intro m
  induction m with
  | zero =>
    intro k kv M hkm hk g1 g2 g3 g4
    refine zs_iload (pc := 41) t325_41 rfl ?_
    refine zs_iload_n (pc := 43) t325_43 rfl ?_
    refine zs_icmp_geT (pc := 44) t325_44 hk hw (by omega) ?_
    exact zGo.locals (ls' := [(5, .int (1 : Int32)), (0, .ref 336), (1, .int nv), (2, .int pv), (3, .int wv), (4, .int bv)]) (by simp) (hnext M g1 g2 g3 (fun j hj => g4 j (by omega)))
  | succ m ih =>
    intro k kv M hkm hk g1 g2 g3 g4
    obtain ⟨f336, f337, f360, f361, p0, p40, p41⟩ := zWe.t g1 g2 bb
    refine zs_iload (pc := 41) t325_41 rfl ?_
    refine zs_iload_n (pc := 43) t325_43 rfl ?_
    refine zs_icmp_geF (pc := 44) t325_44 hk hw (by omega) ?_
    refine zs_aload_n (pc := 47) t325_47 rfl ?_
    refine zs_get (pc := 48) t325_48 (by decide) (zk1 f336) p40 ?_
    refine zs_iload (pc := 51) t325_51 rfl ?_
    refine zs_iconst (pc := 53) t325_53 (v := 0) (by decide) ?_
    refine zs_iast (pc := 54) t325_54 (j := k) (by decide) (zk1 f360) hk (zk2 f360 (by omega)) ?_
    obtain ⟨w1v, w1e, w1⟩ := ziadd (a := kv) (b := Int32.ofInt 1) hk (show (Int32.ofInt 1).toInt = 1 by decide) (by omega) (by omega)
    refine zs_iinc (pc := 55) t325_55 (ls' := [(6, .int w1v), (5, .int (1 : Int32)), (0, .ref 336), (1, .int nv), (2, .int pv), (3, .int wv), (4, .int bv)]) (zml mf325 (by decide)) rfl (c := w1v) w1e rfl ?_
    refine zs_goto (pc := 58) t325_58 ?_
    refine zGo.locals (ls' := [(6, .int w1v), (5, .int (1 : Int32)), (0, .ref 336), (1, .int nv), (2, .int pv), (3, .int wv), (4, .int bv)]) (by simp) ?_
    refine ih (k + 1) w1v _ (by omega) (by omega) g1 g2 g3 (fun j hj => ?_)
    show upd (zI M 360) k 0 j = 0
    unfold upd
    split
    · rfl
    · exact g4 j (by omega)
theorem qw_l {M : zM} {i t : Nat} {nv pv wv bv iv mv nowv : Int32} (b : zWe M) (hB : ∀ j, j < i → (zI M 361 j).toInt ≤ (t : Int)) (hi2 : i < 200) (hmv : mv.toInt = (i : Int)) (hnow : nowv.toInt = (t : Int)) (hnext : ∀ kv : Int32, zGo X l 8 0 0 325 140 [(10, .int kv), (9, .int (0 : Int32)), (8, .int nowv), (7, .int iv), (6, .int mv), (5, .int (1 : Int32)), (0, .ref 336), (1, .int nv), (2, .int pv), (3, .int wv), (4, .int bv)] [] M Q) : ∀ (m k : Nat) (kv : Int32), k + m = i → kv.toInt = (k : Int) → zGo X l 8 0 0 325 105 [(10, .int kv), (9, .int (0 : Int32)), (8, .int nowv), (7, .int iv), (6, .int mv), (5, .int (1 : Int32)), (0, .ref 336), (1, .int nv), (2, .int pv), (3, .int wv), (4, .int bv)] [] M Q := by
  obtain ⟨f336, f337, f360, f361, p0, p40, p41⟩ := b
  intro m
  induction m with
  | zero =>
    intro k kv hkm hk
    refine zs_iload (pc := 105) t325_105 rfl ?_
    refine zs_iload (pc := 107) t325_107 rfl ?_
    refine zs_icmp_geT (pc := 109) t325_109 hk hmv (by omega) ?_
    exact hnext kv
  | succ m ih =>
    intro k kv hkm hk
    refine zs_iload (pc := 105) t325_105 rfl ?_
    refine zs_iload (pc := 107) t325_107 rfl ?_
    refine zs_icmp_geF (pc := 109) t325_109 hk hmv (by omega) ?_
    refine zs_iload (pc := 112) t325_112 rfl ?_
    refine zs_aload_n (pc := 114) t325_114 rfl ?_
    refine zs_get (pc := 115) t325_115 (by decide) (zk1 f336) p41 ?_
    refine zs_iload (pc := 118) t325_118 rfl ?_
    have bBG := hB k (by omega)
    refine zs_iald (pc := 120) t325_120 (j := k) (by decide) (zk1 f361) hk (zk2 f361 (by omega)) rfl ?_
    refine zs_iload (pc := 121) t325_121 rfl ?_
    refine zs_icmp_leT (pc := 123) t325_123 rfl hnow (by omega) ?_
    refine zs_iconst (pc := 130) t325_130 (v := 0) (by decide) ?_
    refine zs_iadd (pc := 131) t325_131 (c := 0) (by decide) ?_
    refine zs_istore (pc := 132) t325_132 (ls' := [(9, .int (0 : Int32)), (10, .int kv), (8, .int nowv), (7, .int iv), (6, .int mv), (5, .int (1 : Int32)), (0, .ref 336), (1, .int nv), (2, .int pv), (3, .int wv), (4, .int bv)]) (zml mf325 (by decide)) rfl ?_
    obtain ⟨w1v, w1e, w1⟩ := ziadd (a := kv) (b := Int32.ofInt 1) hk (show (Int32.ofInt 1).toInt = 1 by decide) (by omega) (by omega)
    refine zs_iinc (pc := 134) t325_134 (ls' := [(10, .int w1v), (9, .int (0 : Int32)), (8, .int nowv), (7, .int iv), (6, .int mv), (5, .int (1 : Int32)), (0, .ref 336), (1, .int nv), (2, .int pv), (3, .int wv), (4, .int bv)]) (zml mf325 (by decide)) rfl (c := w1v) w1e rfl ?_
    refine zs_goto (pc := 137) t325_137 ?_
    exact zGo.locals (ls' := [(10, .int w1v), (9, .int (0 : Int32)), (8, .int nowv), (7, .int iv), (6, .int mv), (5, .int (1 : Int32)), (0, .ref 336), (1, .int nv), (2, .int pv), (3, .int wv), (4, .int bv)]) (by simp) (ih (k + 1) w1v (by omega) (by omega))
theorem qf_l {M : zM} {w : Nat} {nv pv wv bv iv mv nowv : Int32} (b : zWe M) (hw : wv.toInt = (w : Int)) (hw8 : w ≤ 8) (hnext : ∀ (q : Nat) (kv qv : Int32), q < w → qv.toInt = (q : Int) → zGo X l 8 0 0 325 184 [(11, .int kv), (10, .int qv), (9, .int (0 : Int32)), (8, .int nowv), (7, .int iv), (6, .int mv), (5, .int (1 : Int32)), (0, .ref 336), (1, .int nv), (2, .int pv), (3, .int wv), (4, .int bv)] [] M Q) : ∀ (m k q : Nat) (kv qv : Int32), k + m = 8 → kv.toInt = (k : Int) → q < w → qv.toInt = (q : Int) → zGo X l 8 0 0 325 146 [(11, .int kv), (10, .int qv), (9, .int (0 : Int32)), (8, .int nowv), (7, .int iv), (6, .int mv), (5, .int (1 : Int32)), (0, .ref 336), (1, .int nv), (2, .int pv), (3, .int wv), (4, .int bv)] [] M Q := by
  obtain ⟨f336, f337, f360, f361, p0, p40, p41⟩ := b
  intro m
  induction m with
  | zero =>
    intro k q kv qv hkm hk hqw hq
    refine zs_iload (pc := 146) t325_146 rfl ?_
    refine zs_iload_n (pc := 148) t325_148 rfl ?_
    refine zs_icmp_geT (pc := 149) t325_149 hk hw (by omega) ?_
    exact hnext q kv qv hqw hq
  | succ m ih =>
    intro k q kv qv hkm hk hqw hq
    by_cases hkw : k < w
    · refine zs_iload (pc := 146) t325_146 rfl ?_
      refine zs_iload_n (pc := 148) t325_148 rfl ?_
      refine zs_icmp_geF (pc := 149) t325_149 hk hw (by omega) ?_
      refine zs_aload_n (pc := 152) t325_152 rfl ?_
      refine zs_get (pc := 153) t325_153 (by decide) (zk1 f336) p40 ?_
      refine zs_iload (pc := 156) t325_156 rfl ?_
      refine zs_iald (pc := 158) t325_158 (j := k) (by decide) (zk1 f360) hk (zk2 f360 (by omega)) rfl ?_
      refine zs_aload_n (pc := 159) t325_159 rfl ?_
      refine zs_get (pc := 160) t325_160 (by decide) (zk1 f336) p40 ?_
      refine zs_iload (pc := 163) t325_163 rfl ?_
      refine zs_iald (pc := 165) t325_165 (j := q) (by decide) (zk1 f360) hq (zk2 f360 (by omega)) rfl ?_
      by_cases w1 : (zI M 360 q).toInt ≤ (zI M 360 k).toInt
      · refine zs_icmp_geT (pc := 166) t325_166 rfl rfl (by omega) ?_
        refine zs_iload (pc := 174) t325_174 rfl ?_
        refine zs_istore (pc := 176) t325_176 (ls' := [(10, .int qv), (11, .int kv), (9, .int (0 : Int32)), (8, .int nowv), (7, .int iv), (6, .int mv), (5, .int (1 : Int32)), (0, .ref 336), (1, .int nv), (2, .int pv), (3, .int wv), (4, .int bv)]) (zml mf325 (by decide)) rfl ?_
        obtain ⟨w2v, w2e, w2⟩ := ziadd (a := kv) (b := Int32.ofInt 1) hk (show (Int32.ofInt 1).toInt = 1 by decide) (by omega) (by omega)
        refine zs_iinc (pc := 178) t325_178 (ls' := [(11, .int w2v), (10, .int qv), (9, .int (0 : Int32)), (8, .int nowv), (7, .int iv), (6, .int mv), (5, .int (1 : Int32)), (0, .ref 336), (1, .int nv), (2, .int pv), (3, .int wv), (4, .int bv)]) (zml mf325 (by decide)) rfl (c := w2v) w2e rfl ?_
        refine zs_goto (pc := 181) t325_181 ?_
        exact zGo.locals (ls' := [(11, .int w2v), (10, .int qv), (9, .int (0 : Int32)), (8, .int nowv), (7, .int iv), (6, .int mv), (5, .int (1 : Int32)), (0, .ref 336), (1, .int nv), (2, .int pv), (3, .int wv), (4, .int bv)]) (by simp) (ih (k + 1) q w2v qv (by omega) (by omega) (by omega) hq)
      · refine zs_icmp_geF (pc := 166) t325_166 rfl rfl (by omega) ?_
        refine zs_iload (pc := 169) t325_169 rfl ?_
        refine zs_goto (pc := 171) t325_171 ?_
        refine zs_istore (pc := 176) t325_176 (ls' := [(10, .int kv), (11, .int kv), (9, .int (0 : Int32)), (8, .int nowv), (7, .int iv), (6, .int mv), (5, .int (1 : Int32)), (0, .ref 336), (1, .int nv), (2, .int pv), (3, .int wv), (4, .int bv)]) (zml mf325 (by decide)) rfl ?_
        obtain ⟨w3v, w3e, w3⟩ := ziadd (a := kv) (b := Int32.ofInt 1) hk (show (Int32.ofInt 1).toInt = 1 by decide) (by omega) (by omega)
        refine zs_iinc (pc := 178) t325_178 (ls' := [(11, .int w3v), (10, .int kv), (9, .int (0 : Int32)), (8, .int nowv), (7, .int iv), (6, .int mv), (5, .int (1 : Int32)), (0, .ref 336), (1, .int nv), (2, .int pv), (3, .int wv), (4, .int bv)]) (zml mf325 (by decide)) rfl (c := w3v) w3e rfl ?_
        refine zs_goto (pc := 181) t325_181 ?_
        exact zGo.locals (ls' := [(11, .int w3v), (10, .int kv), (9, .int (0 : Int32)), (8, .int nowv), (7, .int iv), (6, .int mv), (5, .int (1 : Int32)), (0, .ref 336), (1, .int nv), (2, .int pv), (3, .int wv), (4, .int bv)]) (by simp) (ih (k + 1) k w3v kv (by omega) (by omega) (by omega) hk)
    · refine zs_iload (pc := 146) t325_146 rfl ?_
      refine zs_iload_n (pc := 148) t325_148 rfl ?_
      refine zs_icmp_geT (pc := 149) t325_149 hk hw (by omega) ?_
      exact hnext q kv qv hqw hq
theorem zWd_s {Mb M : zM} {w i t p q : Nat} {last : Int} {x y z u : Int32} (h : zWd Mb M w i (i * p) last) (ht : t = i * p) (hp : 1 ≤ p) (hx : x.toInt = (t : Int)) (hy : y.toInt = (t : Int) + 1) (hu : u = 0) (hz : z.toInt = (t : Int) + 1) : zWd Mb (zsI (zsI (zsI (zsI M 361 i x) 360 q y) 336 43 u) 336 45 z) w (i + 1) ((i + 1) * p) ((t : Int) + 1) := by
  obtain ⟨h1, h2, h3, h4, h5, h6, h7⟩ := h
  subst hu
  rw [Nat.succ_mul, ← ht]
  rw [← ht] at h6 h7
  refine ⟨h1, h2, h3, ⟨h4.1, rfl, h4.2.2⟩, hz, fun j hj => ?_, fun j hj => ?_⟩
  · show (upd (zI M 360) q y j).toInt ≤ _
    unfold upd
    have := h6 j hj
    split <;> omega
  · show (upd (zI M 361) i x j).toInt ≤ _
    unfold upd
    split
    · omega
    · have := h7 j (by omega)
      omega
theorem qm_l {Mb : zM} {n p w : Nat} {nv pv wv bv : Int32} (bb : zWe Mb) (hn : nv.toInt = (n : Int)) (hn2 : n ≤ 200) (hp : pv.toInt = (p : Int)) (hp1 : 1 ≤ p) (hp2 : p ≤ 999) (hw : wv.toInt = (w : Int)) (hw1 : 1 ≤ w) (hw8 : w ≤ 8) (hQ : ∀ M last, zWd Mb M w n (n * p) last → (n = 0 ∧ last = 0) ∨ (1 ≤ n ∧ last = ((n * p : Nat) : Int) - p + 1) → Q none M) : ∀ (m i : Nat) (iv mv : Int32) (M : zM) (last : Int), i + m = n → iv.toInt = (i : Int) → mv.toInt = (i : Int) → zWd Mb M w i (i * p) last → (i = 0 ∧ last = 0) ∨ (1 ≤ i ∧ last = ((i * p : Nat) : Int) - p + 1) → zGo X l 8 0 0 325 87 [(7, .int iv), (6, .int mv), (5, .int (1 : Int32)), (0, .ref 336), (1, .int nv), (2, .int pv), (3, .int wv), (4, .int bv)] [] M Q := by
  intro m
  induction m with
  | zero =>
    intro i iv mv M last him hi hmv hM hl
    obtain rfl : i = n := by omega
    refine zs_iload (pc := 87) t325_87 rfl ?_
    refine zs_iload_n (pc := 89) t325_89 rfl ?_
    refine zs_icmp_geT (pc := 90) t325_90 hi hn (by omega) ?_
    exact zs_vret (pc := 368) t325_368 mr325 (hQ M last hM hl)
  | succ m ih =>
    intro i iv mv M last him hi hmv hM hl
    have b := zWe.t hM.1 hM.2.1 bb
    obtain ⟨f336, f337, f360, f361, p0, p40, p41⟩ := b
    have zlim := hM.2.2.1
    have z42 := hM.2.2.2.1.1
    have z43 := hM.2.2.2.1.2.1
    have z44 := hM.2.2.2.1.2.2
    have hlast := hM.2.2.2.2.1
    have hA := hM.2.2.2.2.2.1
    have hB := hM.2.2.2.2.2.2
    have ht2 : i * p ≤ 198801 := Nat.le_trans (Nat.mul_le_mul (show i ≤ 199 by omega) hp2) (by decide)
    have hsu : (i + 1) * p = i * p + p := Nat.succ_mul i p
    have hz : i = 0 → i * p = 0 := fun q => by rw [q, Nat.zero_mul]
    obtain ⟨t, ht⟩ : ∃ t, t = i * p := ⟨_, rfl⟩
    rw [← ht] at ht2 hsu hz hA hB hl
    refine zs_iload (pc := 87) t325_87 rfl ?_
    refine zs_iload_n (pc := 89) t325_89 rfl ?_
    refine zs_icmp_geF (pc := 90) t325_90 hi hn (by omega) ?_
    refine zs_iload (pc := 93) t325_93 rfl ?_
    refine zs_iload_n (pc := 95) t325_95 rfl ?_
    obtain ⟨nowv, now0, now1⟩ := zimul (a := iv) (b := pv) hi hp (by rw [← Int.natCast_mul, ← ht]; omega) (by rw [← Int.natCast_mul, ← ht]; omega)
    have hnow : nowv.toInt = (t : Int) := by rw [now1, ← Int.natCast_mul, ← ht]
    refine zs_imul (pc := 96) t325_96 (c := nowv) now0 ?_
    refine zs_istore (pc := 97) t325_97 (ls' := [(8, .int nowv), (7, .int iv), (6, .int mv), (5, .int (1 : Int32)), (0, .ref 336), (1, .int nv), (2, .int pv), (3, .int wv), (4, .int bv)]) (zml mf325 (by decide)) rfl ?_
    refine zs_iconst (pc := 99) t325_99 (v := 0) (by decide) ?_
    refine zs_istore (pc := 100) t325_100 (ls' := [(9, .int (0 : Int32)), (8, .int nowv), (7, .int iv), (6, .int mv), (5, .int (1 : Int32)), (0, .ref 336), (1, .int nv), (2, .int pv), (3, .int wv), (4, .int bv)]) (zml mf325 (by decide)) rfl ?_
    refine zs_iconst (pc := 102) t325_102 (v := 0) (by decide) ?_
    refine zs_istore (pc := 103) t325_103 (ls' := [(10, .int (0 : Int32)), (9, .int (0 : Int32)), (8, .int nowv), (7, .int iv), (6, .int mv), (5, .int (1 : Int32)), (0, .ref 336), (1, .int nv), (2, .int pv), (3, .int wv), (4, .int bv)]) (zml mf325 (by decide)) rfl ?_
    refine zGo.locals (ls' := [(10, .int (0 : Int32)), (9, .int (0 : Int32)), (8, .int nowv), (7, .int iv), (6, .int mv), (5, .int (1 : Int32)), (0, .ref 336), (1, .int nv), (2, .int pv), (3, .int wv), (4, .int bv)]) (by simp) ?_
    refine qw_l (t := t) ⟨f336, f337, f360, f361, p0, p40, p41⟩ hB (by omega) hmv hnow ?_ i 0 0 (by omega) (by decide)
    intro kv
    refine zs_iconst (pc := 140) t325_140 (v := 0) (by decide) ?_
    refine zs_istore (pc := 141) t325_141 (ls' := [(10, .int (0 : Int32)), (9, .int (0 : Int32)), (8, .int nowv), (7, .int iv), (6, .int mv), (5, .int (1 : Int32)), (0, .ref 336), (1, .int nv), (2, .int pv), (3, .int wv), (4, .int bv)]) (zml mf325 (by decide)) rfl ?_
    refine zs_iconst (pc := 143) t325_143 (v := 1) (by decide) ?_
    refine zs_istore (pc := 144) t325_144 (ls' := [(11, .int (1 : Int32)), (10, .int (0 : Int32)), (9, .int (0 : Int32)), (8, .int nowv), (7, .int iv), (6, .int mv), (5, .int (1 : Int32)), (0, .ref 336), (1, .int nv), (2, .int pv), (3, .int wv), (4, .int bv)]) (zml mf325 (by decide)) rfl ?_
    refine zGo.locals (ls' := [(11, .int (1 : Int32)), (10, .int (0 : Int32)), (9, .int (0 : Int32)), (8, .int nowv), (7, .int iv), (6, .int mv), (5, .int (1 : Int32)), (0, .ref 336), (1, .int nv), (2, .int pv), (3, .int wv), (4, .int bv)]) (by simp) ?_
    refine qf_l ⟨f336, f337, f360, f361, p0, p40, p41⟩ hw hw8 ?_ 7 1 0 1 0 (by omega) (by decide) (by omega) (by decide)
    intro q kv qv hqw hq
    refine zs_aload_n (pc := 184) t325_184 rfl ?_
    refine zs_get (pc := 185) t325_185 (by decide) (zk1 f336) p40 ?_
    refine zs_iload (pc := 188) t325_188 rfl ?_
    have bFR := hA q (by omega)
    refine zs_iald (pc := 190) t325_190 (j := q) (by decide) (zk1 f360) hq (zk2 f360 (by omega)) rfl ?_
    refine zs_iload (pc := 191) t325_191 rfl ?_
    refine zs_icmp_gtF (pc := 193) t325_193 rfl hnow (by omega) ?_
    refine zs_iconst (pc := 196) t325_196 (v := 1) (by decide) ?_
    refine zs_goto (pc := 197) t325_197 ?_
    refine zs_istore (pc := 201) t325_201 (ls' := [(11, .int (1 : Int32)), (10, .int qv), (9, .int (0 : Int32)), (8, .int nowv), (7, .int iv), (6, .int mv), (5, .int (1 : Int32)), (0, .ref 336), (1, .int nv), (2, .int pv), (3, .int wv), (4, .int bv)]) (zml mf325 (by decide)) rfl ?_
    refine zs_iload (pc := 203) t325_203 rfl ?_
    refine zs_if_neT (pc := 205) t325_205 li1 (by decide) ?_
    refine zs_iload (pc := 228) t325_228 rfl ?_
    refine zs_if_neT (pc := 230) t325_230 li1 (by decide) ?_
    refine zs_aload_n (pc := 252) t325_252 rfl ?_
    refine zs_get (pc := 253) t325_253 (by decide) (zk1 f336) p41 ?_
    refine zs_iload (pc := 256) t325_256 rfl ?_
    refine zs_iload (pc := 258) t325_258 rfl ?_
    refine zs_if_eqF (pc := 260) t325_260 li1 (by decide) ?_
    refine zs_iload (pc := 263) t325_263 rfl ?_
    refine zs_goto (pc := 265) t325_265 ?_
    refine zs_iast (pc := 275) t325_275 (j := i) (by decide) (zk1 f361) hmv (zk2 f361 (by omega)) ?_
    refine zs_aload_n (pc := 276) t325_276 rfl ?_
    refine zs_get (pc := 277) t325_277 (by decide) (zk1 f336) ((zfvs rfl).trans p40) ?_
    refine zs_iload (pc := 280) t325_280 rfl ?_
    refine zs_aload_n (pc := 282) t325_282 rfl ?_
    refine zs_get (pc := 283) t325_283 (by decide) (zk1 f336) ((zfvs rfl).trans p41) ?_
    refine zs_iload (pc := 286) t325_286 rfl ?_
    refine zs_iald (pc := 288) t325_288 (j := i) (by decide) (zk1 f361) hmv (zk2 f361 (by omega)) zIs ?_
    refine zs_iload (pc := 289) t325_289 rfl ?_
    obtain ⟨w1v, w1e, w1⟩ := ziadd (a := nowv) (b := (1 : Int32)) hnow li1 (by omega) (by omega)
    refine zs_iadd (pc := 291) t325_291 (c := w1v) w1e ?_
    refine zs_iast (pc := 292) t325_292 (j := q) (by decide) (zk1 f360) hq (zk2 f360 (by omega)) ?_
    refine zs_aload_n (pc := 293) t325_293 rfl ?_
    refine zs_dup (pc := 294) t325_294 rfl ?_
    refine zs_get (pc := 295) t325_295 (by decide) (zk1 f336) (zfvi rfl ((zIo (by decide)).trans ((zIo (by decide)).trans z43))) ?_
    refine zs_aload_n (pc := 298) t325_298 rfl ?_
    refine zs_get (pc := 299) t325_299 (by decide) (zk1 f336) ((zfvs rfl).trans ((zfvs rfl).trans p40)) ?_
    refine zs_iload (pc := 302) t325_302 rfl ?_
    refine zs_iald (pc := 304) t325_304 (j := q) (by decide) (zk1 f360) hq (zk2 f360 (by omega)) zIs ?_
    refine zs_iload (pc := 305) t325_305 rfl ?_
    obtain ⟨w2v, w2e, w2⟩ := zisub (a := w1v) (b := nowv) w1 hnow (by omega) (by omega)
    refine zs_isub (pc := 307) t325_307 (c := w2v) w2e ?_
    refine zs_aload_n (pc := 308) t325_308 rfl ?_
    refine zs_get (pc := 309) t325_309 (by decide) (zk1 f336) ((zfvs rfl).trans ((zfvs rfl).trans p0)) ?_
    refine zs_bipush (pc := 312) t325_312 (v := 13) (by decide) ?_
    refine zs_iald (pc := 314) t325_314 (j := 13) (by decide) (zk1 f337) li13 (zk2 f337 (by omega)) ((zIo (by decide)).trans ((zIo (by decide)).trans zlim)) ?_
    refine zs_icmp_leT (pc := 315) t325_315 w2 li50 (by omega) ?_
    refine zs_iconst (pc := 322) t325_322 (v := 0) (by decide) ?_
    refine zs_iadd (pc := 323) t325_323 (c := 0) (by decide) ?_
    refine zs_putI (pc := 324) t325_324 (zk1 f336) rfl ?_
    refine zs_aload_n (pc := 327) t325_327 rfl ?_
    refine zs_aload_n (pc := 328) t325_328 rfl ?_
    refine zs_get (pc := 329) t325_329 (by decide) (zk1 f336) ((zfvs rfl).trans ((zfvs rfl).trans ((zfvs rfl).trans p40))) ?_
    refine zs_iload (pc := 332) t325_332 rfl ?_
    refine zs_iald (pc := 334) t325_334 (j := q) (by decide) (zk1 f360) hq (zk2 f360 (by omega)) ((zIo (by decide)).trans zIs) ?_
    refine zs_aload_n (pc := 335) t325_335 rfl ?_
    refine zs_get (pc := 336) t325_336 (by decide) (zk1 f336) (zfvi rfl ((zIoj (by decide)).trans ((zIo (by decide)).trans ((zIo (by decide)).trans rfl)))) ?_
    refine zs_icmp_leF (pc := 339) t325_339 w1 hlast (by omega) ?_
    refine zs_aload_n (pc := 342) t325_342 rfl ?_
    refine zs_get (pc := 343) t325_343 (by decide) (zk1 f336) ((zfvs rfl).trans ((zfvs rfl).trans ((zfvs rfl).trans p40))) ?_
    refine zs_iload (pc := 346) t325_346 rfl ?_
    refine zs_iald (pc := 348) t325_348 (j := q) (by decide) (zk1 f360) hq (zk2 f360 (by omega)) ((zIo (by decide)).trans zIs) ?_
    refine zs_goto (pc := 349) t325_349 ?_
    refine zs_putI (pc := 356) t325_356 (zk1 f336) rfl ?_
    obtain ⟨w3v, w3e, w3⟩ := ziadd (a := mv) (b := Int32.ofInt 1) hmv (show (Int32.ofInt 1).toInt = 1 by decide) (by omega) (by omega)
    refine zs_iinc (pc := 359) t325_359 (ls' := [(6, .int w3v), (11, .int (1 : Int32)), (10, .int qv), (9, .int (0 : Int32)), (8, .int nowv), (7, .int iv), (5, .int (1 : Int32)), (0, .ref 336), (1, .int nv), (2, .int pv), (3, .int wv), (4, .int bv)]) (zml mf325 (by decide)) rfl (c := w3v) w3e rfl ?_
    obtain ⟨w4v, w4e, w4⟩ := ziadd (a := iv) (b := Int32.ofInt 1) hi (show (Int32.ofInt 1).toInt = 1 by decide) (by omega) (by omega)
    refine zs_iinc (pc := 362) t325_362 (ls' := [(7, .int w4v), (6, .int w3v), (11, .int (1 : Int32)), (10, .int qv), (9, .int (0 : Int32)), (8, .int nowv), (5, .int (1 : Int32)), (0, .ref 336), (1, .int nv), (2, .int pv), (3, .int wv), (4, .int bv)]) (zml mf325 (by decide)) rfl (c := w4v) w4e rfl ?_
    refine zs_goto (pc := 365) t325_365 ?_
    refine zGo.locals (ls' := [(7, .int w4v), (6, .int w3v), (5, .int (1 : Int32)), (0, .ref 336), (1, .int nv), (2, .int pv), (3, .int wv), (4, .int bv)]) (by simp) ?_
    refine ih (i + 1) w4v w3v _ ((t : Int) + 1) (by omega) (by omega) (by omega) ?_ (Or.inr ⟨by omega, by rw [hsu]; omega⟩)
    exact zWd_s hM ht hp1 (by omega) (by omega) rfl (by omega)
theorem qs_c {n p w : Nat} {nv pv wv bv : Int32} (hn : nv.toInt = (n : Int)) (hn1 : 1 ≤ n) (hn2 : n ≤ 200) (hp : pv.toInt = (p : Int)) (hp1 : 1 ≤ p) (hp2 : p ≤ 999) (hw : wv.toInt = (w : Int)) (hw1 : 1 ≤ w) (hw8 : w ≤ 8) : zCall X l 8 0 0 325 [.ref 336, .int nv, .int pv, .int wv, .int bv] zMm (fun r M => r = none ∧ zK M 336 = (12, 0) ∧ zfv M 336 (cY 12 42) 42 = .int 0 ∧ zfv M 336 (cY 12 43) 43 = .int 0 ∧ zfv M 336 (cY 12 44) 44 = .int 0 ∧ ∃ lv, zfv M 336 (cY 12 45) 45 = .int lv ∧ lv.toInt = ((n * p : Nat) : Int) - p + 1) := by
  refine zs_in (by decide) mf325 (Nat.le_of_ble_eq_true rfl) ?_
  show zGo X l 8 0 0 325 0 [(0, .ref 336), (1, .int nv), (2, .int pv), (3, .int wv), (4, .int bv)] [] zMm _
  refine zs_aload_n (pc := 0) t325_0 rfl ?_
  refine zs_invV (pc := 1) (k := 336) (as' := []) (st := []) t325_1 mf322 rfl rfl (Or.inl ⟨by decide, (zk1 fk_zMm_336)⟩) ⟨by decide, by decide, Nat.le_of_ble_eq_true rfl, Nat.le_of_ble_eq_true rfl⟩ (ccm1 (X := X) (l := l)) ?_
  rintro r M1 ⟨rfl, M1k336, M1v336_0, M1k337, M1a337_12, M1k360, M1k361, M1v336_40, M1v336_41, M1a337_13, -⟩
  show zGo X l 8 0 0 325 4 [(0, .ref 336), (1, .int nv), (2, .int pv), (3, .int wv), (4, .int bv)] [.int (0 : Int32)] M1 _
  refine zs_aload_n (pc := 4) t325_4 rfl ?_
  refine zs_get (pc := 5) t325_5 (by decide) (zk1 M1k336) M1v336_0 ?_
  refine zs_bipush (pc := 8) t325_8 (v := 12) (by decide) ?_
  refine zs_iald (pc := 10) t325_10 (j := 12) (by decide) (zk1 M1k337) (by decide) (zk2 M1k337 (by decide)) M1a337_12 ?_
  refine zs_iadd (pc := 11) t325_11 (c := 100) (by decide) ?_
  refine zs_iconst (pc := 12) t325_12 (v := 1) (by decide) ?_
  refine zs_isub (pc := 13) t325_13 (c := 99) (by decide) ?_
  refine zs_aload_n (pc := 14) t325_14 rfl ?_
  refine zs_get (pc := 15) t325_15 (by decide) (zk1 M1k336) M1v336_0 ?_
  refine zs_bipush (pc := 18) t325_18 (v := 12) (by decide) ?_
  refine zs_iald (pc := 20) t325_20 (j := 12) (by decide) (zk1 M1k337) (by decide) (zk2 M1k337 (by decide)) M1a337_12 ?_
  refine zs_idiv (pc := 21) t325_21 (by decide) (c := 0) (by decide) ?_
  refine zs_istore (pc := 22) t325_22 (ls' := [(5, .int (0 : Int32)), (0, .ref 336), (1, .int nv), (2, .int pv), (3, .int wv), (4, .int bv)]) (zml mf325 (by decide)) rfl ?_
  refine zs_iload (pc := 24) t325_24 rfl ?_
  refine zs_iconst (pc := 26) t325_26 (v := 1) (by decide) ?_
  refine zs_icmp_geF (pc := 27) t325_27 li0 li1 (by decide) ?_
  refine zs_iconst (pc := 30) t325_30 (v := 1) (by decide) ?_
  refine zs_goto (pc := 31) t325_31 ?_
  refine zs_istore (pc := 36) t325_36 (ls' := [(5, .int (1 : Int32)), (0, .ref 336), (1, .int nv), (2, .int pv), (3, .int wv), (4, .int bv)]) (zml mf325 (by decide)) rfl ?_
  refine zs_iconst (pc := 38) t325_38 (v := 0) (by decide) ?_
  refine zs_istore (pc := 39) t325_39 (ls' := [(6, .int (0 : Int32)), (5, .int (1 : Int32)), (0, .ref 336), (1, .int nv), (2, .int pv), (3, .int wv), (4, .int bv)]) (zml mf325 (by decide)) rfl ?_
  have bb : zWe M1 := ⟨M1k336, M1k337, M1k360, M1k361, M1v336_0, M1v336_40, M1v336_41⟩
  refine zGo.locals (ls' := [(6, .int (0 : Int32)), (5, .int (1 : Int32)), (0, .ref 336), (1, .int nv), (2, .int pv), (3, .int wv), (4, .int bv)]) (by simp) ?_
  refine qk_l bb hw hw8 ?_ w 0 0 M1 (by omega) (by decide) rfl rfl M1a337_13 (fun j hj => absurd hj (by omega))
  intro M g1 g2 g3 g4
  obtain ⟨f336, f337, f360, f361, p0, p40, p41⟩ := zWe.t g1 g2 bb
  refine zs_aload_n (pc := 61) t325_61 rfl ?_
  refine zs_iconst (pc := 62) t325_62 (v := 0) (by decide) ?_
  refine zs_putI (pc := 63) t325_63 (zk1 f336) rfl ?_
  refine zs_aload_n (pc := 66) t325_66 rfl ?_
  refine zs_iconst (pc := 67) t325_67 (v := 0) (by decide) ?_
  refine zs_putI (pc := 68) t325_68 (zk1 f336) rfl ?_
  refine zs_aload_n (pc := 71) t325_71 rfl ?_
  refine zs_iconst (pc := 72) t325_72 (v := 0) (by decide) ?_
  refine zs_putI (pc := 73) t325_73 (zk1 f336) rfl ?_
  refine zs_aload_n (pc := 76) t325_76 rfl ?_
  refine zs_iconst (pc := 77) t325_77 (v := 0) (by decide) ?_
  refine zs_putI (pc := 78) t325_78 (zk1 f336) rfl ?_
  refine zs_iconst (pc := 81) t325_81 (v := 0) (by decide) ?_
  refine zs_istore (pc := 82) t325_82 (ls' := [(6, .int (0 : Int32)), (5, .int (1 : Int32)), (0, .ref 336), (1, .int nv), (2, .int pv), (3, .int wv), (4, .int bv)]) (zml mf325 (by decide)) rfl ?_
  refine zs_iconst (pc := 84) t325_84 (v := 0) (by decide) ?_
  refine zs_istore (pc := 85) t325_85 (ls' := [(7, .int (0 : Int32)), (6, .int (0 : Int32)), (5, .int (1 : Int32)), (0, .ref 336), (1, .int nv), (2, .int pv), (3, .int wv), (4, .int bv)]) (zml mf325 (by decide)) rfl ?_
  refine zGo.locals (ls' := [(7, .int (0 : Int32)), (6, .int (0 : Int32)), (5, .int (1 : Int32)), (0, .ref 336), (1, .int nv), (2, .int pv), (3, .int wv), (4, .int bv)]) (by simp) ?_
  refine qm_l bb hn hn2 hp hp1 hp2 hw hw1 hw8 (fun M9 last hM hl => ?_) n 0 0 0 _ 0 (by omega) (by decide) (by decide) ?_ (Or.inl ⟨rfl, rfl⟩)
  · refine ⟨rfl, (congrFun hM.1 336).trans bb.1, zfvi rfl hM.2.2.2.1.1, zfvi rfl hM.2.2.2.1.2.1, zfvi rfl hM.2.2.2.1.2.2, _, zfvi rfl rfl, ?_⟩
    rw [hM.2.2.2.2.1]
    omega
  · refine ⟨g1, g2, g3, ⟨rfl, rfl, rfl⟩, by rfl, fun j hj => ?_, fun j hj => absurd hj (by omega)⟩
    show (zI M 360 j).toInt ≤ _
    rw [g4 j hj, Nat.zero_mul]
    decide
theorem wi_l {a b tv : Int32} (la : 1 ≤ a.toInt) (ua : a.toInt ≤ 1000) : ∀ (m t : Nat) (tv : Int32), t + m = 1000 → tv.toInt = (t : Int) → zGo X l 1 0 0 341 32 [(5, .int tv), (4, .int (0 : Int32)), (3, .int (0 : Int32)), (0, .ref 336), (1, .int a), (2, .int b)] [] zMm (fun r _ => r = some (.int 0)) := by
  intro m
  induction m with
  | zero =>
    intro t tv htm ht
    refine zs_iload (pc := 32) t341_32 rfl ?_
    refine zs_iload_n (pc := 34) t341_34 rfl ?_
    obtain ⟨w1v, w1e, w1⟩ := ziadd (a := tv) (b := a) ht rfl (by omega) (by omega)
    refine zs_iadd (pc := 35) t341_35 (c := w1v) w1e ?_
    refine zs_sipush (pc := 36) t341_36 (v := 1000) (by decide) ?_
    refine zs_icmp_gtT (pc := 39) t341_39 w1 li1000 (by omega) ?_
    refine zs_iload_n (pc := 136) t341_136 rfl ?_
    by_cases w2 : b.toInt ≠ 0
    · refine zs_if_neT (pc := 137) t341_137 rfl (by omega) ?_
      refine zs_iload (pc := 144) t341_144 rfl ?_
      exact zs_iret (pc := 146) t341_146 mr341 (by decide) rfl
    · refine zs_if_neF (pc := 137) t341_137 rfl (by omega) ?_
      refine zs_iload_n (pc := 140) t341_140 rfl ?_
      refine zs_goto (pc := 141) t341_141 ?_
      exact zs_iret (pc := 146) t341_146 mr341 (by decide) rfl
  | succ m ih =>
    intro t tv htm ht
    refine zs_iload (pc := 32) t341_32 rfl ?_
    refine zs_iload_n (pc := 34) t341_34 rfl ?_
    obtain ⟨w1v, w1e, w1⟩ := ziadd (a := tv) (b := a) ht rfl (by omega) (by omega)
    refine zs_iadd (pc := 35) t341_35 (c := w1v) w1e ?_
    refine zs_sipush (pc := 36) t341_36 (v := 1000) (by decide) ?_
    by_cases w2 : 1000 < ((t : Int) + a.toInt)
    · refine zs_icmp_gtT (pc := 39) t341_39 w1 li1000 (by omega) ?_
      refine zs_iload_n (pc := 136) t341_136 rfl ?_
      by_cases w3 : b.toInt ≠ 0
      · refine zs_if_neT (pc := 137) t341_137 rfl (by omega) ?_
        refine zs_iload (pc := 144) t341_144 rfl ?_
        exact zs_iret (pc := 146) t341_146 mr341 (by decide) rfl
      · refine zs_if_neF (pc := 137) t341_137 rfl (by omega) ?_
        refine zs_iload_n (pc := 140) t341_140 rfl ?_
        refine zs_goto (pc := 141) t341_141 ?_
        exact zs_iret (pc := 146) t341_146 mr341 (by decide) rfl
    · refine zs_icmp_gtF (pc := 39) t341_39 w1 li1000 (by omega) ?_
      refine zs_iconst (pc := 42) t341_42 (v := 0) (by decide) ?_
      refine zs_istore (pc := 43) t341_43 (ls' := [(6, .int (0 : Int32)), (5, .int tv), (4, .int (0 : Int32)), (3, .int (0 : Int32)), (0, .ref 336), (1, .int a), (2, .int b)]) (zml mf341 (by decide)) rfl ?_
      refine zs_iconst (pc := 45) t341_45 (v := 0) (by decide) ?_
      refine zs_istore (pc := 46) t341_46 (ls' := [(7, .int (0 : Int32)), (6, .int (0 : Int32)), (5, .int tv), (4, .int (0 : Int32)), (3, .int (0 : Int32)), (0, .ref 336), (1, .int a), (2, .int b)]) (zml mf341 (by decide)) rfl ?_
      refine zs_iload (pc := 48) t341_48 rfl ?_
      refine zs_aload_n (pc := 50) t341_50 rfl ?_
      refine zs_get (pc := 51) t341_51 (by decide) (zk1 fk_zMm_336) fv_zMm_336_0 ?_
      refine zs_iconst (pc := 54) t341_54 (v := 1) (by decide) ?_
      refine zs_iald (pc := 55) t341_55 (j := 1) (by decide) (zk1 fk_zMm_337) (by decide) (zk2 fk_zMm_337 (by decide)) fa_zMm_337_1 ?_
      refine zs_icmp_geT (pc := 56) t341_56 li0 li0 (by decide) ?_
      refine zs_iload (pc := 113) t341_113 rfl ?_
      refine zs_iload (pc := 115) t341_115 rfl ?_
      refine zs_icmp_gtF (pc := 117) t341_117 li0 li0 (by decide) ?_
      refine zs_goto (pc := 120) t341_120 ?_
      obtain ⟨w4v, w4e, w4⟩ := ziadd (a := tv) (b := Int32.ofInt 1) ht (show (Int32.ofInt 1).toInt = 1 by decide) (by omega) (by omega)
      refine zs_iinc (pc := 130) t341_130 (ls' := [(5, .int w4v), (7, .int (0 : Int32)), (6, .int (0 : Int32)), (4, .int (0 : Int32)), (3, .int (0 : Int32)), (0, .ref 336), (1, .int a), (2, .int b)]) (zml mf341 (by decide)) rfl (c := w4v) w4e rfl ?_
      refine zs_goto (pc := 133) t341_133 ?_
      exact zGo.locals (ls' := [(5, .int w4v), (4, .int (0 : Int32)), (3, .int (0 : Int32)), (0, .ref 336), (1, .int a), (2, .int b)]) (by simp) (ih (t + 1) w4v (by omega) (by omega))
end WAITM
