theorem t332_0 : zT 332 0 = some (.aload_n 0, 1, 0, 0, 0, 0) := by decide +kernel
theorem t332_1 : zT 332 1 = some (.iload_n 1, 1, 1, 0, 0, 0) := by decide +kernel
theorem t332_2 : zT 332 2 = some (.invokevirtual 380, 3, 308, 0, 0, 2092) := by decide +kernel
theorem t332_5 : zT 332 5 = some (.ifCond .eq 13, 3, 18, 0, 0, 0) := by decide +kernel
theorem t332_18 : zT 332 18 = some (.iconst (-1), 1, 0, 0, (-1), 0) := by decide +kernel
theorem t332_19 : zT 332 19 = some (.ireturn, 1, 0, 0, 0, 0) := by decide +kernel
theorem t333_0 : zT 333 0 = some (.aload_n 0, 1, 0, 0, 0, 0) := by decide +kernel
theorem t333_1 : zT 333 1 = some (.iload_n 1, 1, 1, 0, 0, 0) := by decide +kernel
theorem t333_2 : zT 333 2 = some (.invokevirtual 377, 3, 306, 0, 0, 2084) := by decide +kernel
theorem t333_5 : zT 333 5 = some (.ifCond .ne 5, 3, 10, 0, 0, 0) := by decide +kernel
theorem t333_8 : zT 333 8 = some (.iconst (-1), 1, 0, 0, (-1), 0) := by decide +kernel
theorem t333_9 : zT 333 9 = some (.ireturn, 1, 0, 0, 0, 0) := by decide +kernel
theorem t334_0 : zT 334 0 = some (.iload_n 1, 1, 1, 0, 0, 0) := by decide +kernel
theorem t334_1 : zT 334 1 = some (.i2l, 1, 0, 0, 0, 0) := by decide +kernel
theorem t334_2 : zT 334 2 = some (.ldc2_w 322, 3, 1, 0, 2, 1994) := by decide +kernel
theorem t334_5 : zT 334 5 = some (.ldc2_w 437, 3, 1, 0, 8, 2164) := by decide +kernel
theorem t334_8 : zT 334 8 = some (.invokestatic 112, 3, 228, 1, 0, 1774) := by decide +kernel
theorem t334_11 : zT 334 11 = some (.ifCond .ne 5, 3, 16, 0, 0, 0) := by decide +kernel
theorem t334_14 : zT 334 14 = some (.iconst (-1), 1, 0, 0, (-1), 0) := by decide +kernel
theorem t334_15 : zT 334 15 = some (.ireturn, 1, 0, 0, 0, 0) := by decide +kernel
theorem t334_16 : zT 334 16 = some (.aload_n 0, 1, 0, 0, 0, 0) := by decide +kernel
theorem t334_17 : zT 334 17 = some (.iconst 0, 1, 0, 0, 0, 0) := by decide +kernel
theorem t334_18 : zT 334 18 = some (.invokevirtual 116, 3, 230, 0, 0, 1781) := by decide +kernel
theorem t334_21 : zT 334 21 = some (.aload_n 0, 1, 0, 0, 0, 0) := by decide +kernel
theorem t334_22 : zT 334 22 = some (.getfield 3, 3, 12, 0, 0, 1607) := by decide +kernel
theorem t334_25 : zT 334 25 = some (.bipush 8, 2, 0, 0, 8, 0) := by decide +kernel
theorem t334_27 : zT 334 27 = some (.iaload, 1, 0, 0, 0, 0) := by decide +kernel
theorem t334_28 : zT 334 28 = some (.istore_n 2, 1, 2, 0, 0, 0) := by decide +kernel
theorem t334_29 : zT 334 29 = some (.aload_n 0, 1, 0, 0, 0, 0) := by decide +kernel
theorem t334_30 : zT 334 30 = some (.getfield 3, 3, 12, 0, 0, 1607) := by decide +kernel
theorem t334_33 : zT 334 33 = some (.bipush 8, 2, 0, 0, 8, 0) := by decide +kernel
theorem t334_35 : zT 334 35 = some (.iload_n 1, 1, 1, 0, 0, 0) := by decide +kernel
theorem t334_36 : zT 334 36 = some (.iastore, 1, 0, 0, 0, 0) := by decide +kernel
theorem t334_37 : zT 334 37 = some (.iload_n 2, 1, 2, 0, 0, 0) := by decide +kernel
theorem t334_38 : zT 334 38 = some (.ireturn, 1, 0, 0, 0, 0) := by decide +kernel
theorem t335_0 : zT 335 0 = some (.aload_n 0, 1, 0, 0, 0, 0) := by decide +kernel
theorem t335_1 : zT 335 1 = some (.iload_n 1, 1, 1, 0, 0, 0) := by decide +kernel
theorem t335_2 : zT 335 2 = some (.invokevirtual 377, 3, 306, 0, 0, 2084) := by decide +kernel
theorem t335_5 : zT 335 5 = some (.ifCond .eq 17, 3, 22, 0, 0, 0) := by decide +kernel
theorem t335_22 : zT 335 22 = some (.iconst (-1), 1, 0, 0, (-1), 0) := by decide +kernel
theorem t335_23 : zT 335 23 = some (.ireturn, 1, 0, 0, 0, 0) := by decide +kernel
theorem t336_0 : zT 336 0 = some (.aload_n 0, 1, 0, 0, 0, 0) := by decide +kernel
theorem t336_1 : zT 336 1 = some (.invokevirtual 331, 3, 268, 0, 0, 1933) := by decide +kernel
theorem t336_4 : zT 336 4 = some (.aload_n 0, 1, 0, 0, 0, 0) := by decide +kernel
theorem t336_5 : zT 336 5 = some (.iload_n 1, 1, 1, 0, 0, 0) := by decide +kernel
theorem t336_6 : zT 336 6 = some (.invokevirtual 334, 3, 297, 0, 0, 2045) := by decide +kernel
theorem t336_9 : zT 336 9 = some (.ifCond .eq 20, 3, 29, 0, 0, 0) := by decide +kernel
theorem t336_29 : zT 336 29 = some (.ldc_w 353, 3, 0, 0, (-100000), 2066) := by decide +kernel
theorem t336_32 : zT 336 32 = some (.ireturn, 1, 0, 0, 0, 0) := by decide +kernel
theorem t338_0 : zT 338 0 = some (.aload_n 0, 1, 0, 0, 0, 0) := by decide +kernel
theorem t338_1 : zT 338 1 = some (.invokevirtual 331, 3, 268, 0, 0, 1933) := by decide +kernel
theorem t338_4 : zT 338 4 = some (.aload_n 0, 1, 0, 0, 0, 0) := by decide +kernel
theorem t338_5 : zT 338 5 = some (.iload_n 1, 1, 1, 0, 0, 0) := by decide +kernel
theorem t338_6 : zT 338 6 = some (.invokevirtual 334, 3, 297, 0, 0, 2045) := by decide +kernel
theorem t338_9 : zT 338 9 = some (.ifCond .ne 5, 3, 14, 0, 0, 0) := by decide +kernel
theorem t338_12 : zT 338 12 = some (.iconst (-1), 1, 0, 0, (-1), 0) := by decide +kernel
theorem t338_13 : zT 338 13 = some (.ireturn, 1, 0, 0, 0, 0) := by decide +kernel
theorem t339_0 : zT 339 0 = some (.aload_n 0, 1, 0, 0, 0, 0) := by decide +kernel
theorem t339_1 : zT 339 1 = some (.invokevirtual 331, 3, 268, 0, 0, 1933) := by decide +kernel
theorem t339_4 : zT 339 4 = some (.aload_n 0, 1, 0, 0, 0, 0) := by decide +kernel
theorem t339_5 : zT 339 5 = some (.iload_n 1, 1, 1, 0, 0, 0) := by decide +kernel
theorem t339_6 : zT 339 6 = some (.invokevirtual 334, 3, 297, 0, 0, 2045) := by decide +kernel
theorem t339_9 : zT 339 9 = some (.ifCond .eq 11, 3, 20, 0, 0, 0) := by decide +kernel
theorem t339_20 : zT 339 20 = some (.iconst (-1), 1, 0, 0, (-1), 0) := by decide +kernel
theorem t339_21 : zT 339 21 = some (.ireturn, 1, 0, 0, 0, 0) := by decide +kernel
theorem t340_0 : zT 340 0 = some (.aload_n 0, 1, 0, 0, 0, 0) := by decide +kernel
theorem t340_1 : zT 340 1 = some (.iload_n 1, 1, 1, 0, 0, 0) := by decide +kernel
theorem t340_2 : zT 340 2 = some (.invokevirtual 377, 3, 306, 0, 0, 2084) := by decide +kernel
theorem t340_5 : zT 340 5 = some (.ifCond .eq 13, 3, 18, 0, 0, 0) := by decide +kernel
theorem t340_18 : zT 340 18 = some (.ldc_w 353, 3, 0, 0, (-100000), 2066) := by decide +kernel
theorem t340_21 : zT 340 21 = some (.ireturn, 1, 0, 0, 0, 0) := by decide +kernel
theorem t349_0 : zT 349 0 = some (.iload_n 1, 1, 1, 0, 0, 0) := by decide +kernel
theorem t349_1 : zT 349 1 = some (.i2l, 1, 0, 0, 0, 0) := by decide +kernel
theorem t349_2 : zT 349 2 = some (.lconst 0, 1, 0, 0, 0, 0) := by decide +kernel
theorem t349_3 : zT 349 3 = some (.aload_n 0, 1, 0, 0, 0, 0) := by decide +kernel
theorem t349_4 : zT 349 4 = some (.getfield 481, 3, 12, 50, 0, 1657) := by decide +kernel
theorem t349_7 : zT 349 7 = some (.iconst 1, 1, 0, 0, 1, 0) := by decide +kernel
theorem t349_8 : zT 349 8 = some (.isub, 1, 0, 0, 0, 0) := by decide +kernel
theorem t349_9 : zT 349 9 = some (.i2l, 1, 0, 0, 0, 0) := by decide +kernel
theorem t349_10 : zT 349 10 = some (.invokestatic 112, 3, 228, 1, 0, 1774) := by decide +kernel
theorem t349_13 : zT 349 13 = some (.ifCond .eq 12, 3, 25, 0, 0, 0) := by decide +kernel
theorem t349_25 : zT 349 25 = some (.iconst (-1), 1, 0, 0, (-1), 0) := by decide +kernel
theorem t349_26 : zT 349 26 = some (.ireturn, 1, 0, 0, 0, 0) := by decide +kernel
theorem fa_zMc_17_0 : zI zMc 17 0 = (1 : Int32) := by decide +kernel
theorem fa_zMc_17_1 : zI zMc 17 1 = (10 : Int32) := by decide +kernel
theorem fa_zMc_17_2 : zI zMc 17 2 = (10 : Int32) := by decide +kernel
theorem fa_zMm_337_0 : zI zMm 337 0 = (0 : Int32) := by decide +kernel
theorem fa_zMm_337_1 : zI zMm 337 1 = (0 : Int32) := by decide +kernel
theorem fa_zMm_337_2 : zI zMm 337 2 = (0 : Int32) := by decide +kernel
theorem fa_zMm_337_5 : zI zMm 337 5 = (1 : Int32) := by decide +kernel
theorem fa_zMm_337_6 : zI zMm 337 6 = (10 : Int32) := by decide +kernel
theorem fk_zMc_155 : zK zMc 155 = (7, 0) := by decide +kernel
theorem fk_zMc_164 : zK zMc 164 = (4, 0) := by decide +kernel
theorem fk_zMc_17 : zK zMc 17 = (20, 9) := by decide +kernel
theorem fk_zMc_31 : zK zMc 31 = (2, 0) := by decide +kernel
theorem fk_zMc_6 : zK zMc 6 = (11, 0) := by decide +kernel
theorem fk_zMc_7 : zK zMc 7 = (6, 0) := by decide +kernel
theorem fk_zMm_336 : zK zMm 336 = (12, 0) := by decide +kernel
theorem fk_zMm_337 : zK zMm 337 = (20, 6072) := by decide +kernel
theorem fv_zMc_155_1 : zfv zMc 155 (cY 7 1) 1 = .int (0 : Int32) := by decide +kernel
theorem fv_zMc_6_0 : zfv zMc 6 (cY 11 0) 0 = .ref 7 := by decide +kernel
theorem fv_zMc_6_10 : zfv zMc 6 (cY 11 10) 10 = .int (0 : Int32) := by decide +kernel
theorem fv_zMc_6_2 : zfv zMc 6 (cY 11 2) 2 = .ref 31 := by decide +kernel
theorem fv_zMc_6_3 : zfv zMc 6 (cY 11 3) 3 = .ref 155 := by decide +kernel
theorem fv_zMc_6_6 : zfv zMc 6 (cY 11 6) 6 = .ref 164 := by decide +kernel
theorem fv_zMc_6_7 : zfv zMc 6 (cY 11 7) 7 = .ref 325 := by decide +kernel
theorem fv_zMc_7_0 : zfv zMc 7 (cY 6 0) 0 = .int (0 : Int32) := by decide +kernel
theorem fv_zMc_7_12 : zfv zMc 7 (cY 6 12) 12 = .ref 17 := by decide +kernel
theorem fv_zMc_7_3 : zfv zMc 7 (cY 6 3) 3 = .int (0 : Int32) := by decide +kernel
theorem fv_zMc_7_8 : zfv zMc 7 (cY 6 8) 8 = .int (0 : Int32) := by decide +kernel
theorem fv_zMm_336_0 : zfv zMm 336 (cY 12 0) 0 = .ref 337 := by decide +kernel
theorem fv_zMm_336_5 : zfv zMm 336 (cY 12 5) 5 = .int (0 : Int32) := by decide +kernel
theorem fv_zMm_336_50 : zfv zMm 336 (cY 12 50) 50 = .int (0 : Int32) := by decide +kernel
