theorem t274_14 : zT 274 14 = some (.iaload, 1, 0, 0, 0, 0) := (congrArg (fun t => List.lookup 14 t) gt274).trans rfl
theorem t274_15 : zT 274 15 = some (.if_icmp .ge 109, 3, 124, 0, 0, 0) := (congrArg (fun t => List.lookup 15 t) gt274).trans rfl
theorem t274_18 : zT 274 18 = some (.aload_n 0, 1, 0, 0, 0, 0) := (congrArg (fun t => List.lookup 18 t) gt274).trans rfl
theorem t274_19 : zT 274 19 = some (.getfield 34, 3, 12, 16, 0, 1623) := (congrArg (fun t => List.lookup 19 t) gt274).trans rfl
theorem t274_22 : zT 274 22 = some (.iload_n 3, 1, 3, 0, 0, 0) := (congrArg (fun t => List.lookup 22 t) gt274).trans rfl
theorem t274_23 : zT 274 23 = some (.baload, 1, 0, 0, 0, 0) := (congrArg (fun t => List.lookup 23 t) gt274).trans rfl
theorem t274_24 : zT 274 24 = some (.ifCond .eq 94, 3, 118, 0, 0, 0) := (congrArg (fun t => List.lookup 24 t) gt274).trans rfl
theorem t274_27 : zT 274 27 = some (.aload_n 0, 1, 0, 0, 0, 0) := (congrArg (fun t => List.lookup 27 t) gt274).trans rfl
theorem t274_28 : zT 274 28 = some (.iload_n 3, 1, 3, 0, 0, 0) := (congrArg (fun t => List.lookup 28 t) gt274).trans rfl
theorem t274_29 : zT 274 29 = some (.invokevirtual 273, 3, 276, 0, 0, 1965) := (congrArg (fun t => List.lookup 29 t) gt274).trans rfl
theorem t274_32 : zT 274 32 = some (.ifCond .ne 6, 3, 38, 0, 0, 0) := (congrArg (fun t => List.lookup 32 t) gt274).trans rfl
theorem t274_35 : zT 274 35 = some (.goto 83, 3, 118, 0, 0, 0) := (congrArg (fun t => List.lookup 35 t) gt274).trans rfl
theorem t274_38 : zT 274 38 = some (.aload_n 0, 1, 0, 0, 0, 0) := (congrArg (fun t => List.lookup 38 t) gt274).trans rfl
theorem t274_39 : zT 274 39 = some (.aload_n 0, 1, 0, 0, 0, 0) := (congrArg (fun t => List.lookup 39 t) gt274).trans rfl
theorem t274_40 : zT 274 40 = some (.getfield 37, 3, 12, 17, 0, 1624) := (congrArg (fun t => List.lookup 40 t) gt274).trans rfl
theorem t274_43 : zT 274 43 = some (.iload_n 3, 1, 3, 0, 0, 0) := (congrArg (fun t => List.lookup 43 t) gt274).trans rfl
theorem t274_44 : zT 274 44 = some (.iaload, 1, 0, 0, 0, 0) := (congrArg (fun t => List.lookup 44 t) gt274).trans rfl
theorem t274_45 : zT 274 45 = some (.invokevirtual 276, 3, 277, 0, 0, 1969) := (congrArg (fun t => List.lookup 45 t) gt274).trans rfl
theorem t274_48 : zT 274 48 = some (.istore 4, 2, 0, 0, 0, 0) := (congrArg (fun t => List.lookup 48 t) gt274).trans rfl
theorem t274_50 : zT 274 50 = some (.aload_n 0, 1, 0, 0, 0, 0) := (congrArg (fun t => List.lookup 50 t) gt274).trans rfl
theorem t274_51 : zT 274 51 = some (.getfield 279, 3, 12, 18, 0, 1625) := (congrArg (fun t => List.lookup 51 t) gt274).trans rfl
theorem t274_54 : zT 274 54 = some (.ifCond .le 38, 3, 92, 0, 0, 0) := (congrArg (fun t => List.lookup 54 t) gt274).trans rfl
theorem t274_57 : zT 274 57 = some (.iload 4, 2, 0, 0, 0, 0) := (congrArg (fun t => List.lookup 57 t) gt274).trans rfl
theorem t274_59 : zT 274 59 = some (.iload_n 2, 1, 2, 0, 0, 0) := (congrArg (fun t => List.lookup 59 t) gt274).trans rfl
theorem t274_60 : zT 274 60 = some (.iload_n 1, 1, 1, 0, 0, 0) := (congrArg (fun t => List.lookup 60 t) gt274).trans rfl
theorem t274_61 : zT 274 61 = some (.aload_n 0, 1, 0, 0, 0, 0) := (congrArg (fun t => List.lookup 61 t) gt274).trans rfl
theorem t274_62 : zT 274 62 = some (.getfield 37, 3, 12, 17, 0, 1624) := (congrArg (fun t => List.lookup 62 t) gt274).trans rfl
theorem t274_65 : zT 274 65 = some (.iload_n 3, 1, 3, 0, 0, 0) := (congrArg (fun t => List.lookup 65 t) gt274).trans rfl
theorem t274_66 : zT 274 66 = some (.iaload, 1, 0, 0, 0, 0) := (congrArg (fun t => List.lookup 66 t) gt274).trans rfl
theorem t274_67 : zT 274 67 = some (.aload_n 0, 1, 0, 0, 0, 0) := (congrArg (fun t => List.lookup 67 t) gt274).trans rfl
theorem t274_68 : zT 274 68 = some (.getfield 279, 3, 12, 18, 0, 1625) := (congrArg (fun t => List.lookup 68 t) gt274).trans rfl
theorem t274_71 : zT 274 71 = some (.aload_n 0, 1, 0, 0, 0, 0) := (congrArg (fun t => List.lookup 71 t) gt274).trans rfl
theorem t274_72 : zT 274 72 = some (.getfield 282, 3, 12, 19, 0, 1626) := (congrArg (fun t => List.lookup 72 t) gt274).trans rfl
theorem t274_75 : zT 274 75 = some (.aload_n 0, 1, 0, 0, 0, 0) := (congrArg (fun t => List.lookup 75 t) gt274).trans rfl
theorem t274_76 : zT 274 76 = some (.getfield 285, 3, 12, 20, 0, 1627) := (congrArg (fun t => List.lookup 76 t) gt274).trans rfl
theorem t274_79 : zT 274 79 = some (.aload_n 0, 1, 0, 0, 0, 0) := (congrArg (fun t => List.lookup 79 t) gt274).trans rfl
theorem t274_80 : zT 274 80 = some (.getfield 288, 3, 12, 21, 0, 1628) := (congrArg (fun t => List.lookup 80 t) gt274).trans rfl
theorem t274_83 : zT 274 83 = some (.invokestatic 291, 3, 279, 1, 0, 1976) := (congrArg (fun t => List.lookup 83 t) gt274).trans rfl
theorem t274_86 : zT 274 86 = some (.ifCond .ne 6, 3, 92, 0, 0, 0) := (congrArg (fun t => List.lookup 86 t) gt274).trans rfl
theorem t274_89 : zT 274 89 = some (.goto 29, 3, 118, 0, 0, 0) := (congrArg (fun t => List.lookup 89 t) gt274).trans rfl
theorem t274_92 : zT 274 92 = some (.aload_n 0, 1, 0, 0, 0, 0) := (congrArg (fun t => List.lookup 92 t) gt274).trans rfl
theorem t274_93 : zT 274 93 = some (.iload 4, 2, 0, 0, 0, 0) := (congrArg (fun t => List.lookup 93 t) gt274).trans rfl
theorem t274_95 : zT 274 95 = some (.putfield 279, 3, 12, 18, 0, 1625) := (congrArg (fun t => List.lookup 95 t) gt274).trans rfl
theorem t274_98 : zT 274 98 = some (.aload_n 0, 1, 0, 0, 0, 0) := (congrArg (fun t => List.lookup 98 t) gt274).trans rfl
theorem t274_99 : zT 274 99 = some (.iload_n 2, 1, 2, 0, 0, 0) := (congrArg (fun t => List.lookup 99 t) gt274).trans rfl
theorem t274_100 : zT 274 100 = some (.putfield 282, 3, 12, 19, 0, 1626) := (congrArg (fun t => List.lookup 100 t) gt274).trans rfl
theorem t274_103 : zT 274 103 = some (.aload_n 0, 1, 0, 0, 0, 0) := (congrArg (fun t => List.lookup 103 t) gt274).trans rfl
theorem t274_104 : zT 274 104 = some (.iload_n 1, 1, 1, 0, 0, 0) := (congrArg (fun t => List.lookup 104 t) gt274).trans rfl
theorem t274_105 : zT 274 105 = some (.putfield 285, 3, 12, 20, 0, 1627) := (congrArg (fun t => List.lookup 105 t) gt274).trans rfl
theorem t274_108 : zT 274 108 = some (.aload_n 0, 1, 0, 0, 0, 0) := (congrArg (fun t => List.lookup 108 t) gt274).trans rfl
theorem t274_109 : zT 274 109 = some (.aload_n 0, 1, 0, 0, 0, 0) := (congrArg (fun t => List.lookup 109 t) gt274).trans rfl
theorem t274_110 : zT 274 110 = some (.getfield 37, 3, 12, 17, 0, 1624) := (congrArg (fun t => List.lookup 110 t) gt274).trans rfl
theorem t274_113 : zT 274 113 = some (.iload_n 3, 1, 3, 0, 0, 0) := (congrArg (fun t => List.lookup 113 t) gt274).trans rfl
theorem t274_114 : zT 274 114 = some (.iaload, 1, 0, 0, 0, 0) := (congrArg (fun t => List.lookup 114 t) gt274).trans rfl
theorem t274_115 : zT 274 115 = some (.putfield 288, 3, 12, 21, 0, 1628) := (congrArg (fun t => List.lookup 115 t) gt274).trans rfl
theorem t274_118 : zT 274 118 = some (.iinc 3 1, 3, 0, 0, 0, 0) := (congrArg (fun t => List.lookup 118 t) gt274).trans rfl
theorem t274_121 : zT 274 121 = some (.goto (-113), 3, 8, 0, 0, 0) := (congrArg (fun t => List.lookup 121 t) gt274).trans rfl
theorem t274_124 : zT 274 124 = some (.return_, 1, 0, 0, 0, 0) := (congrArg (fun t => List.lookup 124 t) gt274).trans rfl
theorem t275_0 : zT 275 0 = some (.iconst 0, 1, 0, 0, 0, 0) := (congrArg (fun t => List.lookup 0 t) gt275).trans rfl
theorem t275_1 : zT 275 1 = some (.istore_n 3, 1, 3, 0, 0, 0) := (congrArg (fun t => List.lookup 1 t) gt275).trans rfl
theorem t275_2 : zT 275 2 = some (.iload_n 3, 1, 3, 0, 0, 0) := (congrArg (fun t => List.lookup 2 t) gt275).trans rfl
theorem t275_3 : zT 275 3 = some (.aload_n 0, 1, 0, 0, 0, 0) := (congrArg (fun t => List.lookup 3 t) gt275).trans rfl
theorem t275_4 : zT 275 4 = some (.getfield 3, 3, 12, 0, 0, 1607) := (congrArg (fun t => List.lookup 4 t) gt275).trans rfl
theorem t275_7 : zT 275 7 = some (.iconst 1, 1, 0, 0, 1, 0) := (congrArg (fun t => List.lookup 7 t) gt275).trans rfl
theorem t275_8 : zT 275 8 = some (.iaload, 1, 0, 0, 0, 0) := (congrArg (fun t => List.lookup 8 t) gt275).trans rfl
theorem t275_9 : zT 275 9 = some (.if_icmp .ge 55, 3, 64, 0, 0, 0) := (congrArg (fun t => List.lookup 9 t) gt275).trans rfl
theorem t275_12 : zT 275 12 = some (.aload_n 0, 1, 0, 0, 0, 0) := (congrArg (fun t => List.lookup 12 t) gt275).trans rfl
theorem t275_13 : zT 275 13 = some (.getfield 34, 3, 12, 16, 0, 1623) := (congrArg (fun t => List.lookup 13 t) gt275).trans rfl
theorem t275_16 : zT 275 16 = some (.iload_n 3, 1, 3, 0, 0, 0) := (congrArg (fun t => List.lookup 16 t) gt275).trans rfl
theorem t275_17 : zT 275 17 = some (.baload, 1, 0, 0, 0, 0) := (congrArg (fun t => List.lookup 17 t) gt275).trans rfl
theorem t275_18 : zT 275 18 = some (.ifCond .eq 40, 3, 58, 0, 0, 0) := (congrArg (fun t => List.lookup 18 t) gt275).trans rfl
theorem t275_21 : zT 275 21 = some (.aload_n 0, 1, 0, 0, 0, 0) := (congrArg (fun t => List.lookup 21 t) gt275).trans rfl
theorem t275_22 : zT 275 22 = some (.getfield 37, 3, 12, 17, 0, 1624) := (congrArg (fun t => List.lookup 22 t) gt275).trans rfl
theorem t275_25 : zT 275 25 = some (.iload_n 3, 1, 3, 0, 0, 0) := (congrArg (fun t => List.lookup 25 t) gt275).trans rfl
theorem t275_26 : zT 275 26 = some (.aload_n 0, 1, 0, 0, 0, 0) := (congrArg (fun t => List.lookup 26 t) gt275).trans rfl
theorem t275_27 : zT 275 27 = some (.iload_n 3, 1, 3, 0, 0, 0) := (congrArg (fun t => List.lookup 27 t) gt275).trans rfl
theorem t275_28 : zT 275 28 = some (.iconst 1, 1, 0, 0, 1, 0) := (congrArg (fun t => List.lookup 28 t) gt275).trans rfl
theorem t275_29 : zT 275 29 = some (.invokevirtual 255, 3, 272, 0, 0, 1949) := (congrArg (fun t => List.lookup 29 t) gt275).trans rfl
theorem t275_32 : zT 275 32 = some (.aload_n 0, 1, 0, 0, 0, 0) := (congrArg (fun t => List.lookup 32 t) gt275).trans rfl
theorem t275_33 : zT 275 33 = some (.aload_n 0, 1, 0, 0, 0, 0) := (congrArg (fun t => List.lookup 33 t) gt275).trans rfl
theorem t275_34 : zT 275 34 = some (.iload_n 3, 1, 3, 0, 0, 0) := (congrArg (fun t => List.lookup 34 t) gt275).trans rfl
theorem t275_35 : zT 275 35 = some (.iconst 0, 1, 0, 0, 0, 0) := (congrArg (fun t => List.lookup 35 t) gt275).trans rfl
theorem t275_36 : zT 275 36 = some (.invokevirtual 255, 3, 272, 0, 0, 1949) := (congrArg (fun t => List.lookup 36 t) gt275).trans rfl
theorem t275_39 : zT 275 39 = some (.iload_n 1, 1, 1, 0, 0, 0) := (congrArg (fun t => List.lookup 39 t) gt275).trans rfl
theorem t275_40 : zT 275 40 = some (.iload_n 2, 1, 2, 0, 0, 0) := (congrArg (fun t => List.lookup 40 t) gt275).trans rfl
theorem t275_41 : zT 275 41 = some (.invokevirtual 173, 3, 249, 0, 0, 1856) := (congrArg (fun t => List.lookup 41 t) gt275).trans rfl
theorem t275_44 : zT 275 44 = some (.isub, 1, 0, 0, 0, 0) := (congrArg (fun t => List.lookup 44 t) gt275).trans rfl
theorem t275_45 : zT 275 45 = some (.i2l, 1, 0, 0, 0, 0) := (congrArg (fun t => List.lookup 45 t) gt275).trans rfl
theorem t275_46 : zT 275 46 = some (.aload_n 0, 1, 0, 0, 0, 0) := (congrArg (fun t => List.lookup 46 t) gt275).trans rfl
theorem t275_47 : zT 275 47 = some (.getfield 3, 3, 12, 0, 0, 1607) := (congrArg (fun t => List.lookup 47 t) gt275).trans rfl
theorem t275_50 : zT 275 50 = some (.bipush 7, 2, 0, 0, 7, 0) := (congrArg (fun t => List.lookup 50 t) gt275).trans rfl
theorem t275_52 : zT 275 52 = some (.iaload, 1, 0, 0, 0, 0) := (congrArg (fun t => List.lookup 52 t) gt275).trans rfl
theorem t275_53 : zT 275 53 = some (.i2l, 1, 0, 0, 0, 0) := (congrArg (fun t => List.lookup 53 t) gt275).trans rfl
theorem t275_54 : zT 275 54 = some (.invokestatic 160, 3, 250, 1, 0, 1861) := (congrArg (fun t => List.lookup 54 t) gt275).trans rfl
theorem t275_57 : zT 275 57 = some (.iastore, 1, 0, 0, 0, 0) := (congrArg (fun t => List.lookup 57 t) gt275).trans rfl
theorem t275_58 : zT 275 58 = some (.iinc 3 1, 3, 0, 0, 0, 0) := (congrArg (fun t => List.lookup 58 t) gt275).trans rfl
theorem t275_61 : zT 275 61 = some (.goto (-59), 3, 2, 0, 0, 0) := (congrArg (fun t => List.lookup 61 t) gt275).trans rfl
theorem t275_64 : zT 275 64 = some (.return_, 1, 0, 0, 0, 0) := (congrArg (fun t => List.lookup 64 t) gt275).trans rfl
theorem t276_0 : zT 276 0 = some (.iconst 0, 1, 0, 0, 0, 0) := (congrArg (fun t => List.lookup 0 t) gt276).trans rfl
theorem t276_1 : zT 276 1 = some (.istore_n 2, 1, 2, 0, 0, 0) := (congrArg (fun t => List.lookup 1 t) gt276).trans rfl
theorem t276_2 : zT 276 2 = some (.iload_n 2, 1, 2, 0, 0, 0) := (congrArg (fun t => List.lookup 2 t) gt276).trans rfl
theorem t276_3 : zT 276 3 = some (.iload_n 1, 1, 1, 0, 0, 0) := (congrArg (fun t => List.lookup 3 t) gt276).trans rfl
theorem t276_4 : zT 276 4 = some (.if_icmp .ge 35, 3, 39, 0, 0, 0) := (congrArg (fun t => List.lookup 4 t) gt276).trans rfl
theorem t276_7 : zT 276 7 = some (.aload_n 0, 1, 0, 0, 0, 0) := (congrArg (fun t => List.lookup 7 t) gt276).trans rfl
theorem t276_8 : zT 276 8 = some (.getfield 34, 3, 12, 16, 0, 1623) := (congrArg (fun t => List.lookup 8 t) gt276).trans rfl
theorem t276_11 : zT 276 11 = some (.iload_n 2, 1, 2, 0, 0, 0) := (congrArg (fun t => List.lookup 11 t) gt276).trans rfl
theorem t276_12 : zT 276 12 = some (.baload, 1, 0, 0, 0, 0) := (congrArg (fun t => List.lookup 12 t) gt276).trans rfl
theorem t276_13 : zT 276 13 = some (.ifCond .eq 20, 3, 33, 0, 0, 0) := (congrArg (fun t => List.lookup 13 t) gt276).trans rfl
theorem t276_16 : zT 276 16 = some (.aload_n 0, 1, 0, 0, 0, 0) := (congrArg (fun t => List.lookup 16 t) gt276).trans rfl
theorem t276_17 : zT 276 17 = some (.getfield 37, 3, 12, 17, 0, 1624) := (congrArg (fun t => List.lookup 17 t) gt276).trans rfl
theorem t276_20 : zT 276 20 = some (.iload_n 2, 1, 2, 0, 0, 0) := (congrArg (fun t => List.lookup 20 t) gt276).trans rfl
theorem t276_21 : zT 276 21 = some (.iaload, 1, 0, 0, 0, 0) := (congrArg (fun t => List.lookup 21 t) gt276).trans rfl
theorem t276_22 : zT 276 22 = some (.aload_n 0, 1, 0, 0, 0, 0) := (congrArg (fun t => List.lookup 22 t) gt276).trans rfl
theorem t276_23 : zT 276 23 = some (.getfield 37, 3, 12, 17, 0, 1624) := (congrArg (fun t => List.lookup 23 t) gt276).trans rfl
theorem t276_26 : zT 276 26 = some (.iload_n 1, 1, 1, 0, 0, 0) := (congrArg (fun t => List.lookup 26 t) gt276).trans rfl
theorem t276_27 : zT 276 27 = some (.iaload, 1, 0, 0, 0, 0) := (congrArg (fun t => List.lookup 27 t) gt276).trans rfl
theorem t276_28 : zT 276 28 = some (.if_icmp .ne 5, 3, 33, 0, 0, 0) := (congrArg (fun t => List.lookup 28 t) gt276).trans rfl
theorem t276_31 : zT 276 31 = some (.iconst 0, 1, 0, 0, 0, 0) := (congrArg (fun t => List.lookup 31 t) gt276).trans rfl
theorem t276_32 : zT 276 32 = some (.ireturn, 1, 0, 0, 0, 0) := (congrArg (fun t => List.lookup 32 t) gt276).trans rfl
theorem t276_33 : zT 276 33 = some (.iinc 2 1, 3, 0, 0, 0, 0) := (congrArg (fun t => List.lookup 33 t) gt276).trans rfl
theorem t276_36 : zT 276 36 = some (.goto (-34), 3, 2, 0, 0, 0) := (congrArg (fun t => List.lookup 36 t) gt276).trans rfl
theorem t276_39 : zT 276 39 = some (.iconst 1, 1, 0, 0, 1, 0) := (congrArg (fun t => List.lookup 39 t) gt276).trans rfl
theorem t276_40 : zT 276 40 = some (.ireturn, 1, 0, 0, 0, 0) := (congrArg (fun t => List.lookup 40 t) gt276).trans rfl
theorem t277_0 : zT 277 0 = some (.iconst 0, 1, 0, 0, 0, 0) := (congrArg (fun t => List.lookup 0 t) gt277).trans rfl
theorem t277_1 : zT 277 1 = some (.istore_n 2, 1, 2, 0, 0, 0) := (congrArg (fun t => List.lookup 1 t) gt277).trans rfl
theorem t277_2 : zT 277 2 = some (.iconst 0, 1, 0, 0, 0, 0) := (congrArg (fun t => List.lookup 2 t) gt277).trans rfl
theorem t277_3 : zT 277 3 = some (.istore_n 3, 1, 3, 0, 0, 0) := (congrArg (fun t => List.lookup 3 t) gt277).trans rfl
theorem t277_4 : zT 277 4 = some (.iload_n 3, 1, 3, 0, 0, 0) := (congrArg (fun t => List.lookup 4 t) gt277).trans rfl
theorem t277_5 : zT 277 5 = some (.aload_n 0, 1, 0, 0, 0, 0) := (congrArg (fun t => List.lookup 5 t) gt277).trans rfl
theorem t277_6 : zT 277 6 = some (.getfield 3, 3, 12, 0, 0, 1607) := (congrArg (fun t => List.lookup 6 t) gt277).trans rfl
theorem t277_9 : zT 277 9 = some (.iconst 1, 1, 0, 0, 1, 0) := (congrArg (fun t => List.lookup 9 t) gt277).trans rfl
theorem t277_10 : zT 277 10 = some (.iaload, 1, 0, 0, 0, 0) := (congrArg (fun t => List.lookup 10 t) gt277).trans rfl
theorem t277_11 : zT 277 11 = some (.if_icmp .ge 39, 3, 50, 0, 0, 0) := (congrArg (fun t => List.lookup 11 t) gt277).trans rfl
theorem t277_14 : zT 277 14 = some (.aload_n 0, 1, 0, 0, 0, 0) := (congrArg (fun t => List.lookup 14 t) gt277).trans rfl
theorem t277_15 : zT 277 15 = some (.getfield 34, 3, 12, 16, 0, 1623) := (congrArg (fun t => List.lookup 15 t) gt277).trans rfl
theorem t277_18 : zT 277 18 = some (.iload_n 3, 1, 3, 0, 0, 0) := (congrArg (fun t => List.lookup 18 t) gt277).trans rfl
theorem t277_19 : zT 277 19 = some (.baload, 1, 0, 0, 0, 0) := (congrArg (fun t => List.lookup 19 t) gt277).trans rfl
theorem t277_20 : zT 277 20 = some (.ifCond .eq 24, 3, 44, 0, 0, 0) := (congrArg (fun t => List.lookup 20 t) gt277).trans rfl
theorem t277_23 : zT 277 23 = some (.aload_n 0, 1, 0, 0, 0, 0) := (congrArg (fun t => List.lookup 23 t) gt277).trans rfl
theorem t277_24 : zT 277 24 = some (.getfield 37, 3, 12, 17, 0, 1624) := (congrArg (fun t => List.lookup 24 t) gt277).trans rfl
theorem t277_27 : zT 277 27 = some (.iload_n 3, 1, 3, 0, 0, 0) := (congrArg (fun t => List.lookup 27 t) gt277).trans rfl
theorem t277_28 : zT 277 28 = some (.iaload, 1, 0, 0, 0, 0) := (congrArg (fun t => List.lookup 28 t) gt277).trans rfl
theorem t277_29 : zT 277 29 = some (.iload_n 1, 1, 1, 0, 0, 0) := (congrArg (fun t => List.lookup 29 t) gt277).trans rfl
theorem t277_30 : zT 277 30 = some (.if_icmp .ne 14, 3, 44, 0, 0, 0) := (congrArg (fun t => List.lookup 30 t) gt277).trans rfl
theorem t277_33 : zT 277 33 = some (.iload_n 2, 1, 2, 0, 0, 0) := (congrArg (fun t => List.lookup 33 t) gt277).trans rfl
theorem t277_34 : zT 277 34 = some (.iconst 1, 1, 0, 0, 1, 0) := (congrArg (fun t => List.lookup 34 t) gt277).trans rfl
theorem t277_35 : zT 277 35 = some (.aload_n 0, 1, 0, 0, 0, 0) := (congrArg (fun t => List.lookup 35 t) gt277).trans rfl
theorem t277_36 : zT 277 36 = some (.iload_n 3, 1, 3, 0, 0, 0) := (congrArg (fun t => List.lookup 36 t) gt277).trans rfl
theorem t277_37 : zT 277 37 = some (.iconst 0, 1, 0, 0, 0, 0) := (congrArg (fun t => List.lookup 37 t) gt277).trans rfl
theorem t277_38 : zT 277 38 = some (.invokevirtual 255, 3, 272, 0, 0, 1949) := (congrArg (fun t => List.lookup 38 t) gt277).trans rfl
theorem t277_41 : zT 277 41 = some (.ishl, 1, 0, 0, 0, 0) := (congrArg (fun t => List.lookup 41 t) gt277).trans rfl
theorem t277_42 : zT 277 42 = some (.ior, 1, 0, 0, 0, 0) := (congrArg (fun t => List.lookup 42 t) gt277).trans rfl
theorem t277_43 : zT 277 43 = some (.istore_n 2, 1, 2, 0, 0, 0) := (congrArg (fun t => List.lookup 43 t) gt277).trans rfl
theorem t277_44 : zT 277 44 = some (.iinc 3 1, 3, 0, 0, 0, 0) := (congrArg (fun t => List.lookup 44 t) gt277).trans rfl
theorem t277_47 : zT 277 47 = some (.goto (-43), 3, 4, 0, 0, 0) := (congrArg (fun t => List.lookup 47 t) gt277).trans rfl
theorem t277_50 : zT 277 50 = some (.iload_n 2, 1, 2, 0, 0, 0) := (congrArg (fun t => List.lookup 50 t) gt277).trans rfl
theorem t277_51 : zT 277 51 = some (.invokestatic 264, 3, 278, 1, 0, 1973) := (congrArg (fun t => List.lookup 51 t) gt277).trans rfl
theorem t277_54 : zT 277 54 = some (.ireturn, 1, 0, 0, 0, 0) := (congrArg (fun t => List.lookup 54 t) gt277).trans rfl
theorem t278_0 : zT 278 0 = some (.iconst 0, 1, 0, 0, 0, 0) := (congrArg (fun t => List.lookup 0 t) gt278).trans rfl
theorem t278_1 : zT 278 1 = some (.istore_n 1, 1, 1, 0, 0, 0) := (congrArg (fun t => List.lookup 1 t) gt278).trans rfl
theorem t278_2 : zT 278 2 = some (.iconst 0, 1, 0, 0, 0, 0) := (congrArg (fun t => List.lookup 2 t) gt278).trans rfl
theorem t278_3 : zT 278 3 = some (.istore_n 2, 1, 2, 0, 0, 0) := (congrArg (fun t => List.lookup 3 t) gt278).trans rfl
theorem t278_4 : zT 278 4 = some (.iload_n 2, 1, 2, 0, 0, 0) := (congrArg (fun t => List.lookup 4 t) gt278).trans rfl
theorem t278_5 : zT 278 5 = some (.bipush 8, 2, 0, 0, 8, 0) := (congrArg (fun t => List.lookup 5 t) gt278).trans rfl
theorem t278_7 : zT 278 7 = some (.if_icmp .ge 17, 3, 24, 0, 0, 0) := (congrArg (fun t => List.lookup 7 t) gt278).trans rfl
theorem t278_10 : zT 278 10 = some (.iload_n 1, 1, 1, 0, 0, 0) := (congrArg (fun t => List.lookup 10 t) gt278).trans rfl
theorem t278_11 : zT 278 11 = some (.iload_n 0, 1, 0, 0, 0, 0) := (congrArg (fun t => List.lookup 11 t) gt278).trans rfl
theorem t278_12 : zT 278 12 = some (.iload_n 2, 1, 2, 0, 0, 0) := (congrArg (fun t => List.lookup 12 t) gt278).trans rfl
theorem t278_13 : zT 278 13 = some (.ishr, 1, 0, 0, 0, 0) := (congrArg (fun t => List.lookup 13 t) gt278).trans rfl
theorem t278_14 : zT 278 14 = some (.iconst 1, 1, 0, 0, 1, 0) := (congrArg (fun t => List.lookup 14 t) gt278).trans rfl
theorem t278_15 : zT 278 15 = some (.iand, 1, 0, 0, 0, 0) := (congrArg (fun t => List.lookup 15 t) gt278).trans rfl
theorem t278_16 : zT 278 16 = some (.iadd, 1, 0, 0, 0, 0) := (congrArg (fun t => List.lookup 16 t) gt278).trans rfl
theorem t278_17 : zT 278 17 = some (.istore_n 1, 1, 1, 0, 0, 0) := (congrArg (fun t => List.lookup 17 t) gt278).trans rfl
theorem t278_18 : zT 278 18 = some (.iinc 2 1, 3, 0, 0, 0, 0) := (congrArg (fun t => List.lookup 18 t) gt278).trans rfl
theorem t278_21 : zT 278 21 = some (.goto (-17), 3, 4, 0, 0, 0) := (congrArg (fun t => List.lookup 21 t) gt278).trans rfl
theorem t278_24 : zT 278 24 = some (.iload_n 1, 1, 1, 0, 0, 0) := (congrArg (fun t => List.lookup 24 t) gt278).trans rfl
theorem t278_25 : zT 278 25 = some (.ireturn, 1, 0, 0, 0, 0) := (congrArg (fun t => List.lookup 25 t) gt278).trans rfl
theorem t279_0 : zT 279 0 = some (.iload_n 0, 1, 0, 0, 0, 0) := (congrArg (fun t => List.lookup 0 t) gt279).trans rfl
theorem t279_1 : zT 279 1 = some (.iload 4, 2, 0, 0, 0, 0) := (congrArg (fun t => List.lookup 1 t) gt279).trans rfl
theorem t279_3 : zT 279 3 = some (.if_icmp .eq 15, 3, 18, 0, 0, 0) := (congrArg (fun t => List.lookup 3 t) gt279).trans rfl
theorem t279_6 : zT 279 6 = some (.iload_n 0, 1, 0, 0, 0, 0) := (congrArg (fun t => List.lookup 6 t) gt279).trans rfl
theorem t279_7 : zT 279 7 = some (.iload 4, 2, 0, 0, 0, 0) := (congrArg (fun t => List.lookup 7 t) gt279).trans rfl
theorem t279_9 : zT 279 9 = some (.if_icmp .le 7, 3, 16, 0, 0, 0) := (congrArg (fun t => List.lookup 9 t) gt279).trans rfl
theorem t279_12 : zT 279 12 = some (.iconst 1, 1, 0, 0, 1, 0) := (congrArg (fun t => List.lookup 12 t) gt279).trans rfl
theorem t279_13 : zT 279 13 = some (.goto 4, 3, 17, 0, 0, 0) := (congrArg (fun t => List.lookup 13 t) gt279).trans rfl
theorem t279_16 : zT 279 16 = some (.iconst 0, 1, 0, 0, 0, 0) := (congrArg (fun t => List.lookup 16 t) gt279).trans rfl
theorem t279_17 : zT 279 17 = some (.ireturn, 1, 0, 0, 0, 0) := (congrArg (fun t => List.lookup 17 t) gt279).trans rfl
theorem t279_18 : zT 279 18 = some (.iload_n 1, 1, 1, 0, 0, 0) := (congrArg (fun t => List.lookup 18 t) gt279).trans rfl
theorem t279_19 : zT 279 19 = some (.invokestatic 267, 3, 280, 1, 0, 1979) := (congrArg (fun t => List.lookup 19 t) gt279).trans rfl
theorem t279_22 : zT 279 22 = some (.iload 5, 2, 0, 0, 0, 0) := (congrArg (fun t => List.lookup 22 t) gt279).trans rfl
theorem t279_24 : zT 279 24 = some (.invokestatic 267, 3, 280, 1, 0, 1979) := (congrArg (fun t => List.lookup 24 t) gt279).trans rfl
theorem t279_27 : zT 279 27 = some (.if_icmp .eq 21, 3, 48, 0, 0, 0) := (congrArg (fun t => List.lookup 27 t) gt279).trans rfl
theorem t279_30 : zT 279 30 = some (.iload_n 1, 1, 1, 0, 0, 0) := (congrArg (fun t => List.lookup 30 t) gt279).trans rfl
theorem t279_31 : zT 279 31 = some (.invokestatic 267, 3, 280, 1, 0, 1979) := (congrArg (fun t => List.lookup 31 t) gt279).trans rfl
theorem t279_34 : zT 279 34 = some (.iload 5, 2, 0, 0, 0, 0) := (congrArg (fun t => List.lookup 34 t) gt279).trans rfl
theorem t279_36 : zT 279 36 = some (.invokestatic 267, 3, 280, 1, 0, 1979) := (congrArg (fun t => List.lookup 36 t) gt279).trans rfl
theorem t279_39 : zT 279 39 = some (.if_icmp .ge 7, 3, 46, 0, 0, 0) := (congrArg (fun t => List.lookup 39 t) gt279).trans rfl
theorem t279_42 : zT 279 42 = some (.iconst 1, 1, 0, 0, 1, 0) := (congrArg (fun t => List.lookup 42 t) gt279).trans rfl
theorem t279_43 : zT 279 43 = some (.goto 4, 3, 47, 0, 0, 0) := (congrArg (fun t => List.lookup 43 t) gt279).trans rfl
theorem t279_46 : zT 279 46 = some (.iconst 0, 1, 0, 0, 0, 0) := (congrArg (fun t => List.lookup 46 t) gt279).trans rfl
theorem t279_47 : zT 279 47 = some (.ireturn, 1, 0, 0, 0, 0) := (congrArg (fun t => List.lookup 47 t) gt279).trans rfl
theorem t279_48 : zT 279 48 = some (.iload_n 2, 1, 2, 0, 0, 0) := (congrArg (fun t => List.lookup 48 t) gt279).trans rfl
theorem t279_49 : zT 279 49 = some (.invokestatic 267, 3, 280, 1, 0, 1979) := (congrArg (fun t => List.lookup 49 t) gt279).trans rfl
theorem t279_52 : zT 279 52 = some (.iload 6, 2, 0, 0, 0, 0) := (congrArg (fun t => List.lookup 52 t) gt279).trans rfl
theorem t279_54 : zT 279 54 = some (.invokestatic 267, 3, 280, 1, 0, 1979) := (congrArg (fun t => List.lookup 54 t) gt279).trans rfl
theorem t279_57 : zT 279 57 = some (.if_icmp .eq 21, 3, 78, 0, 0, 0) := (congrArg (fun t => List.lookup 57 t) gt279).trans rfl
theorem t279_60 : zT 279 60 = some (.iload_n 2, 1, 2, 0, 0, 0) := (congrArg (fun t => List.lookup 60 t) gt279).trans rfl
theorem t279_61 : zT 279 61 = some (.invokestatic 267, 3, 280, 1, 0, 1979) := (congrArg (fun t => List.lookup 61 t) gt279).trans rfl
theorem t279_64 : zT 279 64 = some (.iload 6, 2, 0, 0, 0, 0) := (congrArg (fun t => List.lookup 64 t) gt279).trans rfl
theorem t279_66 : zT 279 66 = some (.invokestatic 267, 3, 280, 1, 0, 1979) := (congrArg (fun t => List.lookup 66 t) gt279).trans rfl
theorem t279_69 : zT 279 69 = some (.if_icmp .ge 7, 3, 76, 0, 0, 0) := (congrArg (fun t => List.lookup 69 t) gt279).trans rfl
theorem t279_72 : zT 279 72 = some (.iconst 1, 1, 0, 0, 1, 0) := (congrArg (fun t => List.lookup 72 t) gt279).trans rfl
theorem t279_73 : zT 279 73 = some (.goto 4, 3, 77, 0, 0, 0) := (congrArg (fun t => List.lookup 73 t) gt279).trans rfl
theorem t279_76 : zT 279 76 = some (.iconst 0, 1, 0, 0, 0, 0) := (congrArg (fun t => List.lookup 76 t) gt279).trans rfl
theorem t279_77 : zT 279 77 = some (.ireturn, 1, 0, 0, 0, 0) := (congrArg (fun t => List.lookup 77 t) gt279).trans rfl
theorem t279_78 : zT 279 78 = some (.iload_n 1, 1, 1, 0, 0, 0) := (congrArg (fun t => List.lookup 78 t) gt279).trans rfl
theorem t279_79 : zT 279 79 = some (.iload 5, 2, 0, 0, 0, 0) := (congrArg (fun t => List.lookup 79 t) gt279).trans rfl
theorem t279_81 : zT 279 81 = some (.if_icmp .eq 15, 3, 96, 0, 0, 0) := (congrArg (fun t => List.lookup 81 t) gt279).trans rfl
theorem t279_84 : zT 279 84 = some (.iload_n 1, 1, 1, 0, 0, 0) := (congrArg (fun t => List.lookup 84 t) gt279).trans rfl
theorem t279_85 : zT 279 85 = some (.iload 5, 2, 0, 0, 0, 0) := (congrArg (fun t => List.lookup 85 t) gt279).trans rfl
theorem t279_87 : zT 279 87 = some (.if_icmp .ge 7, 3, 94, 0, 0, 0) := (congrArg (fun t => List.lookup 87 t) gt279).trans rfl
theorem t279_90 : zT 279 90 = some (.iconst 1, 1, 0, 0, 1, 0) := (congrArg (fun t => List.lookup 90 t) gt279).trans rfl
theorem t279_91 : zT 279 91 = some (.goto 4, 3, 95, 0, 0, 0) := (congrArg (fun t => List.lookup 91 t) gt279).trans rfl
theorem t279_94 : zT 279 94 = some (.iconst 0, 1, 0, 0, 0, 0) := (congrArg (fun t => List.lookup 94 t) gt279).trans rfl
theorem t279_95 : zT 279 95 = some (.ireturn, 1, 0, 0, 0, 0) := (congrArg (fun t => List.lookup 95 t) gt279).trans rfl
theorem t279_96 : zT 279 96 = some (.iload_n 2, 1, 2, 0, 0, 0) := (congrArg (fun t => List.lookup 96 t) gt279).trans rfl
theorem t279_97 : zT 279 97 = some (.iload 6, 2, 0, 0, 0, 0) := (congrArg (fun t => List.lookup 97 t) gt279).trans rfl
theorem t279_99 : zT 279 99 = some (.if_icmp .eq 17, 3, 116, 0, 0, 0) := (congrArg (fun t => List.lookup 99 t) gt279).trans rfl
theorem t279_102 : zT 279 102 = some (.iload_n 2, 1, 2, 0, 0, 0) := (congrArg (fun t => List.lookup 102 t) gt279).trans rfl
theorem t279_103 : zT 279 103 = some (.iload 6, 2, 0, 0, 0, 0) := (congrArg (fun t => List.lookup 103 t) gt279).trans rfl
theorem t279_105 : zT 279 105 = some (.if_icmp .ge 7, 3, 112, 0, 0, 0) := (congrArg (fun t => List.lookup 105 t) gt279).trans rfl
theorem t279_108 : zT 279 108 = some (.iconst 1, 1, 0, 0, 1, 0) := (congrArg (fun t => List.lookup 108 t) gt279).trans rfl
theorem t279_109 : zT 279 109 = some (.goto 18, 3, 127, 0, 0, 0) := (congrArg (fun t => List.lookup 109 t) gt279).trans rfl
theorem t279_112 : zT 279 112 = some (.iconst 0, 1, 0, 0, 0, 0) := (congrArg (fun t => List.lookup 112 t) gt279).trans rfl
theorem t279_113 : zT 279 113 = some (.goto 14, 3, 127, 0, 0, 0) := (congrArg (fun t => List.lookup 113 t) gt279).trans rfl
theorem t279_116 : zT 279 116 = some (.iload_n 3, 1, 3, 0, 0, 0) := (congrArg (fun t => List.lookup 116 t) gt279).trans rfl
theorem t279_117 : zT 279 117 = some (.iload 7, 2, 0, 0, 0, 0) := (congrArg (fun t => List.lookup 117 t) gt279).trans rfl
theorem t279_119 : zT 279 119 = some (.if_icmp .ge 7, 3, 126, 0, 0, 0) := (congrArg (fun t => List.lookup 119 t) gt279).trans rfl
theorem t279_122 : zT 279 122 = some (.iconst 1, 1, 0, 0, 1, 0) := (congrArg (fun t => List.lookup 122 t) gt279).trans rfl
theorem t279_123 : zT 279 123 = some (.goto 4, 3, 127, 0, 0, 0) := (congrArg (fun t => List.lookup 123 t) gt279).trans rfl
theorem t279_126 : zT 279 126 = some (.iconst 0, 1, 0, 0, 0, 0) := (congrArg (fun t => List.lookup 126 t) gt279).trans rfl
theorem t279_127 : zT 279 127 = some (.ireturn, 1, 0, 0, 0, 0) := (congrArg (fun t => List.lookup 127 t) gt279).trans rfl
theorem t280_0 : zT 280 0 = some (.iload_n 0, 1, 0, 0, 0, 0) := (congrArg (fun t => List.lookup 0 t) gt280).trans rfl
theorem t280_1 : zT 280 1 = some (.ifCond .ge 8, 3, 9, 0, 0, 0) := (congrArg (fun t => List.lookup 1 t) gt280).trans rfl
theorem t280_4 : zT 280 4 = some (.iload_n 0, 1, 0, 0, 0, 0) := (congrArg (fun t => List.lookup 4 t) gt280).trans rfl
theorem t280_5 : zT 280 5 = some (.ineg, 1, 0, 0, 0, 0) := (congrArg (fun t => List.lookup 5 t) gt280).trans rfl
theorem t280_6 : zT 280 6 = some (.goto 4, 3, 10, 0, 0, 0) := (congrArg (fun t => List.lookup 6 t) gt280).trans rfl
theorem t280_9 : zT 280 9 = some (.iload_n 0, 1, 0, 0, 0, 0) := (congrArg (fun t => List.lookup 9 t) gt280).trans rfl
theorem t280_10 : zT 280 10 = some (.ireturn, 1, 0, 0, 0, 0) := (congrArg (fun t => List.lookup 10 t) gt280).trans rfl
theorem t281_0 : zT 281 0 = some (.aload_n 0, 1, 0, 0, 0, 0) := (congrArg (fun t => List.lookup 0 t) gt281).trans (by decide +kernel)
theorem t281_1 : zT 281 1 = some (.getfield 261, 3, 12, 22, 0, 1629) := (congrArg (fun t => List.lookup 1 t) gt281).trans (by decide +kernel)
theorem t281_4 : zT 281 4 = some (.istore_n 1, 1, 1, 0, 0, 0) := (congrArg (fun t => List.lookup 4 t) gt281).trans (by decide +kernel)
theorem t281_5 : zT 281 5 = some (.aload_n 0, 1, 0, 0, 0, 0) := (congrArg (fun t => List.lookup 5 t) gt281).trans (by decide +kernel)
theorem t281_6 : zT 281 6 = some (.getfield 288, 3, 12, 21, 0, 1628) := (congrArg (fun t => List.lookup 6 t) gt281).trans (by decide +kernel)
theorem t281_9 : zT 281 9 = some (.aload_n 0, 1, 0, 0, 0, 0) := (congrArg (fun t => List.lookup 9 t) gt281).trans (by decide +kernel)
theorem t281_10 : zT 281 10 = some (.getfield 3, 3, 12, 0, 0, 1607) := (congrArg (fun t => List.lookup 10 t) gt281).trans (by decide +kernel)
theorem t281_13 : zT 281 13 = some (.bipush 7, 2, 0, 0, 7, 0) := (congrArg (fun t => List.lookup 13 t) gt281).trans (by decide +kernel)
theorem t281_15 : zT 281 15 = some (.iaload, 1, 0, 0, 0, 0) := (congrArg (fun t => List.lookup 15 t) gt281).trans (by decide +kernel)
theorem t281_16 : zT 281 16 = some (.imul, 1, 0, 0, 0, 0) := (congrArg (fun t => List.lookup 16 t) gt281).trans (by decide +kernel)
theorem t281_17 : zT 281 17 = some (.aload_n 0, 1, 0, 0, 0, 0) := (congrArg (fun t => List.lookup 17 t) gt281).trans (by decide +kernel)
theorem t281_18 : zT 281 18 = some (.getfield 3, 3, 12, 0, 0, 1607) := (congrArg (fun t => List.lookup 18 t) gt281).trans (by decide +kernel)
theorem t281_21 : zT 281 21 = some (.bipush 7, 2, 0, 0, 7, 0) := (congrArg (fun t => List.lookup 21 t) gt281).trans (by decide +kernel)
theorem t281_23 : zT 281 23 = some (.iaload, 1, 0, 0, 0, 0) := (congrArg (fun t => List.lookup 23 t) gt281).trans (by decide +kernel)
theorem t281_24 : zT 281 24 = some (.iconst 2, 1, 0, 0, 2, 0) := (congrArg (fun t => List.lookup 24 t) gt281).trans (by decide +kernel)
theorem t281_25 : zT 281 25 = some (.idiv, 1, 0, 0, 0, 0) := (congrArg (fun t => List.lookup 25 t) gt281).trans (by decide +kernel)
theorem t281_26 : zT 281 26 = some (.iadd, 1, 0, 0, 0, 0) := (congrArg (fun t => List.lookup 26 t) gt281).trans (by decide +kernel)
theorem t281_27 : zT 281 27 = some (.istore_n 2, 1, 2, 0, 0, 0) := (congrArg (fun t => List.lookup 27 t) gt281).trans (by decide +kernel)
theorem t281_28 : zT 281 28 = some (.aload_n 0, 1, 0, 0, 0, 0) := (congrArg (fun t => List.lookup 28 t) gt281).trans (by decide +kernel)
theorem t281_29 : zT 281 29 = some (.aload_n 0, 1, 0, 0, 0, 0) := (congrArg (fun t => List.lookup 29 t) gt281).trans (by decide +kernel)
theorem t281_30 : zT 281 30 = some (.getfield 285, 3, 12, 20, 0, 1627) := (congrArg (fun t => List.lookup 30 t) gt281).trans (by decide +kernel)
theorem t281_33 : zT 281 33 = some (.aload_n 0, 1, 0, 0, 0, 0) := (congrArg (fun t => List.lookup 33 t) gt281).trans (by decide +kernel)
theorem t281_34 : zT 281 34 = some (.getfield 282, 3, 12, 19, 0, 1626) := (congrArg (fun t => List.lookup 34 t) gt281).trans (by decide +kernel)
theorem t281_37 : zT 281 37 = some (.invokevirtual 270, 3, 275, 0, 0, 1961) := (congrArg (fun t => List.lookup 37 t) gt281).trans (by decide +kernel)
theorem t281_40 : zT 281 40 = some (.iconst 0, 1, 0, 0, 0, 0) := (congrArg (fun t => List.lookup 40 t) gt281).trans (by decide +kernel)
theorem t281_41 : zT 281 41 = some (.istore_n 3, 1, 3, 0, 0, 0) := (congrArg (fun t => List.lookup 41 t) gt281).trans (by decide +kernel)
theorem t281_42 : zT 281 42 = some (.iload_n 3, 1, 3, 0, 0, 0) := (congrArg (fun t => List.lookup 42 t) gt281).trans (by decide +kernel)
theorem t281_43 : zT 281 43 = some (.aload_n 0, 1, 0, 0, 0, 0) := (congrArg (fun t => List.lookup 43 t) gt281).trans (by decide +kernel)
theorem t281_44 : zT 281 44 = some (.getfield 3, 3, 12, 0, 0, 1607) := (congrArg (fun t => List.lookup 44 t) gt281).trans (by decide +kernel)
theorem t281_47 : zT 281 47 = some (.iconst 0, 1, 0, 0, 0, 0) := (congrArg (fun t => List.lookup 47 t) gt281).trans (by decide +kernel)
theorem t281_48 : zT 281 48 = some (.iaload, 1, 0, 0, 0, 0) := (congrArg (fun t => List.lookup 48 t) gt281).trans (by decide +kernel)
theorem t281_49 : zT 281 49 = some (.if_icmp .ge 166, 3, 215, 0, 0, 0) := (congrArg (fun t => List.lookup 49 t) gt281).trans (by decide +kernel)
theorem t281_52 : zT 281 52 = some (.bipush (-2), 2, 0, 0, (-2), 0) := (congrArg (fun t => List.lookup 52 t) gt281).trans (by decide +kernel)
theorem t281_54 : zT 281 54 = some (.istore 4, 2, 0, 0, 0, 0) := (congrArg (fun t => List.lookup 54 t) gt281).trans (by decide +kernel)
theorem t281_56 : zT 281 56 = some (.iconst 0, 1, 0, 0, 0, 0) := (congrArg (fun t => List.lookup 56 t) gt281).trans (by decide +kernel)
theorem t281_57 : zT 281 57 = some (.istore 5, 2, 0, 0, 0, 0) := (congrArg (fun t => List.lookup 57 t) gt281).trans (by decide +kernel)
theorem t281_59 : zT 281 59 = some (.iconst 0, 1, 0, 0, 0, 0) := (congrArg (fun t => List.lookup 59 t) gt281).trans (by decide +kernel)
theorem t281_60 : zT 281 60 = some (.istore 6, 2, 0, 0, 0, 0) := (congrArg (fun t => List.lookup 60 t) gt281).trans (by decide +kernel)
theorem t281_62 : zT 281 62 = some (.iload 6, 2, 0, 0, 0, 0) := (congrArg (fun t => List.lookup 62 t) gt281).trans (by decide +kernel)
theorem t281_64 : zT 281 64 = some (.aload_n 0, 1, 0, 0, 0, 0) := (congrArg (fun t => List.lookup 64 t) gt281).trans (by decide +kernel)
theorem t281_65 : zT 281 65 = some (.getfield 3, 3, 12, 0, 0, 1607) := (congrArg (fun t => List.lookup 65 t) gt281).trans (by decide +kernel)
theorem t281_68 : zT 281 68 = some (.iconst 1, 1, 0, 0, 1, 0) := (congrArg (fun t => List.lookup 68 t) gt281).trans (by decide +kernel)
theorem t281_69 : zT 281 69 = some (.iaload, 1, 0, 0, 0, 0) := (congrArg (fun t => List.lookup 69 t) gt281).trans (by decide +kernel)
theorem t281_70 : zT 281 70 = some (.if_icmp .ge 100, 3, 170, 0, 0, 0) := (congrArg (fun t => List.lookup 70 t) gt281).trans (by decide +kernel)
theorem t281_73 : zT 281 73 = some (.aload_n 0, 1, 0, 0, 0, 0) := (congrArg (fun t => List.lookup 73 t) gt281).trans (by decide +kernel)
theorem t281_74 : zT 281 74 = some (.getfield 34, 3, 12, 16, 0, 1623) := (congrArg (fun t => List.lookup 74 t) gt281).trans (by decide +kernel)
theorem t281_77 : zT 281 77 = some (.iload 6, 2, 0, 0, 0, 0) := (congrArg (fun t => List.lookup 77 t) gt281).trans (by decide +kernel)
theorem t281_79 : zT 281 79 = some (.baload, 1, 0, 0, 0, 0) := (congrArg (fun t => List.lookup 79 t) gt281).trans (by decide +kernel)
theorem t281_80 : zT 281 80 = some (.ifCond .eq 84, 3, 164, 0, 0, 0) := (congrArg (fun t => List.lookup 80 t) gt281).trans (by decide +kernel)
theorem t281_83 : zT 281 83 = some (.aload_n 0, 1, 0, 0, 0, 0) := (congrArg (fun t => List.lookup 83 t) gt281).trans (by decide +kernel)
theorem t281_84 : zT 281 84 = some (.iload 6, 2, 0, 0, 0, 0) := (congrArg (fun t => List.lookup 84 t) gt281).trans (by decide +kernel)
theorem t281_86 : zT 281 86 = some (.iconst 0, 1, 0, 0, 0, 0) := (congrArg (fun t => List.lookup 86 t) gt281).trans (by decide +kernel)
theorem t281_87 : zT 281 87 = some (.invokevirtual 255, 3, 272, 0, 0, 1949) := (congrArg (fun t => List.lookup 87 t) gt281).trans (by decide +kernel)
theorem t281_90 : zT 281 90 = some (.iload_n 3, 1, 3, 0, 0, 0) := (congrArg (fun t => List.lookup 90 t) gt281).trans (by decide +kernel)
theorem t281_91 : zT 281 91 = some (.if_icmp .ne 73, 3, 164, 0, 0, 0) := (congrArg (fun t => List.lookup 91 t) gt281).trans (by decide +kernel)
theorem t281_94 : zT 281 94 = some (.aload_n 0, 1, 0, 0, 0, 0) := (congrArg (fun t => List.lookup 94 t) gt281).trans (by decide +kernel)
theorem t281_95 : zT 281 95 = some (.getfield 37, 3, 12, 17, 0, 1624) := (congrArg (fun t => List.lookup 95 t) gt281).trans (by decide +kernel)
theorem t281_98 : zT 281 98 = some (.iload 6, 2, 0, 0, 0, 0) := (congrArg (fun t => List.lookup 98 t) gt281).trans (by decide +kernel)
theorem t281_100 : zT 281 100 = some (.iaload, 1, 0, 0, 0, 0) := (congrArg (fun t => List.lookup 100 t) gt281).trans (by decide +kernel)
theorem t281_101 : zT 281 101 = some (.aload_n 0, 1, 0, 0, 0, 0) := (congrArg (fun t => List.lookup 101 t) gt281).trans (by decide +kernel)
theorem t281_102 : zT 281 102 = some (.getfield 288, 3, 12, 21, 0, 1628) := (congrArg (fun t => List.lookup 102 t) gt281).trans (by decide +kernel)
theorem t281_105 : zT 281 105 = some (.if_icmp .eq 6, 3, 111, 0, 0, 0) := (congrArg (fun t => List.lookup 105 t) gt281).trans (by decide +kernel)
theorem t281_108 : zT 281 108 = some (.goto 56, 3, 164, 0, 0, 0) := (congrArg (fun t => List.lookup 108 t) gt281).trans (by decide +kernel)
theorem t281_111 : zT 281 111 = some (.aload_n 0, 1, 0, 0, 0, 0) := (congrArg (fun t => List.lookup 111 t) gt281).trans (by decide +kernel)
theorem t281_112 : zT 281 112 = some (.iload 6, 2, 0, 0, 0, 0) := (congrArg (fun t => List.lookup 112 t) gt281).trans (by decide +kernel)
theorem t281_114 : zT 281 114 = some (.iconst 1, 1, 0, 0, 1, 0) := (congrArg (fun t => List.lookup 114 t) gt281).trans (by decide +kernel)
theorem t281_115 : zT 281 115 = some (.invokevirtual 255, 3, 272, 0, 0, 1949) := (congrArg (fun t => List.lookup 115 t) gt281).trans (by decide +kernel)
theorem t281_118 : zT 281 118 = some (.aload_n 0, 1, 0, 0, 0, 0) := (congrArg (fun t => List.lookup 118 t) gt281).trans (by decide +kernel)
theorem t281_119 : zT 281 119 = some (.iload_n 3, 1, 3, 0, 0, 0) := (congrArg (fun t => List.lookup 119 t) gt281).trans (by decide +kernel)
theorem t281_120 : zT 281 120 = some (.aload_n 0, 1, 0, 0, 0, 0) := (congrArg (fun t => List.lookup 120 t) gt281).trans (by decide +kernel)
theorem t281_121 : zT 281 121 = some (.getfield 285, 3, 12, 20, 0, 1627) := (congrArg (fun t => List.lookup 121 t) gt281).trans (by decide +kernel)
theorem t281_124 : zT 281 124 = some (.aload_n 0, 1, 0, 0, 0, 0) := (congrArg (fun t => List.lookup 124 t) gt281).trans (by decide +kernel)
theorem t281_125 : zT 281 125 = some (.getfield 282, 3, 12, 19, 0, 1626) := (congrArg (fun t => List.lookup 125 t) gt281).trans (by decide +kernel)
theorem t281_128 : zT 281 128 = some (.invokevirtual 173, 3, 249, 0, 0, 1856) := (congrArg (fun t => List.lookup 128 t) gt281).trans (by decide +kernel)
theorem t281_131 : zT 281 131 = some (.isub, 1, 0, 0, 0, 0) := (congrArg (fun t => List.lookup 131 t) gt281).trans (by decide +kernel)
theorem t281_132 : zT 281 132 = some (.iload_n 2, 1, 2, 0, 0, 0) := (congrArg (fun t => List.lookup 132 t) gt281).trans (by decide +kernel)
theorem t281_133 : zT 281 133 = some (.isub, 1, 0, 0, 0, 0) := (congrArg (fun t => List.lookup 133 t) gt281).trans (by decide +kernel)
theorem t281_134 : zT 281 134 = some (.invokestatic 267, 3, 280, 1, 0, 1979) := (congrArg (fun t => List.lookup 134 t) gt281).trans (by decide +kernel)
theorem t281_137 : zT 281 137 = some (.istore 7, 2, 0, 0, 0, 0) := (congrArg (fun t => List.lookup 137 t) gt281).trans (by decide +kernel)
theorem t281_139 : zT 281 139 = some (.iload 4, 2, 0, 0, 0, 0) := (congrArg (fun t => List.lookup 139 t) gt281).trans (by decide +kernel)
theorem t281_141 : zT 281 141 = some (.bipush (-2), 2, 0, 0, (-2), 0) := (congrArg (fun t => List.lookup 141 t) gt281).trans (by decide +kernel)
theorem t281_143 : zT 281 143 = some (.if_icmp .eq 13, 3, 156, 0, 0, 0) := (congrArg (fun t => List.lookup 143 t) gt281).trans (by decide +kernel)
theorem t281_146 : zT 281 146 = some (.iload 7, 2, 0, 0, 0, 0) := (congrArg (fun t => List.lookup 146 t) gt281).trans (by decide +kernel)
theorem t281_148 : zT 281 148 = some (.iload 5, 2, 0, 0, 0, 0) := (congrArg (fun t => List.lookup 148 t) gt281).trans (by decide +kernel)
theorem t281_150 : zT 281 150 = some (.if_icmp .lt 6, 3, 156, 0, 0, 0) := (congrArg (fun t => List.lookup 150 t) gt281).trans (by decide +kernel)
theorem t281_153 : zT 281 153 = some (.goto 11, 3, 164, 0, 0, 0) := (congrArg (fun t => List.lookup 153 t) gt281).trans (by decide +kernel)
theorem t281_156 : zT 281 156 = some (.iload 6, 2, 0, 0, 0, 0) := (congrArg (fun t => List.lookup 156 t) gt281).trans (by decide +kernel)
theorem t281_158 : zT 281 158 = some (.istore 4, 2, 0, 0, 0, 0) := (congrArg (fun t => List.lookup 158 t) gt281).trans (by decide +kernel)
theorem t281_160 : zT 281 160 = some (.iload 7, 2, 0, 0, 0, 0) := (congrArg (fun t => List.lookup 160 t) gt281).trans (by decide +kernel)
theorem t281_162 : zT 281 162 = some (.istore 5, 2, 0, 0, 0, 0) := (congrArg (fun t => List.lookup 162 t) gt281).trans (by decide +kernel)
theorem t281_164 : zT 281 164 = some (.iinc 6 1, 3, 0, 0, 0, 0) := (congrArg (fun t => List.lookup 164 t) gt281).trans (by decide +kernel)
theorem t281_167 : zT 281 167 = some (.goto (-105), 3, 62, 0, 0, 0) := (congrArg (fun t => List.lookup 167 t) gt281).trans (by decide +kernel)
theorem t281_170 : zT 281 170 = some (.aload_n 0, 1, 0, 0, 0, 0) := (congrArg (fun t => List.lookup 170 t) gt281).trans (by decide +kernel)
theorem t281_171 : zT 281 171 = some (.getfield 52, 3, 12, 27, 0, 1634) := (congrArg (fun t => List.lookup 171 t) gt281).trans (by decide +kernel)
theorem t281_174 : zT 281 174 = some (.bipush 8, 2, 0, 0, 8, 0) := (congrArg (fun t => List.lookup 174 t) gt281).trans (by decide +kernel)
theorem t281_176 : zT 281 176 = some (.iload_n 1, 1, 1, 0, 0, 0) := (congrArg (fun t => List.lookup 176 t) gt281).trans (by decide +kernel)
theorem t281_177 : zT 281 177 = some (.imul, 1, 0, 0, 0, 0) := (congrArg (fun t => List.lookup 177 t) gt281).trans (by decide +kernel)
theorem t281_178 : zT 281 178 = some (.iload_n 3, 1, 3, 0, 0, 0) := (congrArg (fun t => List.lookup 178 t) gt281).trans (by decide +kernel)
theorem t281_179 : zT 281 179 = some (.iadd, 1, 0, 0, 0, 0) := (congrArg (fun t => List.lookup 179 t) gt281).trans (by decide +kernel)
theorem t281_180 : zT 281 180 = some (.iload 4, 2, 0, 0, 0, 0) := (congrArg (fun t => List.lookup 180 t) gt281).trans (by decide +kernel)
theorem t281_182 : zT 281 182 = some (.iastore, 1, 0, 0, 0, 0) := (congrArg (fun t => List.lookup 182 t) gt281).trans (by decide +kernel)
theorem t281_183 : zT 281 183 = some (.iload 4, 2, 0, 0, 0, 0) := (congrArg (fun t => List.lookup 183 t) gt281).trans (by decide +kernel)
theorem t281_185 : zT 281 185 = some (.bipush (-2), 2, 0, 0, (-2), 0) := (congrArg (fun t => List.lookup 185 t) gt281).trans (by decide +kernel)
theorem t281_187 : zT 281 187 = some (.if_icmp .ne 6, 3, 193, 0, 0, 0) := (congrArg (fun t => List.lookup 187 t) gt281).trans (by decide +kernel)
theorem t281_190 : zT 281 190 = some (.goto 19, 3, 209, 0, 0, 0) := (congrArg (fun t => List.lookup 190 t) gt281).trans (by decide +kernel)
theorem t281_193 : zT 281 193 = some (.aload_n 0, 1, 0, 0, 0, 0) := (congrArg (fun t => List.lookup 193 t) gt281).trans (by decide +kernel)
theorem t281_194 : zT 281 194 = some (.getfield 55, 3, 12, 28, 0, 1635) := (congrArg (fun t => List.lookup 194 t) gt281).trans (by decide +kernel)
theorem t281_197 : zT 281 197 = some (.iload 4, 2, 0, 0, 0, 0) := (congrArg (fun t => List.lookup 197 t) gt281).trans (by decide +kernel)
theorem t281_199 : zT 281 199 = some (.iload_n 1, 1, 1, 0, 0, 0) := (congrArg (fun t => List.lookup 199 t) gt281).trans (by decide +kernel)
theorem t281_200 : zT 281 200 = some (.iastore, 1, 0, 0, 0, 0) := (congrArg (fun t => List.lookup 200 t) gt281).trans (by decide +kernel)
theorem t281_201 : zT 281 201 = some (.aload_n 0, 1, 0, 0, 0, 0) := (congrArg (fun t => List.lookup 201 t) gt281).trans (by decide +kernel)
theorem t281_202 : zT 281 202 = some (.getfield 34, 3, 12, 16, 0, 1623) := (congrArg (fun t => List.lookup 202 t) gt281).trans (by decide +kernel)
theorem t281_205 : zT 281 205 = some (.iload 4, 2, 0, 0, 0, 0) := (congrArg (fun t => List.lookup 205 t) gt281).trans (by decide +kernel)
theorem t281_207 : zT 281 207 = some (.iconst 0, 1, 0, 0, 0, 0) := (congrArg (fun t => List.lookup 207 t) gt281).trans (by decide +kernel)
theorem t281_208 : zT 281 208 = some (.bastore, 1, 0, 0, 0, 0) := (congrArg (fun t => List.lookup 208 t) gt281).trans (by decide +kernel)
theorem t281_209 : zT 281 209 = some (.iinc 3 1, 3, 0, 0, 0, 0) := (congrArg (fun t => List.lookup 209 t) gt281).trans (by decide +kernel)
theorem t281_212 : zT 281 212 = some (.goto (-170), 3, 42, 0, 0, 0) := (congrArg (fun t => List.lookup 212 t) gt281).trans (by decide +kernel)
theorem t281_215 : zT 281 215 = some (.aload_n 0, 1, 0, 0, 0, 0) := (congrArg (fun t => List.lookup 215 t) gt281).trans (by decide +kernel)
theorem t281_216 : zT 281 216 = some (.getfield 40, 3, 12, 23, 0, 1630) := (congrArg (fun t => List.lookup 216 t) gt281).trans (by decide +kernel)
theorem t281_219 : zT 281 219 = some (.iload_n 1, 1, 1, 0, 0, 0) := (congrArg (fun t => List.lookup 219 t) gt281).trans (by decide +kernel)
theorem t281_220 : zT 281 220 = some (.aload_n 0, 1, 0, 0, 0, 0) := (congrArg (fun t => List.lookup 220 t) gt281).trans (by decide +kernel)
theorem t281_221 : zT 281 221 = some (.getfield 282, 3, 12, 19, 0, 1626) := (congrArg (fun t => List.lookup 221 t) gt281).trans (by decide +kernel)
theorem t281_224 : zT 281 224 = some (.iastore, 1, 0, 0, 0, 0) := (congrArg (fun t => List.lookup 224 t) gt281).trans (by decide +kernel)
theorem t281_225 : zT 281 225 = some (.aload_n 0, 1, 0, 0, 0, 0) := (congrArg (fun t => List.lookup 225 t) gt281).trans (by decide +kernel)
theorem t281_226 : zT 281 226 = some (.getfield 43, 3, 12, 24, 0, 1631) := (congrArg (fun t => List.lookup 226 t) gt281).trans (by decide +kernel)
theorem t281_229 : zT 281 229 = some (.iload_n 1, 1, 1, 0, 0, 0) := (congrArg (fun t => List.lookup 229 t) gt281).trans (by decide +kernel)
theorem t281_230 : zT 281 230 = some (.aload_n 0, 1, 0, 0, 0, 0) := (congrArg (fun t => List.lookup 230 t) gt281).trans (by decide +kernel)
theorem t281_231 : zT 281 231 = some (.getfield 285, 3, 12, 20, 0, 1627) := (congrArg (fun t => List.lookup 231 t) gt281).trans (by decide +kernel)
theorem t281_234 : zT 281 234 = some (.iastore, 1, 0, 0, 0, 0) := (congrArg (fun t => List.lookup 234 t) gt281).trans (by decide +kernel)
theorem t281_235 : zT 281 235 = some (.aload_n 0, 1, 0, 0, 0, 0) := (congrArg (fun t => List.lookup 235 t) gt281).trans (by decide +kernel)
theorem t281_236 : zT 281 236 = some (.getfield 46, 3, 12, 25, 0, 1632) := (congrArg (fun t => List.lookup 236 t) gt281).trans (by decide +kernel)
theorem t281_239 : zT 281 239 = some (.iload_n 1, 1, 1, 0, 0, 0) := (congrArg (fun t => List.lookup 239 t) gt281).trans (by decide +kernel)
theorem t281_240 : zT 281 240 = some (.aload_n 0, 1, 0, 0, 0, 0) := (congrArg (fun t => List.lookup 240 t) gt281).trans (by decide +kernel)
theorem t281_241 : zT 281 241 = some (.getfield 288, 3, 12, 21, 0, 1628) := (congrArg (fun t => List.lookup 241 t) gt281).trans (by decide +kernel)
theorem t281_244 : zT 281 244 = some (.iastore, 1, 0, 0, 0, 0) := (congrArg (fun t => List.lookup 244 t) gt281).trans (by decide +kernel)
theorem t281_245 : zT 281 245 = some (.aload_n 0, 1, 0, 0, 0, 0) := (congrArg (fun t => List.lookup 245 t) gt281).trans (by decide +kernel)
theorem t281_246 : zT 281 246 = some (.getfield 49, 3, 12, 26, 0, 1633) := (congrArg (fun t => List.lookup 246 t) gt281).trans (by decide +kernel)
theorem t281_249 : zT 281 249 = some (.iload_n 1, 1, 1, 0, 0, 0) := (congrArg (fun t => List.lookup 249 t) gt281).trans (by decide +kernel)
theorem t281_250 : zT 281 250 = some (.aload_n 0, 1, 0, 0, 0, 0) := (congrArg (fun t => List.lookup 250 t) gt281).trans (by decide +kernel)
theorem t281_251 : zT 281 251 = some (.getfield 279, 3, 12, 18, 0, 1625) := (congrArg (fun t => List.lookup 251 t) gt281).trans (by decide +kernel)
theorem t281_254 : zT 281 254 = some (.iastore, 1, 0, 0, 0, 0) := (congrArg (fun t => List.lookup 254 t) gt281).trans (by decide +kernel)
theorem t281_255 : zT 281 255 = some (.aload_n 0, 1, 0, 0, 0, 0) := (congrArg (fun t => List.lookup 255 t) gt281).trans (by decide +kernel)
theorem t281_256 : zT 281 256 = some (.dup, 1, 0, 0, 0, 0) := (congrArg (fun t => List.lookup 256 t) gt281).trans (by decide +kernel)
theorem t281_257 : zT 281 257 = some (.getfield 261, 3, 12, 22, 0, 1629) := (congrArg (fun t => List.lookup 257 t) gt281).trans (by decide +kernel)
theorem t281_260 : zT 281 260 = some (.iconst 1, 1, 0, 0, 1, 0) := (congrArg (fun t => List.lookup 260 t) gt281).trans (by decide +kernel)
theorem t281_261 : zT 281 261 = some (.iadd, 1, 0, 0, 0, 0) := (congrArg (fun t => List.lookup 261 t) gt281).trans (by decide +kernel)
theorem t281_262 : zT 281 262 = some (.putfield 261, 3, 12, 22, 0, 1629) := (congrArg (fun t => List.lookup 262 t) gt281).trans (by decide +kernel)
theorem t281_265 : zT 281 265 = some (.return_, 1, 0, 0, 0, 0) := (congrArg (fun t => List.lookup 265 t) gt281).trans (by decide +kernel)
theorem t282_0 : zT 282 0 = some (.iconst 0, 1, 0, 0, 0, 0) := (congrArg (fun t => List.lookup 0 t) gt282).trans (by decide +kernel)
theorem t282_1 : zT 282 1 = some (.istore_n 1, 1, 1, 0, 0, 0) := (congrArg (fun t => List.lookup 1 t) gt282).trans (by decide +kernel)
theorem t282_2 : zT 282 2 = some (.iload_n 1, 1, 1, 0, 0, 0) := (congrArg (fun t => List.lookup 2 t) gt282).trans (by decide +kernel)
theorem t282_3 : zT 282 3 = some (.aload_n 0, 1, 0, 0, 0, 0) := (congrArg (fun t => List.lookup 3 t) gt282).trans (by decide +kernel)
theorem t282_4 : zT 282 4 = some (.getfield 261, 3, 12, 22, 0, 1629) := (congrArg (fun t => List.lookup 4 t) gt282).trans (by decide +kernel)
theorem t282_7 : zT 282 7 = some (.if_icmp .ge 227, 3, 234, 0, 0, 0) := (congrArg (fun t => List.lookup 7 t) gt282).trans (by decide +kernel)
theorem t282_10 : zT 282 10 = some (.lconst 0, 1, 0, 0, 0, 0) := (congrArg (fun t => List.lookup 10 t) gt282).trans (by decide +kernel)
theorem t282_11 : zT 282 11 = some (.lstore_n 2, 1, 2, 0, 0, 0) := (congrArg (fun t => List.lookup 11 t) gt282).trans (by decide +kernel)
theorem t282_12 : zT 282 12 = some (.lconst 0, 1, 0, 0, 0, 0) := (congrArg (fun t => List.lookup 12 t) gt282).trans (by decide +kernel)
theorem t282_13 : zT 282 13 = some (.lstore 4, 2, 0, 0, 0, 0) := (congrArg (fun t => List.lookup 13 t) gt282).trans (by decide +kernel)
theorem t282_15 : zT 282 15 = some (.lconst 0, 1, 0, 0, 0, 0) := (congrArg (fun t => List.lookup 15 t) gt282).trans (by decide +kernel)
theorem t282_16 : zT 282 16 = some (.lstore 6, 2, 0, 0, 0, 0) := (congrArg (fun t => List.lookup 16 t) gt282).trans (by decide +kernel)
theorem t282_18 : zT 282 18 = some (.lconst 0, 1, 0, 0, 0, 0) := (congrArg (fun t => List.lookup 18 t) gt282).trans (by decide +kernel)
theorem t282_19 : zT 282 19 = some (.lstore 8, 2, 0, 0, 0, 0) := (congrArg (fun t => List.lookup 19 t) gt282).trans (by decide +kernel)
theorem t282_21 : zT 282 21 = some (.lconst 0, 1, 0, 0, 0, 0) := (congrArg (fun t => List.lookup 21 t) gt282).trans (by decide +kernel)
theorem t282_22 : zT 282 22 = some (.lstore 10, 2, 0, 0, 0, 0) := (congrArg (fun t => List.lookup 22 t) gt282).trans (by decide +kernel)
theorem t282_24 : zT 282 24 = some (.lconst 0, 1, 0, 0, 0, 0) := (congrArg (fun t => List.lookup 24 t) gt282).trans (by decide +kernel)
theorem t282_25 : zT 282 25 = some (.lstore 12, 2, 0, 0, 0, 0) := (congrArg (fun t => List.lookup 25 t) gt282).trans (by decide +kernel)
theorem t282_27 : zT 282 27 = some (.iconst 0, 1, 0, 0, 0, 0) := (congrArg (fun t => List.lookup 27 t) gt282).trans (by decide +kernel)
theorem t282_28 : zT 282 28 = some (.istore 14, 2, 0, 0, 0, 0) := (congrArg (fun t => List.lookup 28 t) gt282).trans (by decide +kernel)
theorem t282_30 : zT 282 30 = some (.iload 14, 2, 0, 0, 0, 0) := (congrArg (fun t => List.lookup 30 t) gt282).trans (by decide +kernel)
theorem t282_32 : zT 282 32 = some (.aload_n 0, 1, 0, 0, 0, 0) := (congrArg (fun t => List.lookup 32 t) gt282).trans (by decide +kernel)
theorem t282_33 : zT 282 33 = some (.getfield 3, 3, 12, 0, 0, 1607) := (congrArg (fun t => List.lookup 33 t) gt282).trans (by decide +kernel)
theorem t282_36 : zT 282 36 = some (.iconst 0, 1, 0, 0, 0, 0) := (congrArg (fun t => List.lookup 36 t) gt282).trans (by decide +kernel)
theorem t282_37 : zT 282 37 = some (.iaload, 1, 0, 0, 0, 0) := (congrArg (fun t => List.lookup 37 t) gt282).trans (by decide +kernel)
theorem t282_38 : zT 282 38 = some (.if_icmp .ge 96, 3, 134, 0, 0, 0) := (congrArg (fun t => List.lookup 38 t) gt282).trans (by decide +kernel)
theorem t282_41 : zT 282 41 = some (.aload_n 0, 1, 0, 0, 0, 0) := (congrArg (fun t => List.lookup 41 t) gt282).trans (by decide +kernel)
theorem t282_42 : zT 282 42 = some (.getfield 52, 3, 12, 27, 0, 1634) := (congrArg (fun t => List.lookup 42 t) gt282).trans (by decide +kernel)
theorem t282_45 : zT 282 45 = some (.bipush 8, 2, 0, 0, 8, 0) := (congrArg (fun t => List.lookup 45 t) gt282).trans (by decide +kernel)
theorem t282_47 : zT 282 47 = some (.iload_n 1, 1, 1, 0, 0, 0) := (congrArg (fun t => List.lookup 47 t) gt282).trans (by decide +kernel)
theorem t282_48 : zT 282 48 = some (.imul, 1, 0, 0, 0, 0) := (congrArg (fun t => List.lookup 48 t) gt282).trans (by decide +kernel)
theorem t282_49 : zT 282 49 = some (.iload 14, 2, 0, 0, 0, 0) := (congrArg (fun t => List.lookup 49 t) gt282).trans (by decide +kernel)
theorem t282_51 : zT 282 51 = some (.iadd, 1, 0, 0, 0, 0) := (congrArg (fun t => List.lookup 51 t) gt282).trans (by decide +kernel)
theorem t282_52 : zT 282 52 = some (.iaload, 1, 0, 0, 0, 0) := (congrArg (fun t => List.lookup 52 t) gt282).trans (by decide +kernel)
theorem t282_53 : zT 282 53 = some (.bipush (-2), 2, 0, 0, (-2), 0) := (congrArg (fun t => List.lookup 53 t) gt282).trans (by decide +kernel)
theorem t282_55 : zT 282 55 = some (.if_icmp .ne 6, 3, 61, 0, 0, 0) := (congrArg (fun t => List.lookup 55 t) gt282).trans (by decide +kernel)
theorem t282_58 : zT 282 58 = some (.goto 70, 3, 128, 0, 0, 0) := (congrArg (fun t => List.lookup 58 t) gt282).trans (by decide +kernel)
theorem t282_61 : zT 282 61 = some (.aload_n 0, 1, 0, 0, 0, 0) := (congrArg (fun t => List.lookup 61 t) gt282).trans (by decide +kernel)
theorem t282_62 : zT 282 62 = some (.iload 14, 2, 0, 0, 0, 0) := (congrArg (fun t => List.lookup 62 t) gt282).trans (by decide +kernel)
theorem t282_64 : zT 282 64 = some (.invokevirtual 154, 3, 241, 0, 0, 1825) := (congrArg (fun t => List.lookup 64 t) gt282).trans (by decide +kernel)
theorem t282_67 : zT 282 67 = some (.i2l, 1, 0, 0, 0, 0) := (congrArg (fun t => List.lookup 67 t) gt282).trans (by decide +kernel)
theorem t282_68 : zT 282 68 = some (.lstore 15, 2, 0, 0, 0, 0) := (congrArg (fun t => List.lookup 68 t) gt282).trans (by decide +kernel)
theorem t282_70 : zT 282 70 = some (.aload_n 0, 1, 0, 0, 0, 0) := (congrArg (fun t => List.lookup 70 t) gt282).trans (by decide +kernel)
theorem t282_71 : zT 282 71 = some (.iload_n 1, 1, 1, 0, 0, 0) := (congrArg (fun t => List.lookup 71 t) gt282).trans (by decide +kernel)
theorem t282_72 : zT 282 72 = some (.iload 14, 2, 0, 0, 0, 0) := (congrArg (fun t => List.lookup 72 t) gt282).trans (by decide +kernel)
theorem t282_74 : zT 282 74 = some (.invokevirtual 319, 3, 283, 0, 0, 1990) := (congrArg (fun t => List.lookup 74 t) gt282).trans (by decide +kernel)
theorem t282_77 : zT 282 77 = some (.i2l, 1, 0, 0, 0, 0) := (congrArg (fun t => List.lookup 77 t) gt282).trans (by decide +kernel)
theorem t282_78 : zT 282 78 = some (.lstore 17, 2, 0, 0, 0, 0) := (congrArg (fun t => List.lookup 78 t) gt282).trans (by decide +kernel)
theorem t282_80 : zT 282 80 = some (.lload_n 2, 1, 2, 0, 0, 0) := (congrArg (fun t => List.lookup 80 t) gt282).trans (by decide +kernel)
theorem t282_81 : zT 282 81 = some (.lconst 1, 1, 0, 0, 1, 0) := (congrArg (fun t => List.lookup 81 t) gt282).trans (by decide +kernel)
theorem t282_82 : zT 282 82 = some (.ladd, 1, 0, 0, 0, 0) := (congrArg (fun t => List.lookup 82 t) gt282).trans (by decide +kernel)
theorem t282_83 : zT 282 83 = some (.lstore_n 2, 1, 2, 0, 0, 0) := (congrArg (fun t => List.lookup 83 t) gt282).trans (by decide +kernel)
theorem t282_84 : zT 282 84 = some (.lload 4, 2, 0, 0, 0, 0) := (congrArg (fun t => List.lookup 84 t) gt282).trans (by decide +kernel)
theorem t282_86 : zT 282 86 = some (.lload 15, 2, 0, 0, 0, 0) := (congrArg (fun t => List.lookup 86 t) gt282).trans (by decide +kernel)
theorem t282_88 : zT 282 88 = some (.ladd, 1, 0, 0, 0, 0) := (congrArg (fun t => List.lookup 88 t) gt282).trans (by decide +kernel)
theorem t282_89 : zT 282 89 = some (.lstore 4, 2, 0, 0, 0, 0) := (congrArg (fun t => List.lookup 89 t) gt282).trans (by decide +kernel)
theorem t282_91 : zT 282 91 = some (.lload 6, 2, 0, 0, 0, 0) := (congrArg (fun t => List.lookup 91 t) gt282).trans (by decide +kernel)
theorem t282_93 : zT 282 93 = some (.lload 17, 2, 0, 0, 0, 0) := (congrArg (fun t => List.lookup 93 t) gt282).trans (by decide +kernel)
theorem t282_95 : zT 282 95 = some (.ladd, 1, 0, 0, 0, 0) := (congrArg (fun t => List.lookup 95 t) gt282).trans (by decide +kernel)
theorem t282_96 : zT 282 96 = some (.lstore 6, 2, 0, 0, 0, 0) := (congrArg (fun t => List.lookup 96 t) gt282).trans (by decide +kernel)
theorem t282_98 : zT 282 98 = some (.lload 8, 2, 0, 0, 0, 0) := (congrArg (fun t => List.lookup 98 t) gt282).trans (by decide +kernel)
theorem t282_100 : zT 282 100 = some (.lload 15, 2, 0, 0, 0, 0) := (congrArg (fun t => List.lookup 100 t) gt282).trans (by decide +kernel)
theorem t282_102 : zT 282 102 = some (.lload 15, 2, 0, 0, 0, 0) := (congrArg (fun t => List.lookup 102 t) gt282).trans (by decide +kernel)
theorem t282_104 : zT 282 104 = some (.lmul, 1, 0, 0, 0, 0) := (congrArg (fun t => List.lookup 104 t) gt282).trans (by decide +kernel)
theorem t282_105 : zT 282 105 = some (.ladd, 1, 0, 0, 0, 0) := (congrArg (fun t => List.lookup 105 t) gt282).trans (by decide +kernel)
theorem t282_106 : zT 282 106 = some (.lstore 8, 2, 0, 0, 0, 0) := (congrArg (fun t => List.lookup 106 t) gt282).trans (by decide +kernel)
theorem t282_108 : zT 282 108 = some (.lload 10, 2, 0, 0, 0, 0) := (congrArg (fun t => List.lookup 108 t) gt282).trans (by decide +kernel)
theorem t282_110 : zT 282 110 = some (.lload 15, 2, 0, 0, 0, 0) := (congrArg (fun t => List.lookup 110 t) gt282).trans (by decide +kernel)
theorem t282_112 : zT 282 112 = some (.lload 17, 2, 0, 0, 0, 0) := (congrArg (fun t => List.lookup 112 t) gt282).trans (by decide +kernel)
theorem t282_114 : zT 282 114 = some (.lmul, 1, 0, 0, 0, 0) := (congrArg (fun t => List.lookup 114 t) gt282).trans (by decide +kernel)
theorem t282_115 : zT 282 115 = some (.ladd, 1, 0, 0, 0, 0) := (congrArg (fun t => List.lookup 115 t) gt282).trans (by decide +kernel)
theorem t282_116 : zT 282 116 = some (.lstore 10, 2, 0, 0, 0, 0) := (congrArg (fun t => List.lookup 116 t) gt282).trans (by decide +kernel)
theorem t282_118 : zT 282 118 = some (.lload 12, 2, 0, 0, 0, 0) := (congrArg (fun t => List.lookup 118 t) gt282).trans (by decide +kernel)
theorem t282_120 : zT 282 120 = some (.lload 17, 2, 0, 0, 0, 0) := (congrArg (fun t => List.lookup 120 t) gt282).trans (by decide +kernel)
theorem t282_122 : zT 282 122 = some (.lload 17, 2, 0, 0, 0, 0) := (congrArg (fun t => List.lookup 122 t) gt282).trans (by decide +kernel)
theorem t282_124 : zT 282 124 = some (.lmul, 1, 0, 0, 0, 0) := (congrArg (fun t => List.lookup 124 t) gt282).trans (by decide +kernel)
theorem t282_125 : zT 282 125 = some (.ladd, 1, 0, 0, 0, 0) := (congrArg (fun t => List.lookup 125 t) gt282).trans (by decide +kernel)
theorem t282_126 : zT 282 126 = some (.lstore 12, 2, 0, 0, 0, 0) := (congrArg (fun t => List.lookup 126 t) gt282).trans (by decide +kernel)
theorem t282_128 : zT 282 128 = some (.iinc 14 1, 3, 0, 0, 0, 0) := (congrArg (fun t => List.lookup 128 t) gt282).trans (by decide +kernel)
theorem t282_131 : zT 282 131 = some (.goto (-101), 3, 30, 0, 0, 0) := (congrArg (fun t => List.lookup 131 t) gt282).trans (by decide +kernel)
theorem t282_134 : zT 282 134 = some (.aload_n 0, 1, 0, 0, 0, 0) := (congrArg (fun t => List.lookup 134 t) gt282).trans (by decide +kernel)
theorem t282_135 : zT 282 135 = some (.getfield 58, 3, 12, 29, 0, 1636) := (congrArg (fun t => List.lookup 135 t) gt282).trans (by decide +kernel)
theorem t282_138 : zT 282 138 = some (.iload_n 1, 1, 1, 0, 0, 0) := (congrArg (fun t => List.lookup 138 t) gt282).trans (by decide +kernel)
theorem t282_139 : zT 282 139 = some (.lload_n 2, 1, 2, 0, 0, 0) := (congrArg (fun t => List.lookup 139 t) gt282).trans (by decide +kernel)
theorem t282_140 : zT 282 140 = some (.lload 8, 2, 0, 0, 0, 0) := (congrArg (fun t => List.lookup 140 t) gt282).trans (by decide +kernel)
theorem t282_142 : zT 282 142 = some (.lmul, 1, 0, 0, 0, 0) := (congrArg (fun t => List.lookup 142 t) gt282).trans (by decide +kernel)
theorem t282_143 : zT 282 143 = some (.lload 4, 2, 0, 0, 0, 0) := (congrArg (fun t => List.lookup 143 t) gt282).trans (by decide +kernel)
theorem t282_145 : zT 282 145 = some (.lload 4, 2, 0, 0, 0, 0) := (congrArg (fun t => List.lookup 145 t) gt282).trans (by decide +kernel)
theorem t282_147 : zT 282 147 = some (.lmul, 1, 0, 0, 0, 0) := (congrArg (fun t => List.lookup 147 t) gt282).trans (by decide +kernel)
theorem t282_148 : zT 282 148 = some (.lsub, 1, 0, 0, 0, 0) := (congrArg (fun t => List.lookup 148 t) gt282).trans (by decide +kernel)
theorem t282_149 : zT 282 149 = some (.lastore, 1, 0, 0, 0, 0) := (congrArg (fun t => List.lookup 149 t) gt282).trans (by decide +kernel)
theorem t282_150 : zT 282 150 = some (.aload_n 0, 1, 0, 0, 0, 0) := (congrArg (fun t => List.lookup 150 t) gt282).trans (by decide +kernel)
theorem t282_151 : zT 282 151 = some (.getfield 62, 3, 12, 30, 0, 1637) := (congrArg (fun t => List.lookup 151 t) gt282).trans (by decide +kernel)
theorem t282_154 : zT 282 154 = some (.iload_n 1, 1, 1, 0, 0, 0) := (congrArg (fun t => List.lookup 154 t) gt282).trans (by decide +kernel)
theorem t282_155 : zT 282 155 = some (.lload 8, 2, 0, 0, 0, 0) := (congrArg (fun t => List.lookup 155 t) gt282).trans (by decide +kernel)
theorem t282_157 : zT 282 157 = some (.lload 6, 2, 0, 0, 0, 0) := (congrArg (fun t => List.lookup 157 t) gt282).trans (by decide +kernel)
theorem t282_159 : zT 282 159 = some (.lmul, 1, 0, 0, 0, 0) := (congrArg (fun t => List.lookup 159 t) gt282).trans (by decide +kernel)
theorem t282_160 : zT 282 160 = some (.lload 4, 2, 0, 0, 0, 0) := (congrArg (fun t => List.lookup 160 t) gt282).trans (by decide +kernel)
theorem t282_162 : zT 282 162 = some (.lload 10, 2, 0, 0, 0, 0) := (congrArg (fun t => List.lookup 162 t) gt282).trans (by decide +kernel)
theorem t282_164 : zT 282 164 = some (.lmul, 1, 0, 0, 0, 0) := (congrArg (fun t => List.lookup 164 t) gt282).trans (by decide +kernel)
theorem t282_165 : zT 282 165 = some (.lsub, 1, 0, 0, 0, 0) := (congrArg (fun t => List.lookup 165 t) gt282).trans (by decide +kernel)
theorem t282_166 : zT 282 166 = some (.lastore, 1, 0, 0, 0, 0) := (congrArg (fun t => List.lookup 166 t) gt282).trans (by decide +kernel)
theorem t282_167 : zT 282 167 = some (.aload_n 0, 1, 0, 0, 0, 0) := (congrArg (fun t => List.lookup 167 t) gt282).trans (by decide +kernel)
theorem t282_168 : zT 282 168 = some (.getfield 65, 3, 12, 31, 0, 1638) := (congrArg (fun t => List.lookup 168 t) gt282).trans (by decide +kernel)
theorem t282_171 : zT 282 171 = some (.iload_n 1, 1, 1, 0, 0, 0) := (congrArg (fun t => List.lookup 171 t) gt282).trans (by decide +kernel)
theorem t282_172 : zT 282 172 = some (.lload_n 2, 1, 2, 0, 0, 0) := (congrArg (fun t => List.lookup 172 t) gt282).trans (by decide +kernel)
theorem t282_173 : zT 282 173 = some (.lload 10, 2, 0, 0, 0, 0) := (congrArg (fun t => List.lookup 173 t) gt282).trans (by decide +kernel)
theorem t282_175 : zT 282 175 = some (.lmul, 1, 0, 0, 0, 0) := (congrArg (fun t => List.lookup 175 t) gt282).trans (by decide +kernel)
theorem t282_176 : zT 282 176 = some (.lload 4, 2, 0, 0, 0, 0) := (congrArg (fun t => List.lookup 176 t) gt282).trans (by decide +kernel)
theorem t282_178 : zT 282 178 = some (.lload 6, 2, 0, 0, 0, 0) := (congrArg (fun t => List.lookup 178 t) gt282).trans (by decide +kernel)
theorem t282_180 : zT 282 180 = some (.lmul, 1, 0, 0, 0, 0) := (congrArg (fun t => List.lookup 180 t) gt282).trans (by decide +kernel)
theorem t282_181 : zT 282 181 = some (.lsub, 1, 0, 0, 0, 0) := (congrArg (fun t => List.lookup 181 t) gt282).trans (by decide +kernel)
theorem t282_182 : zT 282 182 = some (.lastore, 1, 0, 0, 0, 0) := (congrArg (fun t => List.lookup 182 t) gt282).trans (by decide +kernel)
theorem t282_183 : zT 282 183 = some (.aload_n 0, 1, 0, 0, 0, 0) := (congrArg (fun t => List.lookup 183 t) gt282).trans (by decide +kernel)
theorem t282_184 : zT 282 184 = some (.getfield 68, 3, 12, 32, 0, 1639) := (congrArg (fun t => List.lookup 184 t) gt282).trans (by decide +kernel)
theorem t282_187 : zT 282 187 = some (.iload_n 1, 1, 1, 0, 0, 0) := (congrArg (fun t => List.lookup 187 t) gt282).trans (by decide +kernel)
theorem t282_188 : zT 282 188 = some (.lload 12, 2, 0, 0, 0, 0) := (congrArg (fun t => List.lookup 188 t) gt282).trans (by decide +kernel)
theorem t282_190 : zT 282 190 = some (.aload_n 0, 1, 0, 0, 0, 0) := (congrArg (fun t => List.lookup 190 t) gt282).trans (by decide +kernel)
theorem t282_191 : zT 282 191 = some (.getfield 58, 3, 12, 29, 0, 1636) := (congrArg (fun t => List.lookup 191 t) gt282).trans (by decide +kernel)
theorem t282_194 : zT 282 194 = some (.iload_n 1, 1, 1, 0, 0, 0) := (congrArg (fun t => List.lookup 194 t) gt282).trans (by decide +kernel)
theorem t282_195 : zT 282 195 = some (.laload, 1, 0, 0, 0, 0) := (congrArg (fun t => List.lookup 195 t) gt282).trans (by decide +kernel)
theorem t282_196 : zT 282 196 = some (.lmul, 1, 0, 0, 0, 0) := (congrArg (fun t => List.lookup 196 t) gt282).trans (by decide +kernel)
theorem t282_197 : zT 282 197 = some (.lload 8, 2, 0, 0, 0, 0) := (congrArg (fun t => List.lookup 197 t) gt282).trans (by decide +kernel)
theorem t282_199 : zT 282 199 = some (.lload 6, 2, 0, 0, 0, 0) := (congrArg (fun t => List.lookup 199 t) gt282).trans (by decide +kernel)
theorem t282_201 : zT 282 201 = some (.lmul, 1, 0, 0, 0, 0) := (congrArg (fun t => List.lookup 201 t) gt282).trans (by decide +kernel)
theorem t282_202 : zT 282 202 = some (.lload 6, 2, 0, 0, 0, 0) := (congrArg (fun t => List.lookup 202 t) gt282).trans (by decide +kernel)
theorem t282_204 : zT 282 204 = some (.lmul, 1, 0, 0, 0, 0) := (congrArg (fun t => List.lookup 204 t) gt282).trans (by decide +kernel)
theorem t282_205 : zT 282 205 = some (.lsub, 1, 0, 0, 0, 0) := (congrArg (fun t => List.lookup 205 t) gt282).trans (by decide +kernel)
theorem t282_206 : zT 282 206 = some (.ldc2_w 322, 3, 1, 0, 2, 1994) := (congrArg (fun t => List.lookup 206 t) gt282).trans (by decide +kernel)
theorem t282_209 : zT 282 209 = some (.lload 4, 2, 0, 0, 0, 0) := (congrArg (fun t => List.lookup 209 t) gt282).trans (by decide +kernel)
theorem t282_211 : zT 282 211 = some (.lmul, 1, 0, 0, 0, 0) := (congrArg (fun t => List.lookup 211 t) gt282).trans (by decide +kernel)
theorem t282_212 : zT 282 212 = some (.lload 6, 2, 0, 0, 0, 0) := (congrArg (fun t => List.lookup 212 t) gt282).trans (by decide +kernel)
theorem t282_214 : zT 282 214 = some (.lmul, 1, 0, 0, 0, 0) := (congrArg (fun t => List.lookup 214 t) gt282).trans (by decide +kernel)
theorem t282_215 : zT 282 215 = some (.lload 10, 2, 0, 0, 0, 0) := (congrArg (fun t => List.lookup 215 t) gt282).trans (by decide +kernel)
theorem t282_217 : zT 282 217 = some (.lmul, 1, 0, 0, 0, 0) := (congrArg (fun t => List.lookup 217 t) gt282).trans (by decide +kernel)
theorem t282_218 : zT 282 218 = some (.ladd, 1, 0, 0, 0, 0) := (congrArg (fun t => List.lookup 218 t) gt282).trans (by decide +kernel)
theorem t282_219 : zT 282 219 = some (.lload_n 2, 1, 2, 0, 0, 0) := (congrArg (fun t => List.lookup 219 t) gt282).trans (by decide +kernel)
theorem t282_220 : zT 282 220 = some (.lload 10, 2, 0, 0, 0, 0) := (congrArg (fun t => List.lookup 220 t) gt282).trans (by decide +kernel)
theorem t282_222 : zT 282 222 = some (.lmul, 1, 0, 0, 0, 0) := (congrArg (fun t => List.lookup 222 t) gt282).trans (by decide +kernel)
theorem t282_223 : zT 282 223 = some (.lload 10, 2, 0, 0, 0, 0) := (congrArg (fun t => List.lookup 223 t) gt282).trans (by decide +kernel)
theorem t282_225 : zT 282 225 = some (.lmul, 1, 0, 0, 0, 0) := (congrArg (fun t => List.lookup 225 t) gt282).trans (by decide +kernel)
theorem t282_226 : zT 282 226 = some (.lsub, 1, 0, 0, 0, 0) := (congrArg (fun t => List.lookup 226 t) gt282).trans (by decide +kernel)
theorem t282_227 : zT 282 227 = some (.lastore, 1, 0, 0, 0, 0) := (congrArg (fun t => List.lookup 227 t) gt282).trans (by decide +kernel)
theorem t282_228 : zT 282 228 = some (.iinc 1 1, 3, 0, 0, 0, 0) := (congrArg (fun t => List.lookup 228 t) gt282).trans (by decide +kernel)
theorem t282_231 : zT 282 231 = some (.goto (-229), 3, 2, 0, 0, 0) := (congrArg (fun t => List.lookup 231 t) gt282).trans (by decide +kernel)
theorem t282_234 : zT 282 234 = some (.return_, 1, 0, 0, 0, 0) := (congrArg (fun t => List.lookup 234 t) gt282).trans (by decide +kernel)
theorem t283_0 : zT 283 0 = some (.aload_n 0, 1, 0, 0, 0, 0) := (congrArg (fun t => List.lookup 0 t) gt283).trans rfl
theorem t283_1 : zT 283 1 = some (.aload_n 0, 1, 0, 0, 0, 0) := (congrArg (fun t => List.lookup 1 t) gt283).trans rfl
theorem t283_2 : zT 283 2 = some (.getfield 52, 3, 12, 27, 0, 1634) := (congrArg (fun t => List.lookup 2 t) gt283).trans rfl
theorem t283_5 : zT 283 5 = some (.bipush 8, 2, 0, 0, 8, 0) := (congrArg (fun t => List.lookup 5 t) gt283).trans rfl
theorem t283_7 : zT 283 7 = some (.iload_n 1, 1, 1, 0, 0, 0) := (congrArg (fun t => List.lookup 7 t) gt283).trans rfl
theorem t283_8 : zT 283 8 = some (.imul, 1, 0, 0, 0, 0) := (congrArg (fun t => List.lookup 8 t) gt283).trans rfl
theorem t283_9 : zT 283 9 = some (.iload_n 2, 1, 2, 0, 0, 0) := (congrArg (fun t => List.lookup 9 t) gt283).trans rfl
theorem t283_10 : zT 283 10 = some (.iadd, 1, 0, 0, 0, 0) := (congrArg (fun t => List.lookup 10 t) gt283).trans rfl
theorem t283_11 : zT 283 11 = some (.iaload, 1, 0, 0, 0, 0) := (congrArg (fun t => List.lookup 11 t) gt283).trans rfl
theorem t283_12 : zT 283 12 = some (.iconst 1, 1, 0, 0, 1, 0) := (congrArg (fun t => List.lookup 12 t) gt283).trans rfl
theorem t283_13 : zT 283 13 = some (.invokevirtual 255, 3, 272, 0, 0, 1949) := (congrArg (fun t => List.lookup 13 t) gt283).trans rfl
theorem t283_16 : zT 283 16 = some (.aload_n 0, 1, 0, 0, 0, 0) := (congrArg (fun t => List.lookup 16 t) gt283).trans rfl
theorem t283_17 : zT 283 17 = some (.iload_n 2, 1, 2, 0, 0, 0) := (congrArg (fun t => List.lookup 17 t) gt283).trans rfl
theorem t283_18 : zT 283 18 = some (.aload_n 0, 1, 0, 0, 0, 0) := (congrArg (fun t => List.lookup 18 t) gt283).trans rfl
theorem t283_19 : zT 283 19 = some (.getfield 40, 3, 12, 23, 0, 1630) := (congrArg (fun t => List.lookup 19 t) gt283).trans rfl
theorem t283_22 : zT 283 22 = some (.iload_n 1, 1, 1, 0, 0, 0) := (congrArg (fun t => List.lookup 22 t) gt283).trans rfl
theorem t283_23 : zT 283 23 = some (.iaload, 1, 0, 0, 0, 0) := (congrArg (fun t => List.lookup 23 t) gt283).trans rfl
theorem t283_24 : zT 283 24 = some (.invokevirtual 166, 3, 251, 0, 0, 1864) := (congrArg (fun t => List.lookup 24 t) gt283).trans rfl
theorem t283_27 : zT 283 27 = some (.isub, 1, 0, 0, 0, 0) := (congrArg (fun t => List.lookup 27 t) gt283).trans rfl
theorem t283_28 : zT 283 28 = some (.ireturn, 1, 0, 0, 0, 0) := (congrArg (fun t => List.lookup 28 t) gt283).trans rfl
theorem t284_0 : zT 284 0 = some (.iconst 0, 1, 0, 0, 0, 0) := (congrArg (fun t => List.lookup 0 t) gt284).trans (by decide +kernel)
theorem t284_1 : zT 284 1 = some (.istore_n 1, 1, 1, 0, 0, 0) := (congrArg (fun t => List.lookup 1 t) gt284).trans (by decide +kernel)
theorem t284_2 : zT 284 2 = some (.iload_n 1, 1, 1, 0, 0, 0) := (congrArg (fun t => List.lookup 2 t) gt284).trans (by decide +kernel)
theorem t284_3 : zT 284 3 = some (.aload_n 0, 1, 0, 0, 0, 0) := (congrArg (fun t => List.lookup 3 t) gt284).trans (by decide +kernel)
theorem t284_4 : zT 284 4 = some (.getfield 261, 3, 12, 22, 0, 1629) := (congrArg (fun t => List.lookup 4 t) gt284).trans (by decide +kernel)
theorem t284_7 : zT 284 7 = some (.if_icmp .ge 62, 3, 69, 0, 0, 0) := (congrArg (fun t => List.lookup 7 t) gt284).trans (by decide +kernel)
theorem t284_10 : zT 284 10 = some (.iload_n 1, 1, 1, 0, 0, 0) := (congrArg (fun t => List.lookup 10 t) gt284).trans (by decide +kernel)
theorem t284_11 : zT 284 11 = some (.istore_n 2, 1, 2, 0, 0, 0) := (congrArg (fun t => List.lookup 11 t) gt284).trans (by decide +kernel)
theorem t284_12 : zT 284 12 = some (.iload_n 2, 1, 2, 0, 0, 0) := (congrArg (fun t => List.lookup 12 t) gt284).trans (by decide +kernel)
theorem t284_13 : zT 284 13 = some (.ifCond .le 43, 3, 56, 0, 0, 0) := (congrArg (fun t => List.lookup 13 t) gt284).trans (by decide +kernel)
theorem t284_16 : zT 284 16 = some (.aload_n 0, 1, 0, 0, 0, 0) := (congrArg (fun t => List.lookup 16 t) gt284).trans (by decide +kernel)
theorem t284_17 : zT 284 17 = some (.aload_n 0, 1, 0, 0, 0, 0) := (congrArg (fun t => List.lookup 17 t) gt284).trans (by decide +kernel)
theorem t284_18 : zT 284 18 = some (.getfield 80, 3, 12, 36, 0, 1643) := (congrArg (fun t => List.lookup 18 t) gt284).trans (by decide +kernel)
theorem t284_21 : zT 284 21 = some (.iload_n 2, 1, 2, 0, 0, 0) := (congrArg (fun t => List.lookup 21 t) gt284).trans (by decide +kernel)
theorem t284_22 : zT 284 22 = some (.iconst 1, 1, 0, 0, 1, 0) := (congrArg (fun t => List.lookup 22 t) gt284).trans (by decide +kernel)
theorem t284_23 : zT 284 23 = some (.isub, 1, 0, 0, 0, 0) := (congrArg (fun t => List.lookup 23 t) gt284).trans (by decide +kernel)
theorem t284_24 : zT 284 24 = some (.iaload, 1, 0, 0, 0, 0) := (congrArg (fun t => List.lookup 24 t) gt284).trans (by decide +kernel)
theorem t284_25 : zT 284 25 = some (.invokevirtual 347, 3, 285, 0, 0, 1999) := (congrArg (fun t => List.lookup 25 t) gt284).trans (by decide +kernel)
theorem t284_28 : zT 284 28 = some (.aload_n 0, 1, 0, 0, 0, 0) := (congrArg (fun t => List.lookup 28 t) gt284).trans (by decide +kernel)
theorem t284_29 : zT 284 29 = some (.iload_n 1, 1, 1, 0, 0, 0) := (congrArg (fun t => List.lookup 29 t) gt284).trans (by decide +kernel)
theorem t284_30 : zT 284 30 = some (.invokevirtual 347, 3, 285, 0, 0, 1999) := (congrArg (fun t => List.lookup 30 t) gt284).trans (by decide +kernel)
theorem t284_33 : zT 284 33 = some (.if_icmp .le 23, 3, 56, 0, 0, 0) := (congrArg (fun t => List.lookup 33 t) gt284).trans (by decide +kernel)
theorem t284_36 : zT 284 36 = some (.aload_n 0, 1, 0, 0, 0, 0) := (congrArg (fun t => List.lookup 36 t) gt284).trans (by decide +kernel)
theorem t284_37 : zT 284 37 = some (.getfield 80, 3, 12, 36, 0, 1643) := (congrArg (fun t => List.lookup 37 t) gt284).trans (by decide +kernel)
theorem t284_40 : zT 284 40 = some (.iload_n 2, 1, 2, 0, 0, 0) := (congrArg (fun t => List.lookup 40 t) gt284).trans (by decide +kernel)
theorem t284_41 : zT 284 41 = some (.aload_n 0, 1, 0, 0, 0, 0) := (congrArg (fun t => List.lookup 41 t) gt284).trans (by decide +kernel)
theorem t284_42 : zT 284 42 = some (.getfield 80, 3, 12, 36, 0, 1643) := (congrArg (fun t => List.lookup 42 t) gt284).trans (by decide +kernel)
theorem t284_45 : zT 284 45 = some (.iload_n 2, 1, 2, 0, 0, 0) := (congrArg (fun t => List.lookup 45 t) gt284).trans (by decide +kernel)
theorem t284_46 : zT 284 46 = some (.iconst 1, 1, 0, 0, 1, 0) := (congrArg (fun t => List.lookup 46 t) gt284).trans (by decide +kernel)
theorem t284_47 : zT 284 47 = some (.isub, 1, 0, 0, 0, 0) := (congrArg (fun t => List.lookup 47 t) gt284).trans (by decide +kernel)
theorem t284_48 : zT 284 48 = some (.iaload, 1, 0, 0, 0, 0) := (congrArg (fun t => List.lookup 48 t) gt284).trans (by decide +kernel)
theorem t284_49 : zT 284 49 = some (.iastore, 1, 0, 0, 0, 0) := (congrArg (fun t => List.lookup 49 t) gt284).trans (by decide +kernel)
theorem t284_50 : zT 284 50 = some (.iinc 2 (-1), 3, 0, 0, 0, 0) := (congrArg (fun t => List.lookup 50 t) gt284).trans (by decide +kernel)
theorem t284_53 : zT 284 53 = some (.goto (-41), 3, 12, 0, 0, 0) := (congrArg (fun t => List.lookup 53 t) gt284).trans (by decide +kernel)
theorem t284_56 : zT 284 56 = some (.aload_n 0, 1, 0, 0, 0, 0) := (congrArg (fun t => List.lookup 56 t) gt284).trans (by decide +kernel)
theorem t284_57 : zT 284 57 = some (.getfield 80, 3, 12, 36, 0, 1643) := (congrArg (fun t => List.lookup 57 t) gt284).trans (by decide +kernel)
theorem t284_60 : zT 284 60 = some (.iload_n 2, 1, 2, 0, 0, 0) := (congrArg (fun t => List.lookup 60 t) gt284).trans (by decide +kernel)
theorem t284_61 : zT 284 61 = some (.iload_n 1, 1, 1, 0, 0, 0) := (congrArg (fun t => List.lookup 61 t) gt284).trans (by decide +kernel)
theorem t284_62 : zT 284 62 = some (.iastore, 1, 0, 0, 0, 0) := (congrArg (fun t => List.lookup 62 t) gt284).trans (by decide +kernel)
theorem t284_63 : zT 284 63 = some (.iinc 1 1, 3, 0, 0, 0, 0) := (congrArg (fun t => List.lookup 63 t) gt284).trans (by decide +kernel)
theorem t284_66 : zT 284 66 = some (.goto (-64), 3, 2, 0, 0, 0) := (congrArg (fun t => List.lookup 66 t) gt284).trans (by decide +kernel)
theorem t284_69 : zT 284 69 = some (.aload_n 0, 1, 0, 0, 0, 0) := (congrArg (fun t => List.lookup 69 t) gt284).trans (by decide +kernel)
theorem t284_70 : zT 284 70 = some (.iconst 0, 1, 0, 0, 0, 0) := (congrArg (fun t => List.lookup 70 t) gt284).trans (by decide +kernel)
theorem t284_71 : zT 284 71 = some (.putfield 350, 3, 12, 37, 0, 1644) := (congrArg (fun t => List.lookup 71 t) gt284).trans (by decide +kernel)
theorem t284_74 : zT 284 74 = some (.iconst 0, 1, 0, 0, 0, 0) := (congrArg (fun t => List.lookup 74 t) gt284).trans (by decide +kernel)
theorem t284_75 : zT 284 75 = some (.istore_n 1, 1, 1, 0, 0, 0) := (congrArg (fun t => List.lookup 75 t) gt284).trans (by decide +kernel)
theorem t284_76 : zT 284 76 = some (.iload_n 1, 1, 1, 0, 0, 0) := (congrArg (fun t => List.lookup 76 t) gt284).trans (by decide +kernel)
theorem t284_77 : zT 284 77 = some (.aload_n 0, 1, 0, 0, 0, 0) := (congrArg (fun t => List.lookup 77 t) gt284).trans (by decide +kernel)
theorem t284_78 : zT 284 78 = some (.getfield 261, 3, 12, 22, 0, 1629) := (congrArg (fun t => List.lookup 78 t) gt284).trans (by decide +kernel)
theorem t284_81 : zT 284 81 = some (.if_icmp .ge 133, 3, 214, 0, 0, 0) := (congrArg (fun t => List.lookup 81 t) gt284).trans (by decide +kernel)
theorem t284_84 : zT 284 84 = some (.iload_n 1, 1, 1, 0, 0, 0) := (congrArg (fun t => List.lookup 84 t) gt284).trans (by decide +kernel)
theorem t284_85 : zT 284 85 = some (.ifCond .eq 36, 3, 121, 0, 0, 0) := (congrArg (fun t => List.lookup 85 t) gt284).trans (by decide +kernel)
theorem t284_88 : zT 284 88 = some (.aload_n 0, 1, 0, 0, 0, 0) := (congrArg (fun t => List.lookup 88 t) gt284).trans (by decide +kernel)
theorem t284_89 : zT 284 89 = some (.aload_n 0, 1, 0, 0, 0, 0) := (congrArg (fun t => List.lookup 89 t) gt284).trans (by decide +kernel)
theorem t284_90 : zT 284 90 = some (.getfield 80, 3, 12, 36, 0, 1643) := (congrArg (fun t => List.lookup 90 t) gt284).trans (by decide +kernel)
theorem t284_93 : zT 284 93 = some (.iload_n 1, 1, 1, 0, 0, 0) := (congrArg (fun t => List.lookup 93 t) gt284).trans (by decide +kernel)
theorem t284_94 : zT 284 94 = some (.iaload, 1, 0, 0, 0, 0) := (congrArg (fun t => List.lookup 94 t) gt284).trans (by decide +kernel)
theorem t284_95 : zT 284 95 = some (.invokevirtual 347, 3, 285, 0, 0, 1999) := (congrArg (fun t => List.lookup 95 t) gt284).trans (by decide +kernel)
theorem t284_98 : zT 284 98 = some (.aload_n 0, 1, 0, 0, 0, 0) := (congrArg (fun t => List.lookup 98 t) gt284).trans (by decide +kernel)
theorem t284_99 : zT 284 99 = some (.aload_n 0, 1, 0, 0, 0, 0) := (congrArg (fun t => List.lookup 99 t) gt284).trans (by decide +kernel)
theorem t284_100 : zT 284 100 = some (.getfield 80, 3, 12, 36, 0, 1643) := (congrArg (fun t => List.lookup 100 t) gt284).trans (by decide +kernel)
theorem t284_103 : zT 284 103 = some (.iload_n 1, 1, 1, 0, 0, 0) := (congrArg (fun t => List.lookup 103 t) gt284).trans (by decide +kernel)
theorem t284_104 : zT 284 104 = some (.iconst 1, 1, 0, 0, 1, 0) := (congrArg (fun t => List.lookup 104 t) gt284).trans (by decide +kernel)
theorem t284_105 : zT 284 105 = some (.isub, 1, 0, 0, 0, 0) := (congrArg (fun t => List.lookup 105 t) gt284).trans (by decide +kernel)
theorem t284_106 : zT 284 106 = some (.iaload, 1, 0, 0, 0, 0) := (congrArg (fun t => List.lookup 106 t) gt284).trans (by decide +kernel)
theorem t284_107 : zT 284 107 = some (.invokevirtual 347, 3, 285, 0, 0, 1999) := (congrArg (fun t => List.lookup 107 t) gt284).trans (by decide +kernel)
theorem t284_110 : zT 284 110 = some (.isub, 1, 0, 0, 0, 0) := (congrArg (fun t => List.lookup 110 t) gt284).trans (by decide +kernel)
theorem t284_111 : zT 284 111 = some (.aload_n 0, 1, 0, 0, 0, 0) := (congrArg (fun t => List.lookup 111 t) gt284).trans (by decide +kernel)
theorem t284_112 : zT 284 112 = some (.getfield 3, 3, 12, 0, 0, 1607) := (congrArg (fun t => List.lookup 112 t) gt284).trans (by decide +kernel)
theorem t284_115 : zT 284 115 = some (.bipush 9, 2, 0, 0, 9, 0) := (congrArg (fun t => List.lookup 115 t) gt284).trans (by decide +kernel)
theorem t284_117 : zT 284 117 = some (.iaload, 1, 0, 0, 0, 0) := (congrArg (fun t => List.lookup 117 t) gt284).trans (by decide +kernel)
theorem t284_118 : zT 284 118 = some (.if_icmp .le 33, 3, 151, 0, 0, 0) := (congrArg (fun t => List.lookup 118 t) gt284).trans (by decide +kernel)
theorem t284_121 : zT 284 121 = some (.aload_n 0, 1, 0, 0, 0, 0) := (congrArg (fun t => List.lookup 121 t) gt284).trans (by decide +kernel)
theorem t284_122 : zT 284 122 = some (.getfield 74, 3, 12, 34, 0, 1641) := (congrArg (fun t => List.lookup 122 t) gt284).trans (by decide +kernel)
theorem t284_125 : zT 284 125 = some (.aload_n 0, 1, 0, 0, 0, 0) := (congrArg (fun t => List.lookup 125 t) gt284).trans (by decide +kernel)
theorem t284_126 : zT 284 126 = some (.getfield 350, 3, 12, 37, 0, 1644) := (congrArg (fun t => List.lookup 126 t) gt284).trans (by decide +kernel)
theorem t284_129 : zT 284 129 = some (.iconst 0, 1, 0, 0, 0, 0) := (congrArg (fun t => List.lookup 129 t) gt284).trans (by decide +kernel)
theorem t284_130 : zT 284 130 = some (.iastore, 1, 0, 0, 0, 0) := (congrArg (fun t => List.lookup 130 t) gt284).trans (by decide +kernel)
theorem t284_131 : zT 284 131 = some (.aload_n 0, 1, 0, 0, 0, 0) := (congrArg (fun t => List.lookup 131 t) gt284).trans (by decide +kernel)
theorem t284_132 : zT 284 132 = some (.getfield 77, 3, 12, 35, 0, 1642) := (congrArg (fun t => List.lookup 132 t) gt284).trans (by decide +kernel)
theorem t284_135 : zT 284 135 = some (.aload_n 0, 1, 0, 0, 0, 0) := (congrArg (fun t => List.lookup 135 t) gt284).trans (by decide +kernel)
theorem t284_136 : zT 284 136 = some (.getfield 350, 3, 12, 37, 0, 1644) := (congrArg (fun t => List.lookup 136 t) gt284).trans (by decide +kernel)
theorem t284_139 : zT 284 139 = some (.lconst 0, 1, 0, 0, 0, 0) := (congrArg (fun t => List.lookup 139 t) gt284).trans (by decide +kernel)
theorem t284_140 : zT 284 140 = some (.lastore, 1, 0, 0, 0, 0) := (congrArg (fun t => List.lookup 140 t) gt284).trans (by decide +kernel)
theorem t284_141 : zT 284 141 = some (.aload_n 0, 1, 0, 0, 0, 0) := (congrArg (fun t => List.lookup 141 t) gt284).trans (by decide +kernel)
theorem t284_142 : zT 284 142 = some (.dup, 1, 0, 0, 0, 0) := (congrArg (fun t => List.lookup 142 t) gt284).trans (by decide +kernel)
theorem t284_143 : zT 284 143 = some (.getfield 350, 3, 12, 37, 0, 1644) := (congrArg (fun t => List.lookup 143 t) gt284).trans (by decide +kernel)
theorem t284_146 : zT 284 146 = some (.iconst 1, 1, 0, 0, 1, 0) := (congrArg (fun t => List.lookup 146 t) gt284).trans (by decide +kernel)
theorem t284_147 : zT 284 147 = some (.iadd, 1, 0, 0, 0, 0) := (congrArg (fun t => List.lookup 147 t) gt284).trans (by decide +kernel)
theorem t284_148 : zT 284 148 = some (.putfield 350, 3, 12, 37, 0, 1644) := (congrArg (fun t => List.lookup 148 t) gt284).trans (by decide +kernel)
theorem t284_151 : zT 284 151 = some (.aload_n 0, 1, 0, 0, 0, 0) := (congrArg (fun t => List.lookup 151 t) gt284).trans (by decide +kernel)
theorem t284_152 : zT 284 152 = some (.getfield 71, 3, 12, 33, 0, 1640) := (congrArg (fun t => List.lookup 152 t) gt284).trans (by decide +kernel)
theorem t284_155 : zT 284 155 = some (.aload_n 0, 1, 0, 0, 0, 0) := (congrArg (fun t => List.lookup 155 t) gt284).trans (by decide +kernel)
theorem t284_156 : zT 284 156 = some (.getfield 80, 3, 12, 36, 0, 1643) := (congrArg (fun t => List.lookup 156 t) gt284).trans (by decide +kernel)
theorem t284_159 : zT 284 159 = some (.iload_n 1, 1, 1, 0, 0, 0) := (congrArg (fun t => List.lookup 159 t) gt284).trans (by decide +kernel)
theorem t284_160 : zT 284 160 = some (.iaload, 1, 0, 0, 0, 0) := (congrArg (fun t => List.lookup 160 t) gt284).trans (by decide +kernel)
theorem t284_161 : zT 284 161 = some (.aload_n 0, 1, 0, 0, 0, 0) := (congrArg (fun t => List.lookup 161 t) gt284).trans (by decide +kernel)
theorem t284_162 : zT 284 162 = some (.getfield 350, 3, 12, 37, 0, 1644) := (congrArg (fun t => List.lookup 162 t) gt284).trans (by decide +kernel)
theorem t284_165 : zT 284 165 = some (.iconst 1, 1, 0, 0, 1, 0) := (congrArg (fun t => List.lookup 165 t) gt284).trans (by decide +kernel)
theorem t284_166 : zT 284 166 = some (.isub, 1, 0, 0, 0, 0) := (congrArg (fun t => List.lookup 166 t) gt284).trans (by decide +kernel)
theorem t284_167 : zT 284 167 = some (.iastore, 1, 0, 0, 0, 0) := (congrArg (fun t => List.lookup 167 t) gt284).trans (by decide +kernel)
theorem t284_168 : zT 284 168 = some (.aload_n 0, 1, 0, 0, 0, 0) := (congrArg (fun t => List.lookup 168 t) gt284).trans (by decide +kernel)
theorem t284_169 : zT 284 169 = some (.getfield 74, 3, 12, 34, 0, 1641) := (congrArg (fun t => List.lookup 169 t) gt284).trans (by decide +kernel)
theorem t284_172 : zT 284 172 = some (.aload_n 0, 1, 0, 0, 0, 0) := (congrArg (fun t => List.lookup 172 t) gt284).trans (by decide +kernel)
theorem t284_173 : zT 284 173 = some (.getfield 350, 3, 12, 37, 0, 1644) := (congrArg (fun t => List.lookup 173 t) gt284).trans (by decide +kernel)
theorem t284_176 : zT 284 176 = some (.iconst 1, 1, 0, 0, 1, 0) := (congrArg (fun t => List.lookup 176 t) gt284).trans (by decide +kernel)
theorem t284_177 : zT 284 177 = some (.isub, 1, 0, 0, 0, 0) := (congrArg (fun t => List.lookup 177 t) gt284).trans (by decide +kernel)
theorem t284_178 : zT 284 178 = some (.dup2, 1, 0, 0, 0, 0) := (congrArg (fun t => List.lookup 178 t) gt284).trans (by decide +kernel)
theorem t284_179 : zT 284 179 = some (.iaload, 1, 0, 0, 0, 0) := (congrArg (fun t => List.lookup 179 t) gt284).trans (by decide +kernel)
theorem t284_180 : zT 284 180 = some (.iconst 1, 1, 0, 0, 1, 0) := (congrArg (fun t => List.lookup 180 t) gt284).trans (by decide +kernel)
theorem t284_181 : zT 284 181 = some (.iadd, 1, 0, 0, 0, 0) := (congrArg (fun t => List.lookup 181 t) gt284).trans (by decide +kernel)
theorem t284_182 : zT 284 182 = some (.iastore, 1, 0, 0, 0, 0) := (congrArg (fun t => List.lookup 182 t) gt284).trans (by decide +kernel)
theorem t284_183 : zT 284 183 = some (.aload_n 0, 1, 0, 0, 0, 0) := (congrArg (fun t => List.lookup 183 t) gt284).trans (by decide +kernel)
theorem t284_184 : zT 284 184 = some (.getfield 77, 3, 12, 35, 0, 1642) := (congrArg (fun t => List.lookup 184 t) gt284).trans (by decide +kernel)
theorem t284_187 : zT 284 187 = some (.aload_n 0, 1, 0, 0, 0, 0) := (congrArg (fun t => List.lookup 187 t) gt284).trans (by decide +kernel)
theorem t284_188 : zT 284 188 = some (.getfield 350, 3, 12, 37, 0, 1644) := (congrArg (fun t => List.lookup 188 t) gt284).trans (by decide +kernel)
theorem t284_191 : zT 284 191 = some (.iconst 1, 1, 0, 0, 1, 0) := (congrArg (fun t => List.lookup 191 t) gt284).trans (by decide +kernel)
theorem t284_192 : zT 284 192 = some (.isub, 1, 0, 0, 0, 0) := (congrArg (fun t => List.lookup 192 t) gt284).trans (by decide +kernel)
theorem t284_193 : zT 284 193 = some (.dup2, 1, 0, 0, 0, 0) := (congrArg (fun t => List.lookup 193 t) gt284).trans (by decide +kernel)
theorem t284_194 : zT 284 194 = some (.laload, 1, 0, 0, 0, 0) := (congrArg (fun t => List.lookup 194 t) gt284).trans (by decide +kernel)
theorem t284_195 : zT 284 195 = some (.aload_n 0, 1, 0, 0, 0, 0) := (congrArg (fun t => List.lookup 195 t) gt284).trans (by decide +kernel)
theorem t284_196 : zT 284 196 = some (.aload_n 0, 1, 0, 0, 0, 0) := (congrArg (fun t => List.lookup 196 t) gt284).trans (by decide +kernel)
theorem t284_197 : zT 284 197 = some (.getfield 80, 3, 12, 36, 0, 1643) := (congrArg (fun t => List.lookup 197 t) gt284).trans (by decide +kernel)
theorem t284_200 : zT 284 200 = some (.iload_n 1, 1, 1, 0, 0, 0) := (congrArg (fun t => List.lookup 200 t) gt284).trans (by decide +kernel)
theorem t284_201 : zT 284 201 = some (.iaload, 1, 0, 0, 0, 0) := (congrArg (fun t => List.lookup 201 t) gt284).trans (by decide +kernel)
theorem t284_202 : zT 284 202 = some (.invokevirtual 347, 3, 285, 0, 0, 1999) := (congrArg (fun t => List.lookup 202 t) gt284).trans (by decide +kernel)
theorem t284_205 : zT 284 205 = some (.i2l, 1, 0, 0, 0, 0) := (congrArg (fun t => List.lookup 205 t) gt284).trans (by decide +kernel)
theorem t284_206 : zT 284 206 = some (.ladd, 1, 0, 0, 0, 0) := (congrArg (fun t => List.lookup 206 t) gt284).trans (by decide +kernel)
theorem t284_207 : zT 284 207 = some (.lastore, 1, 0, 0, 0, 0) := (congrArg (fun t => List.lookup 207 t) gt284).trans (by decide +kernel)
theorem t284_208 : zT 284 208 = some (.iinc 1 1, 3, 0, 0, 0, 0) := (congrArg (fun t => List.lookup 208 t) gt284).trans (by decide +kernel)
theorem t284_211 : zT 284 211 = some (.goto (-135), 3, 76, 0, 0, 0) := (congrArg (fun t => List.lookup 211 t) gt284).trans (by decide +kernel)
theorem t284_214 : zT 284 214 = some (.return_, 1, 0, 0, 0, 0) := (congrArg (fun t => List.lookup 214 t) gt284).trans (by decide +kernel)
theorem t285_0 : zT 285 0 = some (.aload_n 0, 1, 0, 0, 0, 0) := (congrArg (fun t => List.lookup 0 t) gt285).trans rfl
theorem t285_1 : zT 285 1 = some (.getfield 62, 3, 12, 30, 0, 1637) := (congrArg (fun t => List.lookup 1 t) gt285).trans rfl
theorem t285_4 : zT 285 4 = some (.iload_n 1, 1, 1, 0, 0, 0) := (congrArg (fun t => List.lookup 4 t) gt285).trans rfl
theorem t285_5 : zT 285 5 = some (.laload, 1, 0, 0, 0, 0) := (congrArg (fun t => List.lookup 5 t) gt285).trans rfl
theorem t285_6 : zT 285 6 = some (.aload_n 0, 1, 0, 0, 0, 0) := (congrArg (fun t => List.lookup 6 t) gt285).trans rfl
