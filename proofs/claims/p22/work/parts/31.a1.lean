theorem t240_43 : zT 240 43 = some (.ireturn, 1, 0, 0, 0, 0) := (congrArg (fun t => List.lookup 43 t) gt240).trans rfl
theorem t240_44 : zT 240 44 = some (.aload_n 0, 1, 0, 0, 0, 0) := (congrArg (fun t => List.lookup 44 t) gt240).trans rfl
theorem t240_45 : zT 240 45 = some (.getfield 3, 3, 12, 0, 0, 1607) := (congrArg (fun t => List.lookup 45 t) gt240).trans rfl
theorem t240_48 : zT 240 48 = some (.bipush 14, 2, 0, 0, 14, 0) := (congrArg (fun t => List.lookup 48 t) gt240).trans rfl
theorem t240_50 : zT 240 50 = some (.iconst 2, 1, 0, 0, 2, 0) := (congrArg (fun t => List.lookup 50 t) gt240).trans rfl
theorem t240_51 : zT 240 51 = some (.iload_n 1, 1, 1, 0, 0, 0) := (congrArg (fun t => List.lookup 51 t) gt240).trans rfl
theorem t240_52 : zT 240 52 = some (.imul, 1, 0, 0, 0, 0) := (congrArg (fun t => List.lookup 52 t) gt240).trans rfl
theorem t240_53 : zT 240 53 = some (.iadd, 1, 0, 0, 0, 0) := (congrArg (fun t => List.lookup 53 t) gt240).trans rfl
theorem t240_54 : zT 240 54 = some (.iconst 1, 1, 0, 0, 1, 0) := (congrArg (fun t => List.lookup 54 t) gt240).trans rfl
theorem t240_55 : zT 240 55 = some (.iadd, 1, 0, 0, 0, 0) := (congrArg (fun t => List.lookup 55 t) gt240).trans rfl
theorem t240_56 : zT 240 56 = some (.iconst 1, 1, 0, 0, 1, 0) := (congrArg (fun t => List.lookup 56 t) gt240).trans rfl
theorem t240_57 : zT 240 57 = some (.iastore, 1, 0, 0, 0, 0) := (congrArg (fun t => List.lookup 57 t) gt240).trans rfl
theorem t240_58 : zT 240 58 = some (.aload_n 0, 1, 0, 0, 0, 0) := (congrArg (fun t => List.lookup 58 t) gt240).trans rfl
theorem t240_59 : zT 240 59 = some (.getfield 3, 3, 12, 0, 0, 1607) := (congrArg (fun t => List.lookup 59 t) gt240).trans rfl
theorem t240_62 : zT 240 62 = some (.iconst 0, 1, 0, 0, 0, 0) := (congrArg (fun t => List.lookup 62 t) gt240).trans rfl
theorem t240_63 : zT 240 63 = some (.dup2, 1, 0, 0, 0, 0) := (congrArg (fun t => List.lookup 63 t) gt240).trans rfl
theorem t240_64 : zT 240 64 = some (.iaload, 1, 0, 0, 0, 0) := (congrArg (fun t => List.lookup 64 t) gt240).trans rfl
theorem t240_65 : zT 240 65 = some (.iconst 1, 1, 0, 0, 1, 0) := (congrArg (fun t => List.lookup 65 t) gt240).trans rfl
theorem t240_66 : zT 240 66 = some (.iadd, 1, 0, 0, 0, 0) := (congrArg (fun t => List.lookup 66 t) gt240).trans rfl
theorem t240_67 : zT 240 67 = some (.iastore, 1, 0, 0, 0, 0) := (congrArg (fun t => List.lookup 67 t) gt240).trans rfl
theorem t240_68 : zT 240 68 = some (.iconst 1, 1, 0, 0, 1, 0) := (congrArg (fun t => List.lookup 68 t) gt240).trans rfl
theorem t240_69 : zT 240 69 = some (.ireturn, 1, 0, 0, 0, 0) := (congrArg (fun t => List.lookup 69 t) gt240).trans rfl
theorem t241_0 : zT 241 0 = some (.aload_n 0, 1, 0, 0, 0, 0) := (congrArg (fun t => List.lookup 0 t) gt241).trans rfl
theorem t241_1 : zT 241 1 = some (.getfield 3, 3, 12, 0, 0, 1607) := (congrArg (fun t => List.lookup 1 t) gt241).trans rfl
theorem t241_4 : zT 241 4 = some (.bipush 14, 2, 0, 0, 14, 0) := (congrArg (fun t => List.lookup 4 t) gt241).trans rfl
theorem t241_6 : zT 241 6 = some (.iconst 2, 1, 0, 0, 2, 0) := (congrArg (fun t => List.lookup 6 t) gt241).trans rfl
theorem t241_7 : zT 241 7 = some (.iload_n 1, 1, 1, 0, 0, 0) := (congrArg (fun t => List.lookup 7 t) gt241).trans rfl
theorem t241_8 : zT 241 8 = some (.imul, 1, 0, 0, 0, 0) := (congrArg (fun t => List.lookup 8 t) gt241).trans rfl
theorem t241_9 : zT 241 9 = some (.iadd, 1, 0, 0, 0, 0) := (congrArg (fun t => List.lookup 9 t) gt241).trans rfl
theorem t241_10 : zT 241 10 = some (.iaload, 1, 0, 0, 0, 0) := (congrArg (fun t => List.lookup 10 t) gt241).trans rfl
theorem t241_11 : zT 241 11 = some (.ireturn, 1, 0, 0, 0, 0) := (congrArg (fun t => List.lookup 11 t) gt241).trans rfl
theorem t242_0 : zT 242 0 = some (.aload_n 0, 1, 0, 0, 0, 0) := (congrArg (fun t => List.lookup 0 t) gt242).trans rfl
theorem t242_1 : zT 242 1 = some (.iload_n 2, 1, 2, 0, 0, 0) := (congrArg (fun t => List.lookup 1 t) gt242).trans rfl
theorem t242_2 : zT 242 2 = some (.iload_n 3, 1, 3, 0, 0, 0) := (congrArg (fun t => List.lookup 2 t) gt242).trans rfl
theorem t242_3 : zT 242 3 = some (.invokevirtual 147, 3, 243, 0, 0, 1833) := (congrArg (fun t => List.lookup 3 t) gt242).trans rfl
theorem t242_6 : zT 242 6 = some (.ifCond .ne 5, 3, 11, 0, 0, 0) := (congrArg (fun t => List.lookup 6 t) gt242).trans rfl
theorem t242_9 : zT 242 9 = some (.iconst 0, 1, 0, 0, 0, 0) := (congrArg (fun t => List.lookup 9 t) gt242).trans rfl
theorem t242_10 : zT 242 10 = some (.ireturn, 1, 0, 0, 0, 0) := (congrArg (fun t => List.lookup 10 t) gt242).trans rfl
theorem t242_11 : zT 242 11 = some (.aload_n 0, 1, 0, 0, 0, 0) := (congrArg (fun t => List.lookup 11 t) gt242).trans rfl
theorem t242_12 : zT 242 12 = some (.getfield 3, 3, 12, 0, 0, 1607) := (congrArg (fun t => List.lookup 12 t) gt242).trans rfl
theorem t242_15 : zT 242 15 = some (.iload_n 1, 1, 1, 0, 0, 0) := (congrArg (fun t => List.lookup 15 t) gt242).trans rfl
theorem t242_16 : zT 242 16 = some (.aload_n 0, 1, 0, 0, 0, 0) := (congrArg (fun t => List.lookup 16 t) gt242).trans rfl
theorem t242_17 : zT 242 17 = some (.getfield 137, 3, 12, 8, 0, 1615) := (congrArg (fun t => List.lookup 17 t) gt242).trans rfl
theorem t242_20 : zT 242 20 = some (.iastore, 1, 0, 0, 0, 0) := (congrArg (fun t => List.lookup 20 t) gt242).trans rfl
theorem t242_21 : zT 242 21 = some (.aload_n 0, 1, 0, 0, 0, 0) := (congrArg (fun t => List.lookup 21 t) gt242).trans rfl
theorem t242_22 : zT 242 22 = some (.iload 4, 2, 0, 0, 0, 0) := (congrArg (fun t => List.lookup 22 t) gt242).trans rfl
theorem t242_24 : zT 242 24 = some (.invokevirtual 151, 3, 246, 0, 0, 1844) := (congrArg (fun t => List.lookup 24 t) gt242).trans rfl
theorem t242_27 : zT 242 27 = some (.ireturn, 1, 0, 0, 0, 0) := (congrArg (fun t => List.lookup 27 t) gt242).trans rfl
theorem t243_0 : zT 243 0 = some (.aload_n 0, 1, 0, 0, 0, 0) := (congrArg (fun t => List.lookup 0 t) gt243).trans rfl
theorem t243_1 : zT 243 1 = some (.getfield 126, 3, 12, 6, 0, 1613) := (congrArg (fun t => List.lookup 1 t) gt243).trans rfl
theorem t243_4 : zT 243 4 = some (.istore_n 3, 1, 3, 0, 0, 0) := (congrArg (fun t => List.lookup 4 t) gt243).trans rfl
theorem t243_5 : zT 243 5 = some (.aload_n 0, 1, 0, 0, 0, 0) := (congrArg (fun t => List.lookup 5 t) gt243).trans rfl
theorem t243_6 : zT 243 6 = some (.invokevirtual 129, 3, 238, 0, 0, 1813) := (congrArg (fun t => List.lookup 6 t) gt243).trans rfl
theorem t243_9 : zT 243 9 = some (.bipush 45, 2, 0, 0, 45, 0) := (congrArg (fun t => List.lookup 9 t) gt243).trans rfl
theorem t243_11 : zT 243 11 = some (.if_icmp .ne 7, 3, 18, 0, 0, 0) := (congrArg (fun t => List.lookup 11 t) gt243).trans rfl
theorem t243_14 : zT 243 14 = some (.iconst 1, 1, 0, 0, 1, 0) := (congrArg (fun t => List.lookup 14 t) gt243).trans rfl
theorem t243_15 : zT 243 15 = some (.goto 4, 3, 19, 0, 0, 0) := (congrArg (fun t => List.lookup 15 t) gt243).trans rfl
theorem t243_18 : zT 243 18 = some (.iconst 0, 1, 0, 0, 0, 0) := (congrArg (fun t => List.lookup 18 t) gt243).trans rfl
theorem t243_19 : zT 243 19 = some (.istore 4, 2, 0, 0, 0, 0) := (congrArg (fun t => List.lookup 19 t) gt243).trans rfl
theorem t243_21 : zT 243 21 = some (.iload 4, 2, 0, 0, 0, 0) := (congrArg (fun t => List.lookup 21 t) gt243).trans rfl
theorem t243_23 : zT 243 23 = some (.ifCond .eq 13, 3, 36, 0, 0, 0) := (congrArg (fun t => List.lookup 23 t) gt243).trans rfl
theorem t243_26 : zT 243 26 = some (.aload_n 0, 1, 0, 0, 0, 0) := (congrArg (fun t => List.lookup 26 t) gt243).trans rfl
theorem t243_27 : zT 243 27 = some (.dup, 1, 0, 0, 0, 0) := (congrArg (fun t => List.lookup 27 t) gt243).trans rfl
theorem t243_28 : zT 243 28 = some (.getfield 126, 3, 12, 6, 0, 1613) := (congrArg (fun t => List.lookup 28 t) gt243).trans rfl
theorem t243_31 : zT 243 31 = some (.iconst 1, 1, 0, 0, 1, 0) := (congrArg (fun t => List.lookup 31 t) gt243).trans rfl
theorem t243_32 : zT 243 32 = some (.iadd, 1, 0, 0, 0, 0) := (congrArg (fun t => List.lookup 32 t) gt243).trans rfl
theorem t243_33 : zT 243 33 = some (.putfield 126, 3, 12, 6, 0, 1613) := (congrArg (fun t => List.lookup 33 t) gt243).trans rfl
theorem t243_36 : zT 243 36 = some (.aload_n 0, 1, 0, 0, 0, 0) := (congrArg (fun t => List.lookup 36 t) gt243).trans rfl
theorem t243_37 : zT 243 37 = some (.iload_n 3, 1, 3, 0, 0, 0) := (congrArg (fun t => List.lookup 37 t) gt243).trans rfl
theorem t243_38 : zT 243 38 = some (.iload 4, 2, 0, 0, 0, 0) := (congrArg (fun t => List.lookup 38 t) gt243).trans rfl
theorem t243_40 : zT 243 40 = some (.ifCond .eq 7, 3, 47, 0, 0, 0) := (congrArg (fun t => List.lookup 40 t) gt243).trans rfl
theorem t243_43 : zT 243 43 = some (.iconst (-1), 1, 0, 0, (-1), 0) := (congrArg (fun t => List.lookup 43 t) gt243).trans rfl
theorem t243_44 : zT 243 44 = some (.goto 4, 3, 48, 0, 0, 0) := (congrArg (fun t => List.lookup 44 t) gt243).trans rfl
theorem t243_47 : zT 243 47 = some (.iconst 1, 1, 0, 0, 1, 0) := (congrArg (fun t => List.lookup 47 t) gt243).trans rfl
theorem t243_48 : zT 243 48 = some (.iload_n 1, 1, 1, 0, 0, 0) := (congrArg (fun t => List.lookup 48 t) gt243).trans rfl
theorem t243_49 : zT 243 49 = some (.iload_n 2, 1, 2, 0, 0, 0) := (congrArg (fun t => List.lookup 49 t) gt243).trans rfl
theorem t243_50 : zT 243 50 = some (.invokevirtual 143, 3, 244, 0, 0, 1837) := (congrArg (fun t => List.lookup 50 t) gt243).trans rfl
theorem t243_53 : zT 243 53 = some (.ireturn, 1, 0, 0, 0, 0) := (congrArg (fun t => List.lookup 53 t) gt243).trans rfl
theorem t244_0 : zT 244 0 = some (.aload_n 0, 1, 0, 0, 0, 0) := (congrArg (fun t => List.lookup 0 t) gt244).trans rfl
theorem t244_1 : zT 244 1 = some (.getfield 126, 3, 12, 6, 0, 1613) := (congrArg (fun t => List.lookup 1 t) gt244).trans rfl
theorem t244_4 : zT 244 4 = some (.istore 5, 2, 0, 0, 0, 0) := (congrArg (fun t => List.lookup 4 t) gt244).trans rfl
theorem t244_6 : zT 244 6 = some (.aload_n 0, 1, 0, 0, 0, 0) := (congrArg (fun t => List.lookup 6 t) gt244).trans rfl
theorem t244_7 : zT 244 7 = some (.iconst 0, 1, 0, 0, 0, 0) := (congrArg (fun t => List.lookup 7 t) gt244).trans rfl
theorem t244_8 : zT 244 8 = some (.putfield 137, 3, 12, 8, 0, 1615) := (congrArg (fun t => List.lookup 8 t) gt244).trans rfl
theorem t244_11 : zT 244 11 = some (.aload_n 0, 1, 0, 0, 0, 0) := (congrArg (fun t => List.lookup 11 t) gt244).trans rfl
theorem t244_12 : zT 244 12 = some (.invokevirtual 129, 3, 238, 0, 0, 1813) := (congrArg (fun t => List.lookup 12 t) gt244).trans rfl
theorem t244_15 : zT 244 15 = some (.invokestatic 140, 3, 245, 1, 0, 1841) := (congrArg (fun t => List.lookup 15 t) gt244).trans rfl
theorem t244_18 : zT 244 18 = some (.ifCond .eq 46, 3, 64, 0, 0, 0) := (congrArg (fun t => List.lookup 18 t) gt244).trans rfl
theorem t244_21 : zT 244 21 = some (.aload_n 0, 1, 0, 0, 0, 0) := (congrArg (fun t => List.lookup 21 t) gt244).trans rfl
theorem t244_22 : zT 244 22 = some (.getfield 126, 3, 12, 6, 0, 1613) := (congrArg (fun t => List.lookup 22 t) gt244).trans rfl
theorem t244_25 : zT 244 25 = some (.iload 5, 2, 0, 0, 0, 0) := (congrArg (fun t => List.lookup 25 t) gt244).trans rfl
theorem t244_27 : zT 244 27 = some (.isub, 1, 0, 0, 0, 0) := (congrArg (fun t => List.lookup 27 t) gt244).trans rfl
theorem t244_28 : zT 244 28 = some (.iconst 4, 1, 0, 0, 4, 0) := (congrArg (fun t => List.lookup 28 t) gt244).trans rfl
theorem t244_29 : zT 244 29 = some (.if_icmp .ge 35, 3, 64, 0, 0, 0) := (congrArg (fun t => List.lookup 29 t) gt244).trans rfl
theorem t244_32 : zT 244 32 = some (.aload_n 0, 1, 0, 0, 0, 0) := (congrArg (fun t => List.lookup 32 t) gt244).trans rfl
theorem t244_33 : zT 244 33 = some (.bipush 10, 2, 0, 0, 10, 0) := (congrArg (fun t => List.lookup 33 t) gt244).trans rfl
theorem t244_35 : zT 244 35 = some (.aload_n 0, 1, 0, 0, 0, 0) := (congrArg (fun t => List.lookup 35 t) gt244).trans rfl
theorem t244_36 : zT 244 36 = some (.getfield 137, 3, 12, 8, 0, 1615) := (congrArg (fun t => List.lookup 36 t) gt244).trans rfl
theorem t244_39 : zT 244 39 = some (.imul, 1, 0, 0, 0, 0) := (congrArg (fun t => List.lookup 39 t) gt244).trans rfl
theorem t244_40 : zT 244 40 = some (.aload_n 0, 1, 0, 0, 0, 0) := (congrArg (fun t => List.lookup 40 t) gt244).trans rfl
theorem t244_41 : zT 244 41 = some (.invokevirtual 129, 3, 238, 0, 0, 1813) := (congrArg (fun t => List.lookup 41 t) gt244).trans rfl
theorem t244_44 : zT 244 44 = some (.iadd, 1, 0, 0, 0, 0) := (congrArg (fun t => List.lookup 44 t) gt244).trans rfl
theorem t244_45 : zT 244 45 = some (.bipush 48, 2, 0, 0, 48, 0) := (congrArg (fun t => List.lookup 45 t) gt244).trans rfl
theorem t244_47 : zT 244 47 = some (.isub, 1, 0, 0, 0, 0) := (congrArg (fun t => List.lookup 47 t) gt244).trans rfl
theorem t244_48 : zT 244 48 = some (.putfield 137, 3, 12, 8, 0, 1615) := (congrArg (fun t => List.lookup 48 t) gt244).trans rfl
theorem t244_51 : zT 244 51 = some (.aload_n 0, 1, 0, 0, 0, 0) := (congrArg (fun t => List.lookup 51 t) gt244).trans rfl
theorem t244_52 : zT 244 52 = some (.dup, 1, 0, 0, 0, 0) := (congrArg (fun t => List.lookup 52 t) gt244).trans rfl
theorem t244_53 : zT 244 53 = some (.getfield 126, 3, 12, 6, 0, 1613) := (congrArg (fun t => List.lookup 53 t) gt244).trans rfl
theorem t244_56 : zT 244 56 = some (.iconst 1, 1, 0, 0, 1, 0) := (congrArg (fun t => List.lookup 56 t) gt244).trans rfl
theorem t244_57 : zT 244 57 = some (.iadd, 1, 0, 0, 0, 0) := (congrArg (fun t => List.lookup 57 t) gt244).trans rfl
theorem t244_58 : zT 244 58 = some (.putfield 126, 3, 12, 6, 0, 1613) := (congrArg (fun t => List.lookup 58 t) gt244).trans rfl
theorem t244_61 : zT 244 61 = some (.goto (-50), 3, 11, 0, 0, 0) := (congrArg (fun t => List.lookup 61 t) gt244).trans rfl
theorem t244_64 : zT 244 64 = some (.aload_n 0, 1, 0, 0, 0, 0) := (congrArg (fun t => List.lookup 64 t) gt244).trans rfl
theorem t244_65 : zT 244 65 = some (.getfield 126, 3, 12, 6, 0, 1613) := (congrArg (fun t => List.lookup 65 t) gt244).trans rfl
theorem t244_68 : zT 244 68 = some (.iload 5, 2, 0, 0, 0, 0) := (congrArg (fun t => List.lookup 68 t) gt244).trans rfl
theorem t244_70 : zT 244 70 = some (.if_icmp .eq 13, 3, 83, 0, 0, 0) := (congrArg (fun t => List.lookup 70 t) gt244).trans rfl
theorem t244_73 : zT 244 73 = some (.aload_n 0, 1, 0, 0, 0, 0) := (congrArg (fun t => List.lookup 73 t) gt244).trans rfl
theorem t244_74 : zT 244 74 = some (.invokevirtual 129, 3, 238, 0, 0, 1813) := (congrArg (fun t => List.lookup 74 t) gt244).trans rfl
theorem t244_77 : zT 244 77 = some (.invokestatic 140, 3, 245, 1, 0, 1841) := (congrArg (fun t => List.lookup 77 t) gt244).trans rfl
theorem t244_80 : zT 244 80 = some (.ifCond .eq 12, 3, 92, 0, 0, 0) := (congrArg (fun t => List.lookup 80 t) gt244).trans rfl
theorem t244_83 : zT 244 83 = some (.aload_n 0, 1, 0, 0, 0, 0) := (congrArg (fun t => List.lookup 83 t) gt244).trans rfl
theorem t244_84 : zT 244 84 = some (.aload_n 0, 1, 0, 0, 0, 0) := (congrArg (fun t => List.lookup 84 t) gt244).trans rfl
theorem t244_85 : zT 244 85 = some (.getfield 126, 3, 12, 6, 0, 1613) := (congrArg (fun t => List.lookup 85 t) gt244).trans rfl
theorem t244_88 : zT 244 88 = some (.invokevirtual 133, 3, 239, 0, 0, 1817) := (congrArg (fun t => List.lookup 88 t) gt244).trans rfl
theorem t244_91 : zT 244 91 = some (.ireturn, 1, 0, 0, 0, 0) := (congrArg (fun t => List.lookup 91 t) gt244).trans rfl
theorem t244_92 : zT 244 92 = some (.aload_n 0, 1, 0, 0, 0, 0) := (congrArg (fun t => List.lookup 92 t) gt244).trans rfl
theorem t244_93 : zT 244 93 = some (.dup, 1, 0, 0, 0, 0) := (congrArg (fun t => List.lookup 93 t) gt244).trans rfl
theorem t244_94 : zT 244 94 = some (.getfield 137, 3, 12, 8, 0, 1615) := (congrArg (fun t => List.lookup 94 t) gt244).trans rfl
theorem t244_97 : zT 244 97 = some (.iload_n 2, 1, 2, 0, 0, 0) := (congrArg (fun t => List.lookup 97 t) gt244).trans rfl
theorem t244_98 : zT 244 98 = some (.imul, 1, 0, 0, 0, 0) := (congrArg (fun t => List.lookup 98 t) gt244).trans rfl
theorem t244_99 : zT 244 99 = some (.putfield 137, 3, 12, 8, 0, 1615) := (congrArg (fun t => List.lookup 99 t) gt244).trans rfl
theorem t244_102 : zT 244 102 = some (.aload_n 0, 1, 0, 0, 0, 0) := (congrArg (fun t => List.lookup 102 t) gt244).trans rfl
theorem t244_103 : zT 244 103 = some (.getfield 137, 3, 12, 8, 0, 1615) := (congrArg (fun t => List.lookup 103 t) gt244).trans rfl
theorem t244_106 : zT 244 106 = some (.i2l, 1, 0, 0, 0, 0) := (congrArg (fun t => List.lookup 106 t) gt244).trans rfl
theorem t244_107 : zT 244 107 = some (.iload_n 3, 1, 3, 0, 0, 0) := (congrArg (fun t => List.lookup 107 t) gt244).trans rfl
theorem t244_108 : zT 244 108 = some (.i2l, 1, 0, 0, 0, 0) := (congrArg (fun t => List.lookup 108 t) gt244).trans rfl
theorem t244_109 : zT 244 109 = some (.iload 4, 2, 0, 0, 0, 0) := (congrArg (fun t => List.lookup 109 t) gt244).trans rfl
theorem t244_111 : zT 244 111 = some (.i2l, 1, 0, 0, 0, 0) := (congrArg (fun t => List.lookup 111 t) gt244).trans rfl
theorem t244_112 : zT 244 112 = some (.invokestatic 112, 3, 228, 1, 0, 1774) := (congrArg (fun t => List.lookup 112 t) gt244).trans rfl
theorem t244_115 : zT 244 115 = some (.ifCond .ne 11, 3, 126, 0, 0, 0) := (congrArg (fun t => List.lookup 115 t) gt244).trans rfl
theorem t244_118 : zT 244 118 = some (.aload_n 0, 1, 0, 0, 0, 0) := (congrArg (fun t => List.lookup 118 t) gt244).trans rfl
theorem t244_119 : zT 244 119 = some (.iload_n 1, 1, 1, 0, 0, 0) := (congrArg (fun t => List.lookup 119 t) gt244).trans rfl
theorem t244_120 : zT 244 120 = some (.invokevirtual 133, 3, 239, 0, 0, 1817) := (congrArg (fun t => List.lookup 120 t) gt244).trans rfl
theorem t244_123 : zT 244 123 = some (.ifCond .eq 7, 3, 130, 0, 0, 0) := (congrArg (fun t => List.lookup 123 t) gt244).trans rfl
theorem t244_126 : zT 244 126 = some (.iconst 1, 1, 0, 0, 1, 0) := (congrArg (fun t => List.lookup 126 t) gt244).trans rfl
theorem t244_127 : zT 244 127 = some (.goto 4, 3, 131, 0, 0, 0) := (congrArg (fun t => List.lookup 127 t) gt244).trans rfl
theorem t244_130 : zT 244 130 = some (.iconst 0, 1, 0, 0, 0, 0) := (congrArg (fun t => List.lookup 130 t) gt244).trans rfl
theorem t244_131 : zT 244 131 = some (.ireturn, 1, 0, 0, 0, 0) := (congrArg (fun t => List.lookup 131 t) gt244).trans rfl
theorem t245_0 : zT 245 0 = some (.iload_n 0, 1, 0, 0, 0, 0) := (congrArg (fun t => List.lookup 0 t) gt245).trans rfl
theorem t245_1 : zT 245 1 = some (.bipush 48, 2, 0, 0, 48, 0) := (congrArg (fun t => List.lookup 1 t) gt245).trans rfl
theorem t245_3 : zT 245 3 = some (.if_icmp .lt 13, 3, 16, 0, 0, 0) := (congrArg (fun t => List.lookup 3 t) gt245).trans rfl
theorem t245_6 : zT 245 6 = some (.iload_n 0, 1, 0, 0, 0, 0) := (congrArg (fun t => List.lookup 6 t) gt245).trans rfl
theorem t245_7 : zT 245 7 = some (.bipush 57, 2, 0, 0, 57, 0) := (congrArg (fun t => List.lookup 7 t) gt245).trans rfl
theorem t245_9 : zT 245 9 = some (.if_icmp .gt 7, 3, 16, 0, 0, 0) := (congrArg (fun t => List.lookup 9 t) gt245).trans rfl
theorem t245_12 : zT 245 12 = some (.iconst 1, 1, 0, 0, 1, 0) := (congrArg (fun t => List.lookup 12 t) gt245).trans rfl
theorem t245_13 : zT 245 13 = some (.goto 4, 3, 17, 0, 0, 0) := (congrArg (fun t => List.lookup 13 t) gt245).trans rfl
theorem t245_16 : zT 245 16 = some (.iconst 0, 1, 0, 0, 0, 0) := (congrArg (fun t => List.lookup 16 t) gt245).trans rfl
theorem t245_17 : zT 245 17 = some (.ireturn, 1, 0, 0, 0, 0) := (congrArg (fun t => List.lookup 17 t) gt245).trans rfl
theorem t246_0 : zT 246 0 = some (.aload_n 0, 1, 0, 0, 0, 0) := (congrArg (fun t => List.lookup 0 t) gt246).trans rfl
theorem t246_1 : zT 246 1 = some (.invokevirtual 129, 3, 238, 0, 0, 1813) := (congrArg (fun t => List.lookup 1 t) gt246).trans rfl
theorem t246_4 : zT 246 4 = some (.iload_n 1, 1, 1, 0, 0, 0) := (congrArg (fun t => List.lookup 4 t) gt246).trans rfl
theorem t246_5 : zT 246 5 = some (.if_icmp .eq 12, 3, 17, 0, 0, 0) := (congrArg (fun t => List.lookup 5 t) gt246).trans rfl
theorem t246_8 : zT 246 8 = some (.aload_n 0, 1, 0, 0, 0, 0) := (congrArg (fun t => List.lookup 8 t) gt246).trans rfl
theorem t246_9 : zT 246 9 = some (.aload_n 0, 1, 0, 0, 0, 0) := (congrArg (fun t => List.lookup 9 t) gt246).trans rfl
theorem t246_10 : zT 246 10 = some (.getfield 126, 3, 12, 6, 0, 1613) := (congrArg (fun t => List.lookup 10 t) gt246).trans rfl
theorem t246_13 : zT 246 13 = some (.invokevirtual 133, 3, 239, 0, 0, 1817) := (congrArg (fun t => List.lookup 13 t) gt246).trans rfl
theorem t246_16 : zT 246 16 = some (.ireturn, 1, 0, 0, 0, 0) := (congrArg (fun t => List.lookup 16 t) gt246).trans rfl
theorem t246_17 : zT 246 17 = some (.aload_n 0, 1, 0, 0, 0, 0) := (congrArg (fun t => List.lookup 17 t) gt246).trans rfl
theorem t246_18 : zT 246 18 = some (.dup, 1, 0, 0, 0, 0) := (congrArg (fun t => List.lookup 18 t) gt246).trans rfl
theorem t246_19 : zT 246 19 = some (.getfield 126, 3, 12, 6, 0, 1613) := (congrArg (fun t => List.lookup 19 t) gt246).trans rfl
theorem t246_22 : zT 246 22 = some (.iconst 1, 1, 0, 0, 1, 0) := (congrArg (fun t => List.lookup 22 t) gt246).trans rfl
theorem t246_23 : zT 246 23 = some (.iadd, 1, 0, 0, 0, 0) := (congrArg (fun t => List.lookup 23 t) gt246).trans rfl
theorem t246_24 : zT 246 24 = some (.putfield 126, 3, 12, 6, 0, 1613) := (congrArg (fun t => List.lookup 24 t) gt246).trans rfl
theorem t246_27 : zT 246 27 = some (.iconst 1, 1, 0, 0, 1, 0) := (congrArg (fun t => List.lookup 27 t) gt246).trans rfl
theorem t246_28 : zT 246 28 = some (.ireturn, 1, 0, 0, 0, 0) := (congrArg (fun t => List.lookup 28 t) gt246).trans rfl
theorem t247_0 : zT 247 0 = some (.bipush 30, 2, 0, 0, 30, 0) := (congrArg (fun t => List.lookup 0 t) gt247).trans rfl
theorem t247_2 : zT 247 2 = some (.iconst 4, 1, 0, 0, 4, 0) := (congrArg (fun t => List.lookup 2 t) gt247).trans rfl
theorem t247_3 : zT 247 3 = some (.aload_n 0, 1, 0, 0, 0, 0) := (congrArg (fun t => List.lookup 3 t) gt247).trans rfl
theorem t247_4 : zT 247 4 = some (.getfield 3, 3, 12, 0, 0, 1607) := (congrArg (fun t => List.lookup 4 t) gt247).trans rfl
theorem t247_7 : zT 247 7 = some (.iconst 1, 1, 0, 0, 1, 0) := (congrArg (fun t => List.lookup 7 t) gt247).trans rfl
theorem t247_8 : zT 247 8 = some (.iaload, 1, 0, 0, 0, 0) := (congrArg (fun t => List.lookup 8 t) gt247).trans rfl
theorem t247_9 : zT 247 9 = some (.imul, 1, 0, 0, 0, 0) := (congrArg (fun t => List.lookup 9 t) gt247).trans rfl
theorem t247_10 : zT 247 10 = some (.iadd, 1, 0, 0, 0, 0) := (congrArg (fun t => List.lookup 10 t) gt247).trans rfl
theorem t247_11 : zT 247 11 = some (.istore_n 1, 1, 1, 0, 0, 0) := (congrArg (fun t => List.lookup 11 t) gt247).trans rfl
theorem t247_12 : zT 247 12 = some (.aload_n 0, 1, 0, 0, 0, 0) := (congrArg (fun t => List.lookup 12 t) gt247).trans rfl
theorem t247_13 : zT 247 13 = some (.iload_n 1, 1, 1, 0, 0, 0) := (congrArg (fun t => List.lookup 13 t) gt247).trans rfl
theorem t247_14 : zT 247 14 = some (.iconst 0, 1, 0, 0, 0, 0) := (congrArg (fun t => List.lookup 14 t) gt247).trans rfl
theorem t247_15 : zT 247 15 = some (.aload_n 0, 1, 0, 0, 0, 0) := (congrArg (fun t => List.lookup 15 t) gt247).trans rfl
theorem t247_16 : zT 247 16 = some (.getfield 3, 3, 12, 0, 0, 1607) := (congrArg (fun t => List.lookup 16 t) gt247).trans rfl
theorem t247_19 : zT 247 19 = some (.iconst 0, 1, 0, 0, 0, 0) := (congrArg (fun t => List.lookup 19 t) gt247).trans rfl
theorem t247_20 : zT 247 20 = some (.iaload, 1, 0, 0, 0, 0) := (congrArg (fun t => List.lookup 20 t) gt247).trans rfl
theorem t247_21 : zT 247 21 = some (.iconst 1, 1, 0, 0, 1, 0) := (congrArg (fun t => List.lookup 21 t) gt247).trans rfl
theorem t247_22 : zT 247 22 = some (.isub, 1, 0, 0, 0, 0) := (congrArg (fun t => List.lookup 22 t) gt247).trans rfl
theorem t247_23 : zT 247 23 = some (.bipush 44, 2, 0, 0, 44, 0) := (congrArg (fun t => List.lookup 23 t) gt247).trans rfl
theorem t247_25 : zT 247 25 = some (.invokevirtual 170, 3, 242, 0, 0, 1829) := (congrArg (fun t => List.lookup 25 t) gt247).trans rfl
theorem t247_28 : zT 247 28 = some (.ifCond .eq 37, 3, 65, 0, 0, 0) := (congrArg (fun t => List.lookup 28 t) gt247).trans rfl
theorem t247_31 : zT 247 31 = some (.aload_n 0, 1, 0, 0, 0, 0) := (congrArg (fun t => List.lookup 31 t) gt247).trans rfl
theorem t247_32 : zT 247 32 = some (.iload_n 1, 1, 1, 0, 0, 0) := (congrArg (fun t => List.lookup 32 t) gt247).trans rfl
theorem t247_33 : zT 247 33 = some (.iconst 1, 1, 0, 0, 1, 0) := (congrArg (fun t => List.lookup 33 t) gt247).trans rfl
theorem t247_34 : zT 247 34 = some (.iadd, 1, 0, 0, 0, 0) := (congrArg (fun t => List.lookup 34 t) gt247).trans rfl
theorem t247_35 : zT 247 35 = some (.sipush (-9999), 3, 0, 0, (-9999), 0) := (congrArg (fun t => List.lookup 35 t) gt247).trans rfl
theorem t247_38 : zT 247 38 = some (.sipush 9999, 3, 0, 0, 9999, 0) := (congrArg (fun t => List.lookup 38 t) gt247).trans rfl
theorem t247_41 : zT 247 41 = some (.bipush 44, 2, 0, 0, 44, 0) := (congrArg (fun t => List.lookup 41 t) gt247).trans rfl
theorem t247_43 : zT 247 43 = some (.invokevirtual 170, 3, 242, 0, 0, 1829) := (congrArg (fun t => List.lookup 43 t) gt247).trans rfl
theorem t247_46 : zT 247 46 = some (.ifCond .eq 19, 3, 65, 0, 0, 0) := (congrArg (fun t => List.lookup 46 t) gt247).trans rfl
theorem t247_49 : zT 247 49 = some (.aload_n 0, 1, 0, 0, 0, 0) := (congrArg (fun t => List.lookup 49 t) gt247).trans rfl
theorem t247_50 : zT 247 50 = some (.iload_n 1, 1, 1, 0, 0, 0) := (congrArg (fun t => List.lookup 50 t) gt247).trans rfl
theorem t247_51 : zT 247 51 = some (.iconst 2, 1, 0, 0, 2, 0) := (congrArg (fun t => List.lookup 51 t) gt247).trans rfl
theorem t247_52 : zT 247 52 = some (.iadd, 1, 0, 0, 0, 0) := (congrArg (fun t => List.lookup 52 t) gt247).trans rfl
theorem t247_53 : zT 247 53 = some (.iconst 0, 1, 0, 0, 0, 0) := (congrArg (fun t => List.lookup 53 t) gt247).trans rfl
theorem t247_54 : zT 247 54 = some (.sipush 999, 3, 0, 0, 999, 0) := (congrArg (fun t => List.lookup 54 t) gt247).trans rfl
theorem t247_57 : zT 247 57 = some (.bipush 59, 2, 0, 0, 59, 0) := (congrArg (fun t => List.lookup 57 t) gt247).trans rfl
theorem t247_59 : zT 247 59 = some (.invokevirtual 170, 3, 242, 0, 0, 1829) := (congrArg (fun t => List.lookup 59 t) gt247).trans rfl
theorem t247_62 : zT 247 62 = some (.ifCond .ne 5, 3, 67, 0, 0, 0) := (congrArg (fun t => List.lookup 62 t) gt247).trans rfl
theorem t247_65 : zT 247 65 = some (.iconst 0, 1, 0, 0, 0, 0) := (congrArg (fun t => List.lookup 65 t) gt247).trans rfl
theorem t247_66 : zT 247 66 = some (.ireturn, 1, 0, 0, 0, 0) := (congrArg (fun t => List.lookup 66 t) gt247).trans rfl
theorem t247_67 : zT 247 67 = some (.aload_n 0, 1, 0, 0, 0, 0) := (congrArg (fun t => List.lookup 67 t) gt247).trans rfl
theorem t247_68 : zT 247 68 = some (.getfield 3, 3, 12, 0, 0, 1607) := (congrArg (fun t => List.lookup 68 t) gt247).trans rfl
theorem t247_71 : zT 247 71 = some (.iload_n 1, 1, 1, 0, 0, 0) := (congrArg (fun t => List.lookup 71 t) gt247).trans rfl
theorem t247_72 : zT 247 72 = some (.iconst 3, 1, 0, 0, 3, 0) := (congrArg (fun t => List.lookup 72 t) gt247).trans rfl
theorem t247_73 : zT 247 73 = some (.iadd, 1, 0, 0, 0, 0) := (congrArg (fun t => List.lookup 73 t) gt247).trans rfl
theorem t247_74 : zT 247 74 = some (.bipush (-2), 2, 0, 0, (-2), 0) := (congrArg (fun t => List.lookup 74 t) gt247).trans rfl
theorem t247_76 : zT 247 76 = some (.iastore, 1, 0, 0, 0, 0) := (congrArg (fun t => List.lookup 76 t) gt247).trans rfl
theorem t247_77 : zT 247 77 = some (.aload_n 0, 1, 0, 0, 0, 0) := (congrArg (fun t => List.lookup 77 t) gt247).trans rfl
theorem t247_78 : zT 247 78 = some (.getfield 3, 3, 12, 0, 0, 1607) := (congrArg (fun t => List.lookup 78 t) gt247).trans rfl
theorem t247_81 : zT 247 81 = some (.iconst 1, 1, 0, 0, 1, 0) := (congrArg (fun t => List.lookup 81 t) gt247).trans rfl
theorem t247_82 : zT 247 82 = some (.dup2, 1, 0, 0, 0, 0) := (congrArg (fun t => List.lookup 82 t) gt247).trans rfl
theorem t247_83 : zT 247 83 = some (.iaload, 1, 0, 0, 0, 0) := (congrArg (fun t => List.lookup 83 t) gt247).trans rfl
theorem t247_84 : zT 247 84 = some (.iconst 1, 1, 0, 0, 1, 0) := (congrArg (fun t => List.lookup 84 t) gt247).trans rfl
theorem t247_85 : zT 247 85 = some (.iadd, 1, 0, 0, 0, 0) := (congrArg (fun t => List.lookup 85 t) gt247).trans rfl
theorem t247_86 : zT 247 86 = some (.iastore, 1, 0, 0, 0, 0) := (congrArg (fun t => List.lookup 86 t) gt247).trans rfl
theorem t247_87 : zT 247 87 = some (.iconst 1, 1, 0, 0, 1, 0) := (congrArg (fun t => List.lookup 87 t) gt247).trans rfl
theorem t247_88 : zT 247 88 = some (.ireturn, 1, 0, 0, 0, 0) := (congrArg (fun t => List.lookup 88 t) gt247).trans rfl
theorem t248_0 : zT 248 0 = some (.aload_n 0, 1, 0, 0, 0, 0) := (congrArg (fun t => List.lookup 0 t) gt248).trans rfl
theorem t248_1 : zT 248 1 = some (.getfield 3, 3, 12, 0, 0, 1607) := (congrArg (fun t => List.lookup 1 t) gt248).trans rfl
theorem t248_4 : zT 248 4 = some (.iconst 2, 1, 0, 0, 2, 0) := (congrArg (fun t => List.lookup 4 t) gt248).trans rfl
theorem t248_5 : zT 248 5 = some (.iaload, 1, 0, 0, 0, 0) := (congrArg (fun t => List.lookup 5 t) gt248).trans rfl
theorem t248_6 : zT 248 6 = some (.istore_n 2, 1, 2, 0, 0, 0) := (congrArg (fun t => List.lookup 6 t) gt248).trans rfl
theorem t248_7 : zT 248 7 = some (.sipush 270, 3, 0, 0, 270, 0) := (congrArg (fun t => List.lookup 7 t) gt248).trans rfl
theorem t248_10 : zT 248 10 = some (.iconst 3, 1, 0, 0, 3, 0) := (congrArg (fun t => List.lookup 10 t) gt248).trans rfl
theorem t248_11 : zT 248 11 = some (.iload_n 2, 1, 2, 0, 0, 0) := (congrArg (fun t => List.lookup 11 t) gt248).trans rfl
theorem t248_12 : zT 248 12 = some (.imul, 1, 0, 0, 0, 0) := (congrArg (fun t => List.lookup 12 t) gt248).trans rfl
theorem t248_13 : zT 248 13 = some (.iadd, 1, 0, 0, 0, 0) := (congrArg (fun t => List.lookup 13 t) gt248).trans rfl
theorem t248_14 : zT 248 14 = some (.istore_n 3, 1, 3, 0, 0, 0) := (congrArg (fun t => List.lookup 14 t) gt248).trans rfl
theorem t248_15 : zT 248 15 = some (.aload_n 0, 1, 0, 0, 0, 0) := (congrArg (fun t => List.lookup 15 t) gt248).trans rfl
theorem t248_16 : zT 248 16 = some (.iload_n 3, 1, 3, 0, 0, 0) := (congrArg (fun t => List.lookup 16 t) gt248).trans rfl
theorem t248_17 : zT 248 17 = some (.sipush (-9999), 3, 0, 0, (-9999), 0) := (congrArg (fun t => List.lookup 17 t) gt248).trans rfl
theorem t248_20 : zT 248 20 = some (.sipush 9999, 3, 0, 0, 9999, 0) := (congrArg (fun t => List.lookup 20 t) gt248).trans rfl
theorem t248_23 : zT 248 23 = some (.bipush 44, 2, 0, 0, 44, 0) := (congrArg (fun t => List.lookup 23 t) gt248).trans rfl
theorem t248_25 : zT 248 25 = some (.invokevirtual 170, 3, 242, 0, 0, 1829) := (congrArg (fun t => List.lookup 25 t) gt248).trans rfl
theorem t248_28 : zT 248 28 = some (.ifCond .eq 29, 3, 57, 0, 0, 0) := (congrArg (fun t => List.lookup 28 t) gt248).trans rfl
theorem t248_31 : zT 248 31 = some (.aload_n 0, 1, 0, 0, 0, 0) := (congrArg (fun t => List.lookup 31 t) gt248).trans rfl
theorem t248_32 : zT 248 32 = some (.iload_n 3, 1, 3, 0, 0, 0) := (congrArg (fun t => List.lookup 32 t) gt248).trans rfl
theorem t248_33 : zT 248 33 = some (.iconst 1, 1, 0, 0, 1, 0) := (congrArg (fun t => List.lookup 33 t) gt248).trans rfl
theorem t248_34 : zT 248 34 = some (.iadd, 1, 0, 0, 0, 0) := (congrArg (fun t => List.lookup 34 t) gt248).trans rfl
theorem t248_35 : zT 248 35 = some (.bipush (-50), 2, 0, 0, (-50), 0) := (congrArg (fun t => List.lookup 35 t) gt248).trans rfl
theorem t248_37 : zT 248 37 = some (.bipush 50, 2, 0, 0, 50, 0) := (congrArg (fun t => List.lookup 37 t) gt248).trans rfl
theorem t248_39 : zT 248 39 = some (.bipush 44, 2, 0, 0, 44, 0) := (congrArg (fun t => List.lookup 39 t) gt248).trans rfl
theorem t248_41 : zT 248 41 = some (.invokevirtual 170, 3, 242, 0, 0, 1829) := (congrArg (fun t => List.lookup 41 t) gt248).trans rfl
theorem t248_44 : zT 248 44 = some (.ifCond .eq 13, 3, 57, 0, 0, 0) := (congrArg (fun t => List.lookup 44 t) gt248).trans rfl
theorem t248_47 : zT 248 47 = some (.aload_n 0, 1, 0, 0, 0, 0) := (congrArg (fun t => List.lookup 47 t) gt248).trans rfl
theorem t248_48 : zT 248 48 = some (.bipush (-5), 2, 0, 0, (-5), 0) := (congrArg (fun t => List.lookup 48 t) gt248).trans rfl
theorem t248_50 : zT 248 50 = some (.iconst 5, 1, 0, 0, 5, 0) := (congrArg (fun t => List.lookup 50 t) gt248).trans rfl
theorem t248_51 : zT 248 51 = some (.invokevirtual 147, 3, 243, 0, 0, 1833) := (congrArg (fun t => List.lookup 51 t) gt248).trans rfl
theorem t248_54 : zT 248 54 = some (.ifCond .ne 5, 3, 59, 0, 0, 0) := (congrArg (fun t => List.lookup 54 t) gt248).trans rfl
theorem t248_57 : zT 248 57 = some (.iconst 0, 1, 0, 0, 0, 0) := (congrArg (fun t => List.lookup 57 t) gt248).trans rfl
theorem t248_58 : zT 248 58 = some (.ireturn, 1, 0, 0, 0, 0) := (congrArg (fun t => List.lookup 58 t) gt248).trans rfl
theorem t248_59 : zT 248 59 = some (.aload_n 0, 1, 0, 0, 0, 0) := (congrArg (fun t => List.lookup 59 t) gt248).trans rfl
theorem t248_60 : zT 248 60 = some (.getfield 3, 3, 12, 0, 0, 1607) := (congrArg (fun t => List.lookup 60 t) gt248).trans rfl
theorem t248_63 : zT 248 63 = some (.iload_n 3, 1, 3, 0, 0, 0) := (congrArg (fun t => List.lookup 63 t) gt248).trans rfl
theorem t248_64 : zT 248 64 = some (.iconst 2, 1, 0, 0, 2, 0) := (congrArg (fun t => List.lookup 64 t) gt248).trans rfl
theorem t248_65 : zT 248 65 = some (.iadd, 1, 0, 0, 0, 0) := (congrArg (fun t => List.lookup 65 t) gt248).trans rfl
theorem t248_66 : zT 248 66 = some (.aload_n 0, 1, 0, 0, 0, 0) := (congrArg (fun t => List.lookup 66 t) gt248).trans rfl
theorem t248_67 : zT 248 67 = some (.getfield 137, 3, 12, 8, 0, 1615) := (congrArg (fun t => List.lookup 67 t) gt248).trans rfl
theorem t248_70 : zT 248 70 = some (.iastore, 1, 0, 0, 0, 0) := (congrArg (fun t => List.lookup 70 t) gt248).trans rfl
theorem t248_71 : zT 248 71 = some (.iconst 0, 1, 0, 0, 0, 0) := (congrArg (fun t => List.lookup 71 t) gt248).trans rfl
theorem t248_72 : zT 248 72 = some (.istore 4, 2, 0, 0, 0, 0) := (congrArg (fun t => List.lookup 72 t) gt248).trans rfl
theorem t248_74 : zT 248 74 = some (.iload 4, 2, 0, 0, 0, 0) := (congrArg (fun t => List.lookup 74 t) gt248).trans rfl
theorem t248_76 : zT 248 76 = some (.aload_n 0, 1, 0, 0, 0, 0) := (congrArg (fun t => List.lookup 76 t) gt248).trans rfl
theorem t248_77 : zT 248 77 = some (.getfield 3, 3, 12, 0, 0, 1607) := (congrArg (fun t => List.lookup 77 t) gt248).trans rfl
theorem t248_80 : zT 248 80 = some (.iconst 0, 1, 0, 0, 0, 0) := (congrArg (fun t => List.lookup 80 t) gt248).trans rfl
theorem t248_81 : zT 248 81 = some (.iaload, 1, 0, 0, 0, 0) := (congrArg (fun t => List.lookup 81 t) gt248).trans rfl
theorem t248_82 : zT 248 82 = some (.if_icmp .ge 93, 3, 175, 0, 0, 0) := (congrArg (fun t => List.lookup 82 t) gt248).trans rfl
theorem t248_85 : zT 248 85 = some (.aload_n 0, 1, 0, 0, 0, 0) := (congrArg (fun t => List.lookup 85 t) gt248).trans rfl
theorem t248_86 : zT 248 86 = some (.getfield 3, 3, 12, 0, 0, 1607) := (congrArg (fun t => List.lookup 86 t) gt248).trans rfl
theorem t248_89 : zT 248 89 = some (.iload_n 3, 1, 3, 0, 0, 0) := (congrArg (fun t => List.lookup 89 t) gt248).trans rfl
theorem t248_90 : zT 248 90 = some (.iaload, 1, 0, 0, 0, 0) := (congrArg (fun t => List.lookup 90 t) gt248).trans rfl
theorem t248_91 : zT 248 91 = some (.aload_n 0, 1, 0, 0, 0, 0) := (congrArg (fun t => List.lookup 91 t) gt248).trans rfl
theorem t248_92 : zT 248 92 = some (.iload 4, 2, 0, 0, 0, 0) := (congrArg (fun t => List.lookup 92 t) gt248).trans rfl
theorem t248_94 : zT 248 94 = some (.aload_n 0, 1, 0, 0, 0, 0) := (congrArg (fun t => List.lookup 94 t) gt248).trans rfl
theorem t248_95 : zT 248 95 = some (.getfield 3, 3, 12, 0, 0, 1607) := (congrArg (fun t => List.lookup 95 t) gt248).trans rfl
theorem t248_98 : zT 248 98 = some (.iload_n 3, 1, 3, 0, 0, 0) := (congrArg (fun t => List.lookup 98 t) gt248).trans rfl
theorem t248_99 : zT 248 99 = some (.iconst 1, 1, 0, 0, 1, 0) := (congrArg (fun t => List.lookup 99 t) gt248).trans rfl
theorem t248_100 : zT 248 100 = some (.iadd, 1, 0, 0, 0, 0) := (congrArg (fun t => List.lookup 100 t) gt248).trans rfl
theorem t248_101 : zT 248 101 = some (.iaload, 1, 0, 0, 0, 0) := (congrArg (fun t => List.lookup 101 t) gt248).trans rfl
theorem t248_102 : zT 248 102 = some (.aload_n 0, 1, 0, 0, 0, 0) := (congrArg (fun t => List.lookup 102 t) gt248).trans rfl
theorem t248_103 : zT 248 103 = some (.getfield 3, 3, 12, 0, 0, 1607) := (congrArg (fun t => List.lookup 103 t) gt248).trans rfl
theorem t248_106 : zT 248 106 = some (.iload_n 3, 1, 3, 0, 0, 0) := (congrArg (fun t => List.lookup 106 t) gt248).trans rfl
theorem t248_107 : zT 248 107 = some (.iconst 2, 1, 0, 0, 2, 0) := (congrArg (fun t => List.lookup 107 t) gt248).trans rfl
theorem t248_108 : zT 248 108 = some (.iadd, 1, 0, 0, 0, 0) := (congrArg (fun t => List.lookup 108 t) gt248).trans rfl
theorem t248_109 : zT 248 109 = some (.iaload, 1, 0, 0, 0, 0) := (congrArg (fun t => List.lookup 109 t) gt248).trans rfl
theorem t248_110 : zT 248 110 = some (.invokevirtual 173, 3, 249, 0, 0, 1856) := (congrArg (fun t => List.lookup 110 t) gt248).trans rfl
theorem t248_113 : zT 248 113 = some (.iadd, 1, 0, 0, 0, 0) := (congrArg (fun t => List.lookup 113 t) gt248).trans rfl
theorem t248_114 : zT 248 114 = some (.istore 5, 2, 0, 0, 0, 0) := (congrArg (fun t => List.lookup 114 t) gt248).trans (by decide +kernel)
theorem t248_116 : zT 248 116 = some (.iload 5, 2, 0, 0, 0, 0) := (congrArg (fun t => List.lookup 116 t) gt248).trans (by decide +kernel)
theorem t248_118 : zT 248 118 = some (.i2l, 1, 0, 0, 0, 0) := (congrArg (fun t => List.lookup 118 t) gt248).trans (by decide +kernel)
theorem t248_119 : zT 248 119 = some (.ldc2_w 177, 3, 1, 0, (-9999), 1869) := (congrArg (fun t => List.lookup 119 t) gt248).trans (by decide +kernel)
theorem t248_122 : zT 248 122 = some (.ldc2_w 179, 3, 1, 0, 9999, 1870) := (congrArg (fun t => List.lookup 122 t) gt248).trans (by decide +kernel)
theorem t248_125 : zT 248 125 = some (.invokestatic 112, 3, 228, 1, 0, 1774) := (congrArg (fun t => List.lookup 125 t) gt248).trans (by decide +kernel)
theorem t248_128 : zT 248 128 = some (.ifCond .ne 6, 3, 134, 0, 0, 0) := (congrArg (fun t => List.lookup 128 t) gt248).trans (by decide +kernel)
theorem t248_131 : zT 248 131 = some (.goto 38, 3, 169, 0, 0, 0) := (congrArg (fun t => List.lookup 131 t) gt248).trans (by decide +kernel)
theorem t248_134 : zT 248 134 = some (.aload_n 0, 1, 0, 0, 0, 0) := (congrArg (fun t => List.lookup 134 t) gt248).trans (by decide +kernel)
theorem t248_135 : zT 248 135 = some (.getfield 3, 3, 12, 0, 0, 1607) := (congrArg (fun t => List.lookup 135 t) gt248).trans (by decide +kernel)
theorem t248_138 : zT 248 138 = some (.iconst 1, 1, 0, 0, 1, 0) := (congrArg (fun t => List.lookup 138 t) gt248).trans (by decide +kernel)
theorem t248_139 : zT 248 139 = some (.iaload, 1, 0, 0, 0, 0) := (congrArg (fun t => List.lookup 139 t) gt248).trans (by decide +kernel)
theorem t248_140 : zT 248 140 = some (.bipush 60, 2, 0, 0, 60, 0) := (congrArg (fun t => List.lookup 140 t) gt248).trans (by decide +kernel)
theorem t248_142 : zT 248 142 = some (.if_icmp .ne 9, 3, 151, 0, 0, 0) := (congrArg (fun t => List.lookup 142 t) gt248).trans (by decide +kernel)
theorem t248_145 : zT 248 145 = some (.aload_n 0, 1, 0, 0, 0, 0) := (congrArg (fun t => List.lookup 145 t) gt248).trans (by decide +kernel)
theorem t248_146 : zT 248 146 = some (.iload_n 1, 1, 1, 0, 0, 0) := (congrArg (fun t => List.lookup 146 t) gt248).trans (by decide +kernel)
theorem t248_147 : zT 248 147 = some (.invokevirtual 133, 3, 239, 0, 0, 1817) := (congrArg (fun t => List.lookup 147 t) gt248).trans (by decide +kernel)
theorem t248_150 : zT 248 150 = some (.ireturn, 1, 0, 0, 0, 0) := (congrArg (fun t => List.lookup 150 t) gt248).trans (by decide +kernel)
theorem t248_151 : zT 248 151 = some (.aload_n 0, 1, 0, 0, 0, 0) := (congrArg (fun t => List.lookup 151 t) gt248).trans (by decide +kernel)
theorem t248_152 : zT 248 152 = some (.iload 4, 2, 0, 0, 0, 0) := (congrArg (fun t => List.lookup 152 t) gt248).trans (by decide +kernel)
theorem t248_154 : zT 248 154 = some (.iload 5, 2, 0, 0, 0, 0) := (congrArg (fun t => List.lookup 154 t) gt248).trans (by decide +kernel)
theorem t248_156 : zT 248 156 = some (.aload_n 0, 1, 0, 0, 0, 0) := (congrArg (fun t => List.lookup 156 t) gt248).trans (by decide +kernel)
theorem t248_157 : zT 248 157 = some (.iload 4, 2, 0, 0, 0, 0) := (congrArg (fun t => List.lookup 157 t) gt248).trans (by decide +kernel)
theorem t248_159 : zT 248 159 = some (.invokevirtual 154, 3, 241, 0, 0, 1825) := (congrArg (fun t => List.lookup 159 t) gt248).trans (by decide +kernel)
theorem t248_162 : zT 248 162 = some (.bipush 10, 2, 0, 0, 10, 0) := (congrArg (fun t => List.lookup 162 t) gt248).trans (by decide +kernel)
theorem t248_164 : zT 248 164 = some (.idiv, 1, 0, 0, 0, 0) := (congrArg (fun t => List.lookup 164 t) gt248).trans (by decide +kernel)
theorem t248_165 : zT 248 165 = some (.iload_n 2, 1, 2, 0, 0, 0) := (congrArg (fun t => List.lookup 165 t) gt248).trans (by decide +kernel)
theorem t248_166 : zT 248 166 = some (.invokevirtual 181, 3, 252, 0, 0, 1871) := (congrArg (fun t => List.lookup 166 t) gt248).trans (by decide +kernel)
theorem t248_169 : zT 248 169 = some (.iinc 4 1, 3, 0, 0, 0, 0) := (congrArg (fun t => List.lookup 169 t) gt248).trans (by decide +kernel)
theorem t248_172 : zT 248 172 = some (.goto (-98), 3, 74, 0, 0, 0) := (congrArg (fun t => List.lookup 172 t) gt248).trans (by decide +kernel)
theorem t248_175 : zT 248 175 = some (.aload_n 0, 1, 0, 0, 0, 0) := (congrArg (fun t => List.lookup 175 t) gt248).trans (by decide +kernel)
theorem t248_176 : zT 248 176 = some (.getfield 3, 3, 12, 0, 0, 1607) := (congrArg (fun t => List.lookup 176 t) gt248).trans (by decide +kernel)
theorem t248_179 : zT 248 179 = some (.iconst 2, 1, 0, 0, 2, 0) := (congrArg (fun t => List.lookup 179 t) gt248).trans (by decide +kernel)
theorem t248_180 : zT 248 180 = some (.dup2, 1, 0, 0, 0, 0) := (congrArg (fun t => List.lookup 180 t) gt248).trans (by decide +kernel)
theorem t248_181 : zT 248 181 = some (.iaload, 1, 0, 0, 0, 0) := (congrArg (fun t => List.lookup 181 t) gt248).trans (by decide +kernel)
theorem t248_182 : zT 248 182 = some (.iconst 1, 1, 0, 0, 1, 0) := (congrArg (fun t => List.lookup 182 t) gt248).trans (by decide +kernel)
theorem t248_183 : zT 248 183 = some (.iadd, 1, 0, 0, 0, 0) := (congrArg (fun t => List.lookup 183 t) gt248).trans (by decide +kernel)
theorem t248_184 : zT 248 184 = some (.iastore, 1, 0, 0, 0, 0) := (congrArg (fun t => List.lookup 184 t) gt248).trans (by decide +kernel)
theorem t248_185 : zT 248 185 = some (.aload_n 0, 1, 0, 0, 0, 0) := (congrArg (fun t => List.lookup 185 t) gt248).trans (by decide +kernel)
theorem t248_186 : zT 248 186 = some (.bipush 59, 2, 0, 0, 59, 0) := (congrArg (fun t => List.lookup 186 t) gt248).trans (by decide +kernel)
theorem t248_188 : zT 248 188 = some (.invokevirtual 151, 3, 246, 0, 0, 1844) := (congrArg (fun t => List.lookup 188 t) gt248).trans (by decide +kernel)
theorem t248_191 : zT 248 191 = some (.ireturn, 1, 0, 0, 0, 0) := (congrArg (fun t => List.lookup 191 t) gt248).trans (by decide +kernel)
theorem t249_0 : zT 249 0 = some (.iload_n 2, 1, 2, 0, 0, 0) := (congrArg (fun t => List.lookup 0 t) gt249).trans rfl
theorem t249_1 : zT 249 1 = some (.i2l, 1, 0, 0, 0, 0) := (congrArg (fun t => List.lookup 1 t) gt249).trans rfl
theorem t249_2 : zT 249 2 = some (.aload_n 0, 1, 0, 0, 0, 0) := (congrArg (fun t => List.lookup 2 t) gt249).trans rfl
theorem t249_3 : zT 249 3 = some (.iload_n 1, 1, 1, 0, 0, 0) := (congrArg (fun t => List.lookup 3 t) gt249).trans rfl
theorem t249_4 : zT 249 4 = some (.invokevirtual 154, 3, 241, 0, 0, 1825) := (congrArg (fun t => List.lookup 4 t) gt249).trans rfl
theorem t249_7 : zT 249 7 = some (.i2l, 1, 0, 0, 0, 0) := (congrArg (fun t => List.lookup 7 t) gt249).trans rfl
theorem t249_8 : zT 249 8 = some (.lmul, 1, 0, 0, 0, 0) := (congrArg (fun t => List.lookup 8 t) gt249).trans rfl
theorem t249_9 : zT 249 9 = some (.ldc2_w 164, 3, 1, 0, 100, 1860) := (congrArg (fun t => List.lookup 9 t) gt249).trans rfl
theorem t249_12 : zT 249 12 = some (.invokestatic 160, 3, 250, 1, 0, 1861) := (congrArg (fun t => List.lookup 12 t) gt249).trans rfl
theorem t249_15 : zT 249 15 = some (.aload_n 0, 1, 0, 0, 0, 0) := (congrArg (fun t => List.lookup 15 t) gt249).trans rfl
theorem t249_16 : zT 249 16 = some (.iload_n 1, 1, 1, 0, 0, 0) := (congrArg (fun t => List.lookup 16 t) gt249).trans rfl
theorem t249_17 : zT 249 17 = some (.iload_n 3, 1, 3, 0, 0, 0) := (congrArg (fun t => List.lookup 17 t) gt249).trans rfl
theorem t249_18 : zT 249 18 = some (.invokevirtual 166, 3, 251, 0, 0, 1864) := (congrArg (fun t => List.lookup 18 t) gt249).trans rfl
theorem t249_21 : zT 249 21 = some (.iadd, 1, 0, 0, 0, 0) := (congrArg (fun t => List.lookup 21 t) gt249).trans rfl
theorem t249_22 : zT 249 22 = some (.ireturn, 1, 0, 0, 0, 0) := (congrArg (fun t => List.lookup 22 t) gt249).trans rfl
theorem t250_0 : zT 250 0 = some (.lload_n 0, 1, 0, 0, 0, 0) := (congrArg (fun t => List.lookup 0 t) gt250).trans rfl
theorem t250_1 : zT 250 1 = some (.lconst 0, 1, 0, 0, 0, 0) := (congrArg (fun t => List.lookup 1 t) gt250).trans rfl
theorem t250_2 : zT 250 2 = some (.lcmp, 1, 0, 0, 0, 0) := (congrArg (fun t => List.lookup 2 t) gt250).trans rfl
theorem t250_3 : zT 250 3 = some (.ifCond .lt 9, 3, 12, 0, 0, 0) := (congrArg (fun t => List.lookup 3 t) gt250).trans rfl
theorem t250_6 : zT 250 6 = some (.lload_n 0, 1, 0, 0, 0, 0) := (congrArg (fun t => List.lookup 6 t) gt250).trans rfl
theorem t250_7 : zT 250 7 = some (.lload_n 2, 1, 2, 0, 0, 0) := (congrArg (fun t => List.lookup 7 t) gt250).trans rfl
theorem t250_8 : zT 250 8 = some (.ldiv, 1, 0, 0, 0, 0) := (congrArg (fun t => List.lookup 8 t) gt250).trans rfl
theorem t250_9 : zT 250 9 = some (.goto 12, 3, 21, 0, 0, 0) := (congrArg (fun t => List.lookup 9 t) gt250).trans rfl
theorem t250_12 : zT 250 12 = some (.lload_n 0, 1, 0, 0, 0, 0) := (congrArg (fun t => List.lookup 12 t) gt250).trans rfl
theorem t250_13 : zT 250 13 = some (.lneg, 1, 0, 0, 0, 0) := (congrArg (fun t => List.lookup 13 t) gt250).trans rfl
theorem t250_14 : zT 250 14 = some (.lload_n 2, 1, 2, 0, 0, 0) := (congrArg (fun t => List.lookup 14 t) gt250).trans rfl
theorem t250_15 : zT 250 15 = some (.ladd, 1, 0, 0, 0, 0) := (congrArg (fun t => List.lookup 15 t) gt250).trans rfl
theorem t250_16 : zT 250 16 = some (.lconst 1, 1, 0, 0, 1, 0) := (congrArg (fun t => List.lookup 16 t) gt250).trans rfl
theorem t250_17 : zT 250 17 = some (.lsub, 1, 0, 0, 0, 0) := (congrArg (fun t => List.lookup 17 t) gt250).trans rfl
theorem t250_18 : zT 250 18 = some (.lload_n 2, 1, 2, 0, 0, 0) := (congrArg (fun t => List.lookup 18 t) gt250).trans rfl
theorem t250_19 : zT 250 19 = some (.ldiv, 1, 0, 0, 0, 0) := (congrArg (fun t => List.lookup 19 t) gt250).trans rfl
theorem t250_20 : zT 250 20 = some (.lneg, 1, 0, 0, 0, 0) := (congrArg (fun t => List.lookup 20 t) gt250).trans rfl
theorem t250_21 : zT 250 21 = some (.l2i, 1, 0, 0, 0, 0) := (congrArg (fun t => List.lookup 21 t) gt250).trans rfl
theorem t250_22 : zT 250 22 = some (.ireturn, 1, 0, 0, 0, 0) := (congrArg (fun t => List.lookup 22 t) gt250).trans rfl
theorem t251_0 : zT 251 0 = some (.iload_n 2, 1, 2, 0, 0, 0) := (congrArg (fun t => List.lookup 0 t) gt251).trans rfl
theorem t251_1 : zT 251 1 = some (.i2l, 1, 0, 0, 0, 0) := (congrArg (fun t => List.lookup 1 t) gt251).trans rfl
theorem t251_2 : zT 251 2 = some (.aload_n 0, 1, 0, 0, 0, 0) := (congrArg (fun t => List.lookup 2 t) gt251).trans rfl
theorem t251_3 : zT 251 3 = some (.iload_n 1, 1, 1, 0, 0, 0) := (congrArg (fun t => List.lookup 3 t) gt251).trans rfl
theorem t251_4 : zT 251 4 = some (.invokevirtual 154, 3, 241, 0, 0, 1825) := (congrArg (fun t => List.lookup 4 t) gt251).trans rfl
theorem t251_7 : zT 251 7 = some (.i2l, 1, 0, 0, 0, 0) := (congrArg (fun t => List.lookup 7 t) gt251).trans rfl
theorem t251_8 : zT 251 8 = some (.lmul, 1, 0, 0, 0, 0) := (congrArg (fun t => List.lookup 8 t) gt251).trans rfl
theorem t251_9 : zT 251 9 = some (.aload_n 0, 1, 0, 0, 0, 0) := (congrArg (fun t => List.lookup 9 t) gt251).trans rfl
theorem t251_10 : zT 251 10 = some (.iload_n 1, 1, 1, 0, 0, 0) := (congrArg (fun t => List.lookup 10 t) gt251).trans rfl
theorem t251_11 : zT 251 11 = some (.invokevirtual 154, 3, 241, 0, 0, 1825) := (congrArg (fun t => List.lookup 11 t) gt251).trans rfl
theorem t251_14 : zT 251 14 = some (.i2l, 1, 0, 0, 0, 0) := (congrArg (fun t => List.lookup 14 t) gt251).trans rfl
theorem t251_15 : zT 251 15 = some (.lmul, 1, 0, 0, 0, 0) := (congrArg (fun t => List.lookup 15 t) gt251).trans rfl
theorem t251_16 : zT 251 16 = some (.ldc2_w 158, 3, 1, 0, 10000, 1868) := (congrArg (fun t => List.lookup 16 t) gt251).trans rfl
theorem t251_19 : zT 251 19 = some (.invokestatic 160, 3, 250, 1, 0, 1861) := (congrArg (fun t => List.lookup 19 t) gt251).trans rfl
theorem t251_22 : zT 251 22 = some (.ireturn, 1, 0, 0, 0, 0) := (congrArg (fun t => List.lookup 22 t) gt251).trans rfl
theorem t252_0 : zT 252 0 = some (.bipush 30, 2, 0, 0, 30, 0) := (congrArg (fun t => List.lookup 0 t) gt252).trans rfl
theorem t252_2 : zT 252 2 = some (.iconst 4, 1, 0, 0, 4, 0) := (congrArg (fun t => List.lookup 2 t) gt252).trans rfl
theorem t252_3 : zT 252 3 = some (.aload_n 0, 1, 0, 0, 0, 0) := (congrArg (fun t => List.lookup 3 t) gt252).trans rfl
theorem t252_4 : zT 252 4 = some (.getfield 3, 3, 12, 0, 0, 1607) := (congrArg (fun t => List.lookup 4 t) gt252).trans rfl
theorem t252_7 : zT 252 7 = some (.iconst 1, 1, 0, 0, 1, 0) := (congrArg (fun t => List.lookup 7 t) gt252).trans rfl
theorem t252_8 : zT 252 8 = some (.iaload, 1, 0, 0, 0, 0) := (congrArg (fun t => List.lookup 8 t) gt252).trans rfl
theorem t252_9 : zT 252 9 = some (.imul, 1, 0, 0, 0, 0) := (congrArg (fun t => List.lookup 9 t) gt252).trans rfl
theorem t252_10 : zT 252 10 = some (.iadd, 1, 0, 0, 0, 0) := (congrArg (fun t => List.lookup 10 t) gt252).trans rfl
theorem t252_11 : zT 252 11 = some (.istore 5, 2, 0, 0, 0, 0) := (congrArg (fun t => List.lookup 11 t) gt252).trans rfl
theorem t252_13 : zT 252 13 = some (.aload_n 0, 1, 0, 0, 0, 0) := (congrArg (fun t => List.lookup 13 t) gt252).trans rfl
theorem t252_14 : zT 252 14 = some (.getfield 3, 3, 12, 0, 0, 1607) := (congrArg (fun t => List.lookup 14 t) gt252).trans rfl
theorem t252_17 : zT 252 17 = some (.iload 5, 2, 0, 0, 0, 0) := (congrArg (fun t => List.lookup 17 t) gt252).trans rfl
theorem t252_19 : zT 252 19 = some (.iload_n 1, 1, 1, 0, 0, 0) := (congrArg (fun t => List.lookup 19 t) gt252).trans rfl
theorem t252_20 : zT 252 20 = some (.iastore, 1, 0, 0, 0, 0) := (congrArg (fun t => List.lookup 20 t) gt252).trans rfl
theorem t252_21 : zT 252 21 = some (.aload_n 0, 1, 0, 0, 0, 0) := (congrArg (fun t => List.lookup 21 t) gt252).trans rfl
theorem t252_22 : zT 252 22 = some (.getfield 3, 3, 12, 0, 0, 1607) := (congrArg (fun t => List.lookup 22 t) gt252).trans rfl
theorem t252_25 : zT 252 25 = some (.iload 5, 2, 0, 0, 0, 0) := (congrArg (fun t => List.lookup 25 t) gt252).trans rfl
theorem t252_27 : zT 252 27 = some (.iconst 1, 1, 0, 0, 1, 0) := (congrArg (fun t => List.lookup 27 t) gt252).trans rfl
theorem t252_28 : zT 252 28 = some (.iadd, 1, 0, 0, 0, 0) := (congrArg (fun t => List.lookup 28 t) gt252).trans rfl
theorem t252_29 : zT 252 29 = some (.iload_n 2, 1, 2, 0, 0, 0) := (congrArg (fun t => List.lookup 29 t) gt252).trans rfl
theorem t252_30 : zT 252 30 = some (.iastore, 1, 0, 0, 0, 0) := (congrArg (fun t => List.lookup 30 t) gt252).trans rfl
theorem t252_31 : zT 252 31 = some (.aload_n 0, 1, 0, 0, 0, 0) := (congrArg (fun t => List.lookup 31 t) gt252).trans rfl
theorem t252_32 : zT 252 32 = some (.getfield 3, 3, 12, 0, 0, 1607) := (congrArg (fun t => List.lookup 32 t) gt252).trans rfl
theorem t252_35 : zT 252 35 = some (.iload 5, 2, 0, 0, 0, 0) := (congrArg (fun t => List.lookup 35 t) gt252).trans rfl
theorem t252_37 : zT 252 37 = some (.iconst 2, 1, 0, 0, 2, 0) := (congrArg (fun t => List.lookup 37 t) gt252).trans rfl
theorem t252_38 : zT 252 38 = some (.iadd, 1, 0, 0, 0, 0) := (congrArg (fun t => List.lookup 38 t) gt252).trans rfl
theorem t252_39 : zT 252 39 = some (.iload_n 3, 1, 3, 0, 0, 0) := (congrArg (fun t => List.lookup 39 t) gt252).trans rfl
theorem t252_40 : zT 252 40 = some (.iastore, 1, 0, 0, 0, 0) := (congrArg (fun t => List.lookup 40 t) gt252).trans rfl
theorem t252_41 : zT 252 41 = some (.aload_n 0, 1, 0, 0, 0, 0) := (congrArg (fun t => List.lookup 41 t) gt252).trans rfl
theorem t252_42 : zT 252 42 = some (.getfield 3, 3, 12, 0, 0, 1607) := (congrArg (fun t => List.lookup 42 t) gt252).trans rfl
theorem t252_45 : zT 252 45 = some (.iload 5, 2, 0, 0, 0, 0) := (congrArg (fun t => List.lookup 45 t) gt252).trans rfl
theorem t252_47 : zT 252 47 = some (.iconst 3, 1, 0, 0, 3, 0) := (congrArg (fun t => List.lookup 47 t) gt252).trans rfl
theorem t252_48 : zT 252 48 = some (.iadd, 1, 0, 0, 0, 0) := (congrArg (fun t => List.lookup 48 t) gt252).trans rfl
theorem t252_49 : zT 252 49 = some (.iload 4, 2, 0, 0, 0, 0) := (congrArg (fun t => List.lookup 49 t) gt252).trans rfl
theorem t252_51 : zT 252 51 = some (.iastore, 1, 0, 0, 0, 0) := (congrArg (fun t => List.lookup 51 t) gt252).trans rfl
theorem t252_52 : zT 252 52 = some (.aload_n 0, 1, 0, 0, 0, 0) := (congrArg (fun t => List.lookup 52 t) gt252).trans rfl
theorem t252_53 : zT 252 53 = some (.getfield 3, 3, 12, 0, 0, 1607) := (congrArg (fun t => List.lookup 53 t) gt252).trans rfl
theorem t252_56 : zT 252 56 = some (.iconst 1, 1, 0, 0, 1, 0) := (congrArg (fun t => List.lookup 56 t) gt252).trans rfl
theorem t252_57 : zT 252 57 = some (.dup2, 1, 0, 0, 0, 0) := (congrArg (fun t => List.lookup 57 t) gt252).trans rfl
theorem t252_58 : zT 252 58 = some (.iaload, 1, 0, 0, 0, 0) := (congrArg (fun t => List.lookup 58 t) gt252).trans rfl
theorem t252_59 : zT 252 59 = some (.iconst 1, 1, 0, 0, 1, 0) := (congrArg (fun t => List.lookup 59 t) gt252).trans rfl
theorem t252_60 : zT 252 60 = some (.iadd, 1, 0, 0, 0, 0) := (congrArg (fun t => List.lookup 60 t) gt252).trans rfl
theorem t252_61 : zT 252 61 = some (.iastore, 1, 0, 0, 0, 0) := (congrArg (fun t => List.lookup 61 t) gt252).trans rfl
theorem t252_62 : zT 252 62 = some (.return_, 1, 0, 0, 0, 0) := (congrArg (fun t => List.lookup 62 t) gt252).trans rfl
theorem t253_0 : zT 253 0 = some (.aload_n 0, 1, 0, 0, 0, 0) := (congrArg (fun t => List.lookup 0 t) gt253).trans rfl
theorem t253_1 : zT 253 1 = some (.iconst 0, 1, 0, 0, 0, 0) := (congrArg (fun t => List.lookup 1 t) gt253).trans rfl
theorem t253_2 : zT 253 2 = some (.putfield 120, 3, 12, 5, 0, 1612) := (congrArg (fun t => List.lookup 2 t) gt253).trans rfl
theorem t253_5 : zT 253 5 = some (.aload_n 0, 1, 0, 0, 0, 0) := (congrArg (fun t => List.lookup 5 t) gt253).trans rfl
theorem t253_6 : zT 253 6 = some (.getfield 21, 3, 12, 7, 0, 1614) := (congrArg (fun t => List.lookup 6 t) gt253).trans rfl
theorem t253_9 : zT 253 9 = some (.iconst (-1), 1, 0, 0, (-1), 0) := (congrArg (fun t => List.lookup 9 t) gt253).trans rfl
theorem t253_10 : zT 253 10 = some (.if_icmp .ne 7, 3, 17, 0, 0, 0) := (congrArg (fun t => List.lookup 10 t) gt253).trans rfl
theorem t253_13 : zT 253 13 = some (.iconst 1, 1, 0, 0, 1, 0) := (congrArg (fun t => List.lookup 13 t) gt253).trans rfl
theorem t253_14 : zT 253 14 = some (.goto 4, 3, 18, 0, 0, 0) := (congrArg (fun t => List.lookup 14 t) gt253).trans rfl
theorem t253_17 : zT 253 17 = some (.iconst 0, 1, 0, 0, 0, 0) := (congrArg (fun t => List.lookup 17 t) gt253).trans rfl
theorem t253_18 : zT 253 18 = some (.ireturn, 1, 0, 0, 0, 0) := (congrArg (fun t => List.lookup 18 t) gt253).trans rfl
theorem t260_0 : zT 260 0 = some (.iload_n 0, 1, 0, 0, 0, 0) := (congrArg (fun t => List.lookup 0 t) gt260).trans rfl
theorem t260_1 : zT 260 1 = some (.tableswitch 97 103 118 #[85, 81, 97, 97, 97, 89, 87, 79, 94, 97, 97, 97, 97, 97, 91, 83], 79, 0, 0, 0, 0) := (congrArg (fun t => List.lookup 1 t) gt260).trans rfl
theorem t260_80 : zT 260 80 = some (.iconst 0, 1, 0, 0, 0, 0) := (congrArg (fun t => List.lookup 80 t) gt260).trans rfl
theorem t260_81 : zT 260 81 = some (.ireturn, 1, 0, 0, 0, 0) := (congrArg (fun t => List.lookup 81 t) gt260).trans rfl
theorem t260_82 : zT 260 82 = some (.iconst 1, 1, 0, 0, 1, 0) := (congrArg (fun t => List.lookup 82 t) gt260).trans rfl
theorem t260_83 : zT 260 83 = some (.ireturn, 1, 0, 0, 0, 0) := (congrArg (fun t => List.lookup 83 t) gt260).trans rfl
theorem t260_84 : zT 260 84 = some (.iconst 2, 1, 0, 0, 2, 0) := (congrArg (fun t => List.lookup 84 t) gt260).trans rfl
theorem t260_85 : zT 260 85 = some (.ireturn, 1, 0, 0, 0, 0) := (congrArg (fun t => List.lookup 85 t) gt260).trans rfl
theorem t260_86 : zT 260 86 = some (.iconst 3, 1, 0, 0, 3, 0) := (congrArg (fun t => List.lookup 86 t) gt260).trans rfl
theorem t260_87 : zT 260 87 = some (.ireturn, 1, 0, 0, 0, 0) := (congrArg (fun t => List.lookup 87 t) gt260).trans rfl
theorem t260_88 : zT 260 88 = some (.iconst 4, 1, 0, 0, 4, 0) := (congrArg (fun t => List.lookup 88 t) gt260).trans rfl
theorem t260_89 : zT 260 89 = some (.ireturn, 1, 0, 0, 0, 0) := (congrArg (fun t => List.lookup 89 t) gt260).trans rfl
theorem t260_90 : zT 260 90 = some (.iconst 5, 1, 0, 0, 5, 0) := (congrArg (fun t => List.lookup 90 t) gt260).trans rfl
theorem t260_91 : zT 260 91 = some (.ireturn, 1, 0, 0, 0, 0) := (congrArg (fun t => List.lookup 91 t) gt260).trans rfl
theorem t260_92 : zT 260 92 = some (.bipush 6, 2, 0, 0, 6, 0) := (congrArg (fun t => List.lookup 92 t) gt260).trans rfl
theorem t260_94 : zT 260 94 = some (.ireturn, 1, 0, 0, 0, 0) := (congrArg (fun t => List.lookup 94 t) gt260).trans rfl
theorem t260_95 : zT 260 95 = some (.bipush 7, 2, 0, 0, 7, 0) := (congrArg (fun t => List.lookup 95 t) gt260).trans rfl
theorem t260_97 : zT 260 97 = some (.ireturn, 1, 0, 0, 0, 0) := (congrArg (fun t => List.lookup 97 t) gt260).trans rfl
theorem t260_98 : zT 260 98 = some (.iconst (-1), 1, 0, 0, (-1), 0) := (congrArg (fun t => List.lookup 98 t) gt260).trans rfl
theorem t260_99 : zT 260 99 = some (.ireturn, 1, 0, 0, 0, 0) := (congrArg (fun t => List.lookup 99 t) gt260).trans rfl
theorem t262_0 : zT 262 0 = some (.iload_n 0, 1, 0, 0, 0, 0) := (congrArg (fun t => List.lookup 0 t) gt262).trans rfl
theorem t262_1 : zT 262 1 = some (.bipush 43, 2, 0, 0, 43, 0) := (congrArg (fun t => List.lookup 1 t) gt262).trans rfl
theorem t262_3 : zT 262 3 = some (.if_icmp .eq 15, 3, 18, 0, 0, 0) := (congrArg (fun t => List.lookup 3 t) gt262).trans rfl
theorem t262_6 : zT 262 6 = some (.iload_n 0, 1, 0, 0, 0, 0) := (congrArg (fun t => List.lookup 6 t) gt262).trans rfl
theorem t262_7 : zT 262 7 = some (.bipush 45, 2, 0, 0, 45, 0) := (congrArg (fun t => List.lookup 7 t) gt262).trans rfl
theorem t262_9 : zT 262 9 = some (.if_icmp .eq 9, 3, 18, 0, 0, 0) := (congrArg (fun t => List.lookup 9 t) gt262).trans rfl
theorem t262_12 : zT 262 12 = some (.iload_n 0, 1, 0, 0, 0, 0) := (congrArg (fun t => List.lookup 12 t) gt262).trans rfl
theorem t262_13 : zT 262 13 = some (.bipush 42, 2, 0, 0, 42, 0) := (congrArg (fun t => List.lookup 13 t) gt262).trans rfl
theorem t262_15 : zT 262 15 = some (.if_icmp .ne 7, 3, 22, 0, 0, 0) := (congrArg (fun t => List.lookup 15 t) gt262).trans rfl
theorem t262_18 : zT 262 18 = some (.iconst 1, 1, 0, 0, 1, 0) := (congrArg (fun t => List.lookup 18 t) gt262).trans rfl
theorem t262_19 : zT 262 19 = some (.goto 4, 3, 23, 0, 0, 0) := (congrArg (fun t => List.lookup 19 t) gt262).trans rfl
theorem t262_22 : zT 262 22 = some (.iconst 0, 1, 0, 0, 0, 0) := (congrArg (fun t => List.lookup 22 t) gt262).trans rfl
theorem t262_23 : zT 262 23 = some (.ireturn, 1, 0, 0, 0, 0) := (congrArg (fun t => List.lookup 23 t) gt262).trans rfl
theorem t267_0 : zT 267 0 = some (.aload_n 0, 1, 0, 0, 0, 0) := (congrArg (fun t => List.lookup 0 t) gt267).trans rfl
theorem t267_1 : zT 267 1 = some (.invokevirtual 331, 3, 268, 0, 0, 1933) := (congrArg (fun t => List.lookup 1 t) gt267).trans rfl
theorem t267_4 : zT 267 4 = some (.iload_n 1, 1, 1, 0, 0, 0) := (congrArg (fun t => List.lookup 4 t) gt267).trans rfl
theorem t267_5 : zT 267 5 = some (.tableswitch 87 0 6 #[43, 48, 54, 59, 64, 77, 82], 43, 0, 0, 0, 0) := (congrArg (fun t => List.lookup 5 t) gt267).trans rfl
theorem t267_48 : zT 267 48 = some (.aload_n 0, 1, 0, 0, 0, 0) := (congrArg (fun t => List.lookup 48 t) gt267).trans rfl
theorem t267_49 : zT 267 49 = some (.getfield 261, 3, 12, 22, 0, 1629) := (congrArg (fun t => List.lookup 49 t) gt267).trans rfl
theorem t267_52 : zT 267 52 = some (.ireturn, 1, 0, 0, 0, 0) := (congrArg (fun t => List.lookup 52 t) gt267).trans rfl
theorem t267_53 : zT 267 53 = some (.aload_n 0, 1, 0, 0, 0, 0) := (congrArg (fun t => List.lookup 53 t) gt267).trans rfl
theorem t267_54 : zT 267 54 = some (.iconst (-1), 1, 0, 0, (-1), 0) := (congrArg (fun t => List.lookup 54 t) gt267).trans rfl
theorem t267_55 : zT 267 55 = some (.invokevirtual 372, 3, 290, 0, 0, 2018) := (congrArg (fun t => List.lookup 55 t) gt267).trans rfl
theorem t267_58 : zT 267 58 = some (.ireturn, 1, 0, 0, 0, 0) := (congrArg (fun t => List.lookup 58 t) gt267).trans rfl
theorem t267_59 : zT 267 59 = some (.aload_n 0, 1, 0, 0, 0, 0) := (congrArg (fun t => List.lookup 59 t) gt267).trans rfl
theorem t267_60 : zT 267 60 = some (.getfield 350, 3, 12, 37, 0, 1644) := (congrArg (fun t => List.lookup 60 t) gt267).trans rfl
theorem t267_63 : zT 267 63 = some (.ireturn, 1, 0, 0, 0, 0) := (congrArg (fun t => List.lookup 63 t) gt267).trans rfl
theorem t267_64 : zT 267 64 = some (.aload_n 0, 1, 0, 0, 0, 0) := (congrArg (fun t => List.lookup 64 t) gt267).trans rfl
theorem t267_65 : zT 267 65 = some (.getfield 354, 3, 12, 39, 0, 1646) := (congrArg (fun t => List.lookup 65 t) gt267).trans rfl
theorem t267_68 : zT 267 68 = some (.ireturn, 1, 0, 0, 0, 0) := (congrArg (fun t => List.lookup 68 t) gt267).trans rfl
theorem t267_69 : zT 267 69 = some (.aload_n 0, 1, 0, 0, 0, 0) := (congrArg (fun t => List.lookup 69 t) gt267).trans rfl
theorem t267_70 : zT 267 70 = some (.aload_n 0, 1, 0, 0, 0, 0) := (congrArg (fun t => List.lookup 70 t) gt267).trans rfl
theorem t267_71 : zT 267 71 = some (.getfield 49, 3, 12, 26, 0, 1633) := (congrArg (fun t => List.lookup 71 t) gt267).trans rfl
theorem t267_74 : zT 267 74 = some (.aload_n 0, 1, 0, 0, 0, 0) := (congrArg (fun t => List.lookup 74 t) gt267).trans rfl
theorem t267_75 : zT 267 75 = some (.getfield 261, 3, 12, 22, 0, 1629) := (congrArg (fun t => List.lookup 75 t) gt267).trans rfl
theorem t267_78 : zT 267 78 = some (.invokevirtual 401, 3, 291, 0, 0, 2022) := (congrArg (fun t => List.lookup 78 t) gt267).trans rfl
theorem t267_81 : zT 267 81 = some (.ireturn, 1, 0, 0, 0, 0) := (congrArg (fun t => List.lookup 81 t) gt267).trans rfl
theorem t267_82 : zT 267 82 = some (.aload_n 0, 1, 0, 0, 0, 0) := (congrArg (fun t => List.lookup 82 t) gt267).trans rfl
theorem t267_83 : zT 267 83 = some (.invokevirtual 369, 3, 292, 0, 0, 2026) := (congrArg (fun t => List.lookup 83 t) gt267).trans rfl
theorem t267_86 : zT 267 86 = some (.ireturn, 1, 0, 0, 0, 0) := (congrArg (fun t => List.lookup 86 t) gt267).trans rfl
theorem t267_87 : zT 267 87 = some (.aload_n 0, 1, 0, 0, 0, 0) := (congrArg (fun t => List.lookup 87 t) gt267).trans rfl
theorem t267_88 : zT 267 88 = some (.invokevirtual 405, 3, 293, 0, 0, 2030) := (congrArg (fun t => List.lookup 88 t) gt267).trans rfl
theorem t267_91 : zT 267 91 = some (.ireturn, 1, 0, 0, 0, 0) := (congrArg (fun t => List.lookup 91 t) gt267).trans rfl
theorem t267_92 : zT 267 92 = some (.aload_n 0, 1, 0, 0, 0, 0) := (congrArg (fun t => List.lookup 92 t) gt267).trans rfl
theorem t267_93 : zT 267 93 = some (.aload_n 0, 1, 0, 0, 0, 0) := (congrArg (fun t => List.lookup 93 t) gt267).trans rfl
theorem t267_94 : zT 267 94 = some (.getfield 74, 3, 12, 34, 0, 1641) := (congrArg (fun t => List.lookup 94 t) gt267).trans rfl
theorem t267_97 : zT 267 97 = some (.aload_n 0, 1, 0, 0, 0, 0) := (congrArg (fun t => List.lookup 97 t) gt267).trans rfl
theorem t267_98 : zT 267 98 = some (.getfield 350, 3, 12, 37, 0, 1644) := (congrArg (fun t => List.lookup 98 t) gt267).trans rfl
theorem t267_101 : zT 267 101 = some (.invokevirtual 401, 3, 291, 0, 0, 2022) := (congrArg (fun t => List.lookup 101 t) gt267).trans rfl
theorem t267_104 : zT 267 104 = some (.ireturn, 1, 0, 0, 0, 0) := (congrArg (fun t => List.lookup 104 t) gt267).trans rfl
theorem t268_0 : zT 268 0 = some (.aload_n 0, 1, 0, 0, 0, 0) := (congrArg (fun t => List.lookup 0 t) gt268).trans rfl
theorem t268_1 : zT 268 1 = some (.getfield 108, 3, 12, 3, 0, 1610) := (congrArg (fun t => List.lookup 1 t) gt268).trans rfl
theorem t268_4 : zT 268 4 = some (.ifCond .eq 4, 3, 8, 0, 0, 0) := (congrArg (fun t => List.lookup 4 t) gt268).trans rfl
theorem t268_7 : zT 268 7 = some (.return_, 1, 0, 0, 0, 0) := (congrArg (fun t => List.lookup 7 t) gt268).trans rfl
theorem t268_8 : zT 268 8 = some (.aload_n 0, 1, 0, 0, 0, 0) := (congrArg (fun t => List.lookup 8 t) gt268).trans rfl
theorem t268_9 : zT 268 9 = some (.aload_n 0, 1, 0, 0, 0, 0) := (congrArg (fun t => List.lookup 9 t) gt268).trans rfl
theorem t268_10 : zT 268 10 = some (.getfield 3, 3, 12, 0, 0, 1607) := (congrArg (fun t => List.lookup 10 t) gt268).trans rfl
theorem t268_13 : zT 268 13 = some (.bipush 8, 2, 0, 0, 8, 0) := (congrArg (fun t => List.lookup 13 t) gt268).trans rfl
theorem t268_15 : zT 268 15 = some (.iaload, 1, 0, 0, 0, 0) := (congrArg (fun t => List.lookup 15 t) gt268).trans rfl
theorem t268_16 : zT 268 16 = some (.iconst (-1), 1, 0, 0, (-1), 0) := (congrArg (fun t => List.lookup 16 t) gt268).trans rfl
theorem t268_17 : zT 268 17 = some (.invokevirtual 307, 3, 269, 0, 0, 1937) := (congrArg (fun t => List.lookup 17 t) gt268).trans rfl
theorem t268_20 : zT 268 20 = some (.aload_n 0, 1, 0, 0, 0, 0) := (congrArg (fun t => List.lookup 20 t) gt268).trans rfl
theorem t268_21 : zT 268 21 = some (.invokevirtual 310, 3, 282, 0, 0, 1986) := (congrArg (fun t => List.lookup 21 t) gt268).trans rfl
theorem t268_24 : zT 268 24 = some (.aload_n 0, 1, 0, 0, 0, 0) := (congrArg (fun t => List.lookup 24 t) gt268).trans rfl
theorem t268_25 : zT 268 25 = some (.invokevirtual 313, 3, 284, 0, 0, 1995) := (congrArg (fun t => List.lookup 25 t) gt268).trans rfl
theorem t268_28 : zT 268 28 = some (.aload_n 0, 1, 0, 0, 0, 0) := (congrArg (fun t => List.lookup 28 t) gt268).trans rfl
theorem t268_29 : zT 268 29 = some (.invokevirtual 316, 3, 287, 0, 0, 2006) := (congrArg (fun t => List.lookup 29 t) gt268).trans rfl
theorem t268_32 : zT 268 32 = some (.aload_n 0, 1, 0, 0, 0, 0) := (congrArg (fun t => List.lookup 32 t) gt268).trans rfl
theorem t268_33 : zT 268 33 = some (.iconst 1, 1, 0, 0, 1, 0) := (congrArg (fun t => List.lookup 33 t) gt268).trans rfl
theorem t268_34 : zT 268 34 = some (.putfield 108, 3, 12, 3, 0, 1610) := (congrArg (fun t => List.lookup 34 t) gt268).trans rfl
theorem t268_37 : zT 268 37 = some (.return_, 1, 0, 0, 0, 0) := (congrArg (fun t => List.lookup 37 t) gt268).trans rfl
theorem t269_0 : zT 269 0 = some (.aload_n 0, 1, 0, 0, 0, 0) := (congrArg (fun t => List.lookup 0 t) gt269).trans rfl
theorem t269_1 : zT 269 1 = some (.iload_n 2, 1, 2, 0, 0, 0) := (congrArg (fun t => List.lookup 1 t) gt269).trans rfl
theorem t269_2 : zT 269 2 = some (.invokevirtual 298, 3, 270, 0, 0, 1941) := (congrArg (fun t => List.lookup 2 t) gt269).trans rfl
theorem t269_5 : zT 269 5 = some (.aload_n 0, 1, 0, 0, 0, 0) := (congrArg (fun t => List.lookup 5 t) gt269).trans rfl
theorem t269_6 : zT 269 6 = some (.iconst 0, 1, 0, 0, 0, 0) := (congrArg (fun t => List.lookup 6 t) gt269).trans rfl
theorem t269_7 : zT 269 7 = some (.putfield 261, 3, 12, 22, 0, 1629) := (congrArg (fun t => List.lookup 7 t) gt269).trans rfl
theorem t269_10 : zT 269 10 = some (.iconst 1, 1, 0, 0, 1, 0) := (congrArg (fun t => List.lookup 10 t) gt269).trans rfl
theorem t269_11 : zT 269 11 = some (.istore_n 3, 1, 3, 0, 0, 0) := (congrArg (fun t => List.lookup 11 t) gt269).trans rfl
theorem t269_12 : zT 269 12 = some (.iload_n 3, 1, 3, 0, 0, 0) := (congrArg (fun t => List.lookup 12 t) gt269).trans rfl
theorem t269_13 : zT 269 13 = some (.ifCond .eq 111, 3, 124, 0, 0, 0) := (congrArg (fun t => List.lookup 13 t) gt269).trans rfl
theorem t269_16 : zT 269 16 = some (.aload_n 0, 1, 0, 0, 0, 0) := (congrArg (fun t => List.lookup 16 t) gt269).trans rfl
theorem t269_17 : zT 269 17 = some (.getfield 261, 3, 12, 22, 0, 1629) := (congrArg (fun t => List.lookup 17 t) gt269).trans rfl
theorem t269_20 : zT 269 20 = some (.bipush 20, 2, 0, 0, 20, 0) := (congrArg (fun t => List.lookup 20 t) gt269).trans rfl
theorem t269_22 : zT 269 22 = some (.if_icmp .ge 102, 3, 124, 0, 0, 0) := (congrArg (fun t => List.lookup 22 t) gt269).trans rfl
theorem t269_25 : zT 269 25 = some (.aload_n 0, 1, 0, 0, 0, 0) := (congrArg (fun t => List.lookup 25 t) gt269).trans rfl
theorem t269_26 : zT 269 26 = some (.iconst 0, 1, 0, 0, 0, 0) := (congrArg (fun t => List.lookup 26 t) gt269).trans rfl
theorem t269_27 : zT 269 27 = some (.putfield 279, 3, 12, 18, 0, 1625) := (congrArg (fun t => List.lookup 27 t) gt269).trans rfl
theorem t269_30 : zT 269 30 = some (.aload_n 0, 1, 0, 0, 0, 0) := (congrArg (fun t => List.lookup 30 t) gt269).trans rfl
theorem t269_31 : zT 269 31 = some (.getfield 3, 3, 12, 0, 0, 1607) := (congrArg (fun t => List.lookup 31 t) gt269).trans rfl
theorem t269_34 : zT 269 34 = some (.iconst 5, 1, 0, 0, 5, 0) := (congrArg (fun t => List.lookup 34 t) gt269).trans rfl
theorem t269_35 : zT 269 35 = some (.iaload, 1, 0, 0, 0, 0) := (congrArg (fun t => List.lookup 35 t) gt269).trans rfl
theorem t269_36 : zT 269 36 = some (.ineg, 1, 0, 0, 0, 0) := (congrArg (fun t => List.lookup 36 t) gt269).trans rfl
theorem t269_37 : zT 269 37 = some (.istore 4, 2, 0, 0, 0, 0) := (congrArg (fun t => List.lookup 37 t) gt269).trans rfl
theorem t269_39 : zT 269 39 = some (.iload 4, 2, 0, 0, 0, 0) := (congrArg (fun t => List.lookup 39 t) gt269).trans rfl
theorem t269_41 : zT 269 41 = some (.aload_n 0, 1, 0, 0, 0, 0) := (congrArg (fun t => List.lookup 41 t) gt269).trans rfl
theorem t269_42 : zT 269 42 = some (.getfield 3, 3, 12, 0, 0, 1607) := (congrArg (fun t => List.lookup 42 t) gt269).trans rfl
theorem t269_45 : zT 269 45 = some (.iconst 5, 1, 0, 0, 5, 0) := (congrArg (fun t => List.lookup 45 t) gt269).trans rfl
theorem t269_46 : zT 269 46 = some (.iaload, 1, 0, 0, 0, 0) := (congrArg (fun t => List.lookup 46 t) gt269).trans rfl
theorem t269_47 : zT 269 47 = some (.if_icmp .gt 45, 3, 92, 0, 0, 0) := (congrArg (fun t => List.lookup 47 t) gt269).trans rfl
theorem t269_50 : zT 269 50 = some (.aload_n 0, 1, 0, 0, 0, 0) := (congrArg (fun t => List.lookup 50 t) gt269).trans rfl
theorem t269_51 : zT 269 51 = some (.getfield 3, 3, 12, 0, 0, 1607) := (congrArg (fun t => List.lookup 51 t) gt269).trans rfl
theorem t269_54 : zT 269 54 = some (.bipush 6, 2, 0, 0, 6, 0) := (congrArg (fun t => List.lookup 54 t) gt269).trans rfl
theorem t269_56 : zT 269 56 = some (.iaload, 1, 0, 0, 0, 0) := (congrArg (fun t => List.lookup 56 t) gt269).trans rfl
theorem t269_57 : zT 269 57 = some (.ineg, 1, 0, 0, 0, 0) := (congrArg (fun t => List.lookup 57 t) gt269).trans rfl
theorem t269_58 : zT 269 58 = some (.istore 5, 2, 0, 0, 0, 0) := (congrArg (fun t => List.lookup 58 t) gt269).trans rfl
theorem t269_60 : zT 269 60 = some (.iload 5, 2, 0, 0, 0, 0) := (congrArg (fun t => List.lookup 60 t) gt269).trans rfl
theorem t269_62 : zT 269 62 = some (.aload_n 0, 1, 0, 0, 0, 0) := (congrArg (fun t => List.lookup 62 t) gt269).trans rfl
theorem t269_63 : zT 269 63 = some (.getfield 3, 3, 12, 0, 0, 1607) := (congrArg (fun t => List.lookup 63 t) gt269).trans rfl
theorem t269_66 : zT 269 66 = some (.bipush 6, 2, 0, 0, 6, 0) := (congrArg (fun t => List.lookup 66 t) gt269).trans rfl
theorem t269_68 : zT 269 68 = some (.iaload, 1, 0, 0, 0, 0) := (congrArg (fun t => List.lookup 68 t) gt269).trans rfl
theorem t269_69 : zT 269 69 = some (.if_icmp .gt 17, 3, 86, 0, 0, 0) := (congrArg (fun t => List.lookup 69 t) gt269).trans rfl
theorem t269_72 : zT 269 72 = some (.aload_n 0, 1, 0, 0, 0, 0) := (congrArg (fun t => List.lookup 72 t) gt269).trans rfl
theorem t269_73 : zT 269 73 = some (.iload 5, 2, 0, 0, 0, 0) := (congrArg (fun t => List.lookup 73 t) gt269).trans rfl
theorem t269_75 : zT 269 75 = some (.iload 4, 2, 0, 0, 0, 0) := (congrArg (fun t => List.lookup 75 t) gt269).trans rfl
theorem t269_77 : zT 269 77 = some (.invokevirtual 301, 3, 274, 0, 0, 1957) := (congrArg (fun t => List.lookup 77 t) gt269).trans rfl
theorem t269_80 : zT 269 80 = some (.iinc 5 1, 3, 0, 0, 0, 0) := (congrArg (fun t => List.lookup 80 t) gt269).trans rfl
theorem t269_83 : zT 269 83 = some (.goto (-23), 3, 60, 0, 0, 0) := (congrArg (fun t => List.lookup 83 t) gt269).trans rfl
theorem t269_86 : zT 269 86 = some (.iinc 4 1, 3, 0, 0, 0, 0) := (congrArg (fun t => List.lookup 86 t) gt269).trans rfl
theorem t269_89 : zT 269 89 = some (.goto (-50), 3, 39, 0, 0, 0) := (congrArg (fun t => List.lookup 89 t) gt269).trans rfl
theorem t269_92 : zT 269 92 = some (.aload_n 0, 1, 0, 0, 0, 0) := (congrArg (fun t => List.lookup 92 t) gt269).trans rfl
theorem t269_93 : zT 269 93 = some (.getfield 279, 3, 12, 18, 0, 1625) := (congrArg (fun t => List.lookup 93 t) gt269).trans rfl
theorem t269_96 : zT 269 96 = some (.iload_n 1, 1, 1, 0, 0, 0) := (congrArg (fun t => List.lookup 96 t) gt269).trans rfl
theorem t269_97 : zT 269 97 = some (.if_icmp .lt 14, 3, 111, 0, 0, 0) := (congrArg (fun t => List.lookup 97 t) gt269).trans rfl
theorem t269_100 : zT 269 100 = some (.aload_n 0, 1, 0, 0, 0, 0) := (congrArg (fun t => List.lookup 100 t) gt269).trans rfl
theorem t269_101 : zT 269 101 = some (.getfield 279, 3, 12, 18, 0, 1625) := (congrArg (fun t => List.lookup 101 t) gt269).trans rfl
theorem t269_104 : zT 269 104 = some (.ifCond .le 7, 3, 111, 0, 0, 0) := (congrArg (fun t => List.lookup 104 t) gt269).trans rfl
theorem t269_107 : zT 269 107 = some (.iconst 1, 1, 0, 0, 1, 0) := (congrArg (fun t => List.lookup 107 t) gt269).trans rfl
theorem t269_108 : zT 269 108 = some (.goto 4, 3, 112, 0, 0, 0) := (congrArg (fun t => List.lookup 108 t) gt269).trans rfl
theorem t269_111 : zT 269 111 = some (.iconst 0, 1, 0, 0, 0, 0) := (congrArg (fun t => List.lookup 111 t) gt269).trans rfl
theorem t269_112 : zT 269 112 = some (.istore_n 3, 1, 3, 0, 0, 0) := (congrArg (fun t => List.lookup 112 t) gt269).trans rfl
theorem t269_113 : zT 269 113 = some (.iload_n 3, 1, 3, 0, 0, 0) := (congrArg (fun t => List.lookup 113 t) gt269).trans rfl
theorem t269_114 : zT 269 114 = some (.ifCond .eq (-102), 3, 12, 0, 0, 0) := (congrArg (fun t => List.lookup 114 t) gt269).trans rfl
theorem t269_117 : zT 269 117 = some (.aload_n 0, 1, 0, 0, 0, 0) := (congrArg (fun t => List.lookup 117 t) gt269).trans rfl
theorem t269_118 : zT 269 118 = some (.invokevirtual 304, 3, 281, 0, 0, 1982) := (congrArg (fun t => List.lookup 118 t) gt269).trans rfl
theorem t269_121 : zT 269 121 = some (.goto (-109), 3, 12, 0, 0, 0) := (congrArg (fun t => List.lookup 121 t) gt269).trans rfl
theorem t269_124 : zT 269 124 = some (.return_, 1, 0, 0, 0, 0) := (congrArg (fun t => List.lookup 124 t) gt269).trans rfl
theorem t270_0 : zT 270 0 = some (.iconst 0, 1, 0, 0, 0, 0) := (congrArg (fun t => List.lookup 0 t) gt270).trans rfl
theorem t270_1 : zT 270 1 = some (.istore_n 2, 1, 2, 0, 0, 0) := (congrArg (fun t => List.lookup 1 t) gt270).trans rfl
theorem t270_2 : zT 270 2 = some (.iload_n 2, 1, 2, 0, 0, 0) := (congrArg (fun t => List.lookup 2 t) gt270).trans rfl
theorem t270_3 : zT 270 3 = some (.aload_n 0, 1, 0, 0, 0, 0) := (congrArg (fun t => List.lookup 3 t) gt270).trans rfl
theorem t270_4 : zT 270 4 = some (.getfield 3, 3, 12, 0, 0, 1607) := (congrArg (fun t => List.lookup 4 t) gt270).trans rfl
theorem t270_7 : zT 270 7 = some (.iconst 1, 1, 0, 0, 1, 0) := (congrArg (fun t => List.lookup 7 t) gt270).trans rfl
theorem t270_8 : zT 270 8 = some (.iaload, 1, 0, 0, 0, 0) := (congrArg (fun t => List.lookup 8 t) gt270).trans rfl
theorem t270_9 : zT 270 9 = some (.if_icmp .ge 29, 3, 38, 0, 0, 0) := (congrArg (fun t => List.lookup 9 t) gt270).trans rfl
theorem t270_12 : zT 270 12 = some (.aload_n 0, 1, 0, 0, 0, 0) := (congrArg (fun t => List.lookup 12 t) gt270).trans rfl
theorem t270_13 : zT 270 13 = some (.getfield 34, 3, 12, 16, 0, 1623) := (congrArg (fun t => List.lookup 13 t) gt270).trans rfl
theorem t270_16 : zT 270 16 = some (.iload_n 2, 1, 2, 0, 0, 0) := (congrArg (fun t => List.lookup 16 t) gt270).trans rfl
theorem t270_17 : zT 270 17 = some (.aload_n 0, 1, 0, 0, 0, 0) := (congrArg (fun t => List.lookup 17 t) gt270).trans rfl
theorem t270_18 : zT 270 18 = some (.iload_n 2, 1, 2, 0, 0, 0) := (congrArg (fun t => List.lookup 18 t) gt270).trans rfl
theorem t270_19 : zT 270 19 = some (.iload_n 1, 1, 1, 0, 0, 0) := (congrArg (fun t => List.lookup 19 t) gt270).trans rfl
theorem t270_20 : zT 270 20 = some (.invokevirtual 295, 3, 271, 0, 0, 1945) := (congrArg (fun t => List.lookup 20 t) gt270).trans rfl
theorem t270_23 : zT 270 23 = some (.bastore, 1, 0, 0, 0, 0) := (congrArg (fun t => List.lookup 23 t) gt270).trans rfl
theorem t270_24 : zT 270 24 = some (.aload_n 0, 1, 0, 0, 0, 0) := (congrArg (fun t => List.lookup 24 t) gt270).trans rfl
theorem t270_25 : zT 270 25 = some (.getfield 55, 3, 12, 28, 0, 1635) := (congrArg (fun t => List.lookup 25 t) gt270).trans rfl
theorem t270_28 : zT 270 28 = some (.iload_n 2, 1, 2, 0, 0, 0) := (congrArg (fun t => List.lookup 28 t) gt270).trans rfl
theorem t270_29 : zT 270 29 = some (.bipush (-2), 2, 0, 0, (-2), 0) := (congrArg (fun t => List.lookup 29 t) gt270).trans rfl
theorem t270_31 : zT 270 31 = some (.iastore, 1, 0, 0, 0, 0) := (congrArg (fun t => List.lookup 31 t) gt270).trans rfl
theorem t270_32 : zT 270 32 = some (.iinc 2 1, 3, 0, 0, 0, 0) := (congrArg (fun t => List.lookup 32 t) gt270).trans rfl
theorem t270_35 : zT 270 35 = some (.goto (-33), 3, 2, 0, 0, 0) := (congrArg (fun t => List.lookup 35 t) gt270).trans rfl
theorem t270_38 : zT 270 38 = some (.return_, 1, 0, 0, 0, 0) := (congrArg (fun t => List.lookup 38 t) gt270).trans rfl
theorem t271_0 : zT 271 0 = some (.aload_n 0, 1, 0, 0, 0, 0) := (congrArg (fun t => List.lookup 0 t) gt271).trans rfl
theorem t271_1 : zT 271 1 = some (.iload_n 1, 1, 1, 0, 0, 0) := (congrArg (fun t => List.lookup 1 t) gt271).trans rfl
theorem t271_2 : zT 271 2 = some (.iconst 0, 1, 0, 0, 0, 0) := (congrArg (fun t => List.lookup 2 t) gt271).trans rfl
theorem t271_3 : zT 271 3 = some (.invokevirtual 255, 3, 272, 0, 0, 1949) := (congrArg (fun t => List.lookup 3 t) gt271).trans rfl
theorem t271_6 : zT 271 6 = some (.istore_n 3, 1, 3, 0, 0, 0) := (congrArg (fun t => List.lookup 6 t) gt271).trans rfl
theorem t271_7 : zT 271 7 = some (.iload_n 3, 1, 3, 0, 0, 0) := (congrArg (fun t => List.lookup 7 t) gt271).trans rfl
theorem t271_8 : zT 271 8 = some (.iload_n 2, 1, 2, 0, 0, 0) := (congrArg (fun t => List.lookup 8 t) gt271).trans rfl
theorem t271_9 : zT 271 9 = some (.if_icmp .eq 44, 3, 53, 0, 0, 0) := (congrArg (fun t => List.lookup 9 t) gt271).trans rfl
theorem t271_12 : zT 271 12 = some (.aload_n 0, 1, 0, 0, 0, 0) := (congrArg (fun t => List.lookup 12 t) gt271).trans rfl
theorem t271_13 : zT 271 13 = some (.iload_n 3, 1, 3, 0, 0, 0) := (congrArg (fun t => List.lookup 13 t) gt271).trans rfl
theorem t271_14 : zT 271 14 = some (.invokevirtual 258, 3, 273, 0, 0, 1953) := (congrArg (fun t => List.lookup 14 t) gt271).trans rfl
theorem t271_17 : zT 271 17 = some (.ifCond .eq 36, 3, 53, 0, 0, 0) := (congrArg (fun t => List.lookup 17 t) gt271).trans rfl
theorem t271_20 : zT 271 20 = some (.aload_n 0, 1, 0, 0, 0, 0) := (congrArg (fun t => List.lookup 20 t) gt271).trans rfl
theorem t271_21 : zT 271 21 = some (.iload_n 1, 1, 1, 0, 0, 0) := (congrArg (fun t => List.lookup 21 t) gt271).trans rfl
theorem t271_22 : zT 271 22 = some (.iconst 2, 1, 0, 0, 2, 0) := (congrArg (fun t => List.lookup 22 t) gt271).trans rfl
theorem t271_23 : zT 271 23 = some (.invokevirtual 255, 3, 272, 0, 0, 1949) := (congrArg (fun t => List.lookup 23 t) gt271).trans rfl
theorem t271_26 : zT 271 26 = some (.i2l, 1, 0, 0, 0, 0) := (congrArg (fun t => List.lookup 26 t) gt271).trans rfl
theorem t271_27 : zT 271 27 = some (.aload_n 0, 1, 0, 0, 0, 0) := (congrArg (fun t => List.lookup 27 t) gt271).trans rfl
theorem t271_28 : zT 271 28 = some (.getfield 3, 3, 12, 0, 0, 1607) := (congrArg (fun t => List.lookup 28 t) gt271).trans rfl
theorem t271_31 : zT 271 31 = some (.bipush 10, 2, 0, 0, 10, 0) := (congrArg (fun t => List.lookup 31 t) gt271).trans rfl
theorem t271_33 : zT 271 33 = some (.iaload, 1, 0, 0, 0, 0) := (congrArg (fun t => List.lookup 33 t) gt271).trans rfl
theorem t271_34 : zT 271 34 = some (.i2l, 1, 0, 0, 0, 0) := (congrArg (fun t => List.lookup 34 t) gt271).trans rfl
theorem t271_35 : zT 271 35 = some (.aload_n 0, 1, 0, 0, 0, 0) := (congrArg (fun t => List.lookup 35 t) gt271).trans rfl
theorem t271_36 : zT 271 36 = some (.getfield 3, 3, 12, 0, 0, 1607) := (congrArg (fun t => List.lookup 36 t) gt271).trans rfl
theorem t271_39 : zT 271 39 = some (.bipush 11, 2, 0, 0, 11, 0) := (congrArg (fun t => List.lookup 39 t) gt271).trans rfl
theorem t271_41 : zT 271 41 = some (.iaload, 1, 0, 0, 0, 0) := (congrArg (fun t => List.lookup 41 t) gt271).trans rfl
theorem t271_42 : zT 271 42 = some (.i2l, 1, 0, 0, 0, 0) := (congrArg (fun t => List.lookup 42 t) gt271).trans rfl
theorem t271_43 : zT 271 43 = some (.invokestatic 112, 3, 228, 1, 0, 1774) := (congrArg (fun t => List.lookup 43 t) gt271).trans rfl
theorem t271_46 : zT 271 46 = some (.ifCond .eq 7, 3, 53, 0, 0, 0) := (congrArg (fun t => List.lookup 46 t) gt271).trans rfl
theorem t271_49 : zT 271 49 = some (.iconst 1, 1, 0, 0, 1, 0) := (congrArg (fun t => List.lookup 49 t) gt271).trans rfl
theorem t271_50 : zT 271 50 = some (.goto 4, 3, 54, 0, 0, 0) := (congrArg (fun t => List.lookup 50 t) gt271).trans rfl
theorem t271_53 : zT 271 53 = some (.iconst 0, 1, 0, 0, 0, 0) := (congrArg (fun t => List.lookup 53 t) gt271).trans rfl
theorem t271_54 : zT 271 54 = some (.ireturn, 1, 0, 0, 0, 0) := (congrArg (fun t => List.lookup 54 t) gt271).trans rfl
theorem t272_0 : zT 272 0 = some (.aload_n 0, 1, 0, 0, 0, 0) := (congrArg (fun t => List.lookup 0 t) gt272).trans rfl
theorem t272_1 : zT 272 1 = some (.getfield 3, 3, 12, 0, 0, 1607) := (congrArg (fun t => List.lookup 1 t) gt272).trans rfl
theorem t272_4 : zT 272 4 = some (.bipush 30, 2, 0, 0, 30, 0) := (congrArg (fun t => List.lookup 4 t) gt272).trans rfl
theorem t272_6 : zT 272 6 = some (.iconst 4, 1, 0, 0, 4, 0) := (congrArg (fun t => List.lookup 6 t) gt272).trans rfl
theorem t272_7 : zT 272 7 = some (.iload_n 1, 1, 1, 0, 0, 0) := (congrArg (fun t => List.lookup 7 t) gt272).trans rfl
theorem t272_8 : zT 272 8 = some (.imul, 1, 0, 0, 0, 0) := (congrArg (fun t => List.lookup 8 t) gt272).trans rfl
theorem t272_9 : zT 272 9 = some (.iadd, 1, 0, 0, 0, 0) := (congrArg (fun t => List.lookup 9 t) gt272).trans rfl
theorem t272_10 : zT 272 10 = some (.iload_n 2, 1, 2, 0, 0, 0) := (congrArg (fun t => List.lookup 10 t) gt272).trans rfl
theorem t272_11 : zT 272 11 = some (.iadd, 1, 0, 0, 0, 0) := (congrArg (fun t => List.lookup 11 t) gt272).trans rfl
theorem t272_12 : zT 272 12 = some (.iaload, 1, 0, 0, 0, 0) := (congrArg (fun t => List.lookup 12 t) gt272).trans rfl
theorem t272_13 : zT 272 13 = some (.ireturn, 1, 0, 0, 0, 0) := (congrArg (fun t => List.lookup 13 t) gt272).trans rfl
theorem t273_0 : zT 273 0 = some (.aload_n 0, 1, 0, 0, 0, 0) := (congrArg (fun t => List.lookup 0 t) gt273).trans rfl
theorem t273_1 : zT 273 1 = some (.getfield 3, 3, 12, 0, 0, 1607) := (congrArg (fun t => List.lookup 1 t) gt273).trans rfl
theorem t273_4 : zT 273 4 = some (.bipush 14, 2, 0, 0, 14, 0) := (congrArg (fun t => List.lookup 4 t) gt273).trans rfl
theorem t273_6 : zT 273 6 = some (.iconst 2, 1, 0, 0, 2, 0) := (congrArg (fun t => List.lookup 6 t) gt273).trans rfl
theorem t273_7 : zT 273 7 = some (.iload_n 1, 1, 1, 0, 0, 0) := (congrArg (fun t => List.lookup 7 t) gt273).trans rfl
theorem t273_8 : zT 273 8 = some (.imul, 1, 0, 0, 0, 0) := (congrArg (fun t => List.lookup 8 t) gt273).trans rfl
theorem t273_9 : zT 273 9 = some (.iadd, 1, 0, 0, 0, 0) := (congrArg (fun t => List.lookup 9 t) gt273).trans rfl
theorem t273_10 : zT 273 10 = some (.iconst 1, 1, 0, 0, 1, 0) := (congrArg (fun t => List.lookup 10 t) gt273).trans rfl
theorem t273_11 : zT 273 11 = some (.iadd, 1, 0, 0, 0, 0) := (congrArg (fun t => List.lookup 11 t) gt273).trans rfl
theorem t273_12 : zT 273 12 = some (.iaload, 1, 0, 0, 0, 0) := (congrArg (fun t => List.lookup 12 t) gt273).trans rfl
theorem t273_13 : zT 273 13 = some (.iconst 1, 1, 0, 0, 1, 0) := (congrArg (fun t => List.lookup 13 t) gt273).trans rfl
theorem t273_14 : zT 273 14 = some (.if_icmp .ne 7, 3, 21, 0, 0, 0) := (congrArg (fun t => List.lookup 14 t) gt273).trans rfl
theorem t273_17 : zT 273 17 = some (.iconst 1, 1, 0, 0, 1, 0) := (congrArg (fun t => List.lookup 17 t) gt273).trans rfl
theorem t273_18 : zT 273 18 = some (.goto 4, 3, 22, 0, 0, 0) := (congrArg (fun t => List.lookup 18 t) gt273).trans rfl
theorem t273_21 : zT 273 21 = some (.iconst 0, 1, 0, 0, 0, 0) := (congrArg (fun t => List.lookup 21 t) gt273).trans rfl
theorem t273_22 : zT 273 22 = some (.ireturn, 1, 0, 0, 0, 0) := (congrArg (fun t => List.lookup 22 t) gt273).trans rfl
theorem t274_0 : zT 274 0 = some (.aload_n 0, 1, 0, 0, 0, 0) := (congrArg (fun t => List.lookup 0 t) gt274).trans rfl
theorem t274_1 : zT 274 1 = some (.iload_n 1, 1, 1, 0, 0, 0) := (congrArg (fun t => List.lookup 1 t) gt274).trans rfl
theorem t274_2 : zT 274 2 = some (.iload_n 2, 1, 2, 0, 0, 0) := (congrArg (fun t => List.lookup 2 t) gt274).trans rfl
theorem t274_3 : zT 274 3 = some (.invokevirtual 270, 3, 275, 0, 0, 1961) := (congrArg (fun t => List.lookup 3 t) gt274).trans rfl
theorem t274_6 : zT 274 6 = some (.iconst 0, 1, 0, 0, 0, 0) := (congrArg (fun t => List.lookup 6 t) gt274).trans rfl
theorem t274_7 : zT 274 7 = some (.istore_n 3, 1, 3, 0, 0, 0) := (congrArg (fun t => List.lookup 7 t) gt274).trans rfl
theorem t274_8 : zT 274 8 = some (.iload_n 3, 1, 3, 0, 0, 0) := (congrArg (fun t => List.lookup 8 t) gt274).trans rfl
theorem t274_9 : zT 274 9 = some (.aload_n 0, 1, 0, 0, 0, 0) := (congrArg (fun t => List.lookup 9 t) gt274).trans rfl
theorem t274_10 : zT 274 10 = some (.getfield 3, 3, 12, 0, 0, 1607) := (congrArg (fun t => List.lookup 10 t) gt274).trans rfl
theorem t274_13 : zT 274 13 = some (.iconst 1, 1, 0, 0, 1, 0) := (congrArg (fun t => List.lookup 13 t) gt274).trans rfl
