theorem t105_56 : zT 105 56 = some (.bipush 8, 2, 0, 0, 8, 0) := (congrArg (fun t => List.lookup 56 t) gt105).trans rfl
theorem t105_58 : zT 105 58 = some (.if_icmp .ge 16, 3, 74, 0, 0, 0) := (congrArg (fun t => List.lookup 58 t) gt105).trans rfl
theorem t105_61 : zT 105 61 = some (.aload_n 0, 1, 0, 0, 0, 0) := (congrArg (fun t => List.lookup 61 t) gt105).trans rfl
theorem t105_62 : zT 105 62 = some (.getfield 57, 3, 4, 13, 0, 505) := (congrArg (fun t => List.lookup 62 t) gt105).trans rfl
theorem t105_65 : zT 105 65 = some (.iload_n 2, 1, 2, 0, 0, 0) := (congrArg (fun t => List.lookup 65 t) gt105).trans rfl
theorem t105_66 : zT 105 66 = some (.iconst 0, 1, 0, 0, 0, 0) := (congrArg (fun t => List.lookup 66 t) gt105).trans rfl
theorem t105_67 : zT 105 67 = some (.bastore, 1, 0, 0, 0, 0) := (congrArg (fun t => List.lookup 67 t) gt105).trans rfl
theorem t105_68 : zT 105 68 = some (.iinc 2 1, 3, 0, 0, 0, 0) := (congrArg (fun t => List.lookup 68 t) gt105).trans rfl
theorem t105_71 : zT 105 71 = some (.goto (-16), 3, 55, 0, 0, 0) := (congrArg (fun t => List.lookup 71 t) gt105).trans rfl
theorem t105_74 : zT 105 74 = some (.aload_n 0, 1, 0, 0, 0, 0) := (congrArg (fun t => List.lookup 74 t) gt105).trans rfl
theorem t105_75 : zT 105 75 = some (.aload_n 1, 1, 1, 0, 0, 0) := (congrArg (fun t => List.lookup 75 t) gt105).trans rfl
theorem t105_76 : zT 105 76 = some (.invokevirtual 78, 3, 127, 0, 0, 1167) := (congrArg (fun t => List.lookup 76 t) gt105).trans rfl
theorem t105_79 : zT 105 79 = some (.aload_n 0, 1, 0, 0, 0, 0) := (congrArg (fun t => List.lookup 79 t) gt105).trans rfl
theorem t105_80 : zT 105 80 = some (.aload_n 1, 1, 1, 0, 0, 0) := (congrArg (fun t => List.lookup 80 t) gt105).trans rfl
theorem t105_81 : zT 105 81 = some (.invokevirtual 82, 3, 131, 0, 0, 1184) := (congrArg (fun t => List.lookup 81 t) gt105).trans rfl
theorem t105_84 : zT 105 84 = some (.aload_n 0, 1, 0, 0, 0, 0) := (congrArg (fun t => List.lookup 84 t) gt105).trans rfl
theorem t105_85 : zT 105 85 = some (.invokevirtual 85, 3, 137, 0, 0, 1208) := (congrArg (fun t => List.lookup 85 t) gt105).trans rfl
theorem t105_88 : zT 105 88 = some (.aload_n 0, 1, 0, 0, 0, 0) := (congrArg (fun t => List.lookup 88 t) gt105).trans rfl
theorem t105_89 : zT 105 89 = some (.aload_n 1, 1, 1, 0, 0, 0) := (congrArg (fun t => List.lookup 89 t) gt105).trans rfl
theorem t105_90 : zT 105 90 = some (.iconst 4, 1, 0, 0, 4, 0) := (congrArg (fun t => List.lookup 90 t) gt105).trans rfl
theorem t105_91 : zT 105 91 = some (.invokevirtual 64, 3, 96, 0, 0, 1072) := (congrArg (fun t => List.lookup 91 t) gt105).trans rfl
theorem t105_94 : zT 105 94 = some (.invokevirtual 88, 3, 141, 0, 0, 1223) := (congrArg (fun t => List.lookup 94 t) gt105).trans rfl
theorem t105_97 : zT 105 97 = some (.aload_n 0, 1, 0, 0, 0, 0) := (congrArg (fun t => List.lookup 97 t) gt105).trans rfl
theorem t105_98 : zT 105 98 = some (.areturn, 1, 0, 0, 0, 0) := (congrArg (fun t => List.lookup 98 t) gt105).trans rfl
theorem t106_0 : zT 106 0 = some (.aload_n 0, 1, 0, 0, 0, 0) := (congrArg (fun t => List.lookup 0 t) gt106).trans rfl
theorem t106_1 : zT 106 1 = some (.getfield 12, 3, 0, 0, 0, 473) := (congrArg (fun t => List.lookup 1 t) gt106).trans rfl
theorem t106_4 : zT 106 4 = some (.aload_n 1, 1, 1, 0, 0, 0) := (congrArg (fun t => List.lookup 4 t) gt106).trans rfl
theorem t106_5 : zT 106 5 = some (.iload_n 2, 1, 2, 0, 0, 0) := (congrArg (fun t => List.lookup 5 t) gt106).trans rfl
theorem t106_6 : zT 106 6 = some (.invokevirtual 39, 3, 107, 0, 0, 1077) := (congrArg (fun t => List.lookup 6 t) gt106).trans rfl
theorem t106_9 : zT 106 9 = some (.iconst 0, 1, 0, 0, 0, 0) := (congrArg (fun t => List.lookup 9 t) gt106).trans rfl
theorem t106_10 : zT 106 10 = some (.istore 4, 2, 0, 0, 0, 0) := (congrArg (fun t => List.lookup 10 t) gt106).trans rfl
theorem t106_12 : zT 106 12 = some (.iload 4, 2, 0, 0, 0, 0) := (congrArg (fun t => List.lookup 12 t) gt106).trans rfl
theorem t106_14 : zT 106 14 = some (.aload_n 0, 1, 0, 0, 0, 0) := (congrArg (fun t => List.lookup 14 t) gt106).trans rfl
theorem t106_15 : zT 106 15 = some (.getfield 12, 3, 0, 0, 0, 473) := (congrArg (fun t => List.lookup 15 t) gt106).trans rfl
theorem t106_18 : zT 106 18 = some (.invokevirtual 43, 3, 110, 0, 0, 1095) := (congrArg (fun t => List.lookup 18 t) gt106).trans rfl
theorem t106_21 : zT 106 21 = some (.if_icmp .ge 18, 3, 39, 0, 0, 0) := (congrArg (fun t => List.lookup 21 t) gt106).trans rfl
theorem t106_24 : zT 106 24 = some (.aload_n 0, 1, 0, 0, 0, 0) := (congrArg (fun t => List.lookup 24 t) gt106).trans rfl
theorem t106_25 : zT 106 25 = some (.getfield 28, 3, 0, 3, 0, 476) := (congrArg (fun t => List.lookup 25 t) gt106).trans rfl
theorem t106_28 : zT 106 28 = some (.iload 4, 2, 0, 0, 0, 0) := (congrArg (fun t => List.lookup 28 t) gt106).trans rfl
theorem t106_30 : zT 106 30 = some (.bipush 8, 2, 0, 0, 8, 0) := (congrArg (fun t => List.lookup 30 t) gt106).trans rfl
theorem t106_32 : zT 106 32 = some (.iastore, 1, 0, 0, 0, 0) := (congrArg (fun t => List.lookup 32 t) gt106).trans rfl
theorem t106_33 : zT 106 33 = some (.iinc 4 1, 3, 0, 0, 0, 0) := (congrArg (fun t => List.lookup 33 t) gt106).trans rfl
theorem t106_36 : zT 106 36 = some (.goto (-24), 3, 12, 0, 0, 0) := (congrArg (fun t => List.lookup 36 t) gt106).trans rfl
theorem t106_39 : zT 106 39 = some (.aload_n 0, 1, 0, 0, 0, 0) := (congrArg (fun t => List.lookup 39 t) gt106).trans rfl
theorem t106_40 : zT 106 40 = some (.iconst 0, 1, 0, 0, 0, 0) := (congrArg (fun t => List.lookup 40 t) gt106).trans rfl
theorem t106_41 : zT 106 41 = some (.putfield 24, 3, 0, 2, 0, 475) := (congrArg (fun t => List.lookup 41 t) gt106).trans rfl
theorem t106_44 : zT 106 44 = some (.aload_n 0, 1, 0, 0, 0, 0) := (congrArg (fun t => List.lookup 44 t) gt106).trans rfl
theorem t106_45 : zT 106 45 = some (.getfield 24, 3, 0, 2, 0, 475) := (congrArg (fun t => List.lookup 45 t) gt106).trans rfl
theorem t106_48 : zT 106 48 = some (.bipush 20, 2, 0, 0, 20, 0) := (congrArg (fun t => List.lookup 48 t) gt106).trans rfl
theorem t106_50 : zT 106 50 = some (.if_icmp .ge 92, 3, 142, 0, 0, 0) := (congrArg (fun t => List.lookup 50 t) gt106).trans rfl
theorem t106_53 : zT 106 53 = some (.aload_n 0, 1, 0, 0, 0, 0) := (congrArg (fun t => List.lookup 53 t) gt106).trans rfl
theorem t106_54 : zT 106 54 = some (.iload_n 3, 1, 3, 0, 0, 0) := (congrArg (fun t => List.lookup 54 t) gt106).trans rfl
theorem t106_55 : zT 106 55 = some (.invokevirtual 47, 3, 111, 0, 0, 1099) := (congrArg (fun t => List.lookup 55 t) gt106).trans rfl
theorem t106_58 : zT 106 58 = some (.istore 4, 2, 0, 0, 0, 0) := (congrArg (fun t => List.lookup 58 t) gt106).trans rfl
theorem t106_60 : zT 106 60 = some (.iload 4, 2, 0, 0, 0, 0) := (congrArg (fun t => List.lookup 60 t) gt106).trans rfl
theorem t106_62 : zT 106 62 = some (.iconst (-1), 1, 0, 0, (-1), 0) := (congrArg (fun t => List.lookup 62 t) gt106).trans rfl
theorem t106_63 : zT 106 63 = some (.if_icmp .ne 6, 3, 69, 0, 0, 0) := (congrArg (fun t => List.lookup 63 t) gt106).trans rfl
theorem t106_66 : zT 106 66 = some (.goto 76, 3, 142, 0, 0, 0) := (congrArg (fun t => List.lookup 66 t) gt106).trans rfl
theorem t106_69 : zT 106 69 = some (.aload_n 0, 1, 0, 0, 0, 0) := (congrArg (fun t => List.lookup 69 t) gt106).trans rfl
theorem t106_70 : zT 106 70 = some (.getfield 20, 3, 0, 1, 0, 474) := (congrArg (fun t => List.lookup 70 t) gt106).trans rfl
theorem t106_73 : zT 106 73 = some (.aload_n 0, 1, 0, 0, 0, 0) := (congrArg (fun t => List.lookup 73 t) gt106).trans rfl
theorem t106_74 : zT 106 74 = some (.getfield 24, 3, 0, 2, 0, 475) := (congrArg (fun t => List.lookup 74 t) gt106).trans rfl
theorem t106_77 : zT 106 77 = some (.aaload, 1, 0, 0, 0, 0) := (congrArg (fun t => List.lookup 77 t) gt106).trans rfl
theorem t106_78 : zT 106 78 = some (.astore 5, 2, 0, 0, 0, 0) := (congrArg (fun t => List.lookup 78 t) gt106).trans rfl
theorem t106_80 : zT 106 80 = some (.aload 5, 2, 0, 0, 0, 0) := (congrArg (fun t => List.lookup 80 t) gt106).trans rfl
theorem t106_82 : zT 106 82 = some (.aload_n 0, 1, 0, 0, 0, 0) := (congrArg (fun t => List.lookup 82 t) gt106).trans rfl
theorem t106_83 : zT 106 83 = some (.getfield 12, 3, 0, 0, 0, 473) := (congrArg (fun t => List.lookup 83 t) gt106).trans rfl
theorem t106_86 : zT 106 86 = some (.iload 4, 2, 0, 0, 0, 0) := (congrArg (fun t => List.lookup 86 t) gt106).trans rfl
theorem t106_88 : zT 106 88 = some (.invokevirtual 51, 3, 115, 0, 0, 1138) := (congrArg (fun t => List.lookup 88 t) gt106).trans rfl
theorem t106_91 : zT 106 91 = some (.aload_n 0, 1, 0, 0, 0, 0) := (congrArg (fun t => List.lookup 91 t) gt106).trans rfl
theorem t106_92 : zT 106 92 = some (.getfield 12, 3, 0, 0, 0, 473) := (congrArg (fun t => List.lookup 92 t) gt106).trans rfl
theorem t106_95 : zT 106 95 = some (.iload 4, 2, 0, 0, 0, 0) := (congrArg (fun t => List.lookup 95 t) gt106).trans rfl
theorem t106_97 : zT 106 97 = some (.invokevirtual 54, 3, 116, 0, 0, 1139) := (congrArg (fun t => List.lookup 97 t) gt106).trans rfl
theorem t106_100 : zT 106 100 = some (.aload_n 0, 1, 0, 0, 0, 0) := (congrArg (fun t => List.lookup 100 t) gt106).trans rfl
theorem t106_101 : zT 106 101 = some (.getfield 35, 3, 0, 5, 0, 478) := (congrArg (fun t => List.lookup 101 t) gt106).trans rfl
theorem t106_104 : zT 106 104 = some (.aload_n 0, 1, 0, 0, 0, 0) := (congrArg (fun t => List.lookup 104 t) gt106).trans rfl
theorem t106_105 : zT 106 105 = some (.getfield 32, 3, 0, 4, 0, 477) := (congrArg (fun t => List.lookup 105 t) gt106).trans rfl
theorem t106_108 : zT 106 108 = some (.invokevirtual 57, 3, 120, 0, 0, 1140) := (congrArg (fun t => List.lookup 108 t) gt106).trans rfl
theorem t106_111 : zT 106 111 = some (.aload_n 0, 1, 0, 0, 0, 0) := (congrArg (fun t => List.lookup 111 t) gt106).trans rfl
theorem t106_112 : zT 106 112 = some (.getfield 12, 3, 0, 0, 0, 473) := (congrArg (fun t => List.lookup 112 t) gt106).trans rfl
theorem t106_115 : zT 106 115 = some (.aload 5, 2, 0, 0, 0, 0) := (congrArg (fun t => List.lookup 115 t) gt106).trans rfl
theorem t106_117 : zT 106 117 = some (.invokevirtual 61, 3, 121, 0, 0, 1144) := (congrArg (fun t => List.lookup 117 t) gt106).trans rfl
theorem t106_120 : zT 106 120 = some (.aload_n 0, 1, 0, 0, 0, 0) := (congrArg (fun t => List.lookup 120 t) gt106).trans rfl
theorem t106_121 : zT 106 121 = some (.getfield 12, 3, 0, 0, 0, 473) := (congrArg (fun t => List.lookup 121 t) gt106).trans rfl
theorem t106_124 : zT 106 124 = some (.aload 5, 2, 0, 0, 0, 0) := (congrArg (fun t => List.lookup 124 t) gt106).trans rfl
theorem t106_126 : zT 106 126 = some (.invokevirtual 65, 3, 123, 0, 0, 1151) := (congrArg (fun t => List.lookup 126 t) gt106).trans rfl
theorem t106_129 : zT 106 129 = some (.aload_n 0, 1, 0, 0, 0, 0) := (congrArg (fun t => List.lookup 129 t) gt106).trans rfl
theorem t106_130 : zT 106 130 = some (.dup, 1, 0, 0, 0, 0) := (congrArg (fun t => List.lookup 130 t) gt106).trans rfl
theorem t106_131 : zT 106 131 = some (.getfield 24, 3, 0, 2, 0, 475) := (congrArg (fun t => List.lookup 131 t) gt106).trans rfl
theorem t106_134 : zT 106 134 = some (.iconst 1, 1, 0, 0, 1, 0) := (congrArg (fun t => List.lookup 134 t) gt106).trans rfl
theorem t106_135 : zT 106 135 = some (.iadd, 1, 0, 0, 0, 0) := (congrArg (fun t => List.lookup 135 t) gt106).trans rfl
theorem t106_136 : zT 106 136 = some (.putfield 24, 3, 0, 2, 0, 475) := (congrArg (fun t => List.lookup 136 t) gt106).trans rfl
theorem t106_139 : zT 106 139 = some (.goto (-95), 3, 44, 0, 0, 0) := (congrArg (fun t => List.lookup 139 t) gt106).trans rfl
theorem t106_142 : zT 106 142 = some (.return_, 1, 0, 0, 0, 0) := (congrArg (fun t => List.lookup 142 t) gt106).trans rfl
theorem t107_0 : zT 107 0 = some (.aload_n 0, 1, 0, 0, 0, 0) := (congrArg (fun t => List.lookup 0 t) gt107).trans rfl
theorem t107_1 : zT 107 1 = some (.iconst 1, 1, 0, 0, 1, 0) := (congrArg (fun t => List.lookup 1 t) gt107).trans rfl
theorem t107_2 : zT 107 2 = some (.aload_n 1, 1, 1, 0, 0, 0) := (congrArg (fun t => List.lookup 2 t) gt107).trans rfl
theorem t107_3 : zT 107 3 = some (.iconst 2, 1, 0, 0, 2, 0) := (congrArg (fun t => List.lookup 3 t) gt107).trans rfl
theorem t107_4 : zT 107 4 = some (.invokevirtual 70, 3, 96, 0, 0, 1081) := (congrArg (fun t => List.lookup 4 t) gt107).trans rfl
theorem t107_7 : zT 107 7 = some (.invokestatic 76, 3, 21, 1, 0, 1082) := (congrArg (fun t => List.lookup 7 t) gt107).trans rfl
theorem t107_10 : zT 107 10 = some (.putfield 28, 3, 5, 5, 0, 354) := (congrArg (fun t => List.lookup 10 t) gt107).trans rfl
theorem t107_13 : zT 107 13 = some (.aload_n 0, 1, 0, 0, 0, 0) := (congrArg (fun t => List.lookup 13 t) gt107).trans rfl
theorem t107_14 : zT 107 14 = some (.aload_n 1, 1, 1, 0, 0, 0) := (congrArg (fun t => List.lookup 14 t) gt107).trans rfl
theorem t107_15 : zT 107 15 = some (.iconst 0, 1, 0, 0, 0, 0) := (congrArg (fun t => List.lookup 15 t) gt107).trans rfl
theorem t107_16 : zT 107 16 = some (.invokevirtual 70, 3, 96, 0, 0, 1081) := (congrArg (fun t => List.lookup 16 t) gt107).trans rfl
theorem t107_19 : zT 107 19 = some (.aload_n 1, 1, 1, 0, 0, 0) := (congrArg (fun t => List.lookup 19 t) gt107).trans rfl
theorem t107_20 : zT 107 20 = some (.iconst 1, 1, 0, 0, 1, 0) := (congrArg (fun t => List.lookup 20 t) gt107).trans rfl
theorem t107_21 : zT 107 21 = some (.invokevirtual 70, 3, 96, 0, 0, 1081) := (congrArg (fun t => List.lookup 21 t) gt107).trans rfl
theorem t107_24 : zT 107 24 = some (.invokevirtual 82, 3, 108, 0, 0, 1083) := (congrArg (fun t => List.lookup 24 t) gt107).trans rfl
theorem t107_27 : zT 107 27 = some (.aload_n 0, 1, 0, 0, 0, 0) := (congrArg (fun t => List.lookup 27 t) gt107).trans rfl
theorem t107_28 : zT 107 28 = some (.aload_n 1, 1, 1, 0, 0, 0) := (congrArg (fun t => List.lookup 28 t) gt107).trans rfl
theorem t107_29 : zT 107 29 = some (.invokevirtual 86, 3, 109, 0, 0, 1087) := (congrArg (fun t => List.lookup 29 t) gt107).trans rfl
theorem t107_32 : zT 107 32 = some (.aload_n 0, 1, 0, 0, 0, 0) := (congrArg (fun t => List.lookup 32 t) gt107).trans rfl
theorem t107_33 : zT 107 33 = some (.iconst 0, 1, 0, 0, 0, 0) := (congrArg (fun t => List.lookup 33 t) gt107).trans rfl
theorem t107_34 : zT 107 34 = some (.putfield 31, 3, 5, 6, 0, 355) := (congrArg (fun t => List.lookup 34 t) gt107).trans rfl
theorem t107_37 : zT 107 37 = some (.iconst 0, 1, 0, 0, 0, 0) := (congrArg (fun t => List.lookup 37 t) gt107).trans rfl
theorem t107_38 : zT 107 38 = some (.istore_n 3, 1, 3, 0, 0, 0) := (congrArg (fun t => List.lookup 38 t) gt107).trans rfl
theorem t107_39 : zT 107 39 = some (.iload_n 3, 1, 3, 0, 0, 0) := (congrArg (fun t => List.lookup 39 t) gt107).trans rfl
theorem t107_40 : zT 107 40 = some (.aload_n 1, 1, 1, 0, 0, 0) := (congrArg (fun t => List.lookup 40 t) gt107).trans rfl
theorem t107_41 : zT 107 41 = some (.getfield 90, 3, 6, 3, 0, 165) := (congrArg (fun t => List.lookup 41 t) gt107).trans rfl
theorem t107_44 : zT 107 44 = some (.if_icmp .ge 77, 3, 121, 0, 0, 0) := (congrArg (fun t => List.lookup 44 t) gt107).trans rfl
theorem t107_47 : zT 107 47 = some (.aload_n 1, 1, 1, 0, 0, 0) := (congrArg (fun t => List.lookup 47 t) gt107).trans rfl
theorem t107_48 : zT 107 48 = some (.getfield 93, 3, 6, 4, 0, 169) := (congrArg (fun t => List.lookup 48 t) gt107).trans rfl
theorem t107_51 : zT 107 51 = some (.iload_n 3, 1, 3, 0, 0, 0) := (congrArg (fun t => List.lookup 51 t) gt107).trans rfl
theorem t107_52 : zT 107 52 = some (.iaload, 1, 0, 0, 0, 0) := (congrArg (fun t => List.lookup 52 t) gt107).trans rfl
theorem t107_53 : zT 107 53 = some (.iload_n 2, 1, 2, 0, 0, 0) := (congrArg (fun t => List.lookup 53 t) gt107).trans rfl
theorem t107_54 : zT 107 54 = some (.if_icmp .eq 61, 3, 115, 0, 0, 0) := (congrArg (fun t => List.lookup 54 t) gt107).trans rfl
theorem t107_57 : zT 107 57 = some (.aload_n 1, 1, 1, 0, 0, 0) := (congrArg (fun t => List.lookup 57 t) gt107).trans rfl
theorem t107_58 : zT 107 58 = some (.iload_n 3, 1, 3, 0, 0, 0) := (congrArg (fun t => List.lookup 58 t) gt107).trans rfl
theorem t107_59 : zT 107 59 = some (.invokevirtual 96, 3, 93, 0, 0, 1094) := (congrArg (fun t => List.lookup 59 t) gt107).trans rfl
theorem t107_62 : zT 107 62 = some (.ifCond .eq 53, 3, 115, 0, 0, 0) := (congrArg (fun t => List.lookup 62 t) gt107).trans rfl
theorem t107_65 : zT 107 65 = some (.aload_n 0, 1, 0, 0, 0, 0) := (congrArg (fun t => List.lookup 65 t) gt107).trans rfl
theorem t107_66 : zT 107 66 = some (.getfield 34, 3, 5, 7, 0, 356) := (congrArg (fun t => List.lookup 66 t) gt107).trans rfl
theorem t107_69 : zT 107 69 = some (.aload_n 0, 1, 0, 0, 0, 0) := (congrArg (fun t => List.lookup 69 t) gt107).trans rfl
theorem t107_70 : zT 107 70 = some (.getfield 31, 3, 5, 6, 0, 355) := (congrArg (fun t => List.lookup 70 t) gt107).trans rfl
theorem t107_73 : zT 107 73 = some (.iload_n 3, 1, 3, 0, 0, 0) := (congrArg (fun t => List.lookup 73 t) gt107).trans rfl
theorem t107_74 : zT 107 74 = some (.iastore, 1, 0, 0, 0, 0) := (congrArg (fun t => List.lookup 74 t) gt107).trans rfl
theorem t107_75 : zT 107 75 = some (.aload_n 0, 1, 0, 0, 0, 0) := (congrArg (fun t => List.lookup 75 t) gt107).trans rfl
theorem t107_76 : zT 107 76 = some (.getfield 37, 3, 5, 8, 0, 357) := (congrArg (fun t => List.lookup 76 t) gt107).trans rfl
theorem t107_79 : zT 107 79 = some (.aload_n 0, 1, 0, 0, 0, 0) := (congrArg (fun t => List.lookup 79 t) gt107).trans rfl
theorem t107_80 : zT 107 80 = some (.getfield 31, 3, 5, 6, 0, 355) := (congrArg (fun t => List.lookup 80 t) gt107).trans rfl
theorem t107_83 : zT 107 83 = some (.aload_n 1, 1, 1, 0, 0, 0) := (congrArg (fun t => List.lookup 83 t) gt107).trans rfl
theorem t107_84 : zT 107 84 = some (.getfield 93, 3, 6, 4, 0, 169) := (congrArg (fun t => List.lookup 84 t) gt107).trans rfl
theorem t107_87 : zT 107 87 = some (.iload_n 3, 1, 3, 0, 0, 0) := (congrArg (fun t => List.lookup 87 t) gt107).trans rfl
theorem t107_88 : zT 107 88 = some (.iaload, 1, 0, 0, 0, 0) := (congrArg (fun t => List.lookup 88 t) gt107).trans rfl
theorem t107_89 : zT 107 89 = some (.iastore, 1, 0, 0, 0, 0) := (congrArg (fun t => List.lookup 89 t) gt107).trans rfl
theorem t107_90 : zT 107 90 = some (.aload_n 0, 1, 0, 0, 0, 0) := (congrArg (fun t => List.lookup 90 t) gt107).trans rfl
theorem t107_91 : zT 107 91 = some (.getfield 40, 3, 5, 9, 0, 358) := (congrArg (fun t => List.lookup 91 t) gt107).trans rfl
theorem t107_94 : zT 107 94 = some (.aload_n 0, 1, 0, 0, 0, 0) := (congrArg (fun t => List.lookup 94 t) gt107).trans rfl
theorem t107_95 : zT 107 95 = some (.getfield 31, 3, 5, 6, 0, 355) := (congrArg (fun t => List.lookup 95 t) gt107).trans rfl
theorem t107_98 : zT 107 98 = some (.aload_n 1, 1, 1, 0, 0, 0) := (congrArg (fun t => List.lookup 98 t) gt107).trans rfl
theorem t107_99 : zT 107 99 = some (.getfield 100, 3, 6, 5, 0, 172) := (congrArg (fun t => List.lookup 99 t) gt107).trans rfl
theorem t107_102 : zT 107 102 = some (.iload_n 3, 1, 3, 0, 0, 0) := (congrArg (fun t => List.lookup 102 t) gt107).trans rfl
theorem t107_103 : zT 107 103 = some (.iaload, 1, 0, 0, 0, 0) := (congrArg (fun t => List.lookup 103 t) gt107).trans rfl
theorem t107_104 : zT 107 104 = some (.iastore, 1, 0, 0, 0, 0) := (congrArg (fun t => List.lookup 104 t) gt107).trans rfl
theorem t107_105 : zT 107 105 = some (.aload_n 0, 1, 0, 0, 0, 0) := (congrArg (fun t => List.lookup 105 t) gt107).trans rfl
theorem t107_106 : zT 107 106 = some (.dup, 1, 0, 0, 0, 0) := (congrArg (fun t => List.lookup 106 t) gt107).trans rfl
theorem t107_107 : zT 107 107 = some (.getfield 31, 3, 5, 6, 0, 355) := (congrArg (fun t => List.lookup 107 t) gt107).trans rfl
theorem t107_110 : zT 107 110 = some (.iconst 1, 1, 0, 0, 1, 0) := (congrArg (fun t => List.lookup 110 t) gt107).trans rfl
theorem t107_111 : zT 107 111 = some (.iadd, 1, 0, 0, 0, 0) := (congrArg (fun t => List.lookup 111 t) gt107).trans rfl
theorem t107_112 : zT 107 112 = some (.putfield 31, 3, 5, 6, 0, 355) := (congrArg (fun t => List.lookup 112 t) gt107).trans rfl
theorem t107_115 : zT 107 115 = some (.iinc 3 1, 3, 0, 0, 0, 0) := (congrArg (fun t => List.lookup 115 t) gt107).trans rfl
theorem t107_118 : zT 107 118 = some (.goto (-79), 3, 39, 0, 0, 0) := (congrArg (fun t => List.lookup 118 t) gt107).trans rfl
theorem t107_121 : zT 107 121 = some (.return_, 1, 0, 0, 0, 0) := (congrArg (fun t => List.lookup 121 t) gt107).trans rfl
theorem t108_0 : zT 108 0 = some (.aload_n 0, 1, 0, 0, 0, 0) := (congrArg (fun t => List.lookup 0 t) gt108).trans rfl
theorem t108_1 : zT 108 1 = some (.iconst 0, 1, 0, 0, 0, 0) := (congrArg (fun t => List.lookup 1 t) gt108).trans rfl
theorem t108_2 : zT 108 2 = some (.putfield 9, 3, 5, 0, 0, 349) := (congrArg (fun t => List.lookup 2 t) gt108).trans rfl
theorem t108_5 : zT 108 5 = some (.iconst 0, 1, 0, 0, 0, 0) := (congrArg (fun t => List.lookup 5 t) gt108).trans rfl
theorem t108_6 : zT 108 6 = some (.istore_n 3, 1, 3, 0, 0, 0) := (congrArg (fun t => List.lookup 6 t) gt108).trans rfl
theorem t108_7 : zT 108 7 = some (.iload_n 3, 1, 3, 0, 0, 0) := (congrArg (fun t => List.lookup 7 t) gt108).trans rfl
theorem t108_8 : zT 108 8 = some (.iload_n 1, 1, 1, 0, 0, 0) := (congrArg (fun t => List.lookup 8 t) gt108).trans rfl
theorem t108_9 : zT 108 9 = some (.if_icmp .gt 166, 3, 175, 0, 0, 0) := (congrArg (fun t => List.lookup 9 t) gt108).trans rfl
theorem t108_12 : zT 108 12 = some (.iload_n 3, 1, 3, 0, 0, 0) := (congrArg (fun t => List.lookup 12 t) gt108).trans rfl
theorem t108_13 : zT 108 13 = some (.iconst 3, 1, 0, 0, 3, 0) := (congrArg (fun t => List.lookup 13 t) gt108).trans rfl
theorem t108_14 : zT 108 14 = some (.if_icmp .gt 161, 3, 175, 0, 0, 0) := (congrArg (fun t => List.lookup 14 t) gt108).trans rfl
theorem t108_17 : zT 108 17 = some (.iconst 0, 1, 0, 0, 0, 0) := (congrArg (fun t => List.lookup 17 t) gt108).trans rfl
theorem t108_18 : zT 108 18 = some (.istore 4, 2, 0, 0, 0, 0) := (congrArg (fun t => List.lookup 18 t) gt108).trans rfl
theorem t108_20 : zT 108 20 = some (.iload 4, 2, 0, 0, 0, 0) := (congrArg (fun t => List.lookup 20 t) gt108).trans rfl
theorem t108_22 : zT 108 22 = some (.iload_n 2, 1, 2, 0, 0, 0) := (congrArg (fun t => List.lookup 22 t) gt108).trans rfl
theorem t108_23 : zT 108 23 = some (.if_icmp .gt 146, 3, 169, 0, 0, 0) := (congrArg (fun t => List.lookup 23 t) gt108).trans rfl
theorem t108_26 : zT 108 26 = some (.iload 4, 2, 0, 0, 0, 0) := (congrArg (fun t => List.lookup 26 t) gt108).trans rfl
theorem t108_28 : zT 108 28 = some (.bipush 20, 2, 0, 0, 20, 0) := (congrArg (fun t => List.lookup 28 t) gt108).trans rfl
theorem t108_30 : zT 108 30 = some (.if_icmp .gt 139, 3, 169, 0, 0, 0) := (congrArg (fun t => List.lookup 30 t) gt108).trans rfl
theorem t108_33 : zT 108 33 = some (.iconst 0, 1, 0, 0, 0, 0) := (congrArg (fun t => List.lookup 33 t) gt108).trans rfl
theorem t108_34 : zT 108 34 = some (.istore 5, 2, 0, 0, 0, 0) := (congrArg (fun t => List.lookup 34 t) gt108).trans rfl
theorem t108_36 : zT 108 36 = some (.iload 5, 2, 0, 0, 0, 0) := (congrArg (fun t => List.lookup 36 t) gt108).trans rfl
theorem t108_38 : zT 108 38 = some (.iconst 4, 1, 0, 0, 4, 0) := (congrArg (fun t => List.lookup 38 t) gt108).trans rfl
theorem t108_39 : zT 108 39 = some (.if_icmp .ge 124, 3, 163, 0, 0, 0) := (congrArg (fun t => List.lookup 39 t) gt108).trans rfl
theorem t108_42 : zT 108 42 = some (.iload 5, 2, 0, 0, 0, 0) := (congrArg (fun t => List.lookup 42 t) gt108).trans rfl
theorem t108_44 : zT 108 44 = some (.iconst 2, 1, 0, 0, 2, 0) := (congrArg (fun t => List.lookup 44 t) gt108).trans rfl
theorem t108_45 : zT 108 45 = some (.if_icmp .lt 11, 3, 56, 0, 0, 0) := (congrArg (fun t => List.lookup 45 t) gt108).trans rfl
theorem t108_48 : zT 108 48 = some (.iload_n 3, 1, 3, 0, 0, 0) := (congrArg (fun t => List.lookup 48 t) gt108).trans rfl
theorem t108_49 : zT 108 49 = some (.ifCond .ne 7, 3, 56, 0, 0, 0) := (congrArg (fun t => List.lookup 49 t) gt108).trans rfl
theorem t108_52 : zT 108 52 = some (.iconst 1, 1, 0, 0, 1, 0) := (congrArg (fun t => List.lookup 52 t) gt108).trans rfl
theorem t108_53 : zT 108 53 = some (.goto 4, 3, 57, 0, 0, 0) := (congrArg (fun t => List.lookup 53 t) gt108).trans rfl
theorem t108_56 : zT 108 56 = some (.iconst 0, 1, 0, 0, 0, 0) := (congrArg (fun t => List.lookup 56 t) gt108).trans rfl
theorem t108_57 : zT 108 57 = some (.istore 6, 2, 0, 0, 0, 0) := (congrArg (fun t => List.lookup 57 t) gt108).trans rfl
theorem t108_59 : zT 108 59 = some (.iload 5, 2, 0, 0, 0, 0) := (congrArg (fun t => List.lookup 59 t) gt108).trans rfl
theorem t108_61 : zT 108 61 = some (.iconst 2, 1, 0, 0, 2, 0) := (congrArg (fun t => List.lookup 61 t) gt108).trans rfl
theorem t108_62 : zT 108 62 = some (.irem, 1, 0, 0, 0, 0) := (congrArg (fun t => List.lookup 62 t) gt108).trans rfl
theorem t108_63 : zT 108 63 = some (.iconst 1, 1, 0, 0, 1, 0) := (congrArg (fun t => List.lookup 63 t) gt108).trans rfl
theorem t108_64 : zT 108 64 = some (.if_icmp .ne 12, 3, 76, 0, 0, 0) := (congrArg (fun t => List.lookup 64 t) gt108).trans rfl
theorem t108_67 : zT 108 67 = some (.iload 4, 2, 0, 0, 0, 0) := (congrArg (fun t => List.lookup 67 t) gt108).trans rfl
theorem t108_69 : zT 108 69 = some (.ifCond .ne 7, 3, 76, 0, 0, 0) := (congrArg (fun t => List.lookup 69 t) gt108).trans rfl
theorem t108_72 : zT 108 72 = some (.iconst 1, 1, 0, 0, 1, 0) := (congrArg (fun t => List.lookup 72 t) gt108).trans rfl
theorem t108_73 : zT 108 73 = some (.goto 4, 3, 77, 0, 0, 0) := (congrArg (fun t => List.lookup 73 t) gt108).trans rfl
theorem t108_76 : zT 108 76 = some (.iconst 0, 1, 0, 0, 0, 0) := (congrArg (fun t => List.lookup 76 t) gt108).trans rfl
theorem t108_77 : zT 108 77 = some (.istore 7, 2, 0, 0, 0, 0) := (congrArg (fun t => List.lookup 77 t) gt108).trans rfl
theorem t108_79 : zT 108 79 = some (.iload 6, 2, 0, 0, 0, 0) := (congrArg (fun t => List.lookup 79 t) gt108).trans rfl
theorem t108_81 : zT 108 81 = some (.ifCond .ne 76, 3, 157, 0, 0, 0) := (congrArg (fun t => List.lookup 81 t) gt108).trans rfl
theorem t108_84 : zT 108 84 = some (.iload 7, 2, 0, 0, 0, 0) := (congrArg (fun t => List.lookup 84 t) gt108).trans rfl
theorem t108_86 : zT 108 86 = some (.ifCond .ne 71, 3, 157, 0, 0, 0) := (congrArg (fun t => List.lookup 86 t) gt108).trans rfl
theorem t108_89 : zT 108 89 = some (.aload_n 0, 1, 0, 0, 0, 0) := (congrArg (fun t => List.lookup 89 t) gt108).trans rfl
theorem t108_90 : zT 108 90 = some (.getfield 9, 3, 5, 0, 0, 349) := (congrArg (fun t => List.lookup 90 t) gt108).trans rfl
theorem t108_93 : zT 108 93 = some (.sipush 287, 3, 0, 0, 287, 0) := (congrArg (fun t => List.lookup 93 t) gt108).trans rfl
theorem t108_96 : zT 108 96 = some (.if_icmp .lt 6, 3, 102, 0, 0, 0) := (congrArg (fun t => List.lookup 96 t) gt108).trans rfl
theorem t108_99 : zT 108 99 = some (.goto 58, 3, 157, 0, 0, 0) := (congrArg (fun t => List.lookup 99 t) gt108).trans rfl
theorem t108_102 : zT 108 102 = some (.aload_n 0, 1, 0, 0, 0, 0) := (congrArg (fun t => List.lookup 102 t) gt108).trans rfl
theorem t108_103 : zT 108 103 = some (.getfield 15, 3, 5, 1, 0, 350) := (congrArg (fun t => List.lookup 103 t) gt108).trans rfl
theorem t108_106 : zT 108 106 = some (.aload_n 0, 1, 0, 0, 0, 0) := (congrArg (fun t => List.lookup 106 t) gt108).trans rfl
theorem t108_107 : zT 108 107 = some (.getfield 9, 3, 5, 0, 0, 349) := (congrArg (fun t => List.lookup 107 t) gt108).trans rfl
theorem t108_110 : zT 108 110 = some (.iload 5, 2, 0, 0, 0, 0) := (congrArg (fun t => List.lookup 110 t) gt108).trans rfl
theorem t108_112 : zT 108 112 = some (.iconst 2, 1, 0, 0, 2, 0) := (congrArg (fun t => List.lookup 112 t) gt108).trans rfl
theorem t108_113 : zT 108 113 = some (.if_icmp .ge 8, 3, 121, 0, 0, 0) := (congrArg (fun t => List.lookup 113 t) gt108).trans rfl
theorem t108_116 : zT 108 116 = some (.iload_n 3, 1, 3, 0, 0, 0) := (congrArg (fun t => List.lookup 116 t) gt108).trans rfl
theorem t108_117 : zT 108 117 = some (.ineg, 1, 0, 0, 0, 0) := (congrArg (fun t => List.lookup 117 t) gt108).trans rfl
theorem t108_118 : zT 108 118 = some (.goto 4, 3, 122, 0, 0, 0) := (congrArg (fun t => List.lookup 118 t) gt108).trans rfl
theorem t108_121 : zT 108 121 = some (.iload_n 3, 1, 3, 0, 0, 0) := (congrArg (fun t => List.lookup 121 t) gt108).trans rfl
theorem t108_122 : zT 108 122 = some (.iastore, 1, 0, 0, 0, 0) := (congrArg (fun t => List.lookup 122 t) gt108).trans rfl
theorem t108_123 : zT 108 123 = some (.aload_n 0, 1, 0, 0, 0, 0) := (congrArg (fun t => List.lookup 123 t) gt108).trans rfl
theorem t108_124 : zT 108 124 = some (.getfield 19, 3, 5, 2, 0, 351) := (congrArg (fun t => List.lookup 124 t) gt108).trans rfl
theorem t108_127 : zT 108 127 = some (.aload_n 0, 1, 0, 0, 0, 0) := (congrArg (fun t => List.lookup 127 t) gt108).trans rfl
theorem t108_128 : zT 108 128 = some (.getfield 9, 3, 5, 0, 0, 349) := (congrArg (fun t => List.lookup 128 t) gt108).trans rfl
theorem t108_131 : zT 108 131 = some (.iload 5, 2, 0, 0, 0, 0) := (congrArg (fun t => List.lookup 131 t) gt108).trans rfl
theorem t108_133 : zT 108 133 = some (.iconst 2, 1, 0, 0, 2, 0) := (congrArg (fun t => List.lookup 133 t) gt108).trans (by decide +kernel)
theorem t108_134 : zT 108 134 = some (.irem, 1, 0, 0, 0, 0) := (congrArg (fun t => List.lookup 134 t) gt108).trans (by decide +kernel)
theorem t108_135 : zT 108 135 = some (.ifCond .ne 9, 3, 144, 0, 0, 0) := (congrArg (fun t => List.lookup 135 t) gt108).trans (by decide +kernel)
theorem t108_138 : zT 108 138 = some (.iload 4, 2, 0, 0, 0, 0) := (congrArg (fun t => List.lookup 138 t) gt108).trans (by decide +kernel)
theorem t108_140 : zT 108 140 = some (.ineg, 1, 0, 0, 0, 0) := (congrArg (fun t => List.lookup 140 t) gt108).trans (by decide +kernel)
theorem t108_141 : zT 108 141 = some (.goto 5, 3, 146, 0, 0, 0) := (congrArg (fun t => List.lookup 141 t) gt108).trans (by decide +kernel)
theorem t108_144 : zT 108 144 = some (.iload 4, 2, 0, 0, 0, 0) := (congrArg (fun t => List.lookup 144 t) gt108).trans (by decide +kernel)
theorem t108_146 : zT 108 146 = some (.iastore, 1, 0, 0, 0, 0) := (congrArg (fun t => List.lookup 146 t) gt108).trans (by decide +kernel)
theorem t108_147 : zT 108 147 = some (.aload_n 0, 1, 0, 0, 0, 0) := (congrArg (fun t => List.lookup 147 t) gt108).trans (by decide +kernel)
theorem t108_148 : zT 108 148 = some (.dup, 1, 0, 0, 0, 0) := (congrArg (fun t => List.lookup 148 t) gt108).trans (by decide +kernel)
theorem t108_149 : zT 108 149 = some (.getfield 9, 3, 5, 0, 0, 349) := (congrArg (fun t => List.lookup 149 t) gt108).trans (by decide +kernel)
theorem t108_152 : zT 108 152 = some (.iconst 1, 1, 0, 0, 1, 0) := (congrArg (fun t => List.lookup 152 t) gt108).trans (by decide +kernel)
theorem t108_153 : zT 108 153 = some (.iadd, 1, 0, 0, 0, 0) := (congrArg (fun t => List.lookup 153 t) gt108).trans (by decide +kernel)
theorem t108_154 : zT 108 154 = some (.putfield 9, 3, 5, 0, 0, 349) := (congrArg (fun t => List.lookup 154 t) gt108).trans (by decide +kernel)
theorem t108_157 : zT 108 157 = some (.iinc 5 1, 3, 0, 0, 0, 0) := (congrArg (fun t => List.lookup 157 t) gt108).trans (by decide +kernel)
theorem t108_160 : zT 108 160 = some (.goto (-124), 3, 36, 0, 0, 0) := (congrArg (fun t => List.lookup 160 t) gt108).trans (by decide +kernel)
theorem t108_163 : zT 108 163 = some (.iinc 4 1, 3, 0, 0, 0, 0) := (congrArg (fun t => List.lookup 163 t) gt108).trans (by decide +kernel)
theorem t108_166 : zT 108 166 = some (.goto (-146), 3, 20, 0, 0, 0) := (congrArg (fun t => List.lookup 166 t) gt108).trans (by decide +kernel)
theorem t108_169 : zT 108 169 = some (.iinc 3 1, 3, 0, 0, 0, 0) := (congrArg (fun t => List.lookup 169 t) gt108).trans (by decide +kernel)
theorem t108_172 : zT 108 172 = some (.goto (-165), 3, 7, 0, 0, 0) := (congrArg (fun t => List.lookup 172 t) gt108).trans (by decide +kernel)
theorem t108_175 : zT 108 175 = some (.return_, 1, 0, 0, 0, 0) := (congrArg (fun t => List.lookup 175 t) gt108).trans (by decide +kernel)
theorem t109_0 : zT 109 0 = some (.aload_n 1, 1, 1, 0, 0, 0) := (congrArg (fun t => List.lookup 0 t) gt109).trans rfl
theorem t109_1 : zT 109 1 = some (.iconst 0, 1, 0, 0, 0, 0) := (congrArg (fun t => List.lookup 1 t) gt109).trans rfl
theorem t109_2 : zT 109 2 = some (.invokevirtual 70, 3, 96, 0, 0, 1081) := (congrArg (fun t => List.lookup 2 t) gt109).trans rfl
theorem t109_5 : zT 109 5 = some (.iconst 3, 1, 0, 0, 3, 0) := (congrArg (fun t => List.lookup 5 t) gt109).trans rfl
theorem t109_6 : zT 109 6 = some (.invokestatic 103, 3, 20, 1, 0, 1091) := (congrArg (fun t => List.lookup 6 t) gt109).trans rfl
theorem t109_9 : zT 109 9 = some (.istore_n 2, 1, 2, 0, 0, 0) := (congrArg (fun t => List.lookup 9 t) gt109).trans rfl
theorem t109_10 : zT 109 10 = some (.aload_n 1, 1, 1, 0, 0, 0) := (congrArg (fun t => List.lookup 10 t) gt109).trans rfl
theorem t109_11 : zT 109 11 = some (.iconst 1, 1, 0, 0, 1, 0) := (congrArg (fun t => List.lookup 11 t) gt109).trans rfl
theorem t109_12 : zT 109 12 = some (.invokevirtual 70, 3, 96, 0, 0, 1081) := (congrArg (fun t => List.lookup 12 t) gt109).trans rfl
theorem t109_15 : zT 109 15 = some (.bipush 20, 2, 0, 0, 20, 0) := (congrArg (fun t => List.lookup 15 t) gt109).trans rfl
theorem t109_17 : zT 109 17 = some (.invokestatic 103, 3, 20, 1, 0, 1091) := (congrArg (fun t => List.lookup 17 t) gt109).trans rfl
theorem t109_20 : zT 109 20 = some (.istore_n 3, 1, 3, 0, 0, 0) := (congrArg (fun t => List.lookup 20 t) gt109).trans rfl
theorem t109_21 : zT 109 21 = some (.iconst 0, 1, 0, 0, 0, 0) := (congrArg (fun t => List.lookup 21 t) gt109).trans rfl
theorem t109_22 : zT 109 22 = some (.istore 4, 2, 0, 0, 0, 0) := (congrArg (fun t => List.lookup 22 t) gt109).trans rfl
theorem t109_24 : zT 109 24 = some (.iload 4, 2, 0, 0, 0, 0) := (congrArg (fun t => List.lookup 24 t) gt109).trans rfl
theorem t109_26 : zT 109 26 = some (.aload_n 1, 1, 1, 0, 0, 0) := (congrArg (fun t => List.lookup 26 t) gt109).trans rfl
theorem t109_27 : zT 109 27 = some (.getfield 106, 3, 6, 0, 0, 153) := (congrArg (fun t => List.lookup 27 t) gt109).trans rfl
theorem t109_30 : zT 109 30 = some (.if_icmp .ge 88, 3, 118, 0, 0, 0) := (congrArg (fun t => List.lookup 30 t) gt109).trans rfl
theorem t109_33 : zT 109 33 = some (.iload_n 2, 1, 2, 0, 0, 0) := (congrArg (fun t => List.lookup 33 t) gt109).trans rfl
theorem t109_34 : zT 109 34 = some (.ineg, 1, 0, 0, 0, 0) := (congrArg (fun t => List.lookup 34 t) gt109).trans rfl
theorem t109_35 : zT 109 35 = some (.istore 5, 2, 0, 0, 0, 0) := (congrArg (fun t => List.lookup 35 t) gt109).trans rfl
theorem t109_37 : zT 109 37 = some (.iload 5, 2, 0, 0, 0, 0) := (congrArg (fun t => List.lookup 37 t) gt109).trans rfl
theorem t109_39 : zT 109 39 = some (.iload_n 2, 1, 2, 0, 0, 0) := (congrArg (fun t => List.lookup 39 t) gt109).trans rfl
theorem t109_40 : zT 109 40 = some (.if_icmp .gt 32, 3, 72, 0, 0, 0) := (congrArg (fun t => List.lookup 40 t) gt109).trans rfl
theorem t109_43 : zT 109 43 = some (.aload_n 0, 1, 0, 0, 0, 0) := (congrArg (fun t => List.lookup 43 t) gt109).trans rfl
theorem t109_44 : zT 109 44 = some (.getfield 22, 3, 5, 3, 0, 352) := (congrArg (fun t => List.lookup 44 t) gt109).trans rfl
theorem t109_47 : zT 109 47 = some (.iload 5, 2, 0, 0, 0, 0) := (congrArg (fun t => List.lookup 47 t) gt109).trans rfl
theorem t109_49 : zT 109 49 = some (.iconst 3, 1, 0, 0, 3, 0) := (congrArg (fun t => List.lookup 49 t) gt109).trans rfl
theorem t109_50 : zT 109 50 = some (.iadd, 1, 0, 0, 0, 0) := (congrArg (fun t => List.lookup 50 t) gt109).trans rfl
theorem t109_51 : zT 109 51 = some (.bipush 8, 2, 0, 0, 8, 0) := (congrArg (fun t => List.lookup 51 t) gt109).trans rfl
theorem t109_53 : zT 109 53 = some (.imul, 1, 0, 0, 0, 0) := (congrArg (fun t => List.lookup 53 t) gt109).trans rfl
theorem t109_54 : zT 109 54 = some (.iload 4, 2, 0, 0, 0, 0) := (congrArg (fun t => List.lookup 54 t) gt109).trans rfl
theorem t109_56 : zT 109 56 = some (.iadd, 1, 0, 0, 0, 0) := (congrArg (fun t => List.lookup 56 t) gt109).trans rfl
theorem t109_57 : zT 109 57 = some (.aload_n 1, 1, 1, 0, 0, 0) := (congrArg (fun t => List.lookup 57 t) gt109).trans rfl
theorem t109_58 : zT 109 58 = some (.iload 4, 2, 0, 0, 0, 0) := (congrArg (fun t => List.lookup 58 t) gt109).trans rfl
theorem t109_60 : zT 109 60 = some (.iload 5, 2, 0, 0, 0, 0) := (congrArg (fun t => List.lookup 60 t) gt109).trans rfl
theorem t109_62 : zT 109 62 = some (.invokevirtual 109, 3, 55, 0, 0, 1092) := (congrArg (fun t => List.lookup 62 t) gt109).trans rfl
theorem t109_65 : zT 109 65 = some (.iastore, 1, 0, 0, 0, 0) := (congrArg (fun t => List.lookup 65 t) gt109).trans rfl
theorem t109_66 : zT 109 66 = some (.iinc 5 1, 3, 0, 0, 0, 0) := (congrArg (fun t => List.lookup 66 t) gt109).trans rfl
theorem t109_69 : zT 109 69 = some (.goto (-32), 3, 37, 0, 0, 0) := (congrArg (fun t => List.lookup 69 t) gt109).trans rfl
theorem t109_72 : zT 109 72 = some (.iload_n 3, 1, 3, 0, 0, 0) := (congrArg (fun t => List.lookup 72 t) gt109).trans rfl
theorem t109_73 : zT 109 73 = some (.ineg, 1, 0, 0, 0, 0) := (congrArg (fun t => List.lookup 73 t) gt109).trans rfl
theorem t109_74 : zT 109 74 = some (.istore 5, 2, 0, 0, 0, 0) := (congrArg (fun t => List.lookup 74 t) gt109).trans rfl
theorem t109_76 : zT 109 76 = some (.iload 5, 2, 0, 0, 0, 0) := (congrArg (fun t => List.lookup 76 t) gt109).trans rfl
theorem t109_78 : zT 109 78 = some (.iload_n 3, 1, 3, 0, 0, 0) := (congrArg (fun t => List.lookup 78 t) gt109).trans rfl
theorem t109_79 : zT 109 79 = some (.if_icmp .gt 33, 3, 112, 0, 0, 0) := (congrArg (fun t => List.lookup 79 t) gt109).trans rfl
theorem t109_82 : zT 109 82 = some (.aload_n 0, 1, 0, 0, 0, 0) := (congrArg (fun t => List.lookup 82 t) gt109).trans rfl
theorem t109_83 : zT 109 83 = some (.getfield 25, 3, 5, 4, 0, 353) := (congrArg (fun t => List.lookup 83 t) gt109).trans rfl
theorem t109_86 : zT 109 86 = some (.iload 5, 2, 0, 0, 0, 0) := (congrArg (fun t => List.lookup 86 t) gt109).trans rfl
theorem t109_88 : zT 109 88 = some (.bipush 20, 2, 0, 0, 20, 0) := (congrArg (fun t => List.lookup 88 t) gt109).trans rfl
theorem t109_90 : zT 109 90 = some (.iadd, 1, 0, 0, 0, 0) := (congrArg (fun t => List.lookup 90 t) gt109).trans rfl
theorem t109_91 : zT 109 91 = some (.bipush 8, 2, 0, 0, 8, 0) := (congrArg (fun t => List.lookup 91 t) gt109).trans rfl
theorem t109_93 : zT 109 93 = some (.imul, 1, 0, 0, 0, 0) := (congrArg (fun t => List.lookup 93 t) gt109).trans rfl
theorem t109_94 : zT 109 94 = some (.iload 4, 2, 0, 0, 0, 0) := (congrArg (fun t => List.lookup 94 t) gt109).trans rfl
theorem t109_96 : zT 109 96 = some (.iadd, 1, 0, 0, 0, 0) := (congrArg (fun t => List.lookup 96 t) gt109).trans rfl
theorem t109_97 : zT 109 97 = some (.aload_n 1, 1, 1, 0, 0, 0) := (congrArg (fun t => List.lookup 97 t) gt109).trans rfl
theorem t109_98 : zT 109 98 = some (.iload 4, 2, 0, 0, 0, 0) := (congrArg (fun t => List.lookup 98 t) gt109).trans rfl
theorem t109_100 : zT 109 100 = some (.iload 5, 2, 0, 0, 0, 0) := (congrArg (fun t => List.lookup 100 t) gt109).trans rfl
theorem t109_102 : zT 109 102 = some (.invokevirtual 112, 3, 53, 0, 0, 1093) := (congrArg (fun t => List.lookup 102 t) gt109).trans rfl
theorem t109_105 : zT 109 105 = some (.iastore, 1, 0, 0, 0, 0) := (congrArg (fun t => List.lookup 105 t) gt109).trans rfl
theorem t109_106 : zT 109 106 = some (.iinc 5 1, 3, 0, 0, 0, 0) := (congrArg (fun t => List.lookup 106 t) gt109).trans rfl
theorem t109_109 : zT 109 109 = some (.goto (-33), 3, 76, 0, 0, 0) := (congrArg (fun t => List.lookup 109 t) gt109).trans rfl
theorem t109_112 : zT 109 112 = some (.iinc 4 1, 3, 0, 0, 0, 0) := (congrArg (fun t => List.lookup 112 t) gt109).trans rfl
theorem t109_115 : zT 109 115 = some (.goto (-91), 3, 24, 0, 0, 0) := (congrArg (fun t => List.lookup 115 t) gt109).trans rfl
theorem t109_118 : zT 109 118 = some (.return_, 1, 0, 0, 0, 0) := (congrArg (fun t => List.lookup 118 t) gt109).trans rfl
theorem t110_0 : zT 110 0 = some (.aload_n 0, 1, 0, 0, 0, 0) := (congrArg (fun t => List.lookup 0 t) gt110).trans rfl
theorem t110_1 : zT 110 1 = some (.getfield 9, 3, 5, 0, 0, 349) := (congrArg (fun t => List.lookup 1 t) gt110).trans rfl
theorem t110_4 : zT 110 4 = some (.ireturn, 1, 0, 0, 0, 0) := (congrArg (fun t => List.lookup 4 t) gt110).trans rfl
theorem t111_0 : zT 111 0 = some (.iconst (-1), 1, 0, 0, (-1), 0) := (congrArg (fun t => List.lookup 0 t) gt111).trans rfl
theorem t111_1 : zT 111 1 = some (.istore_n 2, 1, 2, 0, 0, 0) := (congrArg (fun t => List.lookup 1 t) gt111).trans rfl
theorem t111_2 : zT 111 2 = some (.aload_n 0, 1, 0, 0, 0, 0) := (congrArg (fun t => List.lookup 2 t) gt111).trans rfl
theorem t111_3 : zT 111 3 = some (.getfield 12, 3, 0, 0, 0, 473) := (congrArg (fun t => List.lookup 3 t) gt111).trans rfl
theorem t111_6 : zT 111 6 = some (.invokevirtual 68, 3, 112, 0, 0, 1103) := (congrArg (fun t => List.lookup 6 t) gt111).trans rfl
theorem t111_9 : zT 111 9 = some (.istore_n 3, 1, 3, 0, 0, 0) := (congrArg (fun t => List.lookup 9 t) gt111).trans rfl
theorem t111_10 : zT 111 10 = some (.aload_n 0, 1, 0, 0, 0, 0) := (congrArg (fun t => List.lookup 10 t) gt111).trans rfl
theorem t111_11 : zT 111 11 = some (.iload_n 1, 1, 1, 0, 0, 0) := (congrArg (fun t => List.lookup 11 t) gt111).trans rfl
theorem t111_12 : zT 111 12 = some (.iconst 1, 1, 0, 0, 1, 0) := (congrArg (fun t => List.lookup 12 t) gt111).trans rfl
theorem t111_13 : zT 111 13 = some (.isub, 1, 0, 0, 0, 0) := (congrArg (fun t => List.lookup 13 t) gt111).trans rfl
theorem t111_14 : zT 111 14 = some (.putfield 32, 3, 0, 4, 0, 477) := (congrArg (fun t => List.lookup 14 t) gt111).trans rfl
theorem t111_17 : zT 111 17 = some (.iconst 0, 1, 0, 0, 0, 0) := (congrArg (fun t => List.lookup 17 t) gt111).trans rfl
theorem t111_18 : zT 111 18 = some (.istore 4, 2, 0, 0, 0, 0) := (congrArg (fun t => List.lookup 18 t) gt111).trans rfl
theorem t111_20 : zT 111 20 = some (.iload 4, 2, 0, 0, 0, 0) := (congrArg (fun t => List.lookup 20 t) gt111).trans rfl
theorem t111_22 : zT 111 22 = some (.aload_n 0, 1, 0, 0, 0, 0) := (congrArg (fun t => List.lookup 22 t) gt111).trans rfl
theorem t111_23 : zT 111 23 = some (.getfield 12, 3, 0, 0, 0, 473) := (congrArg (fun t => List.lookup 23 t) gt111).trans rfl
theorem t111_26 : zT 111 26 = some (.invokevirtual 43, 3, 110, 0, 0, 1095) := (congrArg (fun t => List.lookup 26 t) gt111).trans rfl
theorem t111_29 : zT 111 29 = some (.if_icmp .ge 96, 3, 125, 0, 0, 0) := (congrArg (fun t => List.lookup 29 t) gt111).trans rfl
theorem t111_32 : zT 111 32 = some (.aload_n 0, 1, 0, 0, 0, 0) := (congrArg (fun t => List.lookup 32 t) gt111).trans rfl
theorem t111_33 : zT 111 33 = some (.getfield 32, 3, 0, 4, 0, 477) := (congrArg (fun t => List.lookup 33 t) gt111).trans rfl
theorem t111_36 : zT 111 36 = some (.iload_n 3, 1, 3, 0, 0, 0) := (congrArg (fun t => List.lookup 36 t) gt111).trans rfl
theorem t111_37 : zT 111 37 = some (.if_icmp .ge 88, 3, 125, 0, 0, 0) := (congrArg (fun t => List.lookup 37 t) gt111).trans rfl
theorem t111_40 : zT 111 40 = some (.aload_n 0, 1, 0, 0, 0, 0) := (congrArg (fun t => List.lookup 40 t) gt111).trans rfl
theorem t111_41 : zT 111 41 = some (.getfield 28, 3, 0, 3, 0, 476) := (congrArg (fun t => List.lookup 41 t) gt111).trans rfl
theorem t111_44 : zT 111 44 = some (.iload 4, 2, 0, 0, 0, 0) := (congrArg (fun t => List.lookup 44 t) gt111).trans rfl
theorem t111_46 : zT 111 46 = some (.iaload, 1, 0, 0, 0, 0) := (congrArg (fun t => List.lookup 46 t) gt111).trans rfl
theorem t111_47 : zT 111 47 = some (.aload_n 0, 1, 0, 0, 0, 0) := (congrArg (fun t => List.lookup 47 t) gt111).trans rfl
theorem t111_48 : zT 111 48 = some (.getfield 32, 3, 0, 4, 0, 477) := (congrArg (fun t => List.lookup 48 t) gt111).trans rfl
theorem t111_51 : zT 111 51 = some (.if_icmp .gt 6, 3, 57, 0, 0, 0) := (congrArg (fun t => List.lookup 51 t) gt111).trans rfl
theorem t111_54 : zT 111 54 = some (.goto 65, 3, 119, 0, 0, 0) := (congrArg (fun t => List.lookup 54 t) gt111).trans rfl
theorem t111_57 : zT 111 57 = some (.aload_n 0, 1, 0, 0, 0, 0) := (congrArg (fun t => List.lookup 57 t) gt111).trans rfl
theorem t111_58 : zT 111 58 = some (.getfield 12, 3, 0, 0, 0, 473) := (congrArg (fun t => List.lookup 58 t) gt111).trans rfl
theorem t111_61 : zT 111 61 = some (.iload 4, 2, 0, 0, 0, 0) := (congrArg (fun t => List.lookup 61 t) gt111).trans rfl
theorem t111_63 : zT 111 63 = some (.invokevirtual 71, 3, 114, 0, 0, 1113) := (congrArg (fun t => List.lookup 63 t) gt111).trans rfl
theorem t111_66 : zT 111 66 = some (.aload_n 0, 1, 0, 0, 0, 0) := (congrArg (fun t => List.lookup 66 t) gt111).trans rfl
theorem t111_67 : zT 111 67 = some (.getfield 28, 3, 0, 3, 0, 476) := (congrArg (fun t => List.lookup 67 t) gt111).trans rfl
theorem t111_70 : zT 111 70 = some (.iload 4, 2, 0, 0, 0, 0) := (congrArg (fun t => List.lookup 70 t) gt111).trans rfl
theorem t111_72 : zT 111 72 = some (.aload_n 0, 1, 0, 0, 0, 0) := (congrArg (fun t => List.lookup 72 t) gt111).trans rfl
theorem t111_73 : zT 111 73 = some (.getfield 12, 3, 0, 0, 0, 473) := (congrArg (fun t => List.lookup 73 t) gt111).trans rfl
theorem t111_76 : zT 111 76 = some (.invokevirtual 75, 3, 118, 0, 0, 1130) := (congrArg (fun t => List.lookup 76 t) gt111).trans rfl
theorem t111_79 : zT 111 79 = some (.iastore, 1, 0, 0, 0, 0) := (congrArg (fun t => List.lookup 79 t) gt111).trans rfl
theorem t111_80 : zT 111 80 = some (.aload_n 0, 1, 0, 0, 0, 0) := (congrArg (fun t => List.lookup 80 t) gt111).trans rfl
theorem t111_81 : zT 111 81 = some (.getfield 12, 3, 0, 0, 0, 473) := (congrArg (fun t => List.lookup 81 t) gt111).trans rfl
theorem t111_84 : zT 111 84 = some (.invokevirtual 75, 3, 118, 0, 0, 1130) := (congrArg (fun t => List.lookup 84 t) gt111).trans rfl
theorem t111_87 : zT 111 87 = some (.aload_n 0, 1, 0, 0, 0, 0) := (congrArg (fun t => List.lookup 87 t) gt111).trans rfl
theorem t111_88 : zT 111 88 = some (.getfield 32, 3, 0, 4, 0, 477) := (congrArg (fun t => List.lookup 88 t) gt111).trans rfl
theorem t111_91 : zT 111 91 = some (.if_icmp .le 28, 3, 119, 0, 0, 0) := (congrArg (fun t => List.lookup 91 t) gt111).trans rfl
theorem t111_94 : zT 111 94 = some (.iload 4, 2, 0, 0, 0, 0) := (congrArg (fun t => List.lookup 94 t) gt111).trans rfl
theorem t111_96 : zT 111 96 = some (.istore_n 2, 1, 2, 0, 0, 0) := (congrArg (fun t => List.lookup 96 t) gt111).trans rfl
theorem t111_97 : zT 111 97 = some (.aload_n 0, 1, 0, 0, 0, 0) := (congrArg (fun t => List.lookup 97 t) gt111).trans rfl
theorem t111_98 : zT 111 98 = some (.aload_n 0, 1, 0, 0, 0, 0) := (congrArg (fun t => List.lookup 98 t) gt111).trans rfl
theorem t111_99 : zT 111 99 = some (.getfield 12, 3, 0, 0, 0, 473) := (congrArg (fun t => List.lookup 99 t) gt111).trans rfl
theorem t111_102 : zT 111 102 = some (.invokevirtual 75, 3, 118, 0, 0, 1130) := (congrArg (fun t => List.lookup 102 t) gt111).trans rfl
theorem t111_105 : zT 111 105 = some (.putfield 32, 3, 0, 4, 0, 477) := (congrArg (fun t => List.lookup 105 t) gt111).trans rfl
theorem t111_108 : zT 111 108 = some (.aload_n 0, 1, 0, 0, 0, 0) := (congrArg (fun t => List.lookup 108 t) gt111).trans rfl
theorem t111_109 : zT 111 109 = some (.aload_n 0, 1, 0, 0, 0, 0) := (congrArg (fun t => List.lookup 109 t) gt111).trans rfl
theorem t111_110 : zT 111 110 = some (.getfield 12, 3, 0, 0, 0, 473) := (congrArg (fun t => List.lookup 110 t) gt111).trans rfl
theorem t111_113 : zT 111 113 = some (.invokevirtual 77, 3, 119, 0, 0, 1134) := (congrArg (fun t => List.lookup 113 t) gt111).trans rfl
theorem t111_116 : zT 111 116 = some (.putfield 35, 3, 0, 5, 0, 478) := (congrArg (fun t => List.lookup 116 t) gt111).trans rfl
theorem t111_119 : zT 111 119 = some (.iinc 4 1, 3, 0, 0, 0, 0) := (congrArg (fun t => List.lookup 119 t) gt111).trans rfl
theorem t111_122 : zT 111 122 = some (.goto (-102), 3, 20, 0, 0, 0) := (congrArg (fun t => List.lookup 122 t) gt111).trans rfl
theorem t111_125 : zT 111 125 = some (.iload_n 2, 1, 2, 0, 0, 0) := (congrArg (fun t => List.lookup 125 t) gt111).trans rfl
theorem t111_126 : zT 111 126 = some (.ireturn, 1, 0, 0, 0, 0) := (congrArg (fun t => List.lookup 126 t) gt111).trans rfl
theorem t112_0 : zT 112 0 = some (.iconst 0, 1, 0, 0, 0, 0) := (congrArg (fun t => List.lookup 0 t) gt112).trans rfl
theorem t112_1 : zT 112 1 = some (.istore_n 1, 1, 1, 0, 0, 0) := (congrArg (fun t => List.lookup 1 t) gt112).trans rfl
theorem t112_2 : zT 112 2 = some (.iconst 0, 1, 0, 0, 0, 0) := (congrArg (fun t => List.lookup 2 t) gt112).trans rfl
theorem t112_3 : zT 112 3 = some (.istore_n 2, 1, 2, 0, 0, 0) := (congrArg (fun t => List.lookup 3 t) gt112).trans rfl
theorem t112_4 : zT 112 4 = some (.iload_n 2, 1, 2, 0, 0, 0) := (congrArg (fun t => List.lookup 4 t) gt112).trans rfl
theorem t112_5 : zT 112 5 = some (.aload_n 0, 1, 0, 0, 0, 0) := (congrArg (fun t => List.lookup 5 t) gt112).trans rfl
theorem t112_6 : zT 112 6 = some (.getfield 31, 3, 5, 6, 0, 355) := (congrArg (fun t => List.lookup 6 t) gt112).trans rfl
theorem t112_9 : zT 112 9 = some (.if_icmp .ge 20, 3, 29, 0, 0, 0) := (congrArg (fun t => List.lookup 9 t) gt112).trans rfl
theorem t112_12 : zT 112 12 = some (.iload_n 1, 1, 1, 0, 0, 0) := (congrArg (fun t => List.lookup 12 t) gt112).trans rfl
theorem t112_13 : zT 112 13 = some (.iconst 1, 1, 0, 0, 1, 0) := (congrArg (fun t => List.lookup 13 t) gt112).trans rfl
theorem t112_14 : zT 112 14 = some (.aload_n 0, 1, 0, 0, 0, 0) := (congrArg (fun t => List.lookup 14 t) gt112).trans rfl
theorem t112_15 : zT 112 15 = some (.getfield 37, 3, 5, 8, 0, 357) := (congrArg (fun t => List.lookup 15 t) gt112).trans rfl
theorem t112_18 : zT 112 18 = some (.iload_n 2, 1, 2, 0, 0, 0) := (congrArg (fun t => List.lookup 18 t) gt112).trans rfl
theorem t112_19 : zT 112 19 = some (.iaload, 1, 0, 0, 0, 0) := (congrArg (fun t => List.lookup 19 t) gt112).trans rfl
theorem t112_20 : zT 112 20 = some (.ishl, 1, 0, 0, 0, 0) := (congrArg (fun t => List.lookup 20 t) gt112).trans rfl
theorem t112_21 : zT 112 21 = some (.ior, 1, 0, 0, 0, 0) := (congrArg (fun t => List.lookup 21 t) gt112).trans rfl
theorem t112_22 : zT 112 22 = some (.istore_n 1, 1, 1, 0, 0, 0) := (congrArg (fun t => List.lookup 22 t) gt112).trans rfl
theorem t112_23 : zT 112 23 = some (.iinc 2 1, 3, 0, 0, 0, 0) := (congrArg (fun t => List.lookup 23 t) gt112).trans rfl
theorem t112_26 : zT 112 26 = some (.goto (-22), 3, 4, 0, 0, 0) := (congrArg (fun t => List.lookup 26 t) gt112).trans rfl
theorem t112_29 : zT 112 29 = some (.iload_n 1, 1, 1, 0, 0, 0) := (congrArg (fun t => List.lookup 29 t) gt112).trans rfl
theorem t112_30 : zT 112 30 = some (.invokestatic 115, 3, 113, 1, 0, 1107) := (congrArg (fun t => List.lookup 30 t) gt112).trans rfl
theorem t112_33 : zT 112 33 = some (.ireturn, 1, 0, 0, 0, 0) := (congrArg (fun t => List.lookup 33 t) gt112).trans rfl
theorem t113_0 : zT 113 0 = some (.iload_n 0, 1, 0, 0, 0, 0) := (congrArg (fun t => List.lookup 0 t) gt113).trans rfl
theorem t113_1 : zT 113 1 = some (.iload_n 0, 1, 0, 0, 0, 0) := (congrArg (fun t => List.lookup 1 t) gt113).trans rfl
theorem t113_2 : zT 113 2 = some (.iconst 1, 1, 0, 0, 1, 0) := (congrArg (fun t => List.lookup 2 t) gt113).trans rfl
theorem t113_3 : zT 113 3 = some (.iushr, 1, 0, 0, 0, 0) := (congrArg (fun t => List.lookup 3 t) gt113).trans rfl
theorem t113_4 : zT 113 4 = some (.ldc_w 265, 3, 0, 0, 1431655765, 1110) := (congrArg (fun t => List.lookup 4 t) gt113).trans rfl
theorem t113_7 : zT 113 7 = some (.iand, 1, 0, 0, 0, 0) := (congrArg (fun t => List.lookup 7 t) gt113).trans rfl
theorem t113_8 : zT 113 8 = some (.isub, 1, 0, 0, 0, 0) := (congrArg (fun t => List.lookup 8 t) gt113).trans rfl
theorem t113_9 : zT 113 9 = some (.istore_n 0, 1, 0, 0, 0, 0) := (congrArg (fun t => List.lookup 9 t) gt113).trans rfl
theorem t113_10 : zT 113 10 = some (.iload_n 0, 1, 0, 0, 0, 0) := (congrArg (fun t => List.lookup 10 t) gt113).trans rfl
theorem t113_11 : zT 113 11 = some (.ldc_w 266, 3, 0, 0, 858993459, 1111) := (congrArg (fun t => List.lookup 11 t) gt113).trans rfl
theorem t113_14 : zT 113 14 = some (.iand, 1, 0, 0, 0, 0) := (congrArg (fun t => List.lookup 14 t) gt113).trans rfl
theorem t113_15 : zT 113 15 = some (.iload_n 0, 1, 0, 0, 0, 0) := (congrArg (fun t => List.lookup 15 t) gt113).trans rfl
theorem t113_16 : zT 113 16 = some (.iconst 2, 1, 0, 0, 2, 0) := (congrArg (fun t => List.lookup 16 t) gt113).trans rfl
theorem t113_17 : zT 113 17 = some (.iushr, 1, 0, 0, 0, 0) := (congrArg (fun t => List.lookup 17 t) gt113).trans rfl
theorem t113_18 : zT 113 18 = some (.ldc_w 266, 3, 0, 0, 858993459, 1111) := (congrArg (fun t => List.lookup 18 t) gt113).trans rfl
theorem t113_21 : zT 113 21 = some (.iand, 1, 0, 0, 0, 0) := (congrArg (fun t => List.lookup 21 t) gt113).trans rfl
theorem t113_22 : zT 113 22 = some (.iadd, 1, 0, 0, 0, 0) := (congrArg (fun t => List.lookup 22 t) gt113).trans rfl
theorem t113_23 : zT 113 23 = some (.istore_n 0, 1, 0, 0, 0, 0) := (congrArg (fun t => List.lookup 23 t) gt113).trans rfl
theorem t113_24 : zT 113 24 = some (.iload_n 0, 1, 0, 0, 0, 0) := (congrArg (fun t => List.lookup 24 t) gt113).trans rfl
theorem t113_25 : zT 113 25 = some (.iload_n 0, 1, 0, 0, 0, 0) := (congrArg (fun t => List.lookup 25 t) gt113).trans rfl
theorem t113_26 : zT 113 26 = some (.iconst 4, 1, 0, 0, 4, 0) := (congrArg (fun t => List.lookup 26 t) gt113).trans rfl
theorem t113_27 : zT 113 27 = some (.iushr, 1, 0, 0, 0, 0) := (congrArg (fun t => List.lookup 27 t) gt113).trans rfl
theorem t113_28 : zT 113 28 = some (.iadd, 1, 0, 0, 0, 0) := (congrArg (fun t => List.lookup 28 t) gt113).trans rfl
theorem t113_29 : zT 113 29 = some (.ldc_w 267, 3, 0, 0, 252645135, 1112) := (congrArg (fun t => List.lookup 29 t) gt113).trans rfl
theorem t113_32 : zT 113 32 = some (.iand, 1, 0, 0, 0, 0) := (congrArg (fun t => List.lookup 32 t) gt113).trans rfl
theorem t113_33 : zT 113 33 = some (.istore_n 0, 1, 0, 0, 0, 0) := (congrArg (fun t => List.lookup 33 t) gt113).trans rfl
theorem t113_34 : zT 113 34 = some (.iload_n 0, 1, 0, 0, 0, 0) := (congrArg (fun t => List.lookup 34 t) gt113).trans rfl
theorem t113_35 : zT 113 35 = some (.iload_n 0, 1, 0, 0, 0, 0) := (congrArg (fun t => List.lookup 35 t) gt113).trans rfl
theorem t113_36 : zT 113 36 = some (.bipush 8, 2, 0, 0, 8, 0) := (congrArg (fun t => List.lookup 36 t) gt113).trans rfl
theorem t113_38 : zT 113 38 = some (.iushr, 1, 0, 0, 0, 0) := (congrArg (fun t => List.lookup 38 t) gt113).trans rfl
theorem t113_39 : zT 113 39 = some (.iadd, 1, 0, 0, 0, 0) := (congrArg (fun t => List.lookup 39 t) gt113).trans rfl
theorem t113_40 : zT 113 40 = some (.istore_n 0, 1, 0, 0, 0, 0) := (congrArg (fun t => List.lookup 40 t) gt113).trans rfl
theorem t113_41 : zT 113 41 = some (.iload_n 0, 1, 0, 0, 0, 0) := (congrArg (fun t => List.lookup 41 t) gt113).trans rfl
theorem t113_42 : zT 113 42 = some (.iload_n 0, 1, 0, 0, 0, 0) := (congrArg (fun t => List.lookup 42 t) gt113).trans rfl
theorem t113_43 : zT 113 43 = some (.bipush 16, 2, 0, 0, 16, 0) := (congrArg (fun t => List.lookup 43 t) gt113).trans rfl
theorem t113_45 : zT 113 45 = some (.iushr, 1, 0, 0, 0, 0) := (congrArg (fun t => List.lookup 45 t) gt113).trans rfl
theorem t113_46 : zT 113 46 = some (.iadd, 1, 0, 0, 0, 0) := (congrArg (fun t => List.lookup 46 t) gt113).trans rfl
theorem t113_47 : zT 113 47 = some (.istore_n 0, 1, 0, 0, 0, 0) := (congrArg (fun t => List.lookup 47 t) gt113).trans rfl
theorem t113_48 : zT 113 48 = some (.iload_n 0, 1, 0, 0, 0, 0) := (congrArg (fun t => List.lookup 48 t) gt113).trans rfl
theorem t113_49 : zT 113 49 = some (.bipush 63, 2, 0, 0, 63, 0) := (congrArg (fun t => List.lookup 49 t) gt113).trans rfl
theorem t113_51 : zT 113 51 = some (.iand, 1, 0, 0, 0, 0) := (congrArg (fun t => List.lookup 51 t) gt113).trans rfl
theorem t113_52 : zT 113 52 = some (.ireturn, 1, 0, 0, 0, 0) := (congrArg (fun t => List.lookup 52 t) gt113).trans rfl
theorem t114_0 : zT 114 0 = some (.aload_n 0, 1, 0, 0, 0, 0) := (congrArg (fun t => List.lookup 0 t) gt114).trans rfl
theorem t114_1 : zT 114 1 = some (.iload_n 1, 1, 1, 0, 0, 0) := (congrArg (fun t => List.lookup 1 t) gt114).trans rfl
theorem t114_2 : zT 114 2 = some (.invokevirtual 120, 3, 115, 0, 0, 1117) := (congrArg (fun t => List.lookup 2 t) gt114).trans rfl
theorem t114_5 : zT 114 5 = some (.iconst 3, 1, 0, 0, 3, 0) := (congrArg (fun t => List.lookup 5 t) gt114).trans rfl
theorem t114_6 : zT 114 6 = some (.iadd, 1, 0, 0, 0, 0) := (congrArg (fun t => List.lookup 6 t) gt114).trans rfl
theorem t114_7 : zT 114 7 = some (.bipush 8, 2, 0, 0, 8, 0) := (congrArg (fun t => List.lookup 7 t) gt114).trans rfl
theorem t114_9 : zT 114 9 = some (.imul, 1, 0, 0, 0, 0) := (congrArg (fun t => List.lookup 9 t) gt114).trans rfl
theorem t114_10 : zT 114 10 = some (.istore_n 2, 1, 2, 0, 0, 0) := (congrArg (fun t => List.lookup 10 t) gt114).trans rfl
theorem t114_11 : zT 114 11 = some (.aload_n 0, 1, 0, 0, 0, 0) := (congrArg (fun t => List.lookup 11 t) gt114).trans rfl
theorem t114_12 : zT 114 12 = some (.iload_n 1, 1, 1, 0, 0, 0) := (congrArg (fun t => List.lookup 12 t) gt114).trans rfl
theorem t114_13 : zT 114 13 = some (.invokevirtual 123, 3, 116, 0, 0, 1121) := (congrArg (fun t => List.lookup 13 t) gt114).trans rfl
theorem t114_16 : zT 114 16 = some (.bipush 20, 2, 0, 0, 20, 0) := (congrArg (fun t => List.lookup 16 t) gt114).trans rfl
theorem t114_18 : zT 114 18 = some (.iadd, 1, 0, 0, 0, 0) := (congrArg (fun t => List.lookup 18 t) gt114).trans rfl
theorem t114_19 : zT 114 19 = some (.bipush 8, 2, 0, 0, 8, 0) := (congrArg (fun t => List.lookup 19 t) gt114).trans rfl
theorem t114_21 : zT 114 21 = some (.imul, 1, 0, 0, 0, 0) := (congrArg (fun t => List.lookup 21 t) gt114).trans rfl
theorem t114_22 : zT 114 22 = some (.istore_n 3, 1, 3, 0, 0, 0) := (congrArg (fun t => List.lookup 22 t) gt114).trans rfl
theorem t114_23 : zT 114 23 = some (.aload_n 0, 1, 0, 0, 0, 0) := (congrArg (fun t => List.lookup 23 t) gt114).trans rfl
theorem t114_24 : zT 114 24 = some (.dup, 1, 0, 0, 0, 0) := (congrArg (fun t => List.lookup 24 t) gt114).trans rfl
theorem t114_25 : zT 114 25 = some (.getfield 43, 3, 5, 10, 0, 359) := (congrArg (fun t => List.lookup 25 t) gt114).trans rfl
theorem t114_28 : zT 114 28 = some (.iconst 1, 1, 0, 0, 1, 0) := (congrArg (fun t => List.lookup 28 t) gt114).trans rfl
theorem t114_29 : zT 114 29 = some (.iadd, 1, 0, 0, 0, 0) := (congrArg (fun t => List.lookup 29 t) gt114).trans rfl
theorem t114_30 : zT 114 30 = some (.putfield 43, 3, 5, 10, 0, 359) := (congrArg (fun t => List.lookup 30 t) gt114).trans rfl
theorem t114_33 : zT 114 33 = some (.aload_n 0, 1, 0, 0, 0, 0) := (congrArg (fun t => List.lookup 33 t) gt114).trans rfl
theorem t114_34 : zT 114 34 = some (.iconst 0, 1, 0, 0, 0, 0) := (congrArg (fun t => List.lookup 34 t) gt114).trans rfl
theorem t114_35 : zT 114 35 = some (.putfield 58, 3, 5, 15, 0, 364) := (congrArg (fun t => List.lookup 35 t) gt114).trans rfl
theorem t114_38 : zT 114 38 = some (.aload_n 0, 1, 0, 0, 0, 0) := (congrArg (fun t => List.lookup 38 t) gt114).trans rfl
theorem t114_39 : zT 114 39 = some (.iconst 0, 1, 0, 0, 0, 0) := (congrArg (fun t => List.lookup 39 t) gt114).trans rfl
theorem t114_40 : zT 114 40 = some (.putfield 64, 3, 5, 17, 0, 366) := (congrArg (fun t => List.lookup 40 t) gt114).trans rfl
theorem t114_43 : zT 114 43 = some (.aload_n 0, 1, 0, 0, 0, 0) := (congrArg (fun t => List.lookup 43 t) gt114).trans rfl
theorem t114_44 : zT 114 44 = some (.iconst 0, 1, 0, 0, 0, 0) := (congrArg (fun t => List.lookup 44 t) gt114).trans rfl
theorem t114_45 : zT 114 45 = some (.putfield 67, 3, 5, 18, 0, 367) := (congrArg (fun t => List.lookup 45 t) gt114).trans rfl
theorem t114_48 : zT 114 48 = some (.iconst 0, 1, 0, 0, 0, 0) := (congrArg (fun t => List.lookup 48 t) gt114).trans rfl
theorem t114_49 : zT 114 49 = some (.istore 4, 2, 0, 0, 0, 0) := (congrArg (fun t => List.lookup 49 t) gt114).trans rfl
theorem t114_51 : zT 114 51 = some (.iload 4, 2, 0, 0, 0, 0) := (congrArg (fun t => List.lookup 51 t) gt114).trans rfl
theorem t114_53 : zT 114 53 = some (.aload_n 0, 1, 0, 0, 0, 0) := (congrArg (fun t => List.lookup 53 t) gt114).trans rfl
theorem t114_54 : zT 114 54 = some (.getfield 31, 3, 5, 6, 0, 355) := (congrArg (fun t => List.lookup 54 t) gt114).trans rfl
theorem t114_57 : zT 114 57 = some (.if_icmp .ge 157, 3, 214, 0, 0, 0) := (congrArg (fun t => List.lookup 57 t) gt114).trans rfl
theorem t114_60 : zT 114 60 = some (.aload_n 0, 1, 0, 0, 0, 0) := (congrArg (fun t => List.lookup 60 t) gt114).trans rfl
theorem t114_61 : zT 114 61 = some (.getfield 37, 3, 5, 8, 0, 357) := (congrArg (fun t => List.lookup 61 t) gt114).trans rfl
theorem t114_64 : zT 114 64 = some (.iload 4, 2, 0, 0, 0, 0) := (congrArg (fun t => List.lookup 64 t) gt114).trans rfl
theorem t114_66 : zT 114 66 = some (.iaload, 1, 0, 0, 0, 0) := (congrArg (fun t => List.lookup 66 t) gt114).trans rfl
theorem t114_67 : zT 114 67 = some (.istore 5, 2, 0, 0, 0, 0) := (congrArg (fun t => List.lookup 67 t) gt114).trans rfl
theorem t114_69 : zT 114 69 = some (.aload_n 0, 1, 0, 0, 0, 0) := (congrArg (fun t => List.lookup 69 t) gt114).trans rfl
theorem t114_70 : zT 114 70 = some (.getfield 40, 3, 5, 9, 0, 358) := (congrArg (fun t => List.lookup 70 t) gt114).trans rfl
theorem t114_73 : zT 114 73 = some (.iload 4, 2, 0, 0, 0, 0) := (congrArg (fun t => List.lookup 73 t) gt114).trans rfl
theorem t114_75 : zT 114 75 = some (.iaload, 1, 0, 0, 0, 0) := (congrArg (fun t => List.lookup 75 t) gt114).trans rfl
theorem t114_76 : zT 114 76 = some (.aload_n 0, 1, 0, 0, 0, 0) := (congrArg (fun t => List.lookup 76 t) gt114).trans rfl
theorem t114_77 : zT 114 77 = some (.getfield 22, 3, 5, 3, 0, 352) := (congrArg (fun t => List.lookup 77 t) gt114).trans rfl
theorem t114_80 : zT 114 80 = some (.iload_n 2, 1, 2, 0, 0, 0) := (congrArg (fun t => List.lookup 80 t) gt114).trans rfl
theorem t114_81 : zT 114 81 = some (.iload 5, 2, 0, 0, 0, 0) := (congrArg (fun t => List.lookup 81 t) gt114).trans rfl
theorem t114_83 : zT 114 83 = some (.iadd, 1, 0, 0, 0, 0) := (congrArg (fun t => List.lookup 83 t) gt114).trans rfl
theorem t114_84 : zT 114 84 = some (.iaload, 1, 0, 0, 0, 0) := (congrArg (fun t => List.lookup 84 t) gt114).trans rfl
theorem t114_85 : zT 114 85 = some (.isub, 1, 0, 0, 0, 0) := (congrArg (fun t => List.lookup 85 t) gt114).trans rfl
theorem t114_86 : zT 114 86 = some (.aload_n 0, 1, 0, 0, 0, 0) := (congrArg (fun t => List.lookup 86 t) gt114).trans rfl
theorem t114_87 : zT 114 87 = some (.getfield 25, 3, 5, 4, 0, 353) := (congrArg (fun t => List.lookup 87 t) gt114).trans rfl
theorem t114_90 : zT 114 90 = some (.iload_n 3, 1, 3, 0, 0, 0) := (congrArg (fun t => List.lookup 90 t) gt114).trans rfl
theorem t114_91 : zT 114 91 = some (.iload 5, 2, 0, 0, 0, 0) := (congrArg (fun t => List.lookup 91 t) gt114).trans rfl
theorem t114_93 : zT 114 93 = some (.iadd, 1, 0, 0, 0, 0) := (congrArg (fun t => List.lookup 93 t) gt114).trans rfl
theorem t114_94 : zT 114 94 = some (.iaload, 1, 0, 0, 0, 0) := (congrArg (fun t => List.lookup 94 t) gt114).trans rfl
theorem t114_95 : zT 114 95 = some (.isub, 1, 0, 0, 0, 0) := (congrArg (fun t => List.lookup 95 t) gt114).trans rfl
theorem t114_96 : zT 114 96 = some (.istore 6, 2, 0, 0, 0, 0) := (congrArg (fun t => List.lookup 96 t) gt114).trans rfl
theorem t114_98 : zT 114 98 = some (.iload 6, 2, 0, 0, 0, 0) := (congrArg (fun t => List.lookup 98 t) gt114).trans rfl
theorem t114_100 : zT 114 100 = some (.aload_n 0, 1, 0, 0, 0, 0) := (congrArg (fun t => List.lookup 100 t) gt114).trans rfl
theorem t114_101 : zT 114 101 = some (.getfield 28, 3, 5, 5, 0, 354) := (congrArg (fun t => List.lookup 101 t) gt114).trans rfl
theorem t114_104 : zT 114 104 = some (.invokestatic 126, 3, 54, 1, 0, 1125) := (congrArg (fun t => List.lookup 104 t) gt114).trans rfl
theorem t114_107 : zT 114 107 = some (.istore 7, 2, 0, 0, 0, 0) := (congrArg (fun t => List.lookup 107 t) gt114).trans rfl
theorem t114_109 : zT 114 109 = some (.aload_n 0, 1, 0, 0, 0, 0) := (congrArg (fun t => List.lookup 109 t) gt114).trans rfl
theorem t114_110 : zT 114 110 = some (.iload 7, 2, 0, 0, 0, 0) := (congrArg (fun t => List.lookup 110 t) gt114).trans rfl
theorem t114_112 : zT 114 112 = some (.invokevirtual 129, 3, 117, 0, 0, 1126) := (congrArg (fun t => List.lookup 112 t) gt114).trans rfl
theorem t114_115 : zT 114 115 = some (.istore 8, 2, 0, 0, 0, 0) := (congrArg (fun t => List.lookup 115 t) gt114).trans rfl
theorem t114_117 : zT 114 117 = some (.aload_n 0, 1, 0, 0, 0, 0) := (congrArg (fun t => List.lookup 117 t) gt114).trans (by decide +kernel)
theorem t114_118 : zT 114 118 = some (.getfield 52, 3, 5, 13, 0, 362) := (congrArg (fun t => List.lookup 118 t) gt114).trans (by decide +kernel)
theorem t114_121 : zT 114 121 = some (.iload 8, 2, 0, 0, 0, 0) := (congrArg (fun t => List.lookup 121 t) gt114).trans (by decide +kernel)
theorem t114_123 : zT 114 123 = some (.iaload, 1, 0, 0, 0, 0) := (congrArg (fun t => List.lookup 123 t) gt114).trans (by decide +kernel)
theorem t114_124 : zT 114 124 = some (.iconst 1, 1, 0, 0, 1, 0) := (congrArg (fun t => List.lookup 124 t) gt114).trans (by decide +kernel)
theorem t114_125 : zT 114 125 = some (.iload 5, 2, 0, 0, 0, 0) := (congrArg (fun t => List.lookup 125 t) gt114).trans (by decide +kernel)
theorem t114_127 : zT 114 127 = some (.ishl, 1, 0, 0, 0, 0) := (congrArg (fun t => List.lookup 127 t) gt114).trans (by decide +kernel)
theorem t114_128 : zT 114 128 = some (.iand, 1, 0, 0, 0, 0) := (congrArg (fun t => List.lookup 128 t) gt114).trans (by decide +kernel)
theorem t114_129 : zT 114 129 = some (.ifCond .eq 6, 3, 135, 0, 0, 0) := (congrArg (fun t => List.lookup 129 t) gt114).trans (by decide +kernel)
theorem t114_132 : zT 114 132 = some (.goto 76, 3, 208, 0, 0, 0) := (congrArg (fun t => List.lookup 132 t) gt114).trans (by decide +kernel)
theorem t114_135 : zT 114 135 = some (.aload_n 0, 1, 0, 0, 0, 0) := (congrArg (fun t => List.lookup 135 t) gt114).trans (by decide +kernel)
theorem t114_136 : zT 114 136 = some (.getfield 52, 3, 5, 13, 0, 362) := (congrArg (fun t => List.lookup 136 t) gt114).trans (by decide +kernel)
theorem t114_139 : zT 114 139 = some (.iload 8, 2, 0, 0, 0, 0) := (congrArg (fun t => List.lookup 139 t) gt114).trans (by decide +kernel)
theorem t114_141 : zT 114 141 = some (.dup2, 1, 0, 0, 0, 0) := (congrArg (fun t => List.lookup 141 t) gt114).trans (by decide +kernel)
theorem t114_142 : zT 114 142 = some (.iaload, 1, 0, 0, 0, 0) := (congrArg (fun t => List.lookup 142 t) gt114).trans (by decide +kernel)
theorem t114_143 : zT 114 143 = some (.iconst 1, 1, 0, 0, 1, 0) := (congrArg (fun t => List.lookup 143 t) gt114).trans (by decide +kernel)
theorem t114_144 : zT 114 144 = some (.iload 5, 2, 0, 0, 0, 0) := (congrArg (fun t => List.lookup 144 t) gt114).trans (by decide +kernel)
theorem t114_146 : zT 114 146 = some (.ishl, 1, 0, 0, 0, 0) := (congrArg (fun t => List.lookup 146 t) gt114).trans (by decide +kernel)
theorem t114_147 : zT 114 147 = some (.ior, 1, 0, 0, 0, 0) := (congrArg (fun t => List.lookup 147 t) gt114).trans (by decide +kernel)
theorem t114_148 : zT 114 148 = some (.iastore, 1, 0, 0, 0, 0) := (congrArg (fun t => List.lookup 148 t) gt114).trans (by decide +kernel)
theorem t114_149 : zT 114 149 = some (.aload_n 0, 1, 0, 0, 0, 0) := (congrArg (fun t => List.lookup 149 t) gt114).trans (by decide +kernel)
theorem t114_150 : zT 114 150 = some (.getfield 55, 3, 5, 14, 0, 363) := (congrArg (fun t => List.lookup 150 t) gt114).trans (by decide +kernel)
theorem t114_153 : zT 114 153 = some (.iload 8, 2, 0, 0, 0, 0) := (congrArg (fun t => List.lookup 153 t) gt114).trans (by decide +kernel)
theorem t114_155 : zT 114 155 = some (.dup2, 1, 0, 0, 0, 0) := (congrArg (fun t => List.lookup 155 t) gt114).trans (by decide +kernel)
theorem t114_156 : zT 114 156 = some (.iaload, 1, 0, 0, 0, 0) := (congrArg (fun t => List.lookup 156 t) gt114).trans (by decide +kernel)
theorem t114_157 : zT 114 157 = some (.iconst 1, 1, 0, 0, 1, 0) := (congrArg (fun t => List.lookup 157 t) gt114).trans (by decide +kernel)
theorem t114_158 : zT 114 158 = some (.iadd, 1, 0, 0, 0, 0) := (congrArg (fun t => List.lookup 158 t) gt114).trans (by decide +kernel)
theorem t114_159 : zT 114 159 = some (.iastore, 1, 0, 0, 0, 0) := (congrArg (fun t => List.lookup 159 t) gt114).trans (by decide +kernel)
theorem t114_160 : zT 114 160 = some (.aload_n 0, 1, 0, 0, 0, 0) := (congrArg (fun t => List.lookup 160 t) gt114).trans (by decide +kernel)
theorem t114_161 : zT 114 161 = some (.getfield 55, 3, 5, 14, 0, 363) := (congrArg (fun t => List.lookup 161 t) gt114).trans (by decide +kernel)
theorem t114_164 : zT 114 164 = some (.iload 8, 2, 0, 0, 0, 0) := (congrArg (fun t => List.lookup 164 t) gt114).trans (by decide +kernel)
theorem t114_166 : zT 114 166 = some (.iaload, 1, 0, 0, 0, 0) := (congrArg (fun t => List.lookup 166 t) gt114).trans (by decide +kernel)
theorem t114_167 : zT 114 167 = some (.istore 9, 2, 0, 0, 0, 0) := (congrArg (fun t => List.lookup 167 t) gt114).trans (by decide +kernel)
theorem t114_169 : zT 114 169 = some (.iload 9, 2, 0, 0, 0, 0) := (congrArg (fun t => List.lookup 169 t) gt114).trans (by decide +kernel)
theorem t114_171 : zT 114 171 = some (.aload_n 0, 1, 0, 0, 0, 0) := (congrArg (fun t => List.lookup 171 t) gt114).trans (by decide +kernel)
theorem t114_172 : zT 114 172 = some (.getfield 64, 3, 5, 17, 0, 366) := (congrArg (fun t => List.lookup 172 t) gt114).trans (by decide +kernel)
theorem t114_175 : zT 114 175 = some (.if_icmp .gt 21, 3, 196, 0, 0, 0) := (congrArg (fun t => List.lookup 175 t) gt114).trans (by decide +kernel)
theorem t114_178 : zT 114 178 = some (.iload 9, 2, 0, 0, 0, 0) := (congrArg (fun t => List.lookup 178 t) gt114).trans (by decide +kernel)
theorem t114_180 : zT 114 180 = some (.aload_n 0, 1, 0, 0, 0, 0) := (congrArg (fun t => List.lookup 180 t) gt114).trans (by decide +kernel)
theorem t114_181 : zT 114 181 = some (.getfield 64, 3, 5, 17, 0, 366) := (congrArg (fun t => List.lookup 181 t) gt114).trans (by decide +kernel)
theorem t114_184 : zT 114 184 = some (.if_icmp .ne 24, 3, 208, 0, 0, 0) := (congrArg (fun t => List.lookup 184 t) gt114).trans (by decide +kernel)
theorem t114_187 : zT 114 187 = some (.iload 7, 2, 0, 0, 0, 0) := (congrArg (fun t => List.lookup 187 t) gt114).trans (by decide +kernel)
theorem t114_189 : zT 114 189 = some (.aload_n 0, 1, 0, 0, 0, 0) := (congrArg (fun t => List.lookup 189 t) gt114).trans (by decide +kernel)
theorem t114_190 : zT 114 190 = some (.getfield 67, 3, 5, 18, 0, 367) := (congrArg (fun t => List.lookup 190 t) gt114).trans (by decide +kernel)
theorem t114_193 : zT 114 193 = some (.if_icmp .ge 15, 3, 208, 0, 0, 0) := (congrArg (fun t => List.lookup 193 t) gt114).trans (by decide +kernel)
theorem t114_196 : zT 114 196 = some (.aload_n 0, 1, 0, 0, 0, 0) := (congrArg (fun t => List.lookup 196 t) gt114).trans (by decide +kernel)
theorem t114_197 : zT 114 197 = some (.iload 9, 2, 0, 0, 0, 0) := (congrArg (fun t => List.lookup 197 t) gt114).trans (by decide +kernel)
theorem t114_199 : zT 114 199 = some (.putfield 64, 3, 5, 17, 0, 366) := (congrArg (fun t => List.lookup 199 t) gt114).trans (by decide +kernel)
theorem t114_202 : zT 114 202 = some (.aload_n 0, 1, 0, 0, 0, 0) := (congrArg (fun t => List.lookup 202 t) gt114).trans (by decide +kernel)
theorem t114_203 : zT 114 203 = some (.iload 7, 2, 0, 0, 0, 0) := (congrArg (fun t => List.lookup 203 t) gt114).trans (by decide +kernel)
theorem t114_205 : zT 114 205 = some (.putfield 67, 3, 5, 18, 0, 367) := (congrArg (fun t => List.lookup 205 t) gt114).trans (by decide +kernel)
theorem t114_208 : zT 114 208 = some (.iinc 4 1, 3, 0, 0, 0, 0) := (congrArg (fun t => List.lookup 208 t) gt114).trans (by decide +kernel)
theorem t114_211 : zT 114 211 = some (.goto (-160), 3, 51, 0, 0, 0) := (congrArg (fun t => List.lookup 211 t) gt114).trans (by decide +kernel)
theorem t114_214 : zT 114 214 = some (.return_, 1, 0, 0, 0, 0) := (congrArg (fun t => List.lookup 214 t) gt114).trans (by decide +kernel)
theorem t115_0 : zT 115 0 = some (.iload_n 1, 1, 1, 0, 0, 0) := (congrArg (fun t => List.lookup 0 t) gt115).trans rfl
theorem t115_1 : zT 115 1 = some (.ifCond .lt 20, 3, 21, 0, 0, 0) := (congrArg (fun t => List.lookup 1 t) gt115).trans rfl
theorem t115_4 : zT 115 4 = some (.iload_n 1, 1, 1, 0, 0, 0) := (congrArg (fun t => List.lookup 4 t) gt115).trans rfl
theorem t115_5 : zT 115 5 = some (.aload_n 0, 1, 0, 0, 0, 0) := (congrArg (fun t => List.lookup 5 t) gt115).trans rfl
theorem t115_6 : zT 115 6 = some (.getfield 9, 3, 5, 0, 0, 349) := (congrArg (fun t => List.lookup 6 t) gt115).trans rfl
theorem t115_9 : zT 115 9 = some (.if_icmp .ge 12, 3, 21, 0, 0, 0) := (congrArg (fun t => List.lookup 9 t) gt115).trans rfl
theorem t115_12 : zT 115 12 = some (.aload_n 0, 1, 0, 0, 0, 0) := (congrArg (fun t => List.lookup 12 t) gt115).trans rfl
theorem t115_13 : zT 115 13 = some (.getfield 15, 3, 5, 1, 0, 350) := (congrArg (fun t => List.lookup 13 t) gt115).trans rfl
theorem t115_16 : zT 115 16 = some (.iload_n 1, 1, 1, 0, 0, 0) := (congrArg (fun t => List.lookup 16 t) gt115).trans rfl
theorem t115_17 : zT 115 17 = some (.iaload, 1, 0, 0, 0, 0) := (congrArg (fun t => List.lookup 17 t) gt115).trans rfl
theorem t115_18 : zT 115 18 = some (.goto 4, 3, 22, 0, 0, 0) := (congrArg (fun t => List.lookup 18 t) gt115).trans rfl
theorem t115_21 : zT 115 21 = some (.iconst 0, 1, 0, 0, 0, 0) := (congrArg (fun t => List.lookup 21 t) gt115).trans rfl
theorem t115_22 : zT 115 22 = some (.ireturn, 1, 0, 0, 0, 0) := (congrArg (fun t => List.lookup 22 t) gt115).trans rfl
theorem t116_0 : zT 116 0 = some (.iload_n 1, 1, 1, 0, 0, 0) := (congrArg (fun t => List.lookup 0 t) gt116).trans rfl
theorem t116_1 : zT 116 1 = some (.ifCond .lt 20, 3, 21, 0, 0, 0) := (congrArg (fun t => List.lookup 1 t) gt116).trans rfl
theorem t116_4 : zT 116 4 = some (.iload_n 1, 1, 1, 0, 0, 0) := (congrArg (fun t => List.lookup 4 t) gt116).trans rfl
theorem t116_5 : zT 116 5 = some (.aload_n 0, 1, 0, 0, 0, 0) := (congrArg (fun t => List.lookup 5 t) gt116).trans rfl
theorem t116_6 : zT 116 6 = some (.getfield 9, 3, 5, 0, 0, 349) := (congrArg (fun t => List.lookup 6 t) gt116).trans rfl
theorem t116_9 : zT 116 9 = some (.if_icmp .ge 12, 3, 21, 0, 0, 0) := (congrArg (fun t => List.lookup 9 t) gt116).trans rfl
theorem t116_12 : zT 116 12 = some (.aload_n 0, 1, 0, 0, 0, 0) := (congrArg (fun t => List.lookup 12 t) gt116).trans rfl
theorem t116_13 : zT 116 13 = some (.getfield 19, 3, 5, 2, 0, 351) := (congrArg (fun t => List.lookup 13 t) gt116).trans rfl
theorem t116_16 : zT 116 16 = some (.iload_n 1, 1, 1, 0, 0, 0) := (congrArg (fun t => List.lookup 16 t) gt116).trans rfl
theorem t116_17 : zT 116 17 = some (.iaload, 1, 0, 0, 0, 0) := (congrArg (fun t => List.lookup 17 t) gt116).trans rfl
theorem t116_18 : zT 116 18 = some (.goto 4, 3, 22, 0, 0, 0) := (congrArg (fun t => List.lookup 18 t) gt116).trans rfl
theorem t116_21 : zT 116 21 = some (.iconst 0, 1, 0, 0, 0, 0) := (congrArg (fun t => List.lookup 21 t) gt116).trans rfl
theorem t116_22 : zT 116 22 = some (.ireturn, 1, 0, 0, 0, 0) := (congrArg (fun t => List.lookup 22 t) gt116).trans rfl
theorem t117_0 : zT 117 0 = some (.iload_n 1, 1, 1, 0, 0, 0) := (congrArg (fun t => List.lookup 0 t) gt117).trans rfl
theorem t117_1 : zT 117 1 = some (.bipush 127, 2, 0, 0, 127, 0) := (congrArg (fun t => List.lookup 1 t) gt117).trans rfl
theorem t117_3 : zT 117 3 = some (.iand, 1, 0, 0, 0, 0) := (congrArg (fun t => List.lookup 3 t) gt117).trans rfl
theorem t117_4 : zT 117 4 = some (.istore_n 2, 1, 2, 0, 0, 0) := (congrArg (fun t => List.lookup 4 t) gt117).trans rfl
theorem t117_5 : zT 117 5 = some (.iconst 0, 1, 0, 0, 0, 0) := (congrArg (fun t => List.lookup 5 t) gt117).trans rfl
theorem t117_6 : zT 117 6 = some (.istore_n 3, 1, 3, 0, 0, 0) := (congrArg (fun t => List.lookup 6 t) gt117).trans rfl
theorem t117_7 : zT 117 7 = some (.iload_n 3, 1, 3, 0, 0, 0) := (congrArg (fun t => List.lookup 7 t) gt117).trans rfl
theorem t117_8 : zT 117 8 = some (.sipush 128, 3, 0, 0, 128, 0) := (congrArg (fun t => List.lookup 8 t) gt117).trans rfl
theorem t117_11 : zT 117 11 = some (.if_icmp .ge 41, 3, 52, 0, 0, 0) := (congrArg (fun t => List.lookup 11 t) gt117).trans rfl
theorem t117_14 : zT 117 14 = some (.aload_n 0, 1, 0, 0, 0, 0) := (congrArg (fun t => List.lookup 14 t) gt117).trans rfl
theorem t117_15 : zT 117 15 = some (.getfield 46, 3, 5, 11, 0, 360) := (congrArg (fun t => List.lookup 15 t) gt117).trans rfl
theorem t117_18 : zT 117 18 = some (.iload_n 2, 1, 2, 0, 0, 0) := (congrArg (fun t => List.lookup 18 t) gt117).trans rfl
theorem t117_19 : zT 117 19 = some (.iaload, 1, 0, 0, 0, 0) := (congrArg (fun t => List.lookup 19 t) gt117).trans rfl
theorem t117_20 : zT 117 20 = some (.aload_n 0, 1, 0, 0, 0, 0) := (congrArg (fun t => List.lookup 20 t) gt117).trans rfl
theorem t117_21 : zT 117 21 = some (.getfield 43, 3, 5, 10, 0, 359) := (congrArg (fun t => List.lookup 21 t) gt117).trans rfl
theorem t117_24 : zT 117 24 = some (.if_icmp .ne 28, 3, 52, 0, 0, 0) := (congrArg (fun t => List.lookup 24 t) gt117).trans rfl
theorem t117_27 : zT 117 27 = some (.aload_n 0, 1, 0, 0, 0, 0) := (congrArg (fun t => List.lookup 27 t) gt117).trans rfl
theorem t117_28 : zT 117 28 = some (.getfield 49, 3, 5, 12, 0, 361) := (congrArg (fun t => List.lookup 28 t) gt117).trans rfl
theorem t117_31 : zT 117 31 = some (.iload_n 2, 1, 2, 0, 0, 0) := (congrArg (fun t => List.lookup 31 t) gt117).trans rfl
theorem t117_32 : zT 117 32 = some (.iaload, 1, 0, 0, 0, 0) := (congrArg (fun t => List.lookup 32 t) gt117).trans rfl
theorem t117_33 : zT 117 33 = some (.iload_n 1, 1, 1, 0, 0, 0) := (congrArg (fun t => List.lookup 33 t) gt117).trans rfl
theorem t117_34 : zT 117 34 = some (.if_icmp .ne 5, 3, 39, 0, 0, 0) := (congrArg (fun t => List.lookup 34 t) gt117).trans rfl
theorem t117_37 : zT 117 37 = some (.iload_n 2, 1, 2, 0, 0, 0) := (congrArg (fun t => List.lookup 37 t) gt117).trans rfl
theorem t117_38 : zT 117 38 = some (.ireturn, 1, 0, 0, 0, 0) := (congrArg (fun t => List.lookup 38 t) gt117).trans rfl
theorem t117_39 : zT 117 39 = some (.iload_n 2, 1, 2, 0, 0, 0) := (congrArg (fun t => List.lookup 39 t) gt117).trans rfl
theorem t117_40 : zT 117 40 = some (.iconst 1, 1, 0, 0, 1, 0) := (congrArg (fun t => List.lookup 40 t) gt117).trans rfl
theorem t117_41 : zT 117 41 = some (.iadd, 1, 0, 0, 0, 0) := (congrArg (fun t => List.lookup 41 t) gt117).trans rfl
theorem t117_42 : zT 117 42 = some (.bipush 127, 2, 0, 0, 127, 0) := (congrArg (fun t => List.lookup 42 t) gt117).trans rfl
theorem t117_44 : zT 117 44 = some (.iand, 1, 0, 0, 0, 0) := (congrArg (fun t => List.lookup 44 t) gt117).trans rfl
theorem t117_45 : zT 117 45 = some (.istore_n 2, 1, 2, 0, 0, 0) := (congrArg (fun t => List.lookup 45 t) gt117).trans rfl
theorem t117_46 : zT 117 46 = some (.iinc 3 1, 3, 0, 0, 0, 0) := (congrArg (fun t => List.lookup 46 t) gt117).trans rfl
theorem t117_49 : zT 117 49 = some (.goto (-42), 3, 7, 0, 0, 0) := (congrArg (fun t => List.lookup 49 t) gt117).trans rfl
theorem t117_52 : zT 117 52 = some (.aload_n 0, 1, 0, 0, 0, 0) := (congrArg (fun t => List.lookup 52 t) gt117).trans rfl
theorem t117_53 : zT 117 53 = some (.getfield 46, 3, 5, 11, 0, 360) := (congrArg (fun t => List.lookup 53 t) gt117).trans rfl
theorem t117_56 : zT 117 56 = some (.iload_n 2, 1, 2, 0, 0, 0) := (congrArg (fun t => List.lookup 56 t) gt117).trans rfl
theorem t117_57 : zT 117 57 = some (.aload_n 0, 1, 0, 0, 0, 0) := (congrArg (fun t => List.lookup 57 t) gt117).trans rfl
theorem t117_58 : zT 117 58 = some (.getfield 43, 3, 5, 10, 0, 359) := (congrArg (fun t => List.lookup 58 t) gt117).trans rfl
theorem t117_61 : zT 117 61 = some (.iastore, 1, 0, 0, 0, 0) := (congrArg (fun t => List.lookup 61 t) gt117).trans rfl
theorem t117_62 : zT 117 62 = some (.aload_n 0, 1, 0, 0, 0, 0) := (congrArg (fun t => List.lookup 62 t) gt117).trans rfl
theorem t117_63 : zT 117 63 = some (.getfield 49, 3, 5, 12, 0, 361) := (congrArg (fun t => List.lookup 63 t) gt117).trans rfl
theorem t117_66 : zT 117 66 = some (.iload_n 2, 1, 2, 0, 0, 0) := (congrArg (fun t => List.lookup 66 t) gt117).trans rfl
theorem t117_67 : zT 117 67 = some (.iload_n 1, 1, 1, 0, 0, 0) := (congrArg (fun t => List.lookup 67 t) gt117).trans rfl
theorem t117_68 : zT 117 68 = some (.iastore, 1, 0, 0, 0, 0) := (congrArg (fun t => List.lookup 68 t) gt117).trans rfl
theorem t117_69 : zT 117 69 = some (.aload_n 0, 1, 0, 0, 0, 0) := (congrArg (fun t => List.lookup 69 t) gt117).trans rfl
theorem t117_70 : zT 117 70 = some (.getfield 52, 3, 5, 13, 0, 362) := (congrArg (fun t => List.lookup 70 t) gt117).trans rfl
theorem t117_73 : zT 117 73 = some (.iload_n 2, 1, 2, 0, 0, 0) := (congrArg (fun t => List.lookup 73 t) gt117).trans rfl
theorem t117_74 : zT 117 74 = some (.iconst 0, 1, 0, 0, 0, 0) := (congrArg (fun t => List.lookup 74 t) gt117).trans rfl
theorem t117_75 : zT 117 75 = some (.iastore, 1, 0, 0, 0, 0) := (congrArg (fun t => List.lookup 75 t) gt117).trans rfl
theorem t117_76 : zT 117 76 = some (.aload_n 0, 1, 0, 0, 0, 0) := (congrArg (fun t => List.lookup 76 t) gt117).trans rfl
theorem t117_77 : zT 117 77 = some (.getfield 55, 3, 5, 14, 0, 363) := (congrArg (fun t => List.lookup 77 t) gt117).trans rfl
theorem t117_80 : zT 117 80 = some (.iload_n 2, 1, 2, 0, 0, 0) := (congrArg (fun t => List.lookup 80 t) gt117).trans rfl
theorem t117_81 : zT 117 81 = some (.iconst 0, 1, 0, 0, 0, 0) := (congrArg (fun t => List.lookup 81 t) gt117).trans rfl
theorem t117_82 : zT 117 82 = some (.iastore, 1, 0, 0, 0, 0) := (congrArg (fun t => List.lookup 82 t) gt117).trans rfl
theorem t117_83 : zT 117 83 = some (.aload_n 0, 1, 0, 0, 0, 0) := (congrArg (fun t => List.lookup 83 t) gt117).trans rfl
theorem t117_84 : zT 117 84 = some (.getfield 58, 3, 5, 15, 0, 364) := (congrArg (fun t => List.lookup 84 t) gt117).trans rfl
theorem t117_87 : zT 117 87 = some (.bipush 60, 2, 0, 0, 60, 0) := (congrArg (fun t => List.lookup 87 t) gt117).trans rfl
theorem t117_89 : zT 117 89 = some (.if_icmp .ge 23, 3, 112, 0, 0, 0) := (congrArg (fun t => List.lookup 89 t) gt117).trans rfl
theorem t117_92 : zT 117 92 = some (.aload_n 0, 1, 0, 0, 0, 0) := (congrArg (fun t => List.lookup 92 t) gt117).trans rfl
theorem t117_93 : zT 117 93 = some (.getfield 61, 3, 5, 16, 0, 365) := (congrArg (fun t => List.lookup 93 t) gt117).trans rfl
theorem t117_96 : zT 117 96 = some (.aload_n 0, 1, 0, 0, 0, 0) := (congrArg (fun t => List.lookup 96 t) gt117).trans rfl
theorem t117_97 : zT 117 97 = some (.getfield 58, 3, 5, 15, 0, 364) := (congrArg (fun t => List.lookup 97 t) gt117).trans rfl
theorem t117_100 : zT 117 100 = some (.iload_n 2, 1, 2, 0, 0, 0) := (congrArg (fun t => List.lookup 100 t) gt117).trans rfl
theorem t117_101 : zT 117 101 = some (.iastore, 1, 0, 0, 0, 0) := (congrArg (fun t => List.lookup 101 t) gt117).trans rfl
theorem t117_102 : zT 117 102 = some (.aload_n 0, 1, 0, 0, 0, 0) := (congrArg (fun t => List.lookup 102 t) gt117).trans rfl
theorem t117_103 : zT 117 103 = some (.dup, 1, 0, 0, 0, 0) := (congrArg (fun t => List.lookup 103 t) gt117).trans rfl
theorem t117_104 : zT 117 104 = some (.getfield 58, 3, 5, 15, 0, 364) := (congrArg (fun t => List.lookup 104 t) gt117).trans rfl
theorem t117_107 : zT 117 107 = some (.iconst 1, 1, 0, 0, 1, 0) := (congrArg (fun t => List.lookup 107 t) gt117).trans rfl
theorem t117_108 : zT 117 108 = some (.iadd, 1, 0, 0, 0, 0) := (congrArg (fun t => List.lookup 108 t) gt117).trans rfl
theorem t117_109 : zT 117 109 = some (.putfield 58, 3, 5, 15, 0, 364) := (congrArg (fun t => List.lookup 109 t) gt117).trans rfl
theorem t117_112 : zT 117 112 = some (.iload_n 2, 1, 2, 0, 0, 0) := (congrArg (fun t => List.lookup 112 t) gt117).trans rfl
theorem t117_113 : zT 117 113 = some (.ireturn, 1, 0, 0, 0, 0) := (congrArg (fun t => List.lookup 113 t) gt117).trans (by decide +kernel)
theorem t118_0 : zT 118 0 = some (.aload_n 0, 1, 0, 0, 0, 0) := (congrArg (fun t => List.lookup 0 t) gt118).trans rfl
theorem t118_1 : zT 118 1 = some (.getfield 64, 3, 5, 17, 0, 366) := (congrArg (fun t => List.lookup 1 t) gt118).trans rfl
theorem t118_4 : zT 118 4 = some (.ireturn, 1, 0, 0, 0, 0) := (congrArg (fun t => List.lookup 4 t) gt118).trans rfl
theorem t119_0 : zT 119 0 = some (.aload_n 0, 1, 0, 0, 0, 0) := (congrArg (fun t => List.lookup 0 t) gt119).trans rfl
theorem t119_1 : zT 119 1 = some (.getfield 67, 3, 5, 18, 0, 367) := (congrArg (fun t => List.lookup 1 t) gt119).trans rfl
theorem t119_4 : zT 119 4 = some (.ireturn, 1, 0, 0, 0, 0) := (congrArg (fun t => List.lookup 4 t) gt119).trans rfl
theorem t120_0 : zT 120 0 = some (.aload_n 0, 1, 0, 0, 0, 0) := (congrArg (fun t => List.lookup 0 t) gt120).trans rfl
theorem t120_1 : zT 120 1 = some (.iload_n 1, 1, 1, 0, 0, 0) := (congrArg (fun t => List.lookup 1 t) gt120).trans rfl
theorem t120_2 : zT 120 2 = some (.putfield 9, 3, 8, 0, 0, 414) := (congrArg (fun t => List.lookup 2 t) gt120).trans rfl
theorem t120_5 : zT 120 5 = some (.aload_n 0, 1, 0, 0, 0, 0) := (congrArg (fun t => List.lookup 5 t) gt120).trans rfl
theorem t120_6 : zT 120 6 = some (.iload_n 2, 1, 2, 0, 0, 0) := (congrArg (fun t => List.lookup 6 t) gt120).trans rfl
theorem t120_7 : zT 120 7 = some (.putfield 15, 3, 8, 1, 0, 418) := (congrArg (fun t => List.lookup 7 t) gt120).trans rfl
theorem t120_10 : zT 120 10 = some (.aload_n 0, 1, 0, 0, 0, 0) := (congrArg (fun t => List.lookup 10 t) gt120).trans rfl
theorem t120_11 : zT 120 11 = some (.iload_n 3, 1, 3, 0, 0, 0) := (congrArg (fun t => List.lookup 11 t) gt120).trans rfl
theorem t120_12 : zT 120 12 = some (.putfield 18, 3, 8, 2, 0, 422) := (congrArg (fun t => List.lookup 12 t) gt120).trans rfl
theorem t120_15 : zT 120 15 = some (.aload_n 0, 1, 0, 0, 0, 0) := (congrArg (fun t => List.lookup 15 t) gt120).trans rfl
theorem t120_16 : zT 120 16 = some (.iload 4, 2, 0, 0, 0, 0) := (congrArg (fun t => List.lookup 16 t) gt120).trans rfl
theorem t120_18 : zT 120 18 = some (.putfield 21, 3, 8, 3, 0, 426) := (congrArg (fun t => List.lookup 18 t) gt120).trans rfl
theorem t120_21 : zT 120 21 = some (.iconst 0, 1, 0, 0, 0, 0) := (congrArg (fun t => List.lookup 21 t) gt120).trans rfl
theorem t120_22 : zT 120 22 = some (.istore 5, 2, 0, 0, 0, 0) := (congrArg (fun t => List.lookup 22 t) gt120).trans rfl
theorem t120_24 : zT 120 24 = some (.iload 5, 2, 0, 0, 0, 0) := (congrArg (fun t => List.lookup 24 t) gt120).trans rfl
theorem t120_26 : zT 120 26 = some (.bipush 8, 2, 0, 0, 8, 0) := (congrArg (fun t => List.lookup 26 t) gt120).trans rfl
theorem t120_28 : zT 120 28 = some (.if_icmp .ge 18, 3, 46, 0, 0, 0) := (congrArg (fun t => List.lookup 28 t) gt120).trans rfl
theorem t120_31 : zT 120 31 = some (.aload_n 0, 1, 0, 0, 0, 0) := (congrArg (fun t => List.lookup 31 t) gt120).trans rfl
theorem t120_32 : zT 120 32 = some (.getfield 30, 3, 8, 6, 0, 434) := (congrArg (fun t => List.lookup 32 t) gt120).trans rfl
theorem t120_35 : zT 120 35 = some (.iload 5, 2, 0, 0, 0, 0) := (congrArg (fun t => List.lookup 35 t) gt120).trans rfl
theorem t120_37 : zT 120 37 = some (.bipush (-2), 2, 0, 0, (-2), 0) := (congrArg (fun t => List.lookup 37 t) gt120).trans rfl
theorem t120_39 : zT 120 39 = some (.iastore, 1, 0, 0, 0, 0) := (congrArg (fun t => List.lookup 39 t) gt120).trans rfl
theorem t120_40 : zT 120 40 = some (.iinc 5 1, 3, 0, 0, 0, 0) := (congrArg (fun t => List.lookup 40 t) gt120).trans rfl
