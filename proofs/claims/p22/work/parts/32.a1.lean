theorem li306 : (306 : Int32).toInt = 306 := by decide
theorem li20033 : (20033 : Int32).toInt = 20033 := by decide
theorem mf254 : zmf 254 1 12 7 3 := by unfold zmf; decide +kernel
theorem mf266 : zmf 266 1 12 8 4 := by unfold zmf; decide +kernel
theorem mr254 : (mt 254).2.2.2.1 = some .int := by decide +kernel
theorem mr266 : (mt 266).2.2.2.1 = some .int := by decide +kernel
theorem t254_0 : zT 254 0 = some (.aload_n 0, 1, 0, 0, 0, 0) := (congrArg (fun t => List.lookup 0 t) gt254).trans rfl
theorem t254_1 : zT 254 1 = some (.invokevirtual 195, 3, 236, 0, 0, 1805) := (congrArg (fun t => List.lookup 1 t) gt254).trans rfl
theorem t254_4 : zT 254 4 = some (.aload_n 0, 1, 0, 0, 0, 0) := (congrArg (fun t => List.lookup 4 t) gt254).trans rfl
theorem t254_5 : zT 254 5 = some (.iconst 0, 1, 0, 0, 0, 0) := (congrArg (fun t => List.lookup 5 t) gt254).trans rfl
theorem t254_6 : zT 254 6 = some (.putfield 204, 3, 12, 11, 0, 1618) := (congrArg (fun t => List.lookup 6 t) gt254).trans rfl
theorem t254_9 : zT 254 9 = some (.aload_n 0, 1, 0, 0, 0, 0) := (congrArg (fun t => List.lookup 9 t) gt254).trans rfl
theorem t254_10 : zT 254 10 = some (.iconst 0, 1, 0, 0, 0, 0) := (congrArg (fun t => List.lookup 10 t) gt254).trans rfl
theorem t254_11 : zT 254 11 = some (.putfield 225, 3, 12, 12, 0, 1619) := (congrArg (fun t => List.lookup 11 t) gt254).trans rfl
theorem t254_14 : zT 254 14 = some (.aload_n 0, 1, 0, 0, 0, 0) := (congrArg (fun t => List.lookup 14 t) gt254).trans rfl
theorem t254_15 : zT 254 15 = some (.iconst 0, 1, 0, 0, 0, 0) := (congrArg (fun t => List.lookup 15 t) gt254).trans rfl
theorem t254_16 : zT 254 16 = some (.putfield 210, 3, 12, 13, 0, 1620) := (congrArg (fun t => List.lookup 16 t) gt254).trans rfl
theorem t254_19 : zT 254 19 = some (.aload_n 0, 1, 0, 0, 0, 0) := (congrArg (fun t => List.lookup 19 t) gt254).trans rfl
theorem t254_20 : zT 254 20 = some (.iconst 0, 1, 0, 0, 0, 0) := (congrArg (fun t => List.lookup 20 t) gt254).trans rfl
theorem t254_21 : zT 254 21 = some (.putfield 234, 3, 12, 14, 0, 1621) := (congrArg (fun t => List.lookup 21 t) gt254).trans rfl
theorem t254_24 : zT 254 24 = some (.aload_n 0, 1, 0, 0, 0, 0) := (congrArg (fun t => List.lookup 24 t) gt254).trans rfl
theorem t254_25 : zT 254 25 = some (.getfield 120, 3, 12, 5, 0, 1612) := (congrArg (fun t => List.lookup 25 t) gt254).trans rfl
theorem t254_28 : zT 254 28 = some (.ifCond .eq 10, 3, 38, 0, 0, 0) := (congrArg (fun t => List.lookup 28 t) gt254).trans rfl
theorem t254_31 : zT 254 31 = some (.aload_n 0, 1, 0, 0, 0, 0) := (congrArg (fun t => List.lookup 31 t) gt254).trans rfl
theorem t254_32 : zT 254 32 = some (.invokevirtual 246, 3, 255, 0, 0, 1883) := (congrArg (fun t => List.lookup 32 t) gt254).trans rfl
theorem t254_35 : zT 254 35 = some (.ifCond .eq 7, 3, 42, 0, 0, 0) := (congrArg (fun t => List.lookup 35 t) gt254).trans rfl
theorem t254_38 : zT 254 38 = some (.iconst 1, 1, 0, 0, 1, 0) := (congrArg (fun t => List.lookup 38 t) gt254).trans rfl
theorem t254_39 : zT 254 39 = some (.goto 4, 3, 43, 0, 0, 0) := (congrArg (fun t => List.lookup 39 t) gt254).trans rfl
theorem t254_42 : zT 254 42 = some (.iconst 0, 1, 0, 0, 0, 0) := (congrArg (fun t => List.lookup 42 t) gt254).trans rfl
theorem t254_43 : zT 254 43 = some (.istore_n 1, 1, 1, 0, 0, 0) := (congrArg (fun t => List.lookup 43 t) gt254).trans rfl
theorem t254_44 : zT 254 44 = some (.aload_n 0, 1, 0, 0, 0, 0) := (congrArg (fun t => List.lookup 44 t) gt254).trans rfl
theorem t254_45 : zT 254 45 = some (.iconst 0, 1, 0, 0, 0, 0) := (congrArg (fun t => List.lookup 45 t) gt254).trans rfl
theorem t254_46 : zT 254 46 = some (.putfield 120, 3, 12, 5, 0, 1612) := (congrArg (fun t => List.lookup 46 t) gt254).trans rfl
theorem t254_49 : zT 254 49 = some (.iload_n 1, 1, 1, 0, 0, 0) := (congrArg (fun t => List.lookup 49 t) gt254).trans rfl
theorem t254_50 : zT 254 50 = some (.ifCond .ne 5, 3, 55, 0, 0, 0) := (congrArg (fun t => List.lookup 50 t) gt254).trans rfl
theorem t254_53 : zT 254 53 = some (.iconst (-1), 1, 0, 0, (-1), 0) := (congrArg (fun t => List.lookup 53 t) gt254).trans rfl
theorem t254_54 : zT 254 54 = some (.ireturn, 1, 0, 0, 0, 0) := (congrArg (fun t => List.lookup 54 t) gt254).trans rfl
theorem t254_55 : zT 254 55 = some (.aload_n 0, 1, 0, 0, 0, 0) := (congrArg (fun t => List.lookup 55 t) gt254).trans rfl
theorem t254_56 : zT 254 56 = some (.iconst 0, 1, 0, 0, 0, 0) := (congrArg (fun t => List.lookup 56 t) gt254).trans rfl
theorem t254_57 : zT 254 57 = some (.invokevirtual 116, 3, 230, 0, 0, 1781) := (congrArg (fun t => List.lookup 57 t) gt254).trans rfl
theorem t254_60 : zT 254 60 = some (.aload_n 0, 1, 0, 0, 0, 0) := (congrArg (fun t => List.lookup 60 t) gt254).trans rfl
theorem t254_61 : zT 254 61 = some (.getfield 3, 3, 12, 0, 0, 1607) := (congrArg (fun t => List.lookup 61 t) gt254).trans rfl
theorem t254_64 : zT 254 64 = some (.iconst 3, 1, 0, 0, 3, 0) := (congrArg (fun t => List.lookup 64 t) gt254).trans rfl
theorem t254_65 : zT 254 65 = some (.aload_n 0, 1, 0, 0, 0, 0) := (congrArg (fun t => List.lookup 65 t) gt254).trans rfl
theorem t254_66 : zT 254 66 = some (.getfield 210, 3, 12, 13, 0, 1620) := (congrArg (fun t => List.lookup 66 t) gt254).trans rfl
theorem t254_69 : zT 254 69 = some (.iastore, 1, 0, 0, 0, 0) := (congrArg (fun t => List.lookup 69 t) gt254).trans rfl
theorem t254_70 : zT 254 70 = some (.aload_n 0, 1, 0, 0, 0, 0) := (congrArg (fun t => List.lookup 70 t) gt254).trans rfl
theorem t254_71 : zT 254 71 = some (.getfield 3, 3, 12, 0, 0, 1607) := (congrArg (fun t => List.lookup 71 t) gt254).trans rfl
theorem t254_74 : zT 254 74 = some (.iconst 4, 1, 0, 0, 4, 0) := (congrArg (fun t => List.lookup 74 t) gt254).trans rfl
theorem t254_75 : zT 254 75 = some (.aload_n 0, 1, 0, 0, 0, 0) := (congrArg (fun t => List.lookup 75 t) gt254).trans rfl
theorem t254_76 : zT 254 76 = some (.getfield 204, 3, 12, 11, 0, 1618) := (congrArg (fun t => List.lookup 76 t) gt254).trans rfl
theorem t254_79 : zT 254 79 = some (.iastore, 1, 0, 0, 0, 0) := (congrArg (fun t => List.lookup 79 t) gt254).trans rfl
theorem t254_80 : zT 254 80 = some (.iconst 0, 1, 0, 0, 0, 0) := (congrArg (fun t => List.lookup 80 t) gt254).trans rfl
theorem t254_81 : zT 254 81 = some (.istore_n 2, 1, 2, 0, 0, 0) := (congrArg (fun t => List.lookup 81 t) gt254).trans rfl
theorem t254_82 : zT 254 82 = some (.iload_n 2, 1, 2, 0, 0, 0) := (congrArg (fun t => List.lookup 82 t) gt254).trans rfl
theorem t254_83 : zT 254 83 = some (.aload_n 0, 1, 0, 0, 0, 0) := (congrArg (fun t => List.lookup 83 t) gt254).trans rfl
theorem t254_84 : zT 254 84 = some (.getfield 204, 3, 12, 11, 0, 1618) := (congrArg (fun t => List.lookup 84 t) gt254).trans rfl
theorem t254_87 : zT 254 87 = some (.if_icmp .ge 25, 3, 112, 0, 0, 0) := (congrArg (fun t => List.lookup 87 t) gt254).trans rfl
theorem t254_90 : zT 254 90 = some (.aload_n 0, 1, 0, 0, 0, 0) := (congrArg (fun t => List.lookup 90 t) gt254).trans rfl
theorem t254_91 : zT 254 91 = some (.getfield 3, 3, 12, 0, 0, 1607) := (congrArg (fun t => List.lookup 91 t) gt254).trans rfl
theorem t254_94 : zT 254 94 = some (.sipush 306, 3, 0, 0, 306, 0) := (congrArg (fun t => List.lookup 94 t) gt254).trans rfl
theorem t254_97 : zT 254 97 = some (.iload_n 2, 1, 2, 0, 0, 0) := (congrArg (fun t => List.lookup 97 t) gt254).trans rfl
theorem t254_98 : zT 254 98 = some (.iadd, 1, 0, 0, 0, 0) := (congrArg (fun t => List.lookup 98 t) gt254).trans rfl
theorem t254_99 : zT 254 99 = some (.aload_n 0, 1, 0, 0, 0, 0) := (congrArg (fun t => List.lookup 99 t) gt254).trans rfl
theorem t254_100 : zT 254 100 = some (.getfield 25, 3, 12, 9, 0, 1616) := (congrArg (fun t => List.lookup 100 t) gt254).trans rfl
theorem t254_103 : zT 254 103 = some (.iload_n 2, 1, 2, 0, 0, 0) := (congrArg (fun t => List.lookup 103 t) gt254).trans rfl
theorem t254_104 : zT 254 104 = some (.iaload, 1, 0, 0, 0, 0) := (congrArg (fun t => List.lookup 104 t) gt254).trans rfl
theorem t254_105 : zT 254 105 = some (.iastore, 1, 0, 0, 0, 0) := (congrArg (fun t => List.lookup 105 t) gt254).trans rfl
theorem t254_106 : zT 254 106 = some (.iinc 2 1, 3, 0, 0, 0, 0) := (congrArg (fun t => List.lookup 106 t) gt254).trans rfl
theorem t254_109 : zT 254 109 = some (.goto (-27), 3, 82, 0, 0, 0) := (congrArg (fun t => List.lookup 109 t) gt254).trans rfl
theorem t254_112 : zT 254 112 = some (.aload_n 0, 1, 0, 0, 0, 0) := (congrArg (fun t => List.lookup 112 t) gt254).trans rfl
theorem t254_113 : zT 254 113 = some (.getfield 210, 3, 12, 13, 0, 1620) := (congrArg (fun t => List.lookup 113 t) gt254).trans rfl
theorem t254_116 : zT 254 116 = some (.ireturn, 1, 0, 0, 0, 0) := (congrArg (fun t => List.lookup 116 t) gt254).trans rfl
theorem t266_0 : zT 266 0 = some (.aload_n 0, 1, 0, 0, 0, 0) := (congrArg (fun t => List.lookup 0 t) gt266).trans rfl
theorem t266_1 : zT 266 1 = some (.getfield 3, 3, 12, 0, 0, 1607) := (congrArg (fun t => List.lookup 1 t) gt266).trans rfl
theorem t266_4 : zT 266 4 = some (.iconst 3, 1, 0, 0, 3, 0) := (congrArg (fun t => List.lookup 4 t) gt266).trans rfl
theorem t266_5 : zT 266 5 = some (.iaload, 1, 0, 0, 0, 0) := (congrArg (fun t => List.lookup 5 t) gt266).trans rfl
theorem t266_6 : zT 266 6 = some (.ifCond .ne 5, 3, 11, 0, 0, 0) := (congrArg (fun t => List.lookup 6 t) gt266).trans rfl
theorem t266_9 : zT 266 9 = some (.iconst 0, 1, 0, 0, 0, 0) := (congrArg (fun t => List.lookup 9 t) gt266).trans rfl
theorem t266_10 : zT 266 10 = some (.ireturn, 1, 0, 0, 0, 0) := (congrArg (fun t => List.lookup 10 t) gt266).trans rfl
theorem t266_11 : zT 266 11 = some (.iconst 0, 1, 0, 0, 0, 0) := (congrArg (fun t => List.lookup 11 t) gt266).trans rfl
theorem t266_12 : zT 266 12 = some (.istore_n 1, 1, 1, 0, 0, 0) := (congrArg (fun t => List.lookup 12 t) gt266).trans rfl
theorem t266_13 : zT 266 13 = some (.iconst 0, 1, 0, 0, 0, 0) := (congrArg (fun t => List.lookup 13 t) gt266).trans rfl
theorem t266_14 : zT 266 14 = some (.istore_n 2, 1, 2, 0, 0, 0) := (congrArg (fun t => List.lookup 14 t) gt266).trans rfl
theorem t266_15 : zT 266 15 = some (.iload_n 2, 1, 2, 0, 0, 0) := (congrArg (fun t => List.lookup 15 t) gt266).trans rfl
theorem t266_16 : zT 266 16 = some (.aload_n 0, 1, 0, 0, 0, 0) := (congrArg (fun t => List.lookup 16 t) gt266).trans rfl
theorem t266_17 : zT 266 17 = some (.getfield 3, 3, 12, 0, 0, 1607) := (congrArg (fun t => List.lookup 17 t) gt266).trans rfl
theorem t266_20 : zT 266 20 = some (.iconst 4, 1, 0, 0, 4, 0) := (congrArg (fun t => List.lookup 20 t) gt266).trans rfl
theorem t266_21 : zT 266 21 = some (.iaload, 1, 0, 0, 0, 0) := (congrArg (fun t => List.lookup 21 t) gt266).trans rfl
theorem t266_22 : zT 266 22 = some (.if_icmp .ge 120, 3, 142, 0, 0, 0) := (congrArg (fun t => List.lookup 22 t) gt266).trans rfl
theorem t266_25 : zT 266 25 = some (.aload_n 0, 1, 0, 0, 0, 0) := (congrArg (fun t => List.lookup 25 t) gt266).trans rfl
theorem t266_26 : zT 266 26 = some (.getfield 3, 3, 12, 0, 0, 1607) := (congrArg (fun t => List.lookup 26 t) gt266).trans rfl
theorem t266_29 : zT 266 29 = some (.sipush 306, 3, 0, 0, 306, 0) := (congrArg (fun t => List.lookup 29 t) gt266).trans rfl
theorem t266_32 : zT 266 32 = some (.iload_n 2, 1, 2, 0, 0, 0) := (congrArg (fun t => List.lookup 32 t) gt266).trans rfl
theorem t266_33 : zT 266 33 = some (.iadd, 1, 0, 0, 0, 0) := (congrArg (fun t => List.lookup 33 t) gt266).trans rfl
theorem t266_34 : zT 266 34 = some (.iaload, 1, 0, 0, 0, 0) := (congrArg (fun t => List.lookup 34 t) gt266).trans rfl
theorem t266_35 : zT 266 35 = some (.istore_n 3, 1, 3, 0, 0, 0) := (congrArg (fun t => List.lookup 35 t) gt266).trans rfl
theorem t266_36 : zT 266 36 = some (.iload_n 3, 1, 3, 0, 0, 0) := (congrArg (fun t => List.lookup 36 t) gt266).trans rfl
theorem t266_37 : zT 266 37 = some (.sipush 20000, 3, 0, 0, 20000, 0) := (congrArg (fun t => List.lookup 37 t) gt266).trans rfl
theorem t266_40 : zT 266 40 = some (.if_icmp .ge 35, 3, 75, 0, 0, 0) := (congrArg (fun t => List.lookup 40 t) gt266).trans rfl
theorem t266_43 : zT 266 43 = some (.aload_n 0, 1, 0, 0, 0, 0) := (congrArg (fun t => List.lookup 43 t) gt266).trans rfl
theorem t266_44 : zT 266 44 = some (.getfield 31, 3, 12, 15, 0, 1622) := (congrArg (fun t => List.lookup 44 t) gt266).trans rfl
theorem t266_47 : zT 266 47 = some (.iload_n 1, 1, 1, 0, 0, 0) := (congrArg (fun t => List.lookup 47 t) gt266).trans rfl
theorem t266_48 : zT 266 48 = some (.iload_n 3, 1, 3, 0, 0, 0) := (congrArg (fun t => List.lookup 48 t) gt266).trans rfl
theorem t266_49 : zT 266 49 = some (.sipush 10000, 3, 0, 0, 10000, 0) := (congrArg (fun t => List.lookup 49 t) gt266).trans rfl
theorem t266_52 : zT 266 52 = some (.if_icmp .ge 7, 3, 59, 0, 0, 0) := (congrArg (fun t => List.lookup 52 t) gt266).trans rfl
theorem t266_55 : zT 266 55 = some (.iload_n 3, 1, 3, 0, 0, 0) := (congrArg (fun t => List.lookup 55 t) gt266).trans rfl
theorem t266_56 : zT 266 56 = some (.goto 12, 3, 68, 0, 0, 0) := (congrArg (fun t => List.lookup 56 t) gt266).trans rfl
theorem t266_59 : zT 266 59 = some (.aload_n 0, 1, 0, 0, 0, 0) := (congrArg (fun t => List.lookup 59 t) gt266).trans rfl
theorem t266_60 : zT 266 60 = some (.iload_n 3, 1, 3, 0, 0, 0) := (congrArg (fun t => List.lookup 60 t) gt266).trans rfl
theorem t266_61 : zT 266 61 = some (.sipush 10000, 3, 0, 0, 10000, 0) := (congrArg (fun t => List.lookup 61 t) gt266).trans rfl
theorem t266_64 : zT 266 64 = some (.isub, 1, 0, 0, 0, 0) := (congrArg (fun t => List.lookup 64 t) gt266).trans rfl
theorem t266_65 : zT 266 65 = some (.invokevirtual 249, 3, 267, 0, 0, 1929) := (congrArg (fun t => List.lookup 65 t) gt266).trans rfl
theorem t266_68 : zT 266 68 = some (.iastore, 1, 0, 0, 0, 0) := (congrArg (fun t => List.lookup 68 t) gt266).trans rfl
theorem t266_69 : zT 266 69 = some (.iinc 1 1, 3, 0, 0, 0, 0) := (congrArg (fun t => List.lookup 69 t) gt266).trans rfl
theorem t266_72 : zT 266 72 = some (.goto 64, 3, 136, 0, 0, 0) := (congrArg (fun t => List.lookup 72 t) gt266).trans rfl
theorem t266_75 : zT 266 75 = some (.iload_n 3, 1, 3, 0, 0, 0) := (congrArg (fun t => List.lookup 75 t) gt266).trans rfl
theorem t266_76 : zT 266 76 = some (.sipush 20033, 3, 0, 0, 20033, 0) := (congrArg (fun t => List.lookup 76 t) gt266).trans rfl
theorem t266_79 : zT 266 79 = some (.if_icmp .ne 24, 3, 103, 0, 0, 0) := (congrArg (fun t => List.lookup 79 t) gt266).trans rfl
theorem t266_82 : zT 266 82 = some (.aload_n 0, 1, 0, 0, 0, 0) := (congrArg (fun t => List.lookup 82 t) gt266).trans rfl
theorem t266_83 : zT 266 83 = some (.getfield 31, 3, 12, 15, 0, 1622) := (congrArg (fun t => List.lookup 83 t) gt266).trans rfl
theorem t266_86 : zT 266 86 = some (.iload_n 1, 1, 1, 0, 0, 0) := (congrArg (fun t => List.lookup 86 t) gt266).trans rfl
theorem t266_87 : zT 266 87 = some (.iconst 1, 1, 0, 0, 1, 0) := (congrArg (fun t => List.lookup 87 t) gt266).trans rfl
theorem t266_88 : zT 266 88 = some (.isub, 1, 0, 0, 0, 0) := (congrArg (fun t => List.lookup 88 t) gt266).trans rfl
theorem t266_89 : zT 266 89 = some (.iconst 1, 1, 0, 0, 1, 0) := (congrArg (fun t => List.lookup 89 t) gt266).trans rfl
theorem t266_90 : zT 266 90 = some (.aload_n 0, 1, 0, 0, 0, 0) := (congrArg (fun t => List.lookup 90 t) gt266).trans rfl
theorem t266_91 : zT 266 91 = some (.getfield 31, 3, 12, 15, 0, 1622) := (congrArg (fun t => List.lookup 91 t) gt266).trans rfl
theorem t266_94 : zT 266 94 = some (.iload_n 1, 1, 1, 0, 0, 0) := (congrArg (fun t => List.lookup 94 t) gt266).trans rfl
theorem t266_95 : zT 266 95 = some (.iconst 1, 1, 0, 0, 1, 0) := (congrArg (fun t => List.lookup 95 t) gt266).trans rfl
theorem t266_96 : zT 266 96 = some (.isub, 1, 0, 0, 0, 0) := (congrArg (fun t => List.lookup 96 t) gt266).trans rfl
theorem t266_97 : zT 266 97 = some (.iaload, 1, 0, 0, 0, 0) := (congrArg (fun t => List.lookup 97 t) gt266).trans rfl
theorem t266_98 : zT 266 98 = some (.isub, 1, 0, 0, 0, 0) := (congrArg (fun t => List.lookup 98 t) gt266).trans rfl
theorem t266_99 : zT 266 99 = some (.iastore, 1, 0, 0, 0, 0) := (congrArg (fun t => List.lookup 99 t) gt266).trans rfl
theorem t266_100 : zT 266 100 = some (.goto 36, 3, 136, 0, 0, 0) := (congrArg (fun t => List.lookup 100 t) gt266).trans rfl
theorem t266_103 : zT 266 103 = some (.iinc 1 (-1), 3, 0, 0, 0, 0) := (congrArg (fun t => List.lookup 103 t) gt266).trans rfl
theorem t266_106 : zT 266 106 = some (.aload_n 0, 1, 0, 0, 0, 0) := (congrArg (fun t => List.lookup 106 t) gt266).trans rfl
theorem t266_107 : zT 266 107 = some (.getfield 31, 3, 12, 15, 0, 1622) := (congrArg (fun t => List.lookup 107 t) gt266).trans rfl
theorem t266_110 : zT 266 110 = some (.iload_n 1, 1, 1, 0, 0, 0) := (congrArg (fun t => List.lookup 110 t) gt266).trans rfl
theorem t266_111 : zT 266 111 = some (.iconst 1, 1, 0, 0, 1, 0) := (congrArg (fun t => List.lookup 111 t) gt266).trans rfl
theorem t266_112 : zT 266 112 = some (.isub, 1, 0, 0, 0, 0) := (congrArg (fun t => List.lookup 112 t) gt266).trans rfl
theorem t266_113 : zT 266 113 = some (.iload_n 3, 1, 3, 0, 0, 0) := (congrArg (fun t => List.lookup 113 t) gt266).trans rfl
theorem t266_114 : zT 266 114 = some (.sipush 20000, 3, 0, 0, 20000, 0) := (congrArg (fun t => List.lookup 114 t) gt266).trans rfl
theorem t266_117 : zT 266 117 = some (.isub, 1, 0, 0, 0, 0) := (congrArg (fun t => List.lookup 117 t) gt266).trans rfl
theorem t266_118 : zT 266 118 = some (.aload_n 0, 1, 0, 0, 0, 0) := (congrArg (fun t => List.lookup 118 t) gt266).trans (by decide +kernel)
theorem t266_119 : zT 266 119 = some (.getfield 31, 3, 12, 15, 0, 1622) := (congrArg (fun t => List.lookup 119 t) gt266).trans (by decide +kernel)
theorem t266_122 : zT 266 122 = some (.iload_n 1, 1, 1, 0, 0, 0) := (congrArg (fun t => List.lookup 122 t) gt266).trans (by decide +kernel)
theorem t266_123 : zT 266 123 = some (.iconst 1, 1, 0, 0, 1, 0) := (congrArg (fun t => List.lookup 123 t) gt266).trans (by decide +kernel)
theorem t266_124 : zT 266 124 = some (.isub, 1, 0, 0, 0, 0) := (congrArg (fun t => List.lookup 124 t) gt266).trans (by decide +kernel)
theorem t266_125 : zT 266 125 = some (.iaload, 1, 0, 0, 0, 0) := (congrArg (fun t => List.lookup 125 t) gt266).trans (by decide +kernel)
theorem t266_126 : zT 266 126 = some (.aload_n 0, 1, 0, 0, 0, 0) := (congrArg (fun t => List.lookup 126 t) gt266).trans (by decide +kernel)
theorem t266_127 : zT 266 127 = some (.getfield 31, 3, 12, 15, 0, 1622) := (congrArg (fun t => List.lookup 127 t) gt266).trans (by decide +kernel)
theorem t266_130 : zT 266 130 = some (.iload_n 1, 1, 1, 0, 0, 0) := (congrArg (fun t => List.lookup 130 t) gt266).trans (by decide +kernel)
theorem t266_131 : zT 266 131 = some (.iaload, 1, 0, 0, 0, 0) := (congrArg (fun t => List.lookup 131 t) gt266).trans (by decide +kernel)
theorem t266_132 : zT 266 132 = some (.invokestatic 252, 3, 294, 1, 0, 2034) := (congrArg (fun t => List.lookup 132 t) gt266).trans (by decide +kernel)
theorem t266_135 : zT 266 135 = some (.iastore, 1, 0, 0, 0, 0) := (congrArg (fun t => List.lookup 135 t) gt266).trans (by decide +kernel)
theorem t266_136 : zT 266 136 = some (.iinc 2 1, 3, 0, 0, 0, 0) := (congrArg (fun t => List.lookup 136 t) gt266).trans (by decide +kernel)
theorem t266_139 : zT 266 139 = some (.goto (-124), 3, 15, 0, 0, 0) := (congrArg (fun t => List.lookup 139 t) gt266).trans (by decide +kernel)
theorem t266_142 : zT 266 142 = some (.aload_n 0, 1, 0, 0, 0, 0) := (congrArg (fun t => List.lookup 142 t) gt266).trans (by decide +kernel)
theorem t266_143 : zT 266 143 = some (.getfield 31, 3, 12, 15, 0, 1622) := (congrArg (fun t => List.lookup 143 t) gt266).trans (by decide +kernel)
theorem t266_146 : zT 266 146 = some (.iconst 0, 1, 0, 0, 0, 0) := (congrArg (fun t => List.lookup 146 t) gt266).trans (by decide +kernel)
theorem t266_147 : zT 266 147 = some (.iaload, 1, 0, 0, 0, 0) := (congrArg (fun t => List.lookup 147 t) gt266).trans (by decide +kernel)
theorem t266_148 : zT 266 148 = some (.ireturn, 1, 0, 0, 0, 0) := (congrArg (fun t => List.lookup 148 t) gt266).trans (by decide +kernel)
theorem fk_zMm_342 : zK zMm 342 = (20, 60) := by decide +kernel
theorem fv_zMm_336_15 : zfv zMm 336 (cY 12 15) 15 = .ref 342 := by decide +kernel
