theorem t141_75 : zT 141 75 = some (.putfield 45, 3, 4, 9, 0, 501) := (congrArg (fun t => List.lookup 75 t) gt141).trans rfl
theorem t141_78 : zT 141 78 = some (.aload_n 0, 1, 0, 0, 0, 0) := (congrArg (fun t => List.lookup 78 t) gt141).trans rfl
theorem t141_79 : zT 141 79 = some (.getfield 51, 3, 4, 11, 0, 503) := (congrArg (fun t => List.lookup 79 t) gt141).trans rfl
theorem t141_82 : zT 141 82 = some (.aload_n 0, 1, 0, 0, 0, 0) := (congrArg (fun t => List.lookup 82 t) gt141).trans rfl
theorem t141_83 : zT 141 83 = some (.getfield 45, 3, 4, 9, 0, 501) := (congrArg (fun t => List.lookup 83 t) gt141).trans rfl
theorem t141_86 : zT 141 86 = some (.iconst 1, 1, 0, 0, 1, 0) := (congrArg (fun t => List.lookup 86 t) gt141).trans rfl
theorem t141_87 : zT 141 87 = some (.isub, 1, 0, 0, 0, 0) := (congrArg (fun t => List.lookup 87 t) gt141).trans rfl
theorem t141_88 : zT 141 88 = some (.dup2, 1, 0, 0, 0, 0) := (congrArg (fun t => List.lookup 88 t) gt141).trans rfl
theorem t141_89 : zT 141 89 = some (.iaload, 1, 0, 0, 0, 0) := (congrArg (fun t => List.lookup 89 t) gt141).trans rfl
theorem t141_90 : zT 141 90 = some (.iconst 1, 1, 0, 0, 1, 0) := (congrArg (fun t => List.lookup 90 t) gt141).trans rfl
theorem t141_91 : zT 141 91 = some (.iadd, 1, 0, 0, 0, 0) := (congrArg (fun t => List.lookup 91 t) gt141).trans rfl
theorem t141_92 : zT 141 92 = some (.iastore, 1, 0, 0, 0, 0) := (congrArg (fun t => List.lookup 92 t) gt141).trans rfl
theorem t141_93 : zT 141 93 = some (.aload_n 0, 1, 0, 0, 0, 0) := (congrArg (fun t => List.lookup 93 t) gt141).trans rfl
theorem t141_94 : zT 141 94 = some (.getfield 54, 3, 4, 12, 0, 504) := (congrArg (fun t => List.lookup 94 t) gt141).trans rfl
theorem t141_97 : zT 141 97 = some (.aload_n 0, 1, 0, 0, 0, 0) := (congrArg (fun t => List.lookup 97 t) gt141).trans rfl
theorem t141_98 : zT 141 98 = some (.getfield 45, 3, 4, 9, 0, 501) := (congrArg (fun t => List.lookup 98 t) gt141).trans rfl
theorem t141_101 : zT 141 101 = some (.iconst 1, 1, 0, 0, 1, 0) := (congrArg (fun t => List.lookup 101 t) gt141).trans rfl
theorem t141_102 : zT 141 102 = some (.isub, 1, 0, 0, 0, 0) := (congrArg (fun t => List.lookup 102 t) gt141).trans rfl
theorem t141_103 : zT 141 103 = some (.dup2, 1, 0, 0, 0, 0) := (congrArg (fun t => List.lookup 103 t) gt141).trans rfl
theorem t141_104 : zT 141 104 = some (.iaload, 1, 0, 0, 0, 0) := (congrArg (fun t => List.lookup 104 t) gt141).trans rfl
theorem t141_105 : zT 141 105 = some (.iload_n 3, 1, 3, 0, 0, 0) := (congrArg (fun t => List.lookup 105 t) gt141).trans rfl
theorem t141_106 : zT 141 106 = some (.iadd, 1, 0, 0, 0, 0) := (congrArg (fun t => List.lookup 106 t) gt141).trans rfl
theorem t141_107 : zT 141 107 = some (.iastore, 1, 0, 0, 0, 0) := (congrArg (fun t => List.lookup 107 t) gt141).trans rfl
theorem t141_108 : zT 141 108 = some (.aload_n 0, 1, 0, 0, 0, 0) := (congrArg (fun t => List.lookup 108 t) gt141).trans (by decide +kernel)
theorem t141_109 : zT 141 109 = some (.getfield 18, 3, 4, 1, 0, 493) := (congrArg (fun t => List.lookup 109 t) gt141).trans (by decide +kernel)
theorem t141_112 : zT 141 112 = some (.aload_n 0, 1, 0, 0, 0, 0) := (congrArg (fun t => List.lookup 112 t) gt141).trans (by decide +kernel)
theorem t141_113 : zT 141 113 = some (.getfield 48, 3, 4, 10, 0, 502) := (congrArg (fun t => List.lookup 113 t) gt141).trans (by decide +kernel)
theorem t141_116 : zT 141 116 = some (.iload_n 2, 1, 2, 0, 0, 0) := (congrArg (fun t => List.lookup 116 t) gt141).trans (by decide +kernel)
theorem t141_117 : zT 141 117 = some (.iaload, 1, 0, 0, 0, 0) := (congrArg (fun t => List.lookup 117 t) gt141).trans (by decide +kernel)
theorem t141_118 : zT 141 118 = some (.invokevirtual 96, 3, 126, 0, 0, 1163) := (congrArg (fun t => List.lookup 118 t) gt141).trans (by decide +kernel)
theorem t141_121 : zT 141 121 = some (.astore 4, 2, 0, 0, 0, 0) := (congrArg (fun t => List.lookup 121 t) gt141).trans (by decide +kernel)
theorem t141_123 : zT 141 123 = some (.aload 4, 2, 0, 0, 0, 0) := (congrArg (fun t => List.lookup 123 t) gt141).trans (by decide +kernel)
theorem t141_125 : zT 141 125 = some (.ifnull 14, 3, 139, 0, 0, 0) := (congrArg (fun t => List.lookup 125 t) gt141).trans (by decide +kernel)
theorem t141_128 : zT 141 128 = some (.aload 4, 2, 0, 0, 0, 0) := (congrArg (fun t => List.lookup 128 t) gt141).trans (by decide +kernel)
theorem t141_130 : zT 141 130 = some (.aload_n 0, 1, 0, 0, 0, 0) := (congrArg (fun t => List.lookup 130 t) gt141).trans (by decide +kernel)
theorem t141_131 : zT 141 131 = some (.getfield 45, 3, 4, 9, 0, 501) := (congrArg (fun t => List.lookup 131 t) gt141).trans (by decide +kernel)
theorem t141_134 : zT 141 134 = some (.iconst 1, 1, 0, 0, 1, 0) := (congrArg (fun t => List.lookup 134 t) gt141).trans (by decide +kernel)
theorem t141_135 : zT 141 135 = some (.isub, 1, 0, 0, 0, 0) := (congrArg (fun t => List.lookup 135 t) gt141).trans (by decide +kernel)
theorem t141_136 : zT 141 136 = some (.putfield 139, 3, 8, 4, 0, 430) := (congrArg (fun t => List.lookup 136 t) gt141).trans (by decide +kernel)
theorem t141_139 : zT 141 139 = some (.iinc 2 1, 3, 0, 0, 0, 0) := (congrArg (fun t => List.lookup 139 t) gt141).trans (by decide +kernel)
theorem t141_142 : zT 141 142 = some (.goto (-135), 3, 7, 0, 0, 0) := (congrArg (fun t => List.lookup 142 t) gt141).trans (by decide +kernel)
theorem t141_145 : zT 141 145 = some (.return_, 1, 0, 0, 0, 0) := (congrArg (fun t => List.lookup 145 t) gt141).trans (by decide +kernel)
theorem t142_0 : zT 142 0 = some (.iload_n 1, 1, 1, 0, 0, 0) := (congrArg (fun t => List.lookup 0 t) gt142).trans rfl
theorem t142_1 : zT 142 1 = some (.ifCond .lt 18, 3, 19, 0, 0, 0) := (congrArg (fun t => List.lookup 1 t) gt142).trans rfl
theorem t142_4 : zT 142 4 = some (.iload_n 1, 1, 1, 0, 0, 0) := (congrArg (fun t => List.lookup 4 t) gt142).trans rfl
theorem t142_5 : zT 142 5 = some (.bipush 60, 2, 0, 0, 60, 0) := (congrArg (fun t => List.lookup 5 t) gt142).trans rfl
theorem t142_7 : zT 142 7 = some (.if_icmp .ge 12, 3, 19, 0, 0, 0) := (congrArg (fun t => List.lookup 7 t) gt142).trans rfl
theorem t142_10 : zT 142 10 = some (.aload_n 0, 1, 0, 0, 0, 0) := (congrArg (fun t => List.lookup 10 t) gt142).trans rfl
theorem t142_11 : zT 142 11 = some (.getfield 35, 3, 4, 6, 0, 498) := (congrArg (fun t => List.lookup 11 t) gt142).trans rfl
theorem t142_14 : zT 142 14 = some (.iload_n 1, 1, 1, 0, 0, 0) := (congrArg (fun t => List.lookup 14 t) gt142).trans rfl
theorem t142_15 : zT 142 15 = some (.iaload, 1, 0, 0, 0, 0) := (congrArg (fun t => List.lookup 15 t) gt142).trans rfl
theorem t142_16 : zT 142 16 = some (.goto 5, 3, 21, 0, 0, 0) := (congrArg (fun t => List.lookup 16 t) gt142).trans rfl
theorem t142_21 : zT 142 21 = some (.ireturn, 1, 0, 0, 0, 0) := (congrArg (fun t => List.lookup 21 t) gt142).trans rfl
theorem t143_0 : zT 143 0 = some (.aload_n 0, 1, 0, 0, 0, 0) := (congrArg (fun t => List.lookup 0 t) gt143).trans rfl
theorem t143_1 : zT 143 1 = some (.getfield 12, 3, 11, 0, 0, 598) := (congrArg (fun t => List.lookup 1 t) gt143).trans rfl
theorem t143_4 : zT 143 4 = some (.iload_n 1, 1, 1, 0, 0, 0) := (congrArg (fun t => List.lookup 4 t) gt143).trans rfl
theorem t143_5 : zT 143 5 = some (.invokevirtual 219, 3, 130, 0, 0, 1235) := (congrArg (fun t => List.lookup 5 t) gt143).trans rfl
theorem t143_8 : zT 143 8 = some (.ifCond .ne 6, 3, 14, 0, 0, 0) := (congrArg (fun t => List.lookup 8 t) gt143).trans rfl
theorem t143_11 : zT 143 11 = some (.ldc 196, 2, 0, 0, (-100000), 1066) := (congrArg (fun t => List.lookup 11 t) gt143).trans rfl
theorem t143_13 : zT 143 13 = some (.ireturn, 1, 0, 0, 0, 0) := (congrArg (fun t => List.lookup 13 t) gt143).trans rfl
theorem t143_14 : zT 143 14 = some (.iload_n 2, 1, 2, 0, 0, 0) := (congrArg (fun t => List.lookup 14 t) gt143).trans rfl
theorem t143_15 : zT 143 15 = some (.tableswitch 95 0 4 #[33, 43, 53, 63, 72], 33, 0, 0, 0, 0) := (congrArg (fun t => List.lookup 15 t) gt143).trans rfl
theorem t143_48 : zT 143 48 = some (.aload_n 0, 1, 0, 0, 0, 0) := (congrArg (fun t => List.lookup 48 t) gt143).trans rfl
theorem t143_49 : zT 143 49 = some (.getfield 12, 3, 11, 0, 0, 598) := (congrArg (fun t => List.lookup 49 t) gt143).trans rfl
theorem t143_52 : zT 143 52 = some (.getfield 222, 3, 6, 9, 0, 185) := (congrArg (fun t => List.lookup 52 t) gt143).trans rfl
theorem t143_55 : zT 143 55 = some (.iload_n 1, 1, 1, 0, 0, 0) := (congrArg (fun t => List.lookup 55 t) gt143).trans rfl
theorem t143_56 : zT 143 56 = some (.iaload, 1, 0, 0, 0, 0) := (congrArg (fun t => List.lookup 56 t) gt143).trans rfl
theorem t143_57 : zT 143 57 = some (.ireturn, 1, 0, 0, 0, 0) := (congrArg (fun t => List.lookup 57 t) gt143).trans rfl
theorem t143_58 : zT 143 58 = some (.aload_n 0, 1, 0, 0, 0, 0) := (congrArg (fun t => List.lookup 58 t) gt143).trans rfl
theorem t143_59 : zT 143 59 = some (.getfield 12, 3, 11, 0, 0, 598) := (congrArg (fun t => List.lookup 59 t) gt143).trans rfl
theorem t143_62 : zT 143 62 = some (.getfield 225, 3, 6, 10, 0, 187) := (congrArg (fun t => List.lookup 62 t) gt143).trans rfl
theorem t143_65 : zT 143 65 = some (.iload_n 1, 1, 1, 0, 0, 0) := (congrArg (fun t => List.lookup 65 t) gt143).trans rfl
theorem t143_66 : zT 143 66 = some (.iaload, 1, 0, 0, 0, 0) := (congrArg (fun t => List.lookup 66 t) gt143).trans rfl
theorem t143_67 : zT 143 67 = some (.ireturn, 1, 0, 0, 0, 0) := (congrArg (fun t => List.lookup 67 t) gt143).trans rfl
theorem t143_68 : zT 143 68 = some (.aload_n 0, 1, 0, 0, 0, 0) := (congrArg (fun t => List.lookup 68 t) gt143).trans rfl
theorem t143_69 : zT 143 69 = some (.getfield 12, 3, 11, 0, 0, 598) := (congrArg (fun t => List.lookup 69 t) gt143).trans rfl
theorem t143_72 : zT 143 72 = some (.getfield 228, 3, 6, 11, 0, 189) := (congrArg (fun t => List.lookup 72 t) gt143).trans rfl
theorem t143_75 : zT 143 75 = some (.iload_n 1, 1, 1, 0, 0, 0) := (congrArg (fun t => List.lookup 75 t) gt143).trans rfl
theorem t143_76 : zT 143 76 = some (.iaload, 1, 0, 0, 0, 0) := (congrArg (fun t => List.lookup 76 t) gt143).trans rfl
theorem t143_77 : zT 143 77 = some (.ireturn, 1, 0, 0, 0, 0) := (congrArg (fun t => List.lookup 77 t) gt143).trans rfl
theorem t143_78 : zT 143 78 = some (.aload_n 0, 1, 0, 0, 0, 0) := (congrArg (fun t => List.lookup 78 t) gt143).trans rfl
theorem t143_79 : zT 143 79 = some (.getfield 12, 3, 11, 0, 0, 598) := (congrArg (fun t => List.lookup 79 t) gt143).trans rfl
theorem t143_82 : zT 143 82 = some (.iload_n 1, 1, 1, 0, 0, 0) := (congrArg (fun t => List.lookup 82 t) gt143).trans rfl
theorem t143_83 : zT 143 83 = some (.invokevirtual 231, 3, 128, 0, 0, 1236) := (congrArg (fun t => List.lookup 83 t) gt143).trans rfl
theorem t143_86 : zT 143 86 = some (.ireturn, 1, 0, 0, 0, 0) := (congrArg (fun t => List.lookup 86 t) gt143).trans rfl
theorem t143_87 : zT 143 87 = some (.aload_n 0, 1, 0, 0, 0, 0) := (congrArg (fun t => List.lookup 87 t) gt143).trans rfl
theorem t143_88 : zT 143 88 = some (.getfield 50, 3, 11, 6, 0, 604) := (congrArg (fun t => List.lookup 88 t) gt143).trans rfl
theorem t143_91 : zT 143 91 = some (.aload_n 0, 1, 0, 0, 0, 0) := (congrArg (fun t => List.lookup 91 t) gt143).trans rfl
theorem t143_92 : zT 143 92 = some (.getfield 12, 3, 11, 0, 0, 598) := (congrArg (fun t => List.lookup 92 t) gt143).trans rfl
theorem t143_95 : zT 143 95 = some (.invokevirtual 212, 3, 105, 0, 0, 1068) := (congrArg (fun t => List.lookup 95 t) gt143).trans rfl
theorem t143_98 : zT 143 98 = some (.iload_n 1, 1, 1, 0, 0, 0) := (congrArg (fun t => List.lookup 98 t) gt143).trans rfl
theorem t143_99 : zT 143 99 = some (.aload_n 0, 1, 0, 0, 0, 0) := (congrArg (fun t => List.lookup 99 t) gt143).trans rfl
theorem t143_100 : zT 143 100 = some (.getfield 50, 3, 11, 6, 0, 604) := (congrArg (fun t => List.lookup 100 t) gt143).trans rfl
theorem t143_103 : zT 143 103 = some (.invokevirtual 234, 3, 144, 0, 0, 1237) := (congrArg (fun t => List.lookup 103 t) gt143).trans rfl
theorem t143_106 : zT 143 106 = some (.invokevirtual 237, 3, 145, 0, 0, 1241) := (congrArg (fun t => List.lookup 106 t) gt143).trans rfl
theorem t143_109 : zT 143 109 = some (.ireturn, 1, 0, 0, 0, 0) := (congrArg (fun t => List.lookup 109 t) gt143).trans rfl
theorem t143_110 : zT 143 110 = some (.ldc 196, 2, 0, 0, (-100000), 1066) := (congrArg (fun t => List.lookup 110 t) gt143).trans rfl
theorem t143_112 : zT 143 112 = some (.ireturn, 1, 0, 0, 0, 0) := (congrArg (fun t => List.lookup 112 t) gt143).trans rfl
theorem t144_0 : zT 144 0 = some (.aload_n 0, 1, 0, 0, 0, 0) := (congrArg (fun t => List.lookup 0 t) gt144).trans rfl
theorem t144_1 : zT 144 1 = some (.getfield 29, 3, 4, 4, 0, 496) := (congrArg (fun t => List.lookup 1 t) gt144).trans rfl
theorem t144_4 : zT 144 4 = some (.ireturn, 1, 0, 0, 0, 0) := (congrArg (fun t => List.lookup 4 t) gt144).trans rfl
theorem t145_0 : zT 145 0 = some (.bipush (-2), 2, 0, 0, (-2), 0) := (congrArg (fun t => List.lookup 0 t) gt145).trans rfl
theorem t145_2 : zT 145 2 = some (.istore_n 3, 1, 3, 0, 0, 0) := (congrArg (fun t => List.lookup 2 t) gt145).trans rfl
theorem t145_3 : zT 145 3 = some (.iconst 0, 1, 0, 0, 0, 0) := (congrArg (fun t => List.lookup 3 t) gt145).trans rfl
theorem t145_4 : zT 145 4 = some (.istore 4, 2, 0, 0, 0, 0) := (congrArg (fun t => List.lookup 4 t) gt145).trans rfl
theorem t145_6 : zT 145 6 = some (.iconst 0, 1, 0, 0, 0, 0) := (congrArg (fun t => List.lookup 6 t) gt145).trans rfl
theorem t145_7 : zT 145 7 = some (.istore 5, 2, 0, 0, 0, 0) := (congrArg (fun t => List.lookup 7 t) gt145).trans rfl
theorem t145_9 : zT 145 9 = some (.iload 5, 2, 0, 0, 0, 0) := (congrArg (fun t => List.lookup 9 t) gt145).trans rfl
theorem t145_11 : zT 145 11 = some (.iload_n 2, 1, 2, 0, 0, 0) := (congrArg (fun t => List.lookup 11 t) gt145).trans rfl
theorem t145_12 : zT 145 12 = some (.if_icmp .ge 33, 3, 45, 0, 0, 0) := (congrArg (fun t => List.lookup 12 t) gt145).trans rfl
theorem t145_15 : zT 145 15 = some (.aload_n 0, 1, 0, 0, 0, 0) := (congrArg (fun t => List.lookup 15 t) gt145).trans rfl
theorem t145_16 : zT 145 16 = some (.iload_n 1, 1, 1, 0, 0, 0) := (congrArg (fun t => List.lookup 16 t) gt145).trans rfl
theorem t145_17 : zT 145 17 = some (.iload 5, 2, 0, 0, 0, 0) := (congrArg (fun t => List.lookup 17 t) gt145).trans rfl
theorem t145_19 : zT 145 19 = some (.invokevirtual 163, 3, 146, 0, 0, 1245) := (congrArg (fun t => List.lookup 19 t) gt145).trans rfl
theorem t145_22 : zT 145 22 = some (.iload 4, 2, 0, 0, 0, 0) := (congrArg (fun t => List.lookup 22 t) gt145).trans rfl
theorem t145_24 : zT 145 24 = some (.if_icmp .le 15, 3, 39, 0, 0, 0) := (congrArg (fun t => List.lookup 24 t) gt145).trans rfl
theorem t145_27 : zT 145 27 = some (.aload_n 0, 1, 0, 0, 0, 0) := (congrArg (fun t => List.lookup 27 t) gt145).trans rfl
theorem t145_28 : zT 145 28 = some (.iload_n 1, 1, 1, 0, 0, 0) := (congrArg (fun t => List.lookup 28 t) gt145).trans rfl
theorem t145_29 : zT 145 29 = some (.iload 5, 2, 0, 0, 0, 0) := (congrArg (fun t => List.lookup 29 t) gt145).trans rfl
theorem t145_31 : zT 145 31 = some (.invokevirtual 163, 3, 146, 0, 0, 1245) := (congrArg (fun t => List.lookup 31 t) gt145).trans rfl
theorem t145_34 : zT 145 34 = some (.istore 4, 2, 0, 0, 0, 0) := (congrArg (fun t => List.lookup 34 t) gt145).trans rfl
theorem t145_36 : zT 145 36 = some (.iload 5, 2, 0, 0, 0, 0) := (congrArg (fun t => List.lookup 36 t) gt145).trans rfl
theorem t145_38 : zT 145 38 = some (.istore_n 3, 1, 3, 0, 0, 0) := (congrArg (fun t => List.lookup 38 t) gt145).trans rfl
theorem t145_39 : zT 145 39 = some (.iinc 5 1, 3, 0, 0, 0, 0) := (congrArg (fun t => List.lookup 39 t) gt145).trans rfl
theorem t145_42 : zT 145 42 = some (.goto (-33), 3, 9, 0, 0, 0) := (congrArg (fun t => List.lookup 42 t) gt145).trans rfl
theorem t145_45 : zT 145 45 = some (.iload_n 1, 1, 1, 0, 0, 0) := (congrArg (fun t => List.lookup 45 t) gt145).trans rfl
theorem t145_46 : zT 145 46 = some (.iconst 0, 1, 0, 0, 0, 0) := (congrArg (fun t => List.lookup 46 t) gt145).trans rfl
theorem t145_47 : zT 145 47 = some (.bipush 11, 2, 0, 0, 11, 0) := (congrArg (fun t => List.lookup 47 t) gt145).trans rfl
theorem t145_49 : zT 145 49 = some (.invokestatic 159, 3, 39, 2, 0, 1249) := (congrArg (fun t => List.lookup 49 t) gt145).trans rfl
theorem t145_52 : zT 145 52 = some (.ifCond .eq 20, 3, 72, 0, 0, 0) := (congrArg (fun t => List.lookup 52 t) gt145).trans rfl
theorem t145_55 : zT 145 55 = some (.iconst 2, 1, 0, 0, 2, 0) := (congrArg (fun t => List.lookup 55 t) gt145).trans rfl
theorem t145_56 : zT 145 56 = some (.iload 4, 2, 0, 0, 0, 0) := (congrArg (fun t => List.lookup 56 t) gt145).trans rfl
theorem t145_58 : zT 145 58 = some (.imul, 1, 0, 0, 0, 0) := (congrArg (fun t => List.lookup 58 t) gt145).trans rfl
theorem t145_59 : zT 145 59 = some (.aload_n 0, 1, 0, 0, 0, 0) := (congrArg (fun t => List.lookup 59 t) gt145).trans rfl
theorem t145_60 : zT 145 60 = some (.getfield 39, 3, 4, 7, 0, 499) := (congrArg (fun t => List.lookup 60 t) gt145).trans rfl
theorem t145_63 : zT 145 63 = some (.iload_n 1, 1, 1, 0, 0, 0) := (congrArg (fun t => List.lookup 63 t) gt145).trans rfl
theorem t145_64 : zT 145 64 = some (.iaload, 1, 0, 0, 0, 0) := (congrArg (fun t => List.lookup 64 t) gt145).trans rfl
theorem t145_65 : zT 145 65 = some (.if_icmp .lt 7, 3, 72, 0, 0, 0) := (congrArg (fun t => List.lookup 65 t) gt145).trans rfl
theorem t145_68 : zT 145 68 = some (.iload_n 3, 1, 3, 0, 0, 0) := (congrArg (fun t => List.lookup 68 t) gt145).trans rfl
theorem t145_69 : zT 145 69 = some (.goto 5, 3, 74, 0, 0, 0) := (congrArg (fun t => List.lookup 69 t) gt145).trans rfl
theorem t145_72 : zT 145 72 = some (.bipush (-2), 2, 0, 0, (-2), 0) := (congrArg (fun t => List.lookup 72 t) gt145).trans rfl
theorem t145_74 : zT 145 74 = some (.ireturn, 1, 0, 0, 0, 0) := (congrArg (fun t => List.lookup 74 t) gt145).trans rfl
theorem t146_0 : zT 146 0 = some (.iload_n 1, 1, 1, 0, 0, 0) := (congrArg (fun t => List.lookup 0 t) gt146).trans rfl
theorem t146_1 : zT 146 1 = some (.iconst 0, 1, 0, 0, 0, 0) := (congrArg (fun t => List.lookup 1 t) gt146).trans rfl
theorem t146_2 : zT 146 2 = some (.bipush 11, 2, 0, 0, 11, 0) := (congrArg (fun t => List.lookup 2 t) gt146).trans rfl
theorem t146_4 : zT 146 4 = some (.invokestatic 159, 3, 39, 2, 0, 1249) := (congrArg (fun t => List.lookup 4 t) gt146).trans rfl
theorem t146_7 : zT 146 7 = some (.ifCond .eq 27, 3, 34, 0, 0, 0) := (congrArg (fun t => List.lookup 7 t) gt146).trans rfl
theorem t146_10 : zT 146 10 = some (.iload_n 2, 1, 2, 0, 0, 0) := (congrArg (fun t => List.lookup 10 t) gt146).trans rfl
theorem t146_11 : zT 146 11 = some (.iconst 0, 1, 0, 0, 0, 0) := (congrArg (fun t => List.lookup 11 t) gt146).trans rfl
theorem t146_12 : zT 146 12 = some (.bipush 19, 2, 0, 0, 19, 0) := (congrArg (fun t => List.lookup 12 t) gt146).trans rfl
theorem t146_14 : zT 146 14 = some (.invokestatic 159, 3, 39, 2, 0, 1249) := (congrArg (fun t => List.lookup 14 t) gt146).trans rfl
theorem t146_17 : zT 146 17 = some (.ifCond .eq 17, 3, 34, 0, 0, 0) := (congrArg (fun t => List.lookup 17 t) gt146).trans rfl
theorem t146_20 : zT 146 20 = some (.aload_n 0, 1, 0, 0, 0, 0) := (congrArg (fun t => List.lookup 20 t) gt146).trans rfl
theorem t146_21 : zT 146 21 = some (.getfield 42, 3, 4, 8, 0, 500) := (congrArg (fun t => List.lookup 21 t) gt146).trans rfl
theorem t146_24 : zT 146 24 = some (.iload_n 1, 1, 1, 0, 0, 0) := (congrArg (fun t => List.lookup 24 t) gt146).trans rfl
theorem t146_25 : zT 146 25 = some (.bipush 20, 2, 0, 0, 20, 0) := (congrArg (fun t => List.lookup 25 t) gt146).trans rfl
theorem t146_27 : zT 146 27 = some (.imul, 1, 0, 0, 0, 0) := (congrArg (fun t => List.lookup 27 t) gt146).trans rfl
theorem t146_28 : zT 146 28 = some (.iload_n 2, 1, 2, 0, 0, 0) := (congrArg (fun t => List.lookup 28 t) gt146).trans rfl
theorem t146_29 : zT 146 29 = some (.iadd, 1, 0, 0, 0, 0) := (congrArg (fun t => List.lookup 29 t) gt146).trans rfl
theorem t146_30 : zT 146 30 = some (.iaload, 1, 0, 0, 0, 0) := (congrArg (fun t => List.lookup 30 t) gt146).trans rfl
theorem t146_31 : zT 146 31 = some (.goto 4, 3, 35, 0, 0, 0) := (congrArg (fun t => List.lookup 31 t) gt146).trans rfl
theorem t146_34 : zT 146 34 = some (.iconst 0, 1, 0, 0, 0, 0) := (congrArg (fun t => List.lookup 34 t) gt146).trans rfl
theorem t146_35 : zT 146 35 = some (.ireturn, 1, 0, 0, 0, 0) := (congrArg (fun t => List.lookup 35 t) gt146).trans rfl
theorem t147_0 : zT 147 0 = some (.aload_n 0, 1, 0, 0, 0, 0) := (congrArg (fun t => List.lookup 0 t) gt147).trans rfl
theorem t147_1 : zT 147 1 = some (.getfield 12, 3, 11, 0, 0, 598) := (congrArg (fun t => List.lookup 1 t) gt147).trans rfl
theorem t147_4 : zT 147 4 = some (.iload_n 1, 1, 1, 0, 0, 0) := (congrArg (fun t => List.lookup 4 t) gt147).trans rfl
theorem t147_5 : zT 147 5 = some (.invokevirtual 179, 3, 41, 0, 0, 1023) := (congrArg (fun t => List.lookup 5 t) gt147).trans rfl
theorem t147_8 : zT 147 8 = some (.ifCond .eq 27, 3, 35, 0, 0, 0) := (congrArg (fun t => List.lookup 8 t) gt147).trans rfl
theorem t147_11 : zT 147 11 = some (.iload_n 2, 1, 2, 0, 0, 0) := (congrArg (fun t => List.lookup 11 t) gt147).trans rfl
theorem t147_12 : zT 147 12 = some (.bipush (-99), 2, 0, 0, (-99), 0) := (congrArg (fun t => List.lookup 12 t) gt147).trans rfl
theorem t147_14 : zT 147 14 = some (.if_icmp .lt 21, 3, 35, 0, 0, 0) := (congrArg (fun t => List.lookup 14 t) gt147).trans rfl
theorem t147_17 : zT 147 17 = some (.iload_n 2, 1, 2, 0, 0, 0) := (congrArg (fun t => List.lookup 17 t) gt147).trans rfl
theorem t147_18 : zT 147 18 = some (.bipush 99, 2, 0, 0, 99, 0) := (congrArg (fun t => List.lookup 18 t) gt147).trans rfl
theorem t147_20 : zT 147 20 = some (.if_icmp .gt 15, 3, 35, 0, 0, 0) := (congrArg (fun t => List.lookup 20 t) gt147).trans rfl
theorem t147_23 : zT 147 23 = some (.iload_n 3, 1, 3, 0, 0, 0) := (congrArg (fun t => List.lookup 23 t) gt147).trans rfl
theorem t147_24 : zT 147 24 = some (.bipush (-99), 2, 0, 0, (-99), 0) := (congrArg (fun t => List.lookup 24 t) gt147).trans rfl
theorem t147_26 : zT 147 26 = some (.if_icmp .lt 9, 3, 35, 0, 0, 0) := (congrArg (fun t => List.lookup 26 t) gt147).trans rfl
theorem t147_29 : zT 147 29 = some (.iload_n 3, 1, 3, 0, 0, 0) := (congrArg (fun t => List.lookup 29 t) gt147).trans rfl
theorem t147_30 : zT 147 30 = some (.bipush 99, 2, 0, 0, 99, 0) := (congrArg (fun t => List.lookup 30 t) gt147).trans rfl
theorem t147_32 : zT 147 32 = some (.if_icmp .le 6, 3, 38, 0, 0, 0) := (congrArg (fun t => List.lookup 32 t) gt147).trans rfl
theorem t147_35 : zT 147 35 = some (.ldc 196, 2, 0, 0, (-100000), 1066) := (congrArg (fun t => List.lookup 35 t) gt147).trans rfl
theorem t147_37 : zT 147 37 = some (.ireturn, 1, 0, 0, 0, 0) := (congrArg (fun t => List.lookup 37 t) gt147).trans rfl
theorem t147_38 : zT 147 38 = some (.aload_n 0, 1, 0, 0, 0, 0) := (congrArg (fun t => List.lookup 38 t) gt147).trans rfl
theorem t147_39 : zT 147 39 = some (.getfield 12, 3, 11, 0, 0, 598) := (congrArg (fun t => List.lookup 39 t) gt147).trans rfl
theorem t147_42 : zT 147 42 = some (.iload_n 1, 1, 1, 0, 0, 0) := (congrArg (fun t => List.lookup 42 t) gt147).trans rfl
theorem t147_43 : zT 147 43 = some (.iload_n 2, 1, 2, 0, 0, 0) := (congrArg (fun t => List.lookup 43 t) gt147).trans rfl
theorem t147_44 : zT 147 44 = some (.invokevirtual 240, 3, 53, 0, 0, 1254) := (congrArg (fun t => List.lookup 44 t) gt147).trans rfl
theorem t147_47 : zT 147 47 = some (.aload_n 0, 1, 0, 0, 0, 0) := (congrArg (fun t => List.lookup 47 t) gt147).trans rfl
theorem t147_48 : zT 147 48 = some (.getfield 12, 3, 11, 0, 0, 598) := (congrArg (fun t => List.lookup 48 t) gt147).trans rfl
theorem t147_51 : zT 147 51 = some (.iload_n 1, 1, 1, 0, 0, 0) := (congrArg (fun t => List.lookup 51 t) gt147).trans rfl
theorem t147_52 : zT 147 52 = some (.iload_n 3, 1, 3, 0, 0, 0) := (congrArg (fun t => List.lookup 52 t) gt147).trans rfl
theorem t147_53 : zT 147 53 = some (.invokevirtual 243, 3, 55, 0, 0, 1255) := (congrArg (fun t => List.lookup 53 t) gt147).trans rfl
theorem t147_56 : zT 147 56 = some (.iadd, 1, 0, 0, 0, 0) := (congrArg (fun t => List.lookup 56 t) gt147).trans rfl
theorem t147_57 : zT 147 57 = some (.ireturn, 1, 0, 0, 0, 0) := (congrArg (fun t => List.lookup 57 t) gt147).trans rfl
theorem t148_0 : zT 148 0 = some (.iload_n 1, 1, 1, 0, 0, 0) := (congrArg (fun t => List.lookup 0 t) gt148).trans rfl
theorem t148_1 : zT 148 1 = some (.aload_n 0, 1, 0, 0, 0, 0) := (congrArg (fun t => List.lookup 1 t) gt148).trans rfl
theorem t148_2 : zT 148 2 = some (.getfield 12, 3, 11, 0, 0, 598) := (congrArg (fun t => List.lookup 2 t) gt148).trans rfl
theorem t148_5 : zT 148 5 = some (.iconst 0, 1, 0, 0, 0, 0) := (congrArg (fun t => List.lookup 5 t) gt148).trans rfl
theorem t148_6 : zT 148 6 = some (.invokevirtual 158, 3, 96, 0, 0, 1029) := (congrArg (fun t => List.lookup 6 t) gt148).trans rfl
theorem t148_9 : zT 148 9 = some (.ineg, 1, 0, 0, 0, 0) := (congrArg (fun t => List.lookup 9 t) gt148).trans rfl
theorem t148_10 : zT 148 10 = some (.aload_n 0, 1, 0, 0, 0, 0) := (congrArg (fun t => List.lookup 10 t) gt148).trans rfl
theorem t148_11 : zT 148 11 = some (.getfield 12, 3, 11, 0, 0, 598) := (congrArg (fun t => List.lookup 11 t) gt148).trans rfl
theorem t148_14 : zT 148 14 = some (.iconst 0, 1, 0, 0, 0, 0) := (congrArg (fun t => List.lookup 14 t) gt148).trans rfl
theorem t148_15 : zT 148 15 = some (.invokevirtual 158, 3, 96, 0, 0, 1029) := (congrArg (fun t => List.lookup 15 t) gt148).trans rfl
theorem t148_18 : zT 148 18 = some (.invokestatic 246, 3, 39, 1, 0, 1028) := (congrArg (fun t => List.lookup 18 t) gt148).trans rfl
theorem t148_21 : zT 148 21 = some (.ifCond .eq 27, 3, 48, 0, 0, 0) := (congrArg (fun t => List.lookup 21 t) gt148).trans rfl
theorem t148_24 : zT 148 24 = some (.iload_n 2, 1, 2, 0, 0, 0) := (congrArg (fun t => List.lookup 24 t) gt148).trans rfl
theorem t148_25 : zT 148 25 = some (.aload_n 0, 1, 0, 0, 0, 0) := (congrArg (fun t => List.lookup 25 t) gt148).trans rfl
theorem t148_26 : zT 148 26 = some (.getfield 12, 3, 11, 0, 0, 598) := (congrArg (fun t => List.lookup 26 t) gt148).trans rfl
theorem t148_29 : zT 148 29 = some (.iconst 1, 1, 0, 0, 1, 0) := (congrArg (fun t => List.lookup 29 t) gt148).trans rfl
theorem t148_30 : zT 148 30 = some (.invokevirtual 158, 3, 96, 0, 0, 1029) := (congrArg (fun t => List.lookup 30 t) gt148).trans rfl
theorem t148_33 : zT 148 33 = some (.ineg, 1, 0, 0, 0, 0) := (congrArg (fun t => List.lookup 33 t) gt148).trans rfl
theorem t148_34 : zT 148 34 = some (.aload_n 0, 1, 0, 0, 0, 0) := (congrArg (fun t => List.lookup 34 t) gt148).trans rfl
theorem t148_35 : zT 148 35 = some (.getfield 12, 3, 11, 0, 0, 598) := (congrArg (fun t => List.lookup 35 t) gt148).trans rfl
theorem t148_38 : zT 148 38 = some (.iconst 1, 1, 0, 0, 1, 0) := (congrArg (fun t => List.lookup 38 t) gt148).trans rfl
theorem t148_39 : zT 148 39 = some (.invokevirtual 158, 3, 96, 0, 0, 1029) := (congrArg (fun t => List.lookup 39 t) gt148).trans rfl
theorem t148_42 : zT 148 42 = some (.invokestatic 246, 3, 39, 1, 0, 1028) := (congrArg (fun t => List.lookup 42 t) gt148).trans rfl
theorem t148_45 : zT 148 45 = some (.ifCond .ne 5, 3, 50, 0, 0, 0) := (congrArg (fun t => List.lookup 45 t) gt148).trans rfl
theorem t148_48 : zT 148 48 = some (.iconst (-1), 1, 0, 0, (-1), 0) := (congrArg (fun t => List.lookup 48 t) gt148).trans rfl
theorem t148_49 : zT 148 49 = some (.ireturn, 1, 0, 0, 0, 0) := (congrArg (fun t => List.lookup 49 t) gt148).trans rfl
theorem t148_50 : zT 148 50 = some (.aload_n 0, 1, 0, 0, 0, 0) := (congrArg (fun t => List.lookup 50 t) gt148).trans rfl
theorem t148_51 : zT 148 51 = some (.getfield 12, 3, 11, 0, 0, 598) := (congrArg (fun t => List.lookup 51 t) gt148).trans rfl
theorem t148_54 : zT 148 54 = some (.iload_n 1, 1, 1, 0, 0, 0) := (congrArg (fun t => List.lookup 54 t) gt148).trans rfl
theorem t148_55 : zT 148 55 = some (.iload_n 2, 1, 2, 0, 0, 0) := (congrArg (fun t => List.lookup 55 t) gt148).trans rfl
theorem t148_56 : zT 148 56 = some (.iload_n 3, 1, 3, 0, 0, 0) := (congrArg (fun t => List.lookup 56 t) gt148).trans rfl
theorem t148_57 : zT 148 57 = some (.invokevirtual 250, 3, 149, 0, 0, 1260) := (congrArg (fun t => List.lookup 57 t) gt148).trans rfl
theorem t148_60 : zT 148 60 = some (.ireturn, 1, 0, 0, 0, 0) := (congrArg (fun t => List.lookup 60 t) gt148).trans rfl
theorem t149_0 : zT 149 0 = some (.iconst 1, 1, 0, 0, 1, 0) := (congrArg (fun t => List.lookup 0 t) gt149).trans rfl
theorem t149_1 : zT 149 1 = some (.aload_n 0, 1, 0, 0, 0, 0) := (congrArg (fun t => List.lookup 1 t) gt149).trans rfl
theorem t149_2 : zT 149 2 = some (.getfield 58, 3, 6, 12, 0, 190) := (congrArg (fun t => List.lookup 2 t) gt149).trans rfl
theorem t149_5 : zT 149 5 = some (.iconst 2, 1, 0, 0, 2, 0) := (congrArg (fun t => List.lookup 5 t) gt149).trans rfl
theorem t149_6 : zT 149 6 = some (.iaload, 1, 0, 0, 0, 0) := (congrArg (fun t => List.lookup 6 t) gt149).trans rfl
theorem t149_7 : zT 149 7 = some (.invokestatic 84, 3, 21, 1, 0, 684) := (congrArg (fun t => List.lookup 7 t) gt149).trans rfl
theorem t149_10 : zT 149 10 = some (.istore 4, 2, 0, 0, 0, 0) := (congrArg (fun t => List.lookup 10 t) gt149).trans rfl
theorem t149_12 : zT 149 12 = some (.iconst 0, 1, 0, 0, 0, 0) := (congrArg (fun t => List.lookup 12 t) gt149).trans rfl
theorem t149_13 : zT 149 13 = some (.istore 5, 2, 0, 0, 0, 0) := (congrArg (fun t => List.lookup 13 t) gt149).trans rfl
theorem t149_15 : zT 149 15 = some (.iconst 0, 1, 0, 0, 0, 0) := (congrArg (fun t => List.lookup 15 t) gt149).trans rfl
theorem t149_16 : zT 149 16 = some (.istore 6, 2, 0, 0, 0, 0) := (congrArg (fun t => List.lookup 16 t) gt149).trans rfl
theorem t149_18 : zT 149 18 = some (.iload 6, 2, 0, 0, 0, 0) := (congrArg (fun t => List.lookup 18 t) gt149).trans rfl
theorem t149_20 : zT 149 20 = some (.aload_n 0, 1, 0, 0, 0, 0) := (congrArg (fun t => List.lookup 20 t) gt149).trans rfl
theorem t149_21 : zT 149 21 = some (.getfield 23, 3, 6, 3, 0, 164) := (congrArg (fun t => List.lookup 21 t) gt149).trans rfl
theorem t149_24 : zT 149 24 = some (.if_icmp .ge 72, 3, 96, 0, 0, 0) := (congrArg (fun t => List.lookup 24 t) gt149).trans rfl
theorem t149_27 : zT 149 27 = some (.aload_n 0, 1, 0, 0, 0, 0) := (congrArg (fun t => List.lookup 27 t) gt149).trans rfl
theorem t149_28 : zT 149 28 = some (.getfield 26, 3, 6, 4, 0, 168) := (congrArg (fun t => List.lookup 28 t) gt149).trans rfl
theorem t149_31 : zT 149 31 = some (.iload 6, 2, 0, 0, 0, 0) := (congrArg (fun t => List.lookup 31 t) gt149).trans rfl
theorem t149_33 : zT 149 33 = some (.iaload, 1, 0, 0, 0, 0) := (congrArg (fun t => List.lookup 33 t) gt149).trans rfl
theorem t149_34 : zT 149 34 = some (.istore 7, 2, 0, 0, 0, 0) := (congrArg (fun t => List.lookup 34 t) gt149).trans rfl
theorem t149_36 : zT 149 36 = some (.aload_n 0, 1, 0, 0, 0, 0) := (congrArg (fun t => List.lookup 36 t) gt149).trans rfl
theorem t149_37 : zT 149 37 = some (.getfield 29, 3, 6, 5, 0, 171) := (congrArg (fun t => List.lookup 37 t) gt149).trans rfl
theorem t149_40 : zT 149 40 = some (.iload 6, 2, 0, 0, 0, 0) := (congrArg (fun t => List.lookup 40 t) gt149).trans rfl
theorem t149_42 : zT 149 42 = some (.iaload, 1, 0, 0, 0, 0) := (congrArg (fun t => List.lookup 42 t) gt149).trans rfl
theorem t149_43 : zT 149 43 = some (.aload_n 0, 1, 0, 0, 0, 0) := (congrArg (fun t => List.lookup 43 t) gt149).trans rfl
theorem t149_44 : zT 149 44 = some (.iload 7, 2, 0, 0, 0, 0) := (congrArg (fun t => List.lookup 44 t) gt149).trans rfl
theorem t149_46 : zT 149 46 = some (.iload_n 2, 1, 2, 0, 0, 0) := (congrArg (fun t => List.lookup 46 t) gt149).trans rfl
theorem t149_47 : zT 149 47 = some (.invokevirtual 104, 3, 53, 0, 0, 797) := (congrArg (fun t => List.lookup 47 t) gt149).trans rfl
theorem t149_50 : zT 149 50 = some (.isub, 1, 0, 0, 0, 0) := (congrArg (fun t => List.lookup 50 t) gt149).trans rfl
theorem t149_51 : zT 149 51 = some (.aload_n 0, 1, 0, 0, 0, 0) := (congrArg (fun t => List.lookup 51 t) gt149).trans rfl
theorem t149_52 : zT 149 52 = some (.iload 7, 2, 0, 0, 0, 0) := (congrArg (fun t => List.lookup 52 t) gt149).trans rfl
theorem t149_54 : zT 149 54 = some (.iload_n 1, 1, 1, 0, 0, 0) := (congrArg (fun t => List.lookup 54 t) gt149).trans rfl
theorem t149_55 : zT 149 55 = some (.invokevirtual 107, 3, 55, 0, 0, 804) := (congrArg (fun t => List.lookup 55 t) gt149).trans rfl
theorem t149_58 : zT 149 58 = some (.isub, 1, 0, 0, 0, 0) := (congrArg (fun t => List.lookup 58 t) gt149).trans rfl
theorem t149_59 : zT 149 59 = some (.istore 8, 2, 0, 0, 0, 0) := (congrArg (fun t => List.lookup 59 t) gt149).trans rfl
theorem t149_61 : zT 149 61 = some (.aload_n 0, 1, 0, 0, 0, 0) := (congrArg (fun t => List.lookup 61 t) gt149).trans rfl
theorem t149_62 : zT 149 62 = some (.iload 6, 2, 0, 0, 0, 0) := (congrArg (fun t => List.lookup 62 t) gt149).trans rfl
theorem t149_64 : zT 149 64 = some (.invokevirtual 95, 3, 93, 0, 0, 1014) := (congrArg (fun t => List.lookup 64 t) gt149).trans rfl
theorem t149_67 : zT 149 67 = some (.ifCond .eq 23, 3, 90, 0, 0, 0) := (congrArg (fun t => List.lookup 67 t) gt149).trans rfl
theorem t149_70 : zT 149 70 = some (.iload 8, 2, 0, 0, 0, 0) := (congrArg (fun t => List.lookup 70 t) gt149).trans rfl
theorem t149_72 : zT 149 72 = some (.iload 4, 2, 0, 0, 0, 0) := (congrArg (fun t => List.lookup 72 t) gt149).trans rfl
theorem t149_74 : zT 149 74 = some (.invokestatic 101, 3, 54, 1, 0, 801) := (congrArg (fun t => List.lookup 74 t) gt149).trans rfl
theorem t149_77 : zT 149 77 = some (.iload_n 3, 1, 3, 0, 0, 0) := (congrArg (fun t => List.lookup 77 t) gt149).trans rfl
theorem t149_78 : zT 149 78 = some (.if_icmp .ne 12, 3, 90, 0, 0, 0) := (congrArg (fun t => List.lookup 78 t) gt149).trans rfl
theorem t149_81 : zT 149 81 = some (.iload 5, 2, 0, 0, 0, 0) := (congrArg (fun t => List.lookup 81 t) gt149).trans rfl
theorem t149_83 : zT 149 83 = some (.iconst 1, 1, 0, 0, 1, 0) := (congrArg (fun t => List.lookup 83 t) gt149).trans rfl
theorem t149_84 : zT 149 84 = some (.iload 7, 2, 0, 0, 0, 0) := (congrArg (fun t => List.lookup 84 t) gt149).trans rfl
theorem t149_86 : zT 149 86 = some (.ishl, 1, 0, 0, 0, 0) := (congrArg (fun t => List.lookup 86 t) gt149).trans rfl
theorem t149_87 : zT 149 87 = some (.ior, 1, 0, 0, 0, 0) := (congrArg (fun t => List.lookup 87 t) gt149).trans rfl
theorem t149_88 : zT 149 88 = some (.istore 5, 2, 0, 0, 0, 0) := (congrArg (fun t => List.lookup 88 t) gt149).trans rfl
theorem t149_90 : zT 149 90 = some (.iinc 6 1, 3, 0, 0, 0, 0) := (congrArg (fun t => List.lookup 90 t) gt149).trans rfl
theorem t149_93 : zT 149 93 = some (.goto (-75), 3, 18, 0, 0, 0) := (congrArg (fun t => List.lookup 93 t) gt149).trans rfl
theorem t149_96 : zT 149 96 = some (.iload 5, 2, 0, 0, 0, 0) := (congrArg (fun t => List.lookup 96 t) gt149).trans rfl
theorem t149_98 : zT 149 98 = some (.invokestatic 110, 3, 113, 1, 0, 1264) := (congrArg (fun t => List.lookup 98 t) gt149).trans rfl
theorem t149_101 : zT 149 101 = some (.ireturn, 1, 0, 0, 0, 0) := (congrArg (fun t => List.lookup 101 t) gt149).trans rfl
theorem t150_0 : zT 150 0 = some (.iload_n 1, 1, 1, 0, 0, 0) := (congrArg (fun t => List.lookup 0 t) gt150).trans rfl
theorem t150_1 : zT 150 1 = some (.tableswitch 81 0 5 #[39, 46, 53, 60, 67, 74], 39, 0, 0, 0, 0) := (congrArg (fun t => List.lookup 1 t) gt150).trans rfl
theorem t150_40 : zT 150 40 = some (.aload_n 0, 1, 0, 0, 0, 0) := (congrArg (fun t => List.lookup 40 t) gt150).trans rfl
theorem t150_41 : zT 150 41 = some (.bipush 110, 2, 0, 0, 110, 0) := (congrArg (fun t => List.lookup 41 t) gt150).trans rfl
theorem t150_43 : zT 150 43 = some (.invokevirtual 253, 3, 151, 0, 0, 1269) := (congrArg (fun t => List.lookup 43 t) gt150).trans rfl
theorem t150_46 : zT 150 46 = some (.ireturn, 1, 0, 0, 0, 0) := (congrArg (fun t => List.lookup 46 t) gt150).trans rfl
theorem t150_47 : zT 150 47 = some (.aload_n 0, 1, 0, 0, 0, 0) := (congrArg (fun t => List.lookup 47 t) gt150).trans rfl
theorem t150_48 : zT 150 48 = some (.bipush 103, 2, 0, 0, 103, 0) := (congrArg (fun t => List.lookup 48 t) gt150).trans rfl
theorem t150_50 : zT 150 50 = some (.invokevirtual 253, 3, 151, 0, 0, 1269) := (congrArg (fun t => List.lookup 50 t) gt150).trans rfl
theorem t150_53 : zT 150 53 = some (.ireturn, 1, 0, 0, 0, 0) := (congrArg (fun t => List.lookup 53 t) gt150).trans rfl
theorem t150_54 : zT 150 54 = some (.aload_n 0, 1, 0, 0, 0, 0) := (congrArg (fun t => List.lookup 54 t) gt150).trans rfl
theorem t150_55 : zT 150 55 = some (.bipush 118, 2, 0, 0, 118, 0) := (congrArg (fun t => List.lookup 55 t) gt150).trans rfl
theorem t150_57 : zT 150 57 = some (.invokevirtual 253, 3, 151, 0, 0, 1269) := (congrArg (fun t => List.lookup 57 t) gt150).trans rfl
theorem t150_60 : zT 150 60 = some (.ireturn, 1, 0, 0, 0, 0) := (congrArg (fun t => List.lookup 60 t) gt150).trans rfl
theorem t150_61 : zT 150 61 = some (.aload_n 0, 1, 0, 0, 0, 0) := (congrArg (fun t => List.lookup 61 t) gt150).trans rfl
theorem t150_62 : zT 150 62 = some (.bipush 117, 2, 0, 0, 117, 0) := (congrArg (fun t => List.lookup 62 t) gt150).trans rfl
theorem t150_64 : zT 150 64 = some (.invokevirtual 253, 3, 151, 0, 0, 1269) := (congrArg (fun t => List.lookup 64 t) gt150).trans rfl
theorem t150_67 : zT 150 67 = some (.ireturn, 1, 0, 0, 0, 0) := (congrArg (fun t => List.lookup 67 t) gt150).trans rfl
theorem t150_68 : zT 150 68 = some (.aload_n 0, 1, 0, 0, 0, 0) := (congrArg (fun t => List.lookup 68 t) gt150).trans rfl
theorem t150_69 : zT 150 69 = some (.bipush 109, 2, 0, 0, 109, 0) := (congrArg (fun t => List.lookup 69 t) gt150).trans rfl
theorem t150_71 : zT 150 71 = some (.invokevirtual 253, 3, 151, 0, 0, 1269) := (congrArg (fun t => List.lookup 71 t) gt150).trans rfl
theorem t150_74 : zT 150 74 = some (.ireturn, 1, 0, 0, 0, 0) := (congrArg (fun t => List.lookup 74 t) gt150).trans rfl
theorem t150_75 : zT 150 75 = some (.aload_n 0, 1, 0, 0, 0, 0) := (congrArg (fun t => List.lookup 75 t) gt150).trans rfl
theorem t150_76 : zT 150 76 = some (.bipush 111, 2, 0, 0, 111, 0) := (congrArg (fun t => List.lookup 76 t) gt150).trans rfl
theorem t150_78 : zT 150 78 = some (.invokevirtual 253, 3, 151, 0, 0, 1269) := (congrArg (fun t => List.lookup 78 t) gt150).trans rfl
theorem t150_81 : zT 150 81 = some (.ireturn, 1, 0, 0, 0, 0) := (congrArg (fun t => List.lookup 81 t) gt150).trans rfl
theorem t150_82 : zT 150 82 = some (.iconst (-1), 1, 0, 0, (-1), 0) := (congrArg (fun t => List.lookup 82 t) gt150).trans rfl
theorem t150_83 : zT 150 83 = some (.ireturn, 1, 0, 0, 0, 0) := (congrArg (fun t => List.lookup 83 t) gt150).trans rfl
theorem t151_0 : zT 151 0 = some (.iload_n 1, 1, 1, 0, 0, 0) := (congrArg (fun t => List.lookup 0 t) gt151).trans rfl
theorem t151_1 : zT 151 1 = some (.tableswitch 204 103 118 #[117, 94, 204, 204, 204, 158, 143, 79, 189, 204, 204, 204, 204, 204, 166, 102], 79, 0, 0, 0, 0) := (congrArg (fun t => List.lookup 1 t) gt151).trans rfl
theorem t151_80 : zT 151 80 = some (.aload_n 0, 1, 0, 0, 0, 0) := (congrArg (fun t => List.lookup 80 t) gt151).trans rfl
theorem t151_81 : zT 151 81 = some (.getfield 50, 3, 11, 6, 0, 604) := (congrArg (fun t => List.lookup 81 t) gt151).trans rfl
theorem t151_84 : zT 151 84 = some (.aload_n 0, 1, 0, 0, 0, 0) := (congrArg (fun t => List.lookup 84 t) gt151).trans rfl
theorem t151_85 : zT 151 85 = some (.getfield 12, 3, 11, 0, 0, 598) := (congrArg (fun t => List.lookup 85 t) gt151).trans rfl
theorem t151_88 : zT 151 88 = some (.invokevirtual 212, 3, 105, 0, 0, 1068) := (congrArg (fun t => List.lookup 88 t) gt151).trans rfl
theorem t151_91 : zT 151 91 = some (.invokevirtual 234, 3, 144, 0, 0, 1237) := (congrArg (fun t => List.lookup 91 t) gt151).trans rfl
theorem t151_94 : zT 151 94 = some (.ireturn, 1, 0, 0, 0, 0) := (congrArg (fun t => List.lookup 94 t) gt151).trans rfl
theorem t151_95 : zT 151 95 = some (.aload_n 0, 1, 0, 0, 0, 0) := (congrArg (fun t => List.lookup 95 t) gt151).trans rfl
theorem t151_96 : zT 151 96 = some (.getfield 12, 3, 11, 0, 0, 598) := (congrArg (fun t => List.lookup 96 t) gt151).trans rfl
theorem t151_99 : zT 151 99 = some (.invokevirtual 170, 3, 92, 0, 0, 1010) := (congrArg (fun t => List.lookup 99 t) gt151).trans rfl
theorem t151_102 : zT 151 102 = some (.ireturn, 1, 0, 0, 0, 0) := (congrArg (fun t => List.lookup 102 t) gt151).trans rfl
theorem t151_103 : zT 151 103 = some (.aload_n 0, 1, 0, 0, 0, 0) := (congrArg (fun t => List.lookup 103 t) gt151).trans rfl
theorem t151_104 : zT 151 104 = some (.getfield 50, 3, 11, 6, 0, 604) := (congrArg (fun t => List.lookup 104 t) gt151).trans rfl
theorem t151_107 : zT 151 107 = some (.aload_n 0, 1, 0, 0, 0, 0) := (congrArg (fun t => List.lookup 107 t) gt151).trans rfl
theorem t151_108 : zT 151 108 = some (.getfield 12, 3, 11, 0, 0, 598) := (congrArg (fun t => List.lookup 108 t) gt151).trans rfl
theorem t151_111 : zT 151 111 = some (.invokevirtual 212, 3, 105, 0, 0, 1068) := (congrArg (fun t => List.lookup 111 t) gt151).trans rfl
theorem t151_114 : zT 151 114 = some (.invokevirtual 312, 3, 152, 0, 0, 1273) := (congrArg (fun t => List.lookup 114 t) gt151).trans rfl
theorem t151_117 : zT 151 117 = some (.ireturn, 1, 0, 0, 0, 0) := (congrArg (fun t => List.lookup 117 t) gt151).trans rfl
theorem t151_118 : zT 151 118 = some (.aload_n 0, 1, 0, 0, 0, 0) := (congrArg (fun t => List.lookup 118 t) gt151).trans rfl
theorem t151_119 : zT 151 119 = some (.getfield 57, 3, 11, 7, 0, 605) := (congrArg (fun t => List.lookup 119 t) gt151).trans rfl
theorem t151_122 : zT 151 122 = some (.aload_n 0, 1, 0, 0, 0, 0) := (congrArg (fun t => List.lookup 122 t) gt151).trans rfl
theorem t151_123 : zT 151 123 = some (.getfield 12, 3, 11, 0, 0, 598) := (congrArg (fun t => List.lookup 123 t) gt151).trans rfl
theorem t151_126 : zT 151 126 = some (.aload_n 0, 1, 0, 0, 0, 0) := (congrArg (fun t => List.lookup 126 t) gt151).trans rfl
theorem t151_127 : zT 151 127 = some (.getfield 50, 3, 11, 6, 0, 604) := (congrArg (fun t => List.lookup 127 t) gt151).trans rfl
theorem t151_130 : zT 151 130 = some (.aload_n 0, 1, 0, 0, 0, 0) := (congrArg (fun t => List.lookup 130 t) gt151).trans rfl
theorem t151_131 : zT 151 131 = some (.getfield 12, 3, 11, 0, 0, 598) := (congrArg (fun t => List.lookup 131 t) gt151).trans rfl
theorem t151_134 : zT 151 134 = some (.invokevirtual 212, 3, 105, 0, 0, 1068) := (congrArg (fun t => List.lookup 134 t) gt151).trans rfl
theorem t151_137 : zT 151 137 = some (.invokevirtual 344, 3, 153, 0, 0, 1277) := (congrArg (fun t => List.lookup 137 t) gt151).trans rfl
theorem t151_140 : zT 151 140 = some (.invokevirtual 347, 3, 165, 0, 0, 1334) := (congrArg (fun t => List.lookup 140 t) gt151).trans rfl
theorem t151_143 : zT 151 143 = some (.ireturn, 1, 0, 0, 0, 0) := (congrArg (fun t => List.lookup 143 t) gt151).trans rfl
theorem t151_144 : zT 151 144 = some (.aload_n 0, 1, 0, 0, 0, 0) := (congrArg (fun t => List.lookup 144 t) gt151).trans rfl
theorem t151_145 : zT 151 145 = some (.getfield 50, 3, 11, 6, 0, 604) := (congrArg (fun t => List.lookup 145 t) gt151).trans rfl
theorem t151_148 : zT 151 148 = some (.aload_n 0, 1, 0, 0, 0, 0) := (congrArg (fun t => List.lookup 148 t) gt151).trans rfl
theorem t151_149 : zT 151 149 = some (.getfield 12, 3, 11, 0, 0, 598) := (congrArg (fun t => List.lookup 149 t) gt151).trans rfl
theorem t151_152 : zT 151 152 = some (.invokevirtual 212, 3, 105, 0, 0, 1068) := (congrArg (fun t => List.lookup 152 t) gt151).trans rfl
theorem t151_155 : zT 151 155 = some (.invokevirtual 350, 3, 166, 0, 0, 1338) := (congrArg (fun t => List.lookup 155 t) gt151).trans rfl
theorem t151_158 : zT 151 158 = some (.ireturn, 1, 0, 0, 0, 0) := (congrArg (fun t => List.lookup 158 t) gt151).trans rfl
theorem t151_159 : zT 151 159 = some (.aload_n 0, 1, 0, 0, 0, 0) := (congrArg (fun t => List.lookup 159 t) gt151).trans rfl
theorem t151_160 : zT 151 160 = some (.getfield 12, 3, 11, 0, 0, 598) := (congrArg (fun t => List.lookup 160 t) gt151).trans rfl
theorem t151_163 : zT 151 163 = some (.invokevirtual 164, 3, 100, 0, 0, 1046) := (congrArg (fun t => List.lookup 163 t) gt151).trans rfl
theorem t151_166 : zT 151 166 = some (.ireturn, 1, 0, 0, 0, 0) := (congrArg (fun t => List.lookup 166 t) gt151).trans rfl
theorem t151_167 : zT 151 167 = some (.aload_n 0, 1, 0, 0, 0, 0) := (congrArg (fun t => List.lookup 167 t) gt151).trans rfl
theorem t151_168 : zT 151 168 = some (.getfield 12, 3, 11, 0, 0, 598) := (congrArg (fun t => List.lookup 168 t) gt151).trans rfl
theorem t151_171 : zT 151 171 = some (.invokevirtual 170, 3, 92, 0, 0, 1010) := (congrArg (fun t => List.lookup 171 t) gt151).trans rfl
theorem t151_174 : zT 151 174 = some (.aload_n 0, 1, 0, 0, 0, 0) := (congrArg (fun t => List.lookup 174 t) gt151).trans rfl
theorem t151_175 : zT 151 175 = some (.getfield 50, 3, 11, 6, 0, 604) := (congrArg (fun t => List.lookup 175 t) gt151).trans rfl
theorem t151_178 : zT 151 178 = some (.aload_n 0, 1, 0, 0, 0, 0) := (congrArg (fun t => List.lookup 178 t) gt151).trans rfl
theorem t151_179 : zT 151 179 = some (.getfield 12, 3, 11, 0, 0, 598) := (congrArg (fun t => List.lookup 179 t) gt151).trans rfl
theorem t151_182 : zT 151 182 = some (.invokevirtual 212, 3, 105, 0, 0, 1068) := (congrArg (fun t => List.lookup 182 t) gt151).trans rfl
theorem t151_185 : zT 151 185 = some (.invokevirtual 353, 3, 167, 0, 0, 1343) := (congrArg (fun t => List.lookup 185 t) gt151).trans rfl
theorem t151_188 : zT 151 188 = some (.isub, 1, 0, 0, 0, 0) := (congrArg (fun t => List.lookup 188 t) gt151).trans rfl
theorem t151_189 : zT 151 189 = some (.ireturn, 1, 0, 0, 0, 0) := (congrArg (fun t => List.lookup 189 t) gt151).trans rfl
theorem t151_190 : zT 151 190 = some (.aload_n 0, 1, 0, 0, 0, 0) := (congrArg (fun t => List.lookup 190 t) gt151).trans rfl
theorem t151_191 : zT 151 191 = some (.getfield 50, 3, 11, 6, 0, 604) := (congrArg (fun t => List.lookup 191 t) gt151).trans rfl
theorem t151_194 : zT 151 194 = some (.aload_n 0, 1, 0, 0, 0, 0) := (congrArg (fun t => List.lookup 194 t) gt151).trans rfl
theorem t151_195 : zT 151 195 = some (.getfield 12, 3, 11, 0, 0, 598) := (congrArg (fun t => List.lookup 195 t) gt151).trans rfl
theorem t151_198 : zT 151 198 = some (.invokevirtual 212, 3, 105, 0, 0, 1068) := (congrArg (fun t => List.lookup 198 t) gt151).trans rfl
theorem t151_201 : zT 151 201 = some (.invokevirtual 356, 3, 168, 0, 0, 1347) := (congrArg (fun t => List.lookup 201 t) gt151).trans rfl
theorem t151_204 : zT 151 204 = some (.ireturn, 1, 0, 0, 0, 0) := (congrArg (fun t => List.lookup 204 t) gt151).trans rfl
theorem t151_205 : zT 151 205 = some (.iconst (-1), 1, 0, 0, (-1), 0) := (congrArg (fun t => List.lookup 205 t) gt151).trans rfl
theorem t151_206 : zT 151 206 = some (.ireturn, 1, 0, 0, 0, 0) := (congrArg (fun t => List.lookup 206 t) gt151).trans rfl
theorem t152_0 : zT 152 0 = some (.aload_n 0, 1, 0, 0, 0, 0) := (congrArg (fun t => List.lookup 0 t) gt152).trans rfl
theorem t152_1 : zT 152 1 = some (.getfield 45, 3, 4, 9, 0, 501) := (congrArg (fun t => List.lookup 1 t) gt152).trans rfl
theorem t152_4 : zT 152 4 = some (.ireturn, 1, 0, 0, 0, 0) := (congrArg (fun t => List.lookup 4 t) gt152).trans rfl
theorem t153_0 : zT 153 0 = some (.aload_n 0, 1, 0, 0, 0, 0) := (congrArg (fun t => List.lookup 0 t) gt153).trans rfl
theorem t153_1 : zT 153 1 = some (.getfield 9, 3, 1, 0, 0, 544) := (congrArg (fun t => List.lookup 1 t) gt153).trans rfl
theorem t153_4 : zT 153 4 = some (.ifCond .ne 14, 3, 18, 0, 0, 0) := (congrArg (fun t => List.lookup 4 t) gt153).trans rfl
theorem t153_7 : zT 153 7 = some (.aload_n 0, 1, 0, 0, 0, 0) := (congrArg (fun t => List.lookup 7 t) gt153).trans rfl
theorem t153_8 : zT 153 8 = some (.aload_n 1, 1, 1, 0, 0, 0) := (congrArg (fun t => List.lookup 8 t) gt153).trans rfl
theorem t153_9 : zT 153 9 = some (.aload_n 2, 1, 2, 0, 0, 0) := (congrArg (fun t => List.lookup 9 t) gt153).trans rfl
theorem t153_10 : zT 153 10 = some (.invokevirtual 38, 3, 154, 0, 0, 1281) := (congrArg (fun t => List.lookup 10 t) gt153).trans rfl
theorem t153_13 : zT 153 13 = some (.aload_n 0, 1, 0, 0, 0, 0) := (congrArg (fun t => List.lookup 13 t) gt153).trans rfl
theorem t153_14 : zT 153 14 = some (.iconst 1, 1, 0, 0, 1, 0) := (congrArg (fun t => List.lookup 14 t) gt153).trans rfl
theorem t153_15 : zT 153 15 = some (.putfield 9, 3, 1, 0, 0, 544) := (congrArg (fun t => List.lookup 15 t) gt153).trans rfl
theorem t153_18 : zT 153 18 = some (.aload_n 0, 1, 0, 0, 0, 0) := (congrArg (fun t => List.lookup 18 t) gt153).trans rfl
theorem t153_19 : zT 153 19 = some (.areturn, 1, 0, 0, 0, 0) := (congrArg (fun t => List.lookup 19 t) gt153).trans rfl
theorem t154_0 : zT 154 0 = some (.aload_n 0, 1, 0, 0, 0, 0) := (congrArg (fun t => List.lookup 0 t) gt154).trans rfl
theorem t154_1 : zT 154 1 = some (.iconst 0, 1, 0, 0, 0, 0) := (congrArg (fun t => List.lookup 1 t) gt154).trans rfl
theorem t154_2 : zT 154 2 = some (.putfield 15, 3, 1, 1, 0, 545) := (congrArg (fun t => List.lookup 2 t) gt154).trans rfl
theorem t154_5 : zT 154 5 = some (.iconst 0, 1, 0, 0, 0, 0) := (congrArg (fun t => List.lookup 5 t) gt154).trans rfl
theorem t154_6 : zT 154 6 = some (.istore_n 3, 1, 3, 0, 0, 0) := (congrArg (fun t => List.lookup 6 t) gt154).trans rfl
theorem t154_7 : zT 154 7 = some (.iload_n 3, 1, 3, 0, 0, 0) := (congrArg (fun t => List.lookup 7 t) gt154).trans rfl
theorem t154_8 : zT 154 8 = some (.bipush 8, 2, 0, 0, 8, 0) := (congrArg (fun t => List.lookup 8 t) gt154).trans rfl
theorem t154_10 : zT 154 10 = some (.if_icmp .gt 16, 3, 26, 0, 0, 0) := (congrArg (fun t => List.lookup 10 t) gt154).trans rfl
theorem t154_13 : zT 154 13 = some (.aload_n 0, 1, 0, 0, 0, 0) := (congrArg (fun t => List.lookup 13 t) gt154).trans rfl
theorem t154_14 : zT 154 14 = some (.getfield 19, 3, 1, 2, 0, 546) := (congrArg (fun t => List.lookup 14 t) gt154).trans rfl
theorem t154_17 : zT 154 17 = some (.iload_n 3, 1, 3, 0, 0, 0) := (congrArg (fun t => List.lookup 17 t) gt154).trans rfl
theorem t154_18 : zT 154 18 = some (.iconst 0, 1, 0, 0, 0, 0) := (congrArg (fun t => List.lookup 18 t) gt154).trans rfl
theorem t154_19 : zT 154 19 = some (.iastore, 1, 0, 0, 0, 0) := (congrArg (fun t => List.lookup 19 t) gt154).trans rfl
theorem t154_20 : zT 154 20 = some (.iinc 3 1, 3, 0, 0, 0, 0) := (congrArg (fun t => List.lookup 20 t) gt154).trans rfl
theorem t154_23 : zT 154 23 = some (.goto (-16), 3, 7, 0, 0, 0) := (congrArg (fun t => List.lookup 23 t) gt154).trans rfl
theorem t154_26 : zT 154 26 = some (.aload_n 1, 1, 1, 0, 0, 0) := (congrArg (fun t => List.lookup 26 t) gt154).trans rfl
theorem t154_27 : zT 154 27 = some (.iconst 3, 1, 0, 0, 3, 0) := (congrArg (fun t => List.lookup 27 t) gt154).trans rfl
theorem t154_28 : zT 154 28 = some (.invokevirtual 42, 3, 96, 0, 0, 1285) := (congrArg (fun t => List.lookup 28 t) gt154).trans rfl
theorem t154_31 : zT 154 31 = some (.istore_n 3, 1, 3, 0, 0, 0) := (congrArg (fun t => List.lookup 31 t) gt154).trans rfl
theorem t154_32 : zT 154 32 = some (.aload_n 2, 1, 2, 0, 0, 0) := (congrArg (fun t => List.lookup 32 t) gt154).trans rfl
theorem t154_33 : zT 154 33 = some (.invokevirtual 48, 3, 155, 0, 0, 1286) := (congrArg (fun t => List.lookup 33 t) gt154).trans rfl
theorem t154_36 : zT 154 36 = some (.astore 4, 2, 0, 0, 0, 0) := (congrArg (fun t => List.lookup 36 t) gt154).trans rfl
theorem t154_38 : zT 154 38 = some (.aload 4, 2, 0, 0, 0, 0) := (congrArg (fun t => List.lookup 38 t) gt154).trans rfl
theorem t154_40 : zT 154 40 = some (.aload_n 1, 1, 1, 0, 0, 0) := (congrArg (fun t => List.lookup 40 t) gt154).trans rfl
theorem t154_41 : zT 154 41 = some (.iconst (-1), 1, 0, 0, (-1), 0) := (congrArg (fun t => List.lookup 41 t) gt154).trans rfl
theorem t154_42 : zT 154 42 = some (.invokevirtual 54, 3, 107, 0, 0, 1294) := (congrArg (fun t => List.lookup 42 t) gt154).trans rfl
theorem t154_45 : zT 154 45 = some (.aload 4, 2, 0, 0, 0, 0) := (congrArg (fun t => List.lookup 45 t) gt154).trans rfl
theorem t154_47 : zT 154 47 = some (.invokevirtual 60, 3, 112, 0, 0, 1295) := (congrArg (fun t => List.lookup 47 t) gt154).trans rfl
theorem t154_50 : zT 154 50 = some (.iload_n 3, 1, 3, 0, 0, 0) := (congrArg (fun t => List.lookup 50 t) gt154).trans rfl
theorem t154_51 : zT 154 51 = some (.if_icmp .ge 4, 3, 55, 0, 0, 0) := (congrArg (fun t => List.lookup 51 t) gt154).trans rfl
theorem t154_54 : zT 154 54 = some (.return_, 1, 0, 0, 0, 0) := (congrArg (fun t => List.lookup 54 t) gt154).trans rfl
theorem t154_55 : zT 154 55 = some (.iconst 0, 1, 0, 0, 0, 0) := (congrArg (fun t => List.lookup 55 t) gt154).trans rfl
theorem t154_56 : zT 154 56 = some (.istore 5, 2, 0, 0, 0, 0) := (congrArg (fun t => List.lookup 56 t) gt154).trans rfl
theorem t154_58 : zT 154 58 = some (.iload 5, 2, 0, 0, 0, 0) := (congrArg (fun t => List.lookup 58 t) gt154).trans rfl
theorem t154_60 : zT 154 60 = some (.aload 4, 2, 0, 0, 0, 0) := (congrArg (fun t => List.lookup 60 t) gt154).trans rfl
theorem t154_62 : zT 154 62 = some (.invokevirtual 64, 3, 110, 0, 0, 1296) := (congrArg (fun t => List.lookup 62 t) gt154).trans rfl
theorem t154_65 : zT 154 65 = some (.if_icmp .ge 35, 3, 100, 0, 0, 0) := (congrArg (fun t => List.lookup 65 t) gt154).trans rfl
theorem t154_68 : zT 154 68 = some (.aload 4, 2, 0, 0, 0, 0) := (congrArg (fun t => List.lookup 68 t) gt154).trans rfl
theorem t154_70 : zT 154 70 = some (.iload 5, 2, 0, 0, 0, 0) := (congrArg (fun t => List.lookup 70 t) gt154).trans rfl
theorem t154_72 : zT 154 72 = some (.invokevirtual 67, 3, 114, 0, 0, 1297) := (congrArg (fun t => List.lookup 72 t) gt154).trans rfl
theorem t154_75 : zT 154 75 = some (.aload 4, 2, 0, 0, 0, 0) := (congrArg (fun t => List.lookup 75 t) gt154).trans rfl
theorem t154_77 : zT 154 77 = some (.invokevirtual 71, 3, 118, 0, 0, 1298) := (congrArg (fun t => List.lookup 77 t) gt154).trans rfl
theorem t154_80 : zT 154 80 = some (.iload_n 3, 1, 3, 0, 0, 0) := (congrArg (fun t => List.lookup 80 t) gt154).trans rfl
theorem t154_81 : zT 154 81 = some (.if_icmp .lt 13, 3, 94, 0, 0, 0) := (congrArg (fun t => List.lookup 81 t) gt154).trans rfl
theorem t154_84 : zT 154 84 = some (.aload_n 0, 1, 0, 0, 0, 0) := (congrArg (fun t => List.lookup 84 t) gt154).trans rfl
theorem t154_85 : zT 154 85 = some (.aload 4, 2, 0, 0, 0, 0) := (congrArg (fun t => List.lookup 85 t) gt154).trans rfl
theorem t154_87 : zT 154 87 = some (.iload 5, 2, 0, 0, 0, 0) := (congrArg (fun t => List.lookup 87 t) gt154).trans rfl
theorem t154_89 : zT 154 89 = some (.iload_n 3, 1, 3, 0, 0, 0) := (congrArg (fun t => List.lookup 89 t) gt154).trans rfl
theorem t154_90 : zT 154 90 = some (.aload_n 2, 1, 2, 0, 0, 0) := (congrArg (fun t => List.lookup 90 t) gt154).trans rfl
theorem t154_91 : zT 154 91 = some (.invokevirtual 74, 3, 157, 0, 0, 1299) := (congrArg (fun t => List.lookup 91 t) gt154).trans rfl
theorem t154_94 : zT 154 94 = some (.iinc 5 1, 3, 0, 0, 0, 0) := (congrArg (fun t => List.lookup 94 t) gt154).trans rfl
theorem t154_97 : zT 154 97 = some (.goto (-39), 3, 58, 0, 0, 0) := (congrArg (fun t => List.lookup 97 t) gt154).trans rfl
theorem t154_100 : zT 154 100 = some (.return_, 1, 0, 0, 0, 0) := (congrArg (fun t => List.lookup 100 t) gt154).trans rfl
theorem t155_0 : zT 155 0 = some (.aload_n 0, 1, 0, 0, 0, 0) := (congrArg (fun t => List.lookup 0 t) gt155).trans rfl
theorem t155_1 : zT 155 1 = some (.getfield 18, 3, 4, 1, 0, 493) := (congrArg (fun t => List.lookup 1 t) gt155).trans rfl
theorem t155_4 : zT 155 4 = some (.invokevirtual 142, 3, 156, 0, 0, 1290) := (congrArg (fun t => List.lookup 4 t) gt155).trans rfl
theorem t155_7 : zT 155 7 = some (.areturn, 1, 0, 0, 0, 0) := (congrArg (fun t => List.lookup 7 t) gt155).trans rfl
theorem t156_0 : zT 156 0 = some (.aload_n 0, 1, 0, 0, 0, 0) := (congrArg (fun t => List.lookup 0 t) gt156).trans rfl
theorem t156_1 : zT 156 1 = some (.getfield 12, 3, 0, 0, 0, 473) := (congrArg (fun t => List.lookup 1 t) gt156).trans rfl
theorem t156_4 : zT 156 4 = some (.areturn, 1, 0, 0, 0, 0) := (congrArg (fun t => List.lookup 4 t) gt156).trans rfl
theorem t157_0 : zT 157 0 = some (.aload_n 1, 1, 1, 0, 0, 0) := (congrArg (fun t => List.lookup 0 t) gt157).trans rfl
theorem t157_1 : zT 157 1 = some (.iload_n 2, 1, 2, 0, 0, 0) := (congrArg (fun t => List.lookup 1 t) gt157).trans rfl
theorem t157_2 : zT 157 2 = some (.invokevirtual 78, 3, 115, 0, 0, 1303) := (congrArg (fun t => List.lookup 2 t) gt157).trans rfl
theorem t157_5 : zT 157 5 = some (.istore 5, 2, 0, 0, 0, 0) := (congrArg (fun t => List.lookup 5 t) gt157).trans rfl
theorem t157_7 : zT 157 7 = some (.aload_n 1, 1, 1, 0, 0, 0) := (congrArg (fun t => List.lookup 7 t) gt157).trans rfl
theorem t157_8 : zT 157 8 = some (.iload_n 2, 1, 2, 0, 0, 0) := (congrArg (fun t => List.lookup 8 t) gt157).trans rfl
theorem t157_9 : zT 157 9 = some (.invokevirtual 81, 3, 116, 0, 0, 1304) := (congrArg (fun t => List.lookup 9 t) gt157).trans rfl
theorem t157_12 : zT 157 12 = some (.istore 6, 2, 0, 0, 0, 0) := (congrArg (fun t => List.lookup 12 t) gt157).trans rfl
theorem t157_14 : zT 157 14 = some (.aload_n 0, 1, 0, 0, 0, 0) := (congrArg (fun t => List.lookup 14 t) gt157).trans rfl
theorem t157_15 : zT 157 15 = some (.aload_n 1, 1, 1, 0, 0, 0) := (congrArg (fun t => List.lookup 15 t) gt157).trans rfl
theorem t157_16 : zT 157 16 = some (.iload_n 3, 1, 3, 0, 0, 0) := (congrArg (fun t => List.lookup 16 t) gt157).trans rfl
theorem t157_17 : zT 157 17 = some (.invokevirtual 84, 3, 158, 0, 0, 1305) := (congrArg (fun t => List.lookup 17 t) gt157).trans rfl
theorem t157_20 : zT 157 20 = some (.istore 7, 2, 0, 0, 0, 0) := (congrArg (fun t => List.lookup 20 t) gt157).trans rfl
theorem t157_22 : zT 157 22 = some (.iconst 0, 1, 0, 0, 0, 0) := (congrArg (fun t => List.lookup 22 t) gt157).trans rfl
theorem t157_23 : zT 157 23 = some (.istore 8, 2, 0, 0, 0, 0) := (congrArg (fun t => List.lookup 23 t) gt157).trans rfl
theorem t157_25 : zT 157 25 = some (.iload 8, 2, 0, 0, 0, 0) := (congrArg (fun t => List.lookup 25 t) gt157).trans rfl
theorem t157_27 : zT 157 27 = some (.iload 7, 2, 0, 0, 0, 0) := (congrArg (fun t => List.lookup 27 t) gt157).trans rfl
theorem t157_29 : zT 157 29 = some (.if_icmp .ge 60, 3, 89, 0, 0, 0) := (congrArg (fun t => List.lookup 29 t) gt157).trans rfl
theorem t157_32 : zT 157 32 = some (.aload 4, 2, 0, 0, 0, 0) := (congrArg (fun t => List.lookup 32 t) gt157).trans rfl
theorem t157_34 : zT 157 34 = some (.iload 5, 2, 0, 0, 0, 0) := (congrArg (fun t => List.lookup 34 t) gt157).trans rfl
theorem t157_36 : zT 157 36 = some (.iload 6, 2, 0, 0, 0, 0) := (congrArg (fun t => List.lookup 36 t) gt157).trans rfl
theorem t157_38 : zT 157 38 = some (.aload_n 0, 1, 0, 0, 0, 0) := (congrArg (fun t => List.lookup 38 t) gt157).trans rfl
theorem t157_39 : zT 157 39 = some (.getfield 32, 3, 1, 6, 0, 550) := (congrArg (fun t => List.lookup 39 t) gt157).trans rfl
theorem t157_42 : zT 157 42 = some (.iload 8, 2, 0, 0, 0, 0) := (congrArg (fun t => List.lookup 42 t) gt157).trans rfl
theorem t157_44 : zT 157 44 = some (.iaload, 1, 0, 0, 0, 0) := (congrArg (fun t => List.lookup 44 t) gt157).trans rfl
theorem t157_45 : zT 157 45 = some (.invokestatic 88, 3, 162, 1, 0, 1321) := (congrArg (fun t => List.lookup 45 t) gt157).trans rfl
theorem t157_48 : zT 157 48 = some (.ifCond .ne 35, 3, 83, 0, 0, 0) := (congrArg (fun t => List.lookup 48 t) gt157).trans rfl
theorem t157_51 : zT 157 51 = some (.aload_n 0, 1, 0, 0, 0, 0) := (congrArg (fun t => List.lookup 51 t) gt157).trans rfl
theorem t157_52 : zT 157 52 = some (.dup, 1, 0, 0, 0, 0) := (congrArg (fun t => List.lookup 52 t) gt157).trans rfl
theorem t157_53 : zT 157 53 = some (.getfield 15, 3, 1, 1, 0, 545) := (congrArg (fun t => List.lookup 53 t) gt157).trans rfl
theorem t157_56 : zT 157 56 = some (.iconst 1, 1, 0, 0, 1, 0) := (congrArg (fun t => List.lookup 56 t) gt157).trans rfl
theorem t157_57 : zT 157 57 = some (.iadd, 1, 0, 0, 0, 0) := (congrArg (fun t => List.lookup 57 t) gt157).trans rfl
theorem t157_58 : zT 157 58 = some (.putfield 15, 3, 1, 1, 0, 545) := (congrArg (fun t => List.lookup 58 t) gt157).trans rfl
theorem t157_61 : zT 157 61 = some (.aload_n 0, 1, 0, 0, 0, 0) := (congrArg (fun t => List.lookup 61 t) gt157).trans rfl
theorem t157_62 : zT 157 62 = some (.aload_n 0, 1, 0, 0, 0, 0) := (congrArg (fun t => List.lookup 62 t) gt157).trans rfl
theorem t157_63 : zT 157 63 = some (.getfield 35, 3, 1, 7, 0, 551) := (congrArg (fun t => List.lookup 63 t) gt157).trans rfl
theorem t157_66 : zT 157 66 = some (.iload 8, 2, 0, 0, 0, 0) := (congrArg (fun t => List.lookup 66 t) gt157).trans rfl
theorem t157_68 : zT 157 68 = some (.iaload, 1, 0, 0, 0, 0) := (congrArg (fun t => List.lookup 68 t) gt157).trans rfl
theorem t157_69 : zT 157 69 = some (.iload 5, 2, 0, 0, 0, 0) := (congrArg (fun t => List.lookup 69 t) gt157).trans rfl
theorem t157_71 : zT 157 71 = some (.iload 6, 2, 0, 0, 0, 0) := (congrArg (fun t => List.lookup 71 t) gt157).trans rfl
theorem t157_73 : zT 157 73 = some (.aload_n 0, 1, 0, 0, 0, 0) := (congrArg (fun t => List.lookup 73 t) gt157).trans rfl
theorem t157_74 : zT 157 74 = some (.getfield 32, 3, 1, 6, 0, 550) := (congrArg (fun t => List.lookup 74 t) gt157).trans rfl
theorem t157_77 : zT 157 77 = some (.iload 8, 2, 0, 0, 0, 0) := (congrArg (fun t => List.lookup 77 t) gt157).trans rfl
theorem t157_79 : zT 157 79 = some (.iaload, 1, 0, 0, 0, 0) := (congrArg (fun t => List.lookup 79 t) gt157).trans rfl
theorem t157_80 : zT 157 80 = some (.invokevirtual 92, 3, 164, 0, 0, 1329) := (congrArg (fun t => List.lookup 80 t) gt157).trans rfl
theorem t157_83 : zT 157 83 = some (.iinc 8 1, 3, 0, 0, 0, 0) := (congrArg (fun t => List.lookup 83 t) gt157).trans rfl
theorem t157_86 : zT 157 86 = some (.goto (-61), 3, 25, 0, 0, 0) := (congrArg (fun t => List.lookup 86 t) gt157).trans rfl
theorem t157_89 : zT 157 89 = some (.return_, 1, 0, 0, 0, 0) := (congrArg (fun t => List.lookup 89 t) gt157).trans rfl
theorem t158_0 : zT 158 0 = some (.iconst 0, 1, 0, 0, 0, 0) := (congrArg (fun t => List.lookup 0 t) gt158).trans rfl
theorem t158_1 : zT 158 1 = some (.istore_n 3, 1, 3, 0, 0, 0) := (congrArg (fun t => List.lookup 1 t) gt158).trans rfl
theorem t158_2 : zT 158 2 = some (.iconst 0, 1, 0, 0, 0, 0) := (congrArg (fun t => List.lookup 2 t) gt158).trans rfl
theorem t158_3 : zT 158 3 = some (.istore 4, 2, 0, 0, 0, 0) := (congrArg (fun t => List.lookup 3 t) gt158).trans rfl
theorem t158_5 : zT 158 5 = some (.iload 4, 2, 0, 0, 0, 0) := (congrArg (fun t => List.lookup 5 t) gt158).trans rfl
theorem t158_7 : zT 158 7 = some (.aload_n 1, 1, 1, 0, 0, 0) := (congrArg (fun t => List.lookup 7 t) gt158).trans rfl
theorem t158_8 : zT 158 8 = some (.invokevirtual 96, 3, 159, 0, 0, 1309) := (congrArg (fun t => List.lookup 8 t) gt158).trans rfl
theorem t158_11 : zT 158 11 = some (.if_icmp .ge 121, 3, 132, 0, 0, 0) := (congrArg (fun t => List.lookup 11 t) gt158).trans rfl
theorem t158_14 : zT 158 14 = some (.iload_n 3, 1, 3, 0, 0, 0) := (congrArg (fun t => List.lookup 14 t) gt158).trans rfl
theorem t158_15 : zT 158 15 = some (.bipush 60, 2, 0, 0, 60, 0) := (congrArg (fun t => List.lookup 15 t) gt158).trans rfl
theorem t158_17 : zT 158 17 = some (.if_icmp .ge 115, 3, 132, 0, 0, 0) := (congrArg (fun t => List.lookup 17 t) gt158).trans rfl
theorem t158_20 : zT 158 20 = some (.aload_n 1, 1, 1, 0, 0, 0) := (congrArg (fun t => List.lookup 20 t) gt158).trans rfl
theorem t158_21 : zT 158 21 = some (.iload 4, 2, 0, 0, 0, 0) := (congrArg (fun t => List.lookup 21 t) gt158).trans rfl
theorem t158_23 : zT 158 23 = some (.invokevirtual 98, 3, 160, 0, 0, 1313) := (congrArg (fun t => List.lookup 23 t) gt158).trans rfl
theorem t158_26 : zT 158 26 = some (.istore 5, 2, 0, 0, 0, 0) := (congrArg (fun t => List.lookup 26 t) gt158).trans rfl
theorem t158_28 : zT 158 28 = some (.iload 5, 2, 0, 0, 0, 0) := (congrArg (fun t => List.lookup 28 t) gt158).trans rfl
theorem t158_30 : zT 158 30 = some (.iload_n 2, 1, 2, 0, 0, 0) := (congrArg (fun t => List.lookup 30 t) gt158).trans rfl
theorem t158_31 : zT 158 31 = some (.if_icmp .ge 6, 3, 37, 0, 0, 0) := (congrArg (fun t => List.lookup 31 t) gt158).trans rfl
theorem t158_34 : zT 158 34 = some (.goto 92, 3, 126, 0, 0, 0) := (congrArg (fun t => List.lookup 34 t) gt158).trans rfl
theorem t158_37 : zT 158 37 = some (.aload_n 1, 1, 1, 0, 0, 0) := (congrArg (fun t => List.lookup 37 t) gt158).trans rfl
theorem t158_38 : zT 158 38 = some (.iload 4, 2, 0, 0, 0, 0) := (congrArg (fun t => List.lookup 38 t) gt158).trans rfl
theorem t158_40 : zT 158 40 = some (.invokevirtual 101, 3, 161, 0, 0, 1317) := (congrArg (fun t => List.lookup 40 t) gt158).trans rfl
theorem t158_43 : zT 158 43 = some (.istore 6, 2, 0, 0, 0, 0) := (congrArg (fun t => List.lookup 43 t) gt158).trans rfl
theorem t158_45 : zT 158 45 = some (.iload_n 3, 1, 3, 0, 0, 0) := (congrArg (fun t => List.lookup 45 t) gt158).trans rfl
theorem t158_46 : zT 158 46 = some (.istore 7, 2, 0, 0, 0, 0) := (congrArg (fun t => List.lookup 46 t) gt158).trans rfl
theorem t158_48 : zT 158 48 = some (.iload 7, 2, 0, 0, 0, 0) := (congrArg (fun t => List.lookup 48 t) gt158).trans rfl
theorem t158_50 : zT 158 50 = some (.ifCond .le 55, 3, 105, 0, 0, 0) := (congrArg (fun t => List.lookup 50 t) gt158).trans rfl
theorem t158_53 : zT 158 53 = some (.aload_n 0, 1, 0, 0, 0, 0) := (congrArg (fun t => List.lookup 53 t) gt158).trans rfl
theorem t158_54 : zT 158 54 = some (.getfield 32, 3, 1, 6, 0, 550) := (congrArg (fun t => List.lookup 54 t) gt158).trans rfl
theorem t158_57 : zT 158 57 = some (.iload 7, 2, 0, 0, 0, 0) := (congrArg (fun t => List.lookup 57 t) gt158).trans rfl
theorem t158_59 : zT 158 59 = some (.iconst 1, 1, 0, 0, 1, 0) := (congrArg (fun t => List.lookup 59 t) gt158).trans rfl
theorem t158_60 : zT 158 60 = some (.isub, 1, 0, 0, 0, 0) := (congrArg (fun t => List.lookup 60 t) gt158).trans rfl
theorem t158_61 : zT 158 61 = some (.iaload, 1, 0, 0, 0, 0) := (congrArg (fun t => List.lookup 61 t) gt158).trans rfl
theorem t158_62 : zT 158 62 = some (.iload 6, 2, 0, 0, 0, 0) := (congrArg (fun t => List.lookup 62 t) gt158).trans rfl
theorem t158_64 : zT 158 64 = some (.if_icmp .le 41, 3, 105, 0, 0, 0) := (congrArg (fun t => List.lookup 64 t) gt158).trans rfl
theorem t158_67 : zT 158 67 = some (.aload_n 0, 1, 0, 0, 0, 0) := (congrArg (fun t => List.lookup 67 t) gt158).trans rfl
theorem t158_68 : zT 158 68 = some (.getfield 32, 3, 1, 6, 0, 550) := (congrArg (fun t => List.lookup 68 t) gt158).trans rfl
theorem t158_71 : zT 158 71 = some (.iload 7, 2, 0, 0, 0, 0) := (congrArg (fun t => List.lookup 71 t) gt158).trans rfl
theorem t158_73 : zT 158 73 = some (.aload_n 0, 1, 0, 0, 0, 0) := (congrArg (fun t => List.lookup 73 t) gt158).trans rfl
theorem t158_74 : zT 158 74 = some (.getfield 32, 3, 1, 6, 0, 550) := (congrArg (fun t => List.lookup 74 t) gt158).trans rfl
theorem t158_77 : zT 158 77 = some (.iload 7, 2, 0, 0, 0, 0) := (congrArg (fun t => List.lookup 77 t) gt158).trans rfl
theorem t158_79 : zT 158 79 = some (.iconst 1, 1, 0, 0, 1, 0) := (congrArg (fun t => List.lookup 79 t) gt158).trans rfl
theorem t158_80 : zT 158 80 = some (.isub, 1, 0, 0, 0, 0) := (congrArg (fun t => List.lookup 80 t) gt158).trans rfl
theorem t158_81 : zT 158 81 = some (.iaload, 1, 0, 0, 0, 0) := (congrArg (fun t => List.lookup 81 t) gt158).trans rfl
theorem t158_82 : zT 158 82 = some (.iastore, 1, 0, 0, 0, 0) := (congrArg (fun t => List.lookup 82 t) gt158).trans rfl
theorem t158_83 : zT 158 83 = some (.aload_n 0, 1, 0, 0, 0, 0) := (congrArg (fun t => List.lookup 83 t) gt158).trans rfl
theorem t158_84 : zT 158 84 = some (.getfield 35, 3, 1, 7, 0, 551) := (congrArg (fun t => List.lookup 84 t) gt158).trans rfl
theorem t158_87 : zT 158 87 = some (.iload 7, 2, 0, 0, 0, 0) := (congrArg (fun t => List.lookup 87 t) gt158).trans rfl
theorem t158_89 : zT 158 89 = some (.aload_n 0, 1, 0, 0, 0, 0) := (congrArg (fun t => List.lookup 89 t) gt158).trans rfl
theorem t158_90 : zT 158 90 = some (.getfield 35, 3, 1, 7, 0, 551) := (congrArg (fun t => List.lookup 90 t) gt158).trans rfl
theorem t158_93 : zT 158 93 = some (.iload 7, 2, 0, 0, 0, 0) := (congrArg (fun t => List.lookup 93 t) gt158).trans rfl
theorem t158_95 : zT 158 95 = some (.iconst 1, 1, 0, 0, 1, 0) := (congrArg (fun t => List.lookup 95 t) gt158).trans rfl
theorem t158_96 : zT 158 96 = some (.isub, 1, 0, 0, 0, 0) := (congrArg (fun t => List.lookup 96 t) gt158).trans rfl
theorem t158_97 : zT 158 97 = some (.iaload, 1, 0, 0, 0, 0) := (congrArg (fun t => List.lookup 97 t) gt158).trans rfl
theorem t158_98 : zT 158 98 = some (.iastore, 1, 0, 0, 0, 0) := (congrArg (fun t => List.lookup 98 t) gt158).trans rfl
theorem t158_99 : zT 158 99 = some (.iinc 7 (-1), 3, 0, 0, 0, 0) := (congrArg (fun t => List.lookup 99 t) gt158).trans rfl
theorem t158_102 : zT 158 102 = some (.goto (-54), 3, 48, 0, 0, 0) := (congrArg (fun t => List.lookup 102 t) gt158).trans rfl
theorem t158_105 : zT 158 105 = some (.aload_n 0, 1, 0, 0, 0, 0) := (congrArg (fun t => List.lookup 105 t) gt158).trans rfl
theorem t158_106 : zT 158 106 = some (.getfield 32, 3, 1, 6, 0, 550) := (congrArg (fun t => List.lookup 106 t) gt158).trans rfl
theorem t158_109 : zT 158 109 = some (.iload 7, 2, 0, 0, 0, 0) := (congrArg (fun t => List.lookup 109 t) gt158).trans rfl
theorem t158_111 : zT 158 111 = some (.iload 6, 2, 0, 0, 0, 0) := (congrArg (fun t => List.lookup 111 t) gt158).trans rfl
theorem t158_113 : zT 158 113 = some (.iastore, 1, 0, 0, 0, 0) := (congrArg (fun t => List.lookup 113 t) gt158).trans rfl
theorem t158_114 : zT 158 114 = some (.aload_n 0, 1, 0, 0, 0, 0) := (congrArg (fun t => List.lookup 114 t) gt158).trans rfl
theorem t158_115 : zT 158 115 = some (.getfield 35, 3, 1, 7, 0, 551) := (congrArg (fun t => List.lookup 115 t) gt158).trans rfl
theorem t158_118 : zT 158 118 = some (.iload 7, 2, 0, 0, 0, 0) := (congrArg (fun t => List.lookup 118 t) gt158).trans rfl
theorem t158_120 : zT 158 120 = some (.iload 5, 2, 0, 0, 0, 0) := (congrArg (fun t => List.lookup 120 t) gt158).trans rfl
theorem t158_122 : zT 158 122 = some (.iastore, 1, 0, 0, 0, 0) := (congrArg (fun t => List.lookup 122 t) gt158).trans rfl
theorem t158_123 : zT 158 123 = some (.iinc 3 1, 3, 0, 0, 0, 0) := (congrArg (fun t => List.lookup 123 t) gt158).trans rfl
theorem t158_126 : zT 158 126 = some (.iinc 4 1, 3, 0, 0, 0, 0) := (congrArg (fun t => List.lookup 126 t) gt158).trans rfl
theorem t158_129 : zT 158 129 = some (.goto (-124), 3, 5, 0, 0, 0) := (congrArg (fun t => List.lookup 129 t) gt158).trans rfl
theorem t158_132 : zT 158 132 = some (.iload_n 3, 1, 3, 0, 0, 0) := (congrArg (fun t => List.lookup 132 t) gt158).trans (by decide +kernel)
theorem t158_133 : zT 158 133 = some (.ireturn, 1, 0, 0, 0, 0) := (congrArg (fun t => List.lookup 133 t) gt158).trans (by decide +kernel)
theorem t159_0 : zT 159 0 = some (.aload_n 0, 1, 0, 0, 0, 0) := (congrArg (fun t => List.lookup 0 t) gt159).trans rfl
theorem t159_1 : zT 159 1 = some (.getfield 58, 3, 5, 15, 0, 364) := (congrArg (fun t => List.lookup 1 t) gt159).trans rfl
theorem t159_4 : zT 159 4 = some (.ireturn, 1, 0, 0, 0, 0) := (congrArg (fun t => List.lookup 4 t) gt159).trans rfl
theorem t160_0 : zT 160 0 = some (.iload_n 1, 1, 1, 0, 0, 0) := (congrArg (fun t => List.lookup 0 t) gt160).trans rfl
theorem t160_1 : zT 160 1 = some (.ifCond .lt 25, 3, 26, 0, 0, 0) := (congrArg (fun t => List.lookup 1 t) gt160).trans rfl
theorem t160_4 : zT 160 4 = some (.iload_n 1, 1, 1, 0, 0, 0) := (congrArg (fun t => List.lookup 4 t) gt160).trans rfl
theorem t160_5 : zT 160 5 = some (.aload_n 0, 1, 0, 0, 0, 0) := (congrArg (fun t => List.lookup 5 t) gt160).trans rfl
theorem t160_6 : zT 160 6 = some (.getfield 58, 3, 5, 15, 0, 364) := (congrArg (fun t => List.lookup 6 t) gt160).trans rfl
theorem t160_9 : zT 160 9 = some (.if_icmp .ge 17, 3, 26, 0, 0, 0) := (congrArg (fun t => List.lookup 9 t) gt160).trans rfl
theorem t160_12 : zT 160 12 = some (.aload_n 0, 1, 0, 0, 0, 0) := (congrArg (fun t => List.lookup 12 t) gt160).trans rfl
theorem t160_13 : zT 160 13 = some (.getfield 55, 3, 5, 14, 0, 363) := (congrArg (fun t => List.lookup 13 t) gt160).trans rfl
theorem t160_16 : zT 160 16 = some (.aload_n 0, 1, 0, 0, 0, 0) := (congrArg (fun t => List.lookup 16 t) gt160).trans rfl
theorem t160_17 : zT 160 17 = some (.getfield 61, 3, 5, 16, 0, 365) := (congrArg (fun t => List.lookup 17 t) gt160).trans rfl
theorem t160_20 : zT 160 20 = some (.iload_n 1, 1, 1, 0, 0, 0) := (congrArg (fun t => List.lookup 20 t) gt160).trans rfl
theorem t160_21 : zT 160 21 = some (.iaload, 1, 0, 0, 0, 0) := (congrArg (fun t => List.lookup 21 t) gt160).trans rfl
theorem t160_22 : zT 160 22 = some (.iaload, 1, 0, 0, 0, 0) := (congrArg (fun t => List.lookup 22 t) gt160).trans rfl
theorem t160_23 : zT 160 23 = some (.goto 4, 3, 27, 0, 0, 0) := (congrArg (fun t => List.lookup 23 t) gt160).trans rfl
theorem t160_26 : zT 160 26 = some (.iconst 0, 1, 0, 0, 0, 0) := (congrArg (fun t => List.lookup 26 t) gt160).trans rfl
theorem t160_27 : zT 160 27 = some (.ireturn, 1, 0, 0, 0, 0) := (congrArg (fun t => List.lookup 27 t) gt160).trans rfl
theorem t161_0 : zT 161 0 = some (.iload_n 1, 1, 1, 0, 0, 0) := (congrArg (fun t => List.lookup 0 t) gt161).trans rfl
theorem t161_1 : zT 161 1 = some (.ifCond .lt 25, 3, 26, 0, 0, 0) := (congrArg (fun t => List.lookup 1 t) gt161).trans rfl
theorem t161_4 : zT 161 4 = some (.iload_n 1, 1, 1, 0, 0, 0) := (congrArg (fun t => List.lookup 4 t) gt161).trans rfl
theorem t161_5 : zT 161 5 = some (.aload_n 0, 1, 0, 0, 0, 0) := (congrArg (fun t => List.lookup 5 t) gt161).trans rfl
theorem t161_6 : zT 161 6 = some (.getfield 58, 3, 5, 15, 0, 364) := (congrArg (fun t => List.lookup 6 t) gt161).trans rfl
theorem t161_9 : zT 161 9 = some (.if_icmp .ge 17, 3, 26, 0, 0, 0) := (congrArg (fun t => List.lookup 9 t) gt161).trans rfl
theorem t161_12 : zT 161 12 = some (.aload_n 0, 1, 0, 0, 0, 0) := (congrArg (fun t => List.lookup 12 t) gt161).trans rfl
theorem t161_13 : zT 161 13 = some (.getfield 49, 3, 5, 12, 0, 361) := (congrArg (fun t => List.lookup 13 t) gt161).trans rfl
theorem t161_16 : zT 161 16 = some (.aload_n 0, 1, 0, 0, 0, 0) := (congrArg (fun t => List.lookup 16 t) gt161).trans rfl
theorem t161_17 : zT 161 17 = some (.getfield 61, 3, 5, 16, 0, 365) := (congrArg (fun t => List.lookup 17 t) gt161).trans rfl
theorem t161_20 : zT 161 20 = some (.iload_n 1, 1, 1, 0, 0, 0) := (congrArg (fun t => List.lookup 20 t) gt161).trans rfl
theorem t161_21 : zT 161 21 = some (.iaload, 1, 0, 0, 0, 0) := (congrArg (fun t => List.lookup 21 t) gt161).trans rfl
theorem t161_22 : zT 161 22 = some (.iaload, 1, 0, 0, 0, 0) := (congrArg (fun t => List.lookup 22 t) gt161).trans rfl
theorem t161_23 : zT 161 23 = some (.goto 4, 3, 27, 0, 0, 0) := (congrArg (fun t => List.lookup 23 t) gt161).trans rfl
theorem t161_26 : zT 161 26 = some (.iconst 0, 1, 0, 0, 0, 0) := (congrArg (fun t => List.lookup 26 t) gt161).trans rfl
theorem t161_27 : zT 161 27 = some (.ireturn, 1, 0, 0, 0, 0) := (congrArg (fun t => List.lookup 27 t) gt161).trans rfl
theorem t162_0 : zT 162 0 = some (.iconst 0, 1, 0, 0, 0, 0) := (congrArg (fun t => List.lookup 0 t) gt162).trans rfl
theorem t162_1 : zT 162 1 = some (.istore 4, 2, 0, 0, 0, 0) := (congrArg (fun t => List.lookup 1 t) gt162).trans rfl
theorem t162_3 : zT 162 3 = some (.iload 4, 2, 0, 0, 0, 0) := (congrArg (fun t => List.lookup 3 t) gt162).trans rfl
theorem t162_5 : zT 162 5 = some (.aload_n 0, 1, 0, 0, 0, 0) := (congrArg (fun t => List.lookup 5 t) gt162).trans rfl
theorem t162_6 : zT 162 6 = some (.invokevirtual 104, 3, 144, 0, 0, 1324) := (congrArg (fun t => List.lookup 6 t) gt162).trans rfl
theorem t162_9 : zT 162 9 = some (.if_icmp .ge 51, 3, 60, 0, 0, 0) := (congrArg (fun t => List.lookup 9 t) gt162).trans rfl
theorem t162_12 : zT 162 12 = some (.aload_n 0, 1, 0, 0, 0, 0) := (congrArg (fun t => List.lookup 12 t) gt162).trans rfl
theorem t162_13 : zT 162 13 = some (.iload 4, 2, 0, 0, 0, 0) := (congrArg (fun t => List.lookup 13 t) gt162).trans rfl
theorem t162_15 : zT 162 15 = some (.invokevirtual 107, 3, 163, 0, 0, 1325) := (congrArg (fun t => List.lookup 15 t) gt162).trans rfl
theorem t162_18 : zT 162 18 = some (.astore 5, 2, 0, 0, 0, 0) := (congrArg (fun t => List.lookup 18 t) gt162).trans rfl
theorem t162_20 : zT 162 20 = some (.aload 5, 2, 0, 0, 0, 0) := (congrArg (fun t => List.lookup 20 t) gt162).trans rfl
theorem t162_22 : zT 162 22 = some (.ifnull 32, 3, 54, 0, 0, 0) := (congrArg (fun t => List.lookup 22 t) gt162).trans rfl
theorem t162_25 : zT 162 25 = some (.aload 5, 2, 0, 0, 0, 0) := (congrArg (fun t => List.lookup 25 t) gt162).trans rfl
theorem t162_27 : zT 162 27 = some (.getfield 111, 3, 8, 0, 0, 415) := (congrArg (fun t => List.lookup 27 t) gt162).trans rfl
theorem t162_30 : zT 162 30 = some (.iload_n 1, 1, 1, 0, 0, 0) := (congrArg (fun t => List.lookup 30 t) gt162).trans rfl
theorem t162_31 : zT 162 31 = some (.if_icmp .ne 23, 3, 54, 0, 0, 0) := (congrArg (fun t => List.lookup 31 t) gt162).trans rfl
theorem t162_34 : zT 162 34 = some (.aload 5, 2, 0, 0, 0, 0) := (congrArg (fun t => List.lookup 34 t) gt162).trans rfl
theorem t162_36 : zT 162 36 = some (.getfield 116, 3, 8, 1, 0, 419) := (congrArg (fun t => List.lookup 36 t) gt162).trans rfl
theorem t162_39 : zT 162 39 = some (.iload_n 2, 1, 2, 0, 0, 0) := (congrArg (fun t => List.lookup 39 t) gt162).trans rfl
theorem t162_40 : zT 162 40 = some (.if_icmp .ne 14, 3, 54, 0, 0, 0) := (congrArg (fun t => List.lookup 40 t) gt162).trans rfl
theorem t162_43 : zT 162 43 = some (.aload 5, 2, 0, 0, 0, 0) := (congrArg (fun t => List.lookup 43 t) gt162).trans rfl
theorem t162_45 : zT 162 45 = some (.getfield 119, 3, 8, 2, 0, 423) := (congrArg (fun t => List.lookup 45 t) gt162).trans rfl
theorem t162_48 : zT 162 48 = some (.iload_n 3, 1, 3, 0, 0, 0) := (congrArg (fun t => List.lookup 48 t) gt162).trans rfl
theorem t162_49 : zT 162 49 = some (.if_icmp .ne 5, 3, 54, 0, 0, 0) := (congrArg (fun t => List.lookup 49 t) gt162).trans rfl
theorem t162_52 : zT 162 52 = some (.iconst 1, 1, 0, 0, 1, 0) := (congrArg (fun t => List.lookup 52 t) gt162).trans rfl
theorem t162_53 : zT 162 53 = some (.ireturn, 1, 0, 0, 0, 0) := (congrArg (fun t => List.lookup 53 t) gt162).trans rfl
theorem t162_54 : zT 162 54 = some (.iinc 4 1, 3, 0, 0, 0, 0) := (congrArg (fun t => List.lookup 54 t) gt162).trans rfl
theorem t162_57 : zT 162 57 = some (.goto (-54), 3, 3, 0, 0, 0) := (congrArg (fun t => List.lookup 57 t) gt162).trans rfl
theorem t162_60 : zT 162 60 = some (.iconst 0, 1, 0, 0, 0, 0) := (congrArg (fun t => List.lookup 60 t) gt162).trans rfl
theorem t162_61 : zT 162 61 = some (.ireturn, 1, 0, 0, 0, 0) := (congrArg (fun t => List.lookup 61 t) gt162).trans rfl
theorem t163_0 : zT 163 0 = some (.iload_n 1, 1, 1, 0, 0, 0) := (congrArg (fun t => List.lookup 0 t) gt163).trans rfl
theorem t163_1 : zT 163 1 = some (.aload_n 0, 1, 0, 0, 0, 0) := (congrArg (fun t => List.lookup 1 t) gt163).trans rfl
theorem t163_2 : zT 163 2 = some (.getfield 29, 3, 4, 4, 0, 496) := (congrArg (fun t => List.lookup 2 t) gt163).trans rfl
theorem t163_5 : zT 163 5 = some (.if_icmp .ge 14, 3, 19, 0, 0, 0) := (congrArg (fun t => List.lookup 5 t) gt163).trans rfl
theorem t163_8 : zT 163 8 = some (.aload_n 0, 1, 0, 0, 0, 0) := (congrArg (fun t => List.lookup 8 t) gt163).trans rfl
theorem t163_9 : zT 163 9 = some (.getfield 18, 3, 4, 1, 0, 493) := (congrArg (fun t => List.lookup 9 t) gt163).trans rfl
theorem t163_12 : zT 163 12 = some (.iload_n 1, 1, 1, 0, 0, 0) := (congrArg (fun t => List.lookup 12 t) gt163).trans rfl
theorem t163_13 : zT 163 13 = some (.invokevirtual 96, 3, 126, 0, 0, 1163) := (congrArg (fun t => List.lookup 13 t) gt163).trans rfl
theorem t163_16 : zT 163 16 = some (.goto 4, 3, 20, 0, 0, 0) := (congrArg (fun t => List.lookup 16 t) gt163).trans rfl
theorem t163_19 : zT 163 19 = some (.aconst_null, 1, 0, 0, 0, 0) := (congrArg (fun t => List.lookup 19 t) gt163).trans rfl
theorem t163_20 : zT 163 20 = some (.areturn, 1, 0, 0, 0, 0) := (congrArg (fun t => List.lookup 20 t) gt163).trans rfl
theorem t164_0 : zT 164 0 = some (.iload_n 1, 1, 1, 0, 0, 0) := (congrArg (fun t => List.lookup 0 t) gt164).trans rfl
theorem t164_1 : zT 164 1 = some (.iconst 0, 1, 0, 0, 0, 0) := (congrArg (fun t => List.lookup 1 t) gt164).trans rfl
theorem t164_2 : zT 164 2 = some (.bipush 8, 2, 0, 0, 8, 0) := (congrArg (fun t => List.lookup 2 t) gt164).trans rfl
theorem t164_4 : zT 164 4 = some (.invokestatic 122, 3, 39, 2, 0, 1333) := (congrArg (fun t => List.lookup 4 t) gt164).trans rfl
theorem t164_7 : zT 164 7 = some (.ifCond .eq 14, 3, 21, 0, 0, 0) := (congrArg (fun t => List.lookup 7 t) gt164).trans rfl
theorem t164_10 : zT 164 10 = some (.aload_n 0, 1, 0, 0, 0, 0) := (congrArg (fun t => List.lookup 10 t) gt164).trans rfl
theorem t164_11 : zT 164 11 = some (.getfield 19, 3, 1, 2, 0, 546) := (congrArg (fun t => List.lookup 11 t) gt164).trans rfl
theorem t164_14 : zT 164 14 = some (.iload_n 1, 1, 1, 0, 0, 0) := (congrArg (fun t => List.lookup 14 t) gt164).trans rfl
theorem t164_15 : zT 164 15 = some (.iaload, 1, 0, 0, 0, 0) := (congrArg (fun t => List.lookup 15 t) gt164).trans rfl
theorem t164_16 : zT 164 16 = some (.bipush 20, 2, 0, 0, 20, 0) := (congrArg (fun t => List.lookup 16 t) gt164).trans rfl
theorem t164_18 : zT 164 18 = some (.if_icmp .lt 4, 3, 22, 0, 0, 0) := (congrArg (fun t => List.lookup 18 t) gt164).trans rfl
theorem t164_21 : zT 164 21 = some (.return_, 1, 0, 0, 0, 0) := (congrArg (fun t => List.lookup 21 t) gt164).trans rfl
theorem t164_22 : zT 164 22 = some (.iload_n 1, 1, 1, 0, 0, 0) := (congrArg (fun t => List.lookup 22 t) gt164).trans rfl
theorem t164_23 : zT 164 23 = some (.bipush 20, 2, 0, 0, 20, 0) := (congrArg (fun t => List.lookup 23 t) gt164).trans rfl
theorem t164_25 : zT 164 25 = some (.imul, 1, 0, 0, 0, 0) := (congrArg (fun t => List.lookup 25 t) gt164).trans rfl
theorem t164_26 : zT 164 26 = some (.aload_n 0, 1, 0, 0, 0, 0) := (congrArg (fun t => List.lookup 26 t) gt164).trans rfl
theorem t164_27 : zT 164 27 = some (.getfield 19, 3, 1, 2, 0, 546) := (congrArg (fun t => List.lookup 27 t) gt164).trans rfl
theorem t164_30 : zT 164 30 = some (.iload_n 1, 1, 1, 0, 0, 0) := (congrArg (fun t => List.lookup 30 t) gt164).trans rfl
theorem t164_31 : zT 164 31 = some (.iaload, 1, 0, 0, 0, 0) := (congrArg (fun t => List.lookup 31 t) gt164).trans rfl
theorem t164_32 : zT 164 32 = some (.iadd, 1, 0, 0, 0, 0) := (congrArg (fun t => List.lookup 32 t) gt164).trans rfl
theorem t164_33 : zT 164 33 = some (.istore 5, 2, 0, 0, 0, 0) := (congrArg (fun t => List.lookup 33 t) gt164).trans rfl
theorem t164_35 : zT 164 35 = some (.aload_n 0, 1, 0, 0, 0, 0) := (congrArg (fun t => List.lookup 35 t) gt164).trans rfl
theorem t164_36 : zT 164 36 = some (.getfield 23, 3, 1, 3, 0, 547) := (congrArg (fun t => List.lookup 36 t) gt164).trans rfl
theorem t164_39 : zT 164 39 = some (.iload 5, 2, 0, 0, 0, 0) := (congrArg (fun t => List.lookup 39 t) gt164).trans rfl
theorem t164_41 : zT 164 41 = some (.iload_n 2, 1, 2, 0, 0, 0) := (congrArg (fun t => List.lookup 41 t) gt164).trans rfl
theorem t164_42 : zT 164 42 = some (.iastore, 1, 0, 0, 0, 0) := (congrArg (fun t => List.lookup 42 t) gt164).trans rfl
theorem t164_43 : zT 164 43 = some (.aload_n 0, 1, 0, 0, 0, 0) := (congrArg (fun t => List.lookup 43 t) gt164).trans rfl
theorem t164_44 : zT 164 44 = some (.getfield 26, 3, 1, 4, 0, 548) := (congrArg (fun t => List.lookup 44 t) gt164).trans rfl
theorem t164_47 : zT 164 47 = some (.iload 5, 2, 0, 0, 0, 0) := (congrArg (fun t => List.lookup 47 t) gt164).trans rfl
theorem t164_49 : zT 164 49 = some (.iload_n 3, 1, 3, 0, 0, 0) := (congrArg (fun t => List.lookup 49 t) gt164).trans rfl
theorem t164_50 : zT 164 50 = some (.iastore, 1, 0, 0, 0, 0) := (congrArg (fun t => List.lookup 50 t) gt164).trans rfl
theorem t164_51 : zT 164 51 = some (.aload_n 0, 1, 0, 0, 0, 0) := (congrArg (fun t => List.lookup 51 t) gt164).trans rfl
theorem t164_52 : zT 164 52 = some (.getfield 29, 3, 1, 5, 0, 549) := (congrArg (fun t => List.lookup 52 t) gt164).trans rfl
theorem t164_55 : zT 164 55 = some (.iload 5, 2, 0, 0, 0, 0) := (congrArg (fun t => List.lookup 55 t) gt164).trans rfl
theorem t164_57 : zT 164 57 = some (.iload 4, 2, 0, 0, 0, 0) := (congrArg (fun t => List.lookup 57 t) gt164).trans rfl
theorem t164_59 : zT 164 59 = some (.iastore, 1, 0, 0, 0, 0) := (congrArg (fun t => List.lookup 59 t) gt164).trans rfl
theorem t164_60 : zT 164 60 = some (.aload_n 0, 1, 0, 0, 0, 0) := (congrArg (fun t => List.lookup 60 t) gt164).trans rfl
theorem t164_61 : zT 164 61 = some (.getfield 19, 3, 1, 2, 0, 546) := (congrArg (fun t => List.lookup 61 t) gt164).trans rfl
theorem t164_64 : zT 164 64 = some (.iload_n 1, 1, 1, 0, 0, 0) := (congrArg (fun t => List.lookup 64 t) gt164).trans rfl
theorem t164_65 : zT 164 65 = some (.dup2, 1, 0, 0, 0, 0) := (congrArg (fun t => List.lookup 65 t) gt164).trans rfl
theorem t164_66 : zT 164 66 = some (.iaload, 1, 0, 0, 0, 0) := (congrArg (fun t => List.lookup 66 t) gt164).trans rfl
theorem t164_67 : zT 164 67 = some (.iconst 1, 1, 0, 0, 1, 0) := (congrArg (fun t => List.lookup 67 t) gt164).trans rfl
theorem t164_68 : zT 164 68 = some (.iadd, 1, 0, 0, 0, 0) := (congrArg (fun t => List.lookup 68 t) gt164).trans rfl
theorem t164_69 : zT 164 69 = some (.iastore, 1, 0, 0, 0, 0) := (congrArg (fun t => List.lookup 69 t) gt164).trans rfl
theorem t164_70 : zT 164 70 = some (.return_, 1, 0, 0, 0, 0) := (congrArg (fun t => List.lookup 70 t) gt164).trans rfl
theorem t165_0 : zT 165 0 = some (.aload_n 0, 1, 0, 0, 0, 0) := (congrArg (fun t => List.lookup 0 t) gt165).trans rfl
theorem t165_1 : zT 165 1 = some (.getfield 15, 3, 1, 1, 0, 545) := (congrArg (fun t => List.lookup 1 t) gt165).trans rfl
theorem t165_4 : zT 165 4 = some (.ireturn, 1, 0, 0, 0, 0) := (congrArg (fun t => List.lookup 4 t) gt165).trans rfl
theorem t166_0 : zT 166 0 = some (.aload_n 0, 1, 0, 0, 0, 0) := (congrArg (fun t => List.lookup 0 t) gt166).trans rfl
theorem t166_1 : zT 166 1 = some (.iconst 0, 1, 0, 0, 0, 0) := (congrArg (fun t => List.lookup 1 t) gt166).trans rfl
theorem t166_2 : zT 166 2 = some (.invokevirtual 146, 3, 163, 0, 0, 1342) := (congrArg (fun t => List.lookup 2 t) gt166).trans rfl
theorem t166_5 : zT 166 5 = some (.astore_n 1, 1, 1, 0, 0, 0) := (congrArg (fun t => List.lookup 5 t) gt166).trans rfl
theorem t166_6 : zT 166 6 = some (.aload_n 1, 1, 1, 0, 0, 0) := (congrArg (fun t => List.lookup 6 t) gt166).trans rfl
theorem t166_7 : zT 166 7 = some (.ifnonnull 7, 3, 14, 0, 0, 0) := (congrArg (fun t => List.lookup 7 t) gt166).trans rfl
theorem t166_10 : zT 166 10 = some (.iconst 0, 1, 0, 0, 0, 0) := (congrArg (fun t => List.lookup 10 t) gt166).trans rfl
theorem t166_11 : zT 166 11 = some (.goto 7, 3, 18, 0, 0, 0) := (congrArg (fun t => List.lookup 11 t) gt166).trans rfl
