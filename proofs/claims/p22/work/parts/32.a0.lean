theorem li20000 : (20000 : Int32).toInt = 20000 := by decide
theorem mf255 : zmf 255 1 12 6 3 := by unfold zmf; decide +kernel
theorem mf256 : zmf 256 1 12 5 1 := by unfold zmf; decide +kernel
theorem mf257 : zmf 257 1 12 4 2 := by unfold zmf; decide +kernel
theorem mf258 : zmf 258 1 12 3 2 := by unfold zmf; decide +kernel
theorem mf259 : zmf 259 1 12 2 2 := by unfold zmf; decide +kernel
theorem mf261 : zmf 261 2 12 0 2 := by unfold zmf; decide +kernel
theorem mf263 : zmf 263 1 12 2 1 := by unfold zmf; decide +kernel
theorem mf264 : zmf 264 2 12 0 2 := by unfold zmf; decide +kernel
theorem mf265 : zmf 265 1 12 1 1 := by unfold zmf; decide +kernel
theorem mr255 : (mt 255).2.2.2.1 = some .boolean := by decide +kernel
theorem mr256 : (mt 256).2.2.2.1 = some .boolean := by decide +kernel
theorem mr257 : (mt 257).2.2.2.1 = some .boolean := by decide +kernel
theorem mr258 : (mt 258).2.2.2.1 = some .boolean := by decide +kernel
theorem mr259 : (mt 259).2.2.2.1 = some .boolean := by decide +kernel
theorem mr261 : (mt 261).2.2.2.1 = none := by decide +kernel
theorem mr263 : (mt 263).2.2.2.1 = none := by decide +kernel
theorem mr264 : (mt 264).2.2.2.1 = some .boolean := by decide +kernel
theorem mr265 : (mt 265).2.2.2.1 = none := by decide +kernel
theorem t255_0 : zT 255 0 = some (.iconst 1, 1, 0, 0, 1, 0) := (congrArg (fun t => List.lookup 0 t) gt255).trans rfl
theorem t255_1 : zT 255 1 = some (.istore_n 1, 1, 1, 0, 0, 0) := (congrArg (fun t => List.lookup 1 t) gt255).trans rfl
theorem t255_2 : zT 255 2 = some (.iload_n 1, 1, 1, 0, 0, 0) := (congrArg (fun t => List.lookup 2 t) gt255).trans rfl
theorem t255_3 : zT 255 3 = some (.ifCond .eq 106, 3, 109, 0, 0, 0) := (congrArg (fun t => List.lookup 3 t) gt255).trans rfl
theorem t255_6 : zT 255 6 = some (.aload_n 0, 1, 0, 0, 0, 0) := (congrArg (fun t => List.lookup 6 t) gt255).trans rfl
theorem t255_7 : zT 255 7 = some (.invokevirtual 243, 3, 256, 0, 0, 1887) := (congrArg (fun t => List.lookup 7 t) gt255).trans rfl
theorem t255_10 : zT 255 10 = some (.ifCond .ne 5, 3, 15, 0, 0, 0) := (congrArg (fun t => List.lookup 10 t) gt255).trans rfl
theorem t255_13 : zT 255 13 = some (.iconst 0, 1, 0, 0, 0, 0) := (congrArg (fun t => List.lookup 13 t) gt255).trans rfl
theorem t255_14 : zT 255 14 = some (.ireturn, 1, 0, 0, 0, 0) := (congrArg (fun t => List.lookup 14 t) gt255).trans rfl
theorem t255_15 : zT 255 15 = some (.aload_n 0, 1, 0, 0, 0, 0) := (congrArg (fun t => List.lookup 15 t) gt255).trans rfl
theorem t255_16 : zT 255 16 = some (.invokevirtual 129, 3, 238, 0, 0, 1813) := (congrArg (fun t => List.lookup 16 t) gt255).trans rfl
theorem t255_19 : zT 255 19 = some (.istore_n 2, 1, 2, 0, 0, 0) := (congrArg (fun t => List.lookup 19 t) gt255).trans rfl
theorem t255_20 : zT 255 20 = some (.iload_n 2, 1, 2, 0, 0, 0) := (congrArg (fun t => List.lookup 20 t) gt255).trans rfl
theorem t255_21 : zT 255 21 = some (.bipush 38, 2, 0, 0, 38, 0) := (congrArg (fun t => List.lookup 21 t) gt255).trans rfl
theorem t255_23 : zT 255 23 = some (.if_icmp .eq 9, 3, 32, 0, 0, 0) := (congrArg (fun t => List.lookup 23 t) gt255).trans rfl
theorem t255_26 : zT 255 26 = some (.iload_n 2, 1, 2, 0, 0, 0) := (congrArg (fun t => List.lookup 26 t) gt255).trans rfl
theorem t255_27 : zT 255 27 = some (.bipush 124, 2, 0, 0, 124, 0) := (congrArg (fun t => List.lookup 27 t) gt255).trans rfl
theorem t255_29 : zT 255 29 = some (.if_icmp .ne 7, 3, 36, 0, 0, 0) := (congrArg (fun t => List.lookup 29 t) gt255).trans rfl
theorem t255_32 : zT 255 32 = some (.iconst 1, 1, 0, 0, 1, 0) := (congrArg (fun t => List.lookup 32 t) gt255).trans rfl
theorem t255_33 : zT 255 33 = some (.goto 4, 3, 37, 0, 0, 0) := (congrArg (fun t => List.lookup 33 t) gt255).trans rfl
theorem t255_36 : zT 255 36 = some (.iconst 0, 1, 0, 0, 0, 0) := (congrArg (fun t => List.lookup 36 t) gt255).trans rfl
theorem t255_37 : zT 255 37 = some (.istore_n 1, 1, 1, 0, 0, 0) := (congrArg (fun t => List.lookup 37 t) gt255).trans rfl
theorem t255_38 : zT 255 38 = some (.iload_n 1, 1, 1, 0, 0, 0) := (congrArg (fun t => List.lookup 38 t) gt255).trans rfl
theorem t255_39 : zT 255 39 = some (.ifCond .ne 6, 3, 45, 0, 0, 0) := (congrArg (fun t => List.lookup 39 t) gt255).trans rfl
theorem t255_42 : zT 255 42 = some (.goto (-40), 3, 2, 0, 0, 0) := (congrArg (fun t => List.lookup 42 t) gt255).trans rfl
theorem t255_45 : zT 255 45 = some (.aload_n 0, 1, 0, 0, 0, 0) := (congrArg (fun t => List.lookup 45 t) gt255).trans rfl
theorem t255_46 : zT 255 46 = some (.bipush 38, 2, 0, 0, 38, 0) := (congrArg (fun t => List.lookup 46 t) gt255).trans rfl
theorem t255_48 : zT 255 48 = some (.invokevirtual 228, 3, 264, 0, 0, 1917) := (congrArg (fun t => List.lookup 48 t) gt255).trans rfl
theorem t255_51 : zT 255 51 = some (.ifCond .ne 18, 3, 69, 0, 0, 0) := (congrArg (fun t => List.lookup 51 t) gt255).trans rfl
theorem t255_54 : zT 255 54 = some (.iload_n 2, 1, 2, 0, 0, 0) := (congrArg (fun t => List.lookup 54 t) gt255).trans rfl
theorem t255_55 : zT 255 55 = some (.bipush 124, 2, 0, 0, 124, 0) := (congrArg (fun t => List.lookup 55 t) gt255).trans rfl
theorem t255_57 : zT 255 57 = some (.if_icmp .ne 19, 3, 76, 0, 0, 0) := (congrArg (fun t => List.lookup 57 t) gt255).trans rfl
theorem t255_60 : zT 255 60 = some (.aload_n 0, 1, 0, 0, 0, 0) := (congrArg (fun t => List.lookup 60 t) gt255).trans rfl
theorem t255_61 : zT 255 61 = some (.bipush 124, 2, 0, 0, 124, 0) := (congrArg (fun t => List.lookup 61 t) gt255).trans rfl
theorem t255_63 : zT 255 63 = some (.invokevirtual 228, 3, 264, 0, 0, 1917) := (congrArg (fun t => List.lookup 63 t) gt255).trans rfl
theorem t255_66 : zT 255 66 = some (.ifCond .eq 10, 3, 76, 0, 0, 0) := (congrArg (fun t => List.lookup 66 t) gt255).trans rfl
theorem t255_69 : zT 255 69 = some (.aload_n 0, 1, 0, 0, 0, 0) := (congrArg (fun t => List.lookup 69 t) gt255).trans rfl
theorem t255_70 : zT 255 70 = some (.invokevirtual 231, 3, 265, 0, 0, 1921) := (congrArg (fun t => List.lookup 70 t) gt255).trans rfl
theorem t255_73 : zT 255 73 = some (.goto (-28), 3, 45, 0, 0, 0) := (congrArg (fun t => List.lookup 73 t) gt255).trans rfl
theorem t255_76 : zT 255 76 = some (.aload_n 0, 1, 0, 0, 0, 0) := (congrArg (fun t => List.lookup 76 t) gt255).trans rfl
theorem t255_77 : zT 255 77 = some (.getfield 28, 3, 12, 10, 0, 1617) := (congrArg (fun t => List.lookup 77 t) gt255).trans rfl
theorem t255_80 : zT 255 80 = some (.aload_n 0, 1, 0, 0, 0, 0) := (congrArg (fun t => List.lookup 80 t) gt255).trans rfl
theorem t255_81 : zT 255 81 = some (.getfield 225, 3, 12, 12, 0, 1619) := (congrArg (fun t => List.lookup 81 t) gt255).trans rfl
theorem t255_84 : zT 255 84 = some (.iload_n 2, 1, 2, 0, 0, 0) := (congrArg (fun t => List.lookup 84 t) gt255).trans rfl
theorem t255_85 : zT 255 85 = some (.iastore, 1, 0, 0, 0, 0) := (congrArg (fun t => List.lookup 85 t) gt255).trans rfl
theorem t255_86 : zT 255 86 = some (.aload_n 0, 1, 0, 0, 0, 0) := (congrArg (fun t => List.lookup 86 t) gt255).trans rfl
theorem t255_87 : zT 255 87 = some (.dup, 1, 0, 0, 0, 0) := (congrArg (fun t => List.lookup 87 t) gt255).trans rfl
theorem t255_88 : zT 255 88 = some (.getfield 225, 3, 12, 12, 0, 1619) := (congrArg (fun t => List.lookup 88 t) gt255).trans rfl
theorem t255_91 : zT 255 91 = some (.iconst 1, 1, 0, 0, 1, 0) := (congrArg (fun t => List.lookup 91 t) gt255).trans rfl
theorem t255_92 : zT 255 92 = some (.iadd, 1, 0, 0, 0, 0) := (congrArg (fun t => List.lookup 92 t) gt255).trans rfl
theorem t255_93 : zT 255 93 = some (.putfield 225, 3, 12, 12, 0, 1619) := (congrArg (fun t => List.lookup 93 t) gt255).trans rfl
theorem t255_96 : zT 255 96 = some (.aload_n 0, 1, 0, 0, 0, 0) := (congrArg (fun t => List.lookup 96 t) gt255).trans rfl
theorem t255_97 : zT 255 97 = some (.dup, 1, 0, 0, 0, 0) := (congrArg (fun t => List.lookup 97 t) gt255).trans rfl
theorem t255_98 : zT 255 98 = some (.getfield 126, 3, 12, 6, 0, 1613) := (congrArg (fun t => List.lookup 98 t) gt255).trans rfl
theorem t255_101 : zT 255 101 = some (.iconst 1, 1, 0, 0, 1, 0) := (congrArg (fun t => List.lookup 101 t) gt255).trans rfl
theorem t255_102 : zT 255 102 = some (.iadd, 1, 0, 0, 0, 0) := (congrArg (fun t => List.lookup 102 t) gt255).trans rfl
theorem t255_103 : zT 255 103 = some (.putfield 126, 3, 12, 6, 0, 1613) := (congrArg (fun t => List.lookup 103 t) gt255).trans rfl
theorem t255_106 : zT 255 106 = some (.goto (-104), 3, 2, 0, 0, 0) := (congrArg (fun t => List.lookup 106 t) gt255).trans rfl
theorem t255_109 : zT 255 109 = some (.aload_n 0, 1, 0, 0, 0, 0) := (congrArg (fun t => List.lookup 109 t) gt255).trans rfl
theorem t255_110 : zT 255 110 = some (.bipush 38, 2, 0, 0, 38, 0) := (congrArg (fun t => List.lookup 110 t) gt255).trans rfl
theorem t255_112 : zT 255 112 = some (.invokevirtual 228, 3, 264, 0, 0, 1917) := (congrArg (fun t => List.lookup 112 t) gt255).trans rfl
theorem t255_115 : zT 255 115 = some (.ifCond .ne 12, 3, 127, 0, 0, 0) := (congrArg (fun t => List.lookup 115 t) gt255).trans rfl
theorem t255_118 : zT 255 118 = some (.aload_n 0, 1, 0, 0, 0, 0) := (congrArg (fun t => List.lookup 118 t) gt255).trans rfl
theorem t255_119 : zT 255 119 = some (.bipush 124, 2, 0, 0, 124, 0) := (congrArg (fun t => List.lookup 119 t) gt255).trans rfl
theorem t255_121 : zT 255 121 = some (.invokevirtual 228, 3, 264, 0, 0, 1917) := (congrArg (fun t => List.lookup 121 t) gt255).trans rfl
theorem t255_124 : zT 255 124 = some (.ifCond .eq 10, 3, 134, 0, 0, 0) := (congrArg (fun t => List.lookup 124 t) gt255).trans rfl
theorem t255_127 : zT 255 127 = some (.aload_n 0, 1, 0, 0, 0, 0) := (congrArg (fun t => List.lookup 127 t) gt255).trans rfl
theorem t255_128 : zT 255 128 = some (.invokevirtual 231, 3, 265, 0, 0, 1921) := (congrArg (fun t => List.lookup 128 t) gt255).trans rfl
theorem t255_131 : zT 255 131 = some (.goto (-22), 3, 109, 0, 0, 0) := (congrArg (fun t => List.lookup 131 t) gt255).trans rfl
theorem t255_134 : zT 255 134 = some (.aload_n 0, 1, 0, 0, 0, 0) := (congrArg (fun t => List.lookup 134 t) gt255).trans rfl
theorem t255_135 : zT 255 135 = some (.getfield 126, 3, 12, 6, 0, 1613) := (congrArg (fun t => List.lookup 135 t) gt255).trans (by decide +kernel)
theorem t255_138 : zT 255 138 = some (.aload_n 0, 1, 0, 0, 0, 0) := (congrArg (fun t => List.lookup 138 t) gt255).trans (by decide +kernel)
theorem t255_139 : zT 255 139 = some (.getfield 120, 3, 12, 5, 0, 1612) := (congrArg (fun t => List.lookup 139 t) gt255).trans (by decide +kernel)
theorem t255_142 : zT 255 142 = some (.if_icmp .ne 10, 3, 152, 0, 0, 0) := (congrArg (fun t => List.lookup 142 t) gt255).trans (by decide +kernel)
theorem t255_145 : zT 255 145 = some (.aload_n 0, 1, 0, 0, 0, 0) := (congrArg (fun t => List.lookup 145 t) gt255).trans (by decide +kernel)
theorem t255_146 : zT 255 146 = some (.getfield 234, 3, 12, 14, 0, 1621) := (congrArg (fun t => List.lookup 146 t) gt255).trans (by decide +kernel)
theorem t255_149 : zT 255 149 = some (.ifCond .eq 14, 3, 163, 0, 0, 0) := (congrArg (fun t => List.lookup 149 t) gt255).trans (by decide +kernel)
theorem t255_152 : zT 255 152 = some (.aload_n 0, 1, 0, 0, 0, 0) := (congrArg (fun t => List.lookup 152 t) gt255).trans (by decide +kernel)
theorem t255_153 : zT 255 153 = some (.aload_n 0, 1, 0, 0, 0, 0) := (congrArg (fun t => List.lookup 153 t) gt255).trans (by decide +kernel)
theorem t255_154 : zT 255 154 = some (.getfield 126, 3, 12, 6, 0, 1613) := (congrArg (fun t => List.lookup 154 t) gt255).trans (by decide +kernel)
theorem t255_157 : zT 255 157 = some (.invokevirtual 133, 3, 239, 0, 0, 1817) := (congrArg (fun t => List.lookup 157 t) gt255).trans (by decide +kernel)
theorem t255_160 : zT 255 160 = some (.ifCond .eq 7, 3, 167, 0, 0, 0) := (congrArg (fun t => List.lookup 160 t) gt255).trans (by decide +kernel)
theorem t255_163 : zT 255 163 = some (.iconst 1, 1, 0, 0, 1, 0) := (congrArg (fun t => List.lookup 163 t) gt255).trans (by decide +kernel)
theorem t255_164 : zT 255 164 = some (.goto 4, 3, 168, 0, 0, 0) := (congrArg (fun t => List.lookup 164 t) gt255).trans (by decide +kernel)
theorem t255_167 : zT 255 167 = some (.iconst 0, 1, 0, 0, 0, 0) := (congrArg (fun t => List.lookup 167 t) gt255).trans (by decide +kernel)
theorem t255_168 : zT 255 168 = some (.ireturn, 1, 0, 0, 0, 0) := (congrArg (fun t => List.lookup 168 t) gt255).trans (by decide +kernel)
theorem t256_0 : zT 256 0 = some (.aload_n 0, 1, 0, 0, 0, 0) := (congrArg (fun t => List.lookup 0 t) gt256).trans rfl
theorem t256_1 : zT 256 1 = some (.invokevirtual 129, 3, 238, 0, 0, 1813) := (congrArg (fun t => List.lookup 1 t) gt256).trans rfl
theorem t256_4 : zT 256 4 = some (.bipush 33, 2, 0, 0, 33, 0) := (congrArg (fun t => List.lookup 4 t) gt256).trans rfl
theorem t256_6 : zT 256 6 = some (.if_icmp .eq 12, 3, 18, 0, 0, 0) := (congrArg (fun t => List.lookup 6 t) gt256).trans rfl
theorem t256_9 : zT 256 9 = some (.aload_n 0, 1, 0, 0, 0, 0) := (congrArg (fun t => List.lookup 9 t) gt256).trans rfl
theorem t256_10 : zT 256 10 = some (.invokevirtual 129, 3, 238, 0, 0, 1813) := (congrArg (fun t => List.lookup 10 t) gt256).trans rfl
theorem t256_13 : zT 256 13 = some (.bipush 40, 2, 0, 0, 40, 0) := (congrArg (fun t => List.lookup 13 t) gt256).trans rfl
theorem t256_15 : zT 256 15 = some (.if_icmp .ne 67, 3, 82, 0, 0, 0) := (congrArg (fun t => List.lookup 15 t) gt256).trans rfl
theorem t256_18 : zT 256 18 = some (.aload_n 0, 1, 0, 0, 0, 0) := (congrArg (fun t => List.lookup 18 t) gt256).trans rfl
theorem t256_19 : zT 256 19 = some (.getfield 234, 3, 12, 14, 0, 1621) := (congrArg (fun t => List.lookup 19 t) gt256).trans rfl
theorem t256_22 : zT 256 22 = some (.bipush 6, 2, 0, 0, 6, 0) := (congrArg (fun t => List.lookup 22 t) gt256).trans rfl
theorem t256_24 : zT 256 24 = some (.if_icmp .ne 12, 3, 36, 0, 0, 0) := (congrArg (fun t => List.lookup 24 t) gt256).trans rfl
theorem t256_27 : zT 256 27 = some (.aload_n 0, 1, 0, 0, 0, 0) := (congrArg (fun t => List.lookup 27 t) gt256).trans rfl
theorem t256_28 : zT 256 28 = some (.aload_n 0, 1, 0, 0, 0, 0) := (congrArg (fun t => List.lookup 28 t) gt256).trans rfl
theorem t256_29 : zT 256 29 = some (.getfield 126, 3, 12, 6, 0, 1613) := (congrArg (fun t => List.lookup 29 t) gt256).trans rfl
theorem t256_32 : zT 256 32 = some (.invokevirtual 133, 3, 239, 0, 0, 1817) := (congrArg (fun t => List.lookup 32 t) gt256).trans rfl
theorem t256_35 : zT 256 35 = some (.ireturn, 1, 0, 0, 0, 0) := (congrArg (fun t => List.lookup 35 t) gt256).trans rfl
theorem t256_36 : zT 256 36 = some (.aload_n 0, 1, 0, 0, 0, 0) := (congrArg (fun t => List.lookup 36 t) gt256).trans rfl
theorem t256_37 : zT 256 37 = some (.dup, 1, 0, 0, 0, 0) := (congrArg (fun t => List.lookup 37 t) gt256).trans rfl
theorem t256_38 : zT 256 38 = some (.getfield 234, 3, 12, 14, 0, 1621) := (congrArg (fun t => List.lookup 38 t) gt256).trans rfl
theorem t256_41 : zT 256 41 = some (.iconst 1, 1, 0, 0, 1, 0) := (congrArg (fun t => List.lookup 41 t) gt256).trans rfl
theorem t256_42 : zT 256 42 = some (.iadd, 1, 0, 0, 0, 0) := (congrArg (fun t => List.lookup 42 t) gt256).trans rfl
theorem t256_43 : zT 256 43 = some (.putfield 234, 3, 12, 14, 0, 1621) := (congrArg (fun t => List.lookup 43 t) gt256).trans rfl
theorem t256_46 : zT 256 46 = some (.aload_n 0, 1, 0, 0, 0, 0) := (congrArg (fun t => List.lookup 46 t) gt256).trans rfl
theorem t256_47 : zT 256 47 = some (.getfield 28, 3, 12, 10, 0, 1617) := (congrArg (fun t => List.lookup 47 t) gt256).trans rfl
theorem t256_50 : zT 256 50 = some (.aload_n 0, 1, 0, 0, 0, 0) := (congrArg (fun t => List.lookup 50 t) gt256).trans rfl
theorem t256_51 : zT 256 51 = some (.getfield 225, 3, 12, 12, 0, 1619) := (congrArg (fun t => List.lookup 51 t) gt256).trans rfl
theorem t256_54 : zT 256 54 = some (.aload_n 0, 1, 0, 0, 0, 0) := (congrArg (fun t => List.lookup 54 t) gt256).trans rfl
theorem t256_55 : zT 256 55 = some (.invokevirtual 129, 3, 238, 0, 0, 1813) := (congrArg (fun t => List.lookup 55 t) gt256).trans rfl
theorem t256_58 : zT 256 58 = some (.iastore, 1, 0, 0, 0, 0) := (congrArg (fun t => List.lookup 58 t) gt256).trans rfl
theorem t256_59 : zT 256 59 = some (.aload_n 0, 1, 0, 0, 0, 0) := (congrArg (fun t => List.lookup 59 t) gt256).trans rfl
theorem t256_60 : zT 256 60 = some (.dup, 1, 0, 0, 0, 0) := (congrArg (fun t => List.lookup 60 t) gt256).trans rfl
theorem t256_61 : zT 256 61 = some (.getfield 225, 3, 12, 12, 0, 1619) := (congrArg (fun t => List.lookup 61 t) gt256).trans rfl
theorem t256_64 : zT 256 64 = some (.iconst 1, 1, 0, 0, 1, 0) := (congrArg (fun t => List.lookup 64 t) gt256).trans rfl
theorem t256_65 : zT 256 65 = some (.iadd, 1, 0, 0, 0, 0) := (congrArg (fun t => List.lookup 65 t) gt256).trans rfl
theorem t256_66 : zT 256 66 = some (.putfield 225, 3, 12, 12, 0, 1619) := (congrArg (fun t => List.lookup 66 t) gt256).trans rfl
theorem t256_69 : zT 256 69 = some (.aload_n 0, 1, 0, 0, 0, 0) := (congrArg (fun t => List.lookup 69 t) gt256).trans rfl
theorem t256_70 : zT 256 70 = some (.dup, 1, 0, 0, 0, 0) := (congrArg (fun t => List.lookup 70 t) gt256).trans rfl
theorem t256_71 : zT 256 71 = some (.getfield 126, 3, 12, 6, 0, 1613) := (congrArg (fun t => List.lookup 71 t) gt256).trans rfl
theorem t256_74 : zT 256 74 = some (.iconst 1, 1, 0, 0, 1, 0) := (congrArg (fun t => List.lookup 74 t) gt256).trans rfl
theorem t256_75 : zT 256 75 = some (.iadd, 1, 0, 0, 0, 0) := (congrArg (fun t => List.lookup 75 t) gt256).trans rfl
theorem t256_76 : zT 256 76 = some (.putfield 126, 3, 12, 6, 0, 1613) := (congrArg (fun t => List.lookup 76 t) gt256).trans rfl
theorem t256_79 : zT 256 79 = some (.goto (-79), 3, 0, 0, 0, 0) := (congrArg (fun t => List.lookup 79 t) gt256).trans rfl
theorem t256_82 : zT 256 82 = some (.aload_n 0, 1, 0, 0, 0, 0) := (congrArg (fun t => List.lookup 82 t) gt256).trans rfl
theorem t256_83 : zT 256 83 = some (.invokevirtual 237, 3, 257, 0, 0, 1891) := (congrArg (fun t => List.lookup 83 t) gt256).trans rfl
theorem t256_86 : zT 256 86 = some (.ifCond .ne 5, 3, 91, 0, 0, 0) := (congrArg (fun t => List.lookup 86 t) gt256).trans rfl
theorem t256_89 : zT 256 89 = some (.iconst 0, 1, 0, 0, 0, 0) := (congrArg (fun t => List.lookup 89 t) gt256).trans rfl
theorem t256_90 : zT 256 90 = some (.ireturn, 1, 0, 0, 0, 0) := (congrArg (fun t => List.lookup 90 t) gt256).trans rfl
theorem t256_91 : zT 256 91 = some (.aload_n 0, 1, 0, 0, 0, 0) := (congrArg (fun t => List.lookup 91 t) gt256).trans rfl
theorem t256_92 : zT 256 92 = some (.invokevirtual 240, 3, 263, 0, 0, 1913) := (congrArg (fun t => List.lookup 92 t) gt256).trans rfl
theorem t256_95 : zT 256 95 = some (.aload_n 0, 1, 0, 0, 0, 0) := (congrArg (fun t => List.lookup 95 t) gt256).trans rfl
theorem t256_96 : zT 256 96 = some (.invokevirtual 129, 3, 238, 0, 0, 1813) := (congrArg (fun t => List.lookup 96 t) gt256).trans rfl
theorem t256_99 : zT 256 99 = some (.bipush 41, 2, 0, 0, 41, 0) := (congrArg (fun t => List.lookup 99 t) gt256).trans rfl
theorem t256_101 : zT 256 101 = some (.if_icmp .ne 72, 3, 173, 0, 0, 0) := (congrArg (fun t => List.lookup 101 t) gt256).trans rfl
theorem t256_104 : zT 256 104 = some (.aload_n 0, 1, 0, 0, 0, 0) := (congrArg (fun t => List.lookup 104 t) gt256).trans rfl
theorem t256_105 : zT 256 105 = some (.getfield 234, 3, 12, 14, 0, 1621) := (congrArg (fun t => List.lookup 105 t) gt256).trans rfl
theorem t256_108 : zT 256 108 = some (.ifCond .le 65, 3, 173, 0, 0, 0) := (congrArg (fun t => List.lookup 108 t) gt256).trans rfl
theorem t256_111 : zT 256 111 = some (.aload_n 0, 1, 0, 0, 0, 0) := (congrArg (fun t => List.lookup 111 t) gt256).trans rfl
theorem t256_112 : zT 256 112 = some (.bipush 38, 2, 0, 0, 38, 0) := (congrArg (fun t => List.lookup 112 t) gt256).trans rfl
theorem t256_114 : zT 256 114 = some (.invokevirtual 228, 3, 264, 0, 0, 1917) := (congrArg (fun t => List.lookup 114 t) gt256).trans rfl
theorem t256_117 : zT 256 117 = some (.ifCond .ne 12, 3, 129, 0, 0, 0) := (congrArg (fun t => List.lookup 117 t) gt256).trans rfl
theorem t256_120 : zT 256 120 = some (.aload_n 0, 1, 0, 0, 0, 0) := (congrArg (fun t => List.lookup 120 t) gt256).trans rfl
theorem t256_121 : zT 256 121 = some (.bipush 124, 2, 0, 0, 124, 0) := (congrArg (fun t => List.lookup 121 t) gt256).trans rfl
theorem t256_123 : zT 256 123 = some (.invokevirtual 228, 3, 264, 0, 0, 1917) := (congrArg (fun t => List.lookup 123 t) gt256).trans rfl
theorem t256_126 : zT 256 126 = some (.ifCond .eq 10, 3, 136, 0, 0, 0) := (congrArg (fun t => List.lookup 126 t) gt256).trans rfl
theorem t256_129 : zT 256 129 = some (.aload_n 0, 1, 0, 0, 0, 0) := (congrArg (fun t => List.lookup 129 t) gt256).trans rfl
theorem t256_130 : zT 256 130 = some (.invokevirtual 231, 3, 265, 0, 0, 1921) := (congrArg (fun t => List.lookup 130 t) gt256).trans rfl
theorem t256_133 : zT 256 133 = some (.goto (-22), 3, 111, 0, 0, 0) := (congrArg (fun t => List.lookup 133 t) gt256).trans rfl
theorem t256_136 : zT 256 136 = some (.aload_n 0, 1, 0, 0, 0, 0) := (congrArg (fun t => List.lookup 136 t) gt256).trans rfl
theorem t256_137 : zT 256 137 = some (.dup, 1, 0, 0, 0, 0) := (congrArg (fun t => List.lookup 137 t) gt256).trans rfl
theorem t256_138 : zT 256 138 = some (.getfield 225, 3, 12, 12, 0, 1619) := (congrArg (fun t => List.lookup 138 t) gt256).trans (by decide +kernel)
theorem t256_141 : zT 256 141 = some (.iconst 1, 1, 0, 0, 1, 0) := (congrArg (fun t => List.lookup 141 t) gt256).trans (by decide +kernel)
theorem t256_142 : zT 256 142 = some (.isub, 1, 0, 0, 0, 0) := (congrArg (fun t => List.lookup 142 t) gt256).trans (by decide +kernel)
theorem t256_143 : zT 256 143 = some (.putfield 225, 3, 12, 12, 0, 1619) := (congrArg (fun t => List.lookup 143 t) gt256).trans (by decide +kernel)
theorem t256_146 : zT 256 146 = some (.aload_n 0, 1, 0, 0, 0, 0) := (congrArg (fun t => List.lookup 146 t) gt256).trans (by decide +kernel)
theorem t256_147 : zT 256 147 = some (.dup, 1, 0, 0, 0, 0) := (congrArg (fun t => List.lookup 147 t) gt256).trans (by decide +kernel)
theorem t256_148 : zT 256 148 = some (.getfield 234, 3, 12, 14, 0, 1621) := (congrArg (fun t => List.lookup 148 t) gt256).trans (by decide +kernel)
theorem t256_151 : zT 256 151 = some (.iconst 1, 1, 0, 0, 1, 0) := (congrArg (fun t => List.lookup 151 t) gt256).trans (by decide +kernel)
theorem t256_152 : zT 256 152 = some (.isub, 1, 0, 0, 0, 0) := (congrArg (fun t => List.lookup 152 t) gt256).trans (by decide +kernel)
theorem t256_153 : zT 256 153 = some (.putfield 234, 3, 12, 14, 0, 1621) := (congrArg (fun t => List.lookup 153 t) gt256).trans (by decide +kernel)
theorem t256_156 : zT 256 156 = some (.aload_n 0, 1, 0, 0, 0, 0) := (congrArg (fun t => List.lookup 156 t) gt256).trans (by decide +kernel)
theorem t256_157 : zT 256 157 = some (.dup, 1, 0, 0, 0, 0) := (congrArg (fun t => List.lookup 157 t) gt256).trans (by decide +kernel)
theorem t256_158 : zT 256 158 = some (.getfield 126, 3, 12, 6, 0, 1613) := (congrArg (fun t => List.lookup 158 t) gt256).trans (by decide +kernel)
theorem t256_161 : zT 256 161 = some (.iconst 1, 1, 0, 0, 1, 0) := (congrArg (fun t => List.lookup 161 t) gt256).trans (by decide +kernel)
theorem t256_162 : zT 256 162 = some (.iadd, 1, 0, 0, 0, 0) := (congrArg (fun t => List.lookup 162 t) gt256).trans (by decide +kernel)
theorem t256_163 : zT 256 163 = some (.putfield 126, 3, 12, 6, 0, 1613) := (congrArg (fun t => List.lookup 163 t) gt256).trans (by decide +kernel)
theorem t256_166 : zT 256 166 = some (.aload_n 0, 1, 0, 0, 0, 0) := (congrArg (fun t => List.lookup 166 t) gt256).trans (by decide +kernel)
theorem t256_167 : zT 256 167 = some (.invokevirtual 240, 3, 263, 0, 0, 1913) := (congrArg (fun t => List.lookup 167 t) gt256).trans (by decide +kernel)
theorem t256_170 : zT 256 170 = some (.goto (-75), 3, 95, 0, 0, 0) := (congrArg (fun t => List.lookup 170 t) gt256).trans (by decide +kernel)
theorem t256_173 : zT 256 173 = some (.iconst 1, 1, 0, 0, 1, 0) := (congrArg (fun t => List.lookup 173 t) gt256).trans (by decide +kernel)
theorem t256_174 : zT 256 174 = some (.ireturn, 1, 0, 0, 0, 0) := (congrArg (fun t => List.lookup 174 t) gt256).trans (by decide +kernel)
theorem t257_0 : zT 257 0 = some (.aload_n 0, 1, 0, 0, 0, 0) := (congrArg (fun t => List.lookup 0 t) gt257).trans rfl
theorem t257_1 : zT 257 1 = some (.invokevirtual 222, 3, 258, 0, 0, 1895) := (congrArg (fun t => List.lookup 1 t) gt257).trans rfl
theorem t257_4 : zT 257 4 = some (.ifCond .ne 5, 3, 9, 0, 0, 0) := (congrArg (fun t => List.lookup 4 t) gt257).trans rfl
theorem t257_7 : zT 257 7 = some (.iconst 0, 1, 0, 0, 0, 0) := (congrArg (fun t => List.lookup 7 t) gt257).trans rfl
theorem t257_8 : zT 257 8 = some (.ireturn, 1, 0, 0, 0, 0) := (congrArg (fun t => List.lookup 8 t) gt257).trans rfl
theorem t257_9 : zT 257 9 = some (.aload_n 0, 1, 0, 0, 0, 0) := (congrArg (fun t => List.lookup 9 t) gt257).trans rfl
theorem t257_10 : zT 257 10 = some (.invokevirtual 129, 3, 238, 0, 0, 1813) := (congrArg (fun t => List.lookup 10 t) gt257).trans rfl
theorem t257_13 : zT 257 13 = some (.istore_n 1, 1, 1, 0, 0, 0) := (congrArg (fun t => List.lookup 13 t) gt257).trans rfl
theorem t257_14 : zT 257 14 = some (.iload_n 1, 1, 1, 0, 0, 0) := (congrArg (fun t => List.lookup 14 t) gt257).trans rfl
theorem t257_15 : zT 257 15 = some (.bipush 60, 2, 0, 0, 60, 0) := (congrArg (fun t => List.lookup 15 t) gt257).trans rfl
theorem t257_17 : zT 257 17 = some (.if_icmp .eq 24, 3, 41, 0, 0, 0) := (congrArg (fun t => List.lookup 17 t) gt257).trans rfl
theorem t257_20 : zT 257 20 = some (.iload_n 1, 1, 1, 0, 0, 0) := (congrArg (fun t => List.lookup 20 t) gt257).trans rfl
theorem t257_21 : zT 257 21 = some (.bipush 62, 2, 0, 0, 62, 0) := (congrArg (fun t => List.lookup 21 t) gt257).trans rfl
theorem t257_23 : zT 257 23 = some (.if_icmp .eq 18, 3, 41, 0, 0, 0) := (congrArg (fun t => List.lookup 23 t) gt257).trans rfl
theorem t257_26 : zT 257 26 = some (.iload_n 1, 1, 1, 0, 0, 0) := (congrArg (fun t => List.lookup 26 t) gt257).trans rfl
theorem t257_27 : zT 257 27 = some (.bipush 61, 2, 0, 0, 61, 0) := (congrArg (fun t => List.lookup 27 t) gt257).trans rfl
theorem t257_29 : zT 257 29 = some (.if_icmp .eq 12, 3, 41, 0, 0, 0) := (congrArg (fun t => List.lookup 29 t) gt257).trans rfl
theorem t257_32 : zT 257 32 = some (.aload_n 0, 1, 0, 0, 0, 0) := (congrArg (fun t => List.lookup 32 t) gt257).trans rfl
theorem t257_33 : zT 257 33 = some (.aload_n 0, 1, 0, 0, 0, 0) := (congrArg (fun t => List.lookup 33 t) gt257).trans rfl
theorem t257_34 : zT 257 34 = some (.getfield 126, 3, 12, 6, 0, 1613) := (congrArg (fun t => List.lookup 34 t) gt257).trans rfl
theorem t257_37 : zT 257 37 = some (.invokevirtual 133, 3, 239, 0, 0, 1817) := (congrArg (fun t => List.lookup 37 t) gt257).trans rfl
theorem t257_40 : zT 257 40 = some (.ireturn, 1, 0, 0, 0, 0) := (congrArg (fun t => List.lookup 40 t) gt257).trans rfl
theorem t257_41 : zT 257 41 = some (.aload_n 0, 1, 0, 0, 0, 0) := (congrArg (fun t => List.lookup 41 t) gt257).trans rfl
theorem t257_42 : zT 257 42 = some (.dup, 1, 0, 0, 0, 0) := (congrArg (fun t => List.lookup 42 t) gt257).trans rfl
theorem t257_43 : zT 257 43 = some (.getfield 126, 3, 12, 6, 0, 1613) := (congrArg (fun t => List.lookup 43 t) gt257).trans rfl
theorem t257_46 : zT 257 46 = some (.iconst 1, 1, 0, 0, 1, 0) := (congrArg (fun t => List.lookup 46 t) gt257).trans rfl
theorem t257_47 : zT 257 47 = some (.iadd, 1, 0, 0, 0, 0) := (congrArg (fun t => List.lookup 47 t) gt257).trans rfl
theorem t257_48 : zT 257 48 = some (.putfield 126, 3, 12, 6, 0, 1613) := (congrArg (fun t => List.lookup 48 t) gt257).trans rfl
theorem t257_51 : zT 257 51 = some (.aload_n 0, 1, 0, 0, 0, 0) := (congrArg (fun t => List.lookup 51 t) gt257).trans rfl
theorem t257_52 : zT 257 52 = some (.invokevirtual 222, 3, 258, 0, 0, 1895) := (congrArg (fun t => List.lookup 52 t) gt257).trans rfl
theorem t257_55 : zT 257 55 = some (.ifCond .ne 5, 3, 60, 0, 0, 0) := (congrArg (fun t => List.lookup 55 t) gt257).trans rfl
theorem t257_58 : zT 257 58 = some (.iconst 0, 1, 0, 0, 0, 0) := (congrArg (fun t => List.lookup 58 t) gt257).trans rfl
theorem t257_59 : zT 257 59 = some (.ireturn, 1, 0, 0, 0, 0) := (congrArg (fun t => List.lookup 59 t) gt257).trans rfl
theorem t257_60 : zT 257 60 = some (.aload_n 0, 1, 0, 0, 0, 0) := (congrArg (fun t => List.lookup 60 t) gt257).trans rfl
theorem t257_61 : zT 257 61 = some (.sipush 20000, 3, 0, 0, 20000, 0) := (congrArg (fun t => List.lookup 61 t) gt257).trans rfl
theorem t257_64 : zT 257 64 = some (.iload_n 1, 1, 1, 0, 0, 0) := (congrArg (fun t => List.lookup 64 t) gt257).trans rfl
theorem t257_65 : zT 257 65 = some (.iadd, 1, 0, 0, 0, 0) := (congrArg (fun t => List.lookup 65 t) gt257).trans rfl
theorem t257_66 : zT 257 66 = some (.invokevirtual 213, 3, 261, 0, 0, 1906) := (congrArg (fun t => List.lookup 66 t) gt257).trans rfl
theorem t257_69 : zT 257 69 = some (.iconst 1, 1, 0, 0, 1, 0) := (congrArg (fun t => List.lookup 69 t) gt257).trans rfl
theorem t257_70 : zT 257 70 = some (.ireturn, 1, 0, 0, 0, 0) := (congrArg (fun t => List.lookup 70 t) gt257).trans rfl
theorem t258_0 : zT 258 0 = some (.aload_n 0, 1, 0, 0, 0, 0) := (congrArg (fun t => List.lookup 0 t) gt258).trans rfl
theorem t258_1 : zT 258 1 = some (.invokevirtual 216, 3, 259, 0, 0, 1899) := (congrArg (fun t => List.lookup 1 t) gt258).trans rfl
theorem t258_4 : zT 258 4 = some (.ifCond .ne 5, 3, 9, 0, 0, 0) := (congrArg (fun t => List.lookup 4 t) gt258).trans rfl
theorem t258_7 : zT 258 7 = some (.iconst 0, 1, 0, 0, 0, 0) := (congrArg (fun t => List.lookup 7 t) gt258).trans rfl
theorem t258_8 : zT 258 8 = some (.ireturn, 1, 0, 0, 0, 0) := (congrArg (fun t => List.lookup 8 t) gt258).trans rfl
theorem t258_9 : zT 258 9 = some (.aload_n 0, 1, 0, 0, 0, 0) := (congrArg (fun t => List.lookup 9 t) gt258).trans rfl
theorem t258_10 : zT 258 10 = some (.invokevirtual 129, 3, 238, 0, 0, 1813) := (congrArg (fun t => List.lookup 10 t) gt258).trans rfl
theorem t258_13 : zT 258 13 = some (.invokestatic 219, 3, 262, 1, 0, 1910) := (congrArg (fun t => List.lookup 13 t) gt258).trans rfl
theorem t258_16 : zT 258 16 = some (.ifCond .eq 39, 3, 55, 0, 0, 0) := (congrArg (fun t => List.lookup 16 t) gt258).trans rfl
theorem t258_19 : zT 258 19 = some (.aload_n 0, 1, 0, 0, 0, 0) := (congrArg (fun t => List.lookup 19 t) gt258).trans rfl
theorem t258_20 : zT 258 20 = some (.invokevirtual 129, 3, 238, 0, 0, 1813) := (congrArg (fun t => List.lookup 20 t) gt258).trans rfl
theorem t258_23 : zT 258 23 = some (.istore_n 1, 1, 1, 0, 0, 0) := (congrArg (fun t => List.lookup 23 t) gt258).trans rfl
theorem t258_24 : zT 258 24 = some (.aload_n 0, 1, 0, 0, 0, 0) := (congrArg (fun t => List.lookup 24 t) gt258).trans rfl
theorem t258_25 : zT 258 25 = some (.dup, 1, 0, 0, 0, 0) := (congrArg (fun t => List.lookup 25 t) gt258).trans rfl
theorem t258_26 : zT 258 26 = some (.getfield 126, 3, 12, 6, 0, 1613) := (congrArg (fun t => List.lookup 26 t) gt258).trans rfl
theorem t258_29 : zT 258 29 = some (.iconst 1, 1, 0, 0, 1, 0) := (congrArg (fun t => List.lookup 29 t) gt258).trans rfl
theorem t258_30 : zT 258 30 = some (.iadd, 1, 0, 0, 0, 0) := (congrArg (fun t => List.lookup 30 t) gt258).trans rfl
theorem t258_31 : zT 258 31 = some (.putfield 126, 3, 12, 6, 0, 1613) := (congrArg (fun t => List.lookup 31 t) gt258).trans rfl
theorem t258_34 : zT 258 34 = some (.aload_n 0, 1, 0, 0, 0, 0) := (congrArg (fun t => List.lookup 34 t) gt258).trans rfl
theorem t258_35 : zT 258 35 = some (.invokevirtual 216, 3, 259, 0, 0, 1899) := (congrArg (fun t => List.lookup 35 t) gt258).trans rfl
theorem t258_38 : zT 258 38 = some (.ifCond .ne 5, 3, 43, 0, 0, 0) := (congrArg (fun t => List.lookup 38 t) gt258).trans rfl
theorem t258_41 : zT 258 41 = some (.iconst 0, 1, 0, 0, 0, 0) := (congrArg (fun t => List.lookup 41 t) gt258).trans rfl
theorem t258_42 : zT 258 42 = some (.ireturn, 1, 0, 0, 0, 0) := (congrArg (fun t => List.lookup 42 t) gt258).trans rfl
theorem t258_43 : zT 258 43 = some (.aload_n 0, 1, 0, 0, 0, 0) := (congrArg (fun t => List.lookup 43 t) gt258).trans rfl
theorem t258_44 : zT 258 44 = some (.sipush 20000, 3, 0, 0, 20000, 0) := (congrArg (fun t => List.lookup 44 t) gt258).trans rfl
theorem t258_47 : zT 258 47 = some (.iload_n 1, 1, 1, 0, 0, 0) := (congrArg (fun t => List.lookup 47 t) gt258).trans rfl
theorem t258_48 : zT 258 48 = some (.iadd, 1, 0, 0, 0, 0) := (congrArg (fun t => List.lookup 48 t) gt258).trans rfl
theorem t258_49 : zT 258 49 = some (.invokevirtual 213, 3, 261, 0, 0, 1906) := (congrArg (fun t => List.lookup 49 t) gt258).trans rfl
theorem t258_52 : zT 258 52 = some (.goto (-43), 3, 9, 0, 0, 0) := (congrArg (fun t => List.lookup 52 t) gt258).trans rfl
theorem t258_55 : zT 258 55 = some (.iconst 1, 1, 0, 0, 1, 0) := (congrArg (fun t => List.lookup 55 t) gt258).trans rfl
theorem t258_56 : zT 258 56 = some (.ireturn, 1, 0, 0, 0, 0) := (congrArg (fun t => List.lookup 56 t) gt258).trans rfl
theorem t259_0 : zT 259 0 = some (.aload_n 0, 1, 0, 0, 0, 0) := (congrArg (fun t => List.lookup 0 t) gt259).trans rfl
theorem t259_1 : zT 259 1 = some (.invokevirtual 129, 3, 238, 0, 0, 1813) := (congrArg (fun t => List.lookup 1 t) gt259).trans rfl
theorem t259_4 : zT 259 4 = some (.istore_n 1, 1, 1, 0, 0, 0) := (congrArg (fun t => List.lookup 4 t) gt259).trans rfl
theorem t259_5 : zT 259 5 = some (.iload_n 1, 1, 1, 0, 0, 0) := (congrArg (fun t => List.lookup 5 t) gt259).trans rfl
theorem t259_6 : zT 259 6 = some (.invokestatic 140, 3, 245, 1, 0, 1841) := (congrArg (fun t => List.lookup 6 t) gt259).trans rfl
theorem t259_9 : zT 259 9 = some (.ifCond .ne 11, 3, 20, 0, 0, 0) := (congrArg (fun t => List.lookup 9 t) gt259).trans rfl
theorem t259_12 : zT 259 12 = some (.iload_n 1, 1, 1, 0, 0, 0) := (congrArg (fun t => List.lookup 12 t) gt259).trans rfl
theorem t259_13 : zT 259 13 = some (.invokestatic 207, 3, 260, 1, 0, 1903) := (congrArg (fun t => List.lookup 13 t) gt259).trans rfl
theorem t259_16 : zT 259 16 = some (.iconst (-1), 1, 0, 0, (-1), 0) := (congrArg (fun t => List.lookup 16 t) gt259).trans rfl
theorem t259_17 : zT 259 17 = some (.if_icmp .eq 12, 3, 29, 0, 0, 0) := (congrArg (fun t => List.lookup 17 t) gt259).trans rfl
theorem t259_20 : zT 259 20 = some (.aload_n 0, 1, 0, 0, 0, 0) := (congrArg (fun t => List.lookup 20 t) gt259).trans rfl
theorem t259_21 : zT 259 21 = some (.getfield 210, 3, 12, 13, 0, 1620) := (congrArg (fun t => List.lookup 21 t) gt259).trans rfl
theorem t259_24 : zT 259 24 = some (.bipush 30, 2, 0, 0, 30, 0) := (congrArg (fun t => List.lookup 24 t) gt259).trans rfl
theorem t259_26 : zT 259 26 = some (.if_icmp .ne 12, 3, 38, 0, 0, 0) := (congrArg (fun t => List.lookup 26 t) gt259).trans rfl
theorem t259_29 : zT 259 29 = some (.aload_n 0, 1, 0, 0, 0, 0) := (congrArg (fun t => List.lookup 29 t) gt259).trans rfl
theorem t259_30 : zT 259 30 = some (.aload_n 0, 1, 0, 0, 0, 0) := (congrArg (fun t => List.lookup 30 t) gt259).trans rfl
theorem t259_31 : zT 259 31 = some (.getfield 126, 3, 12, 6, 0, 1613) := (congrArg (fun t => List.lookup 31 t) gt259).trans rfl
theorem t259_34 : zT 259 34 = some (.invokevirtual 133, 3, 239, 0, 0, 1817) := (congrArg (fun t => List.lookup 34 t) gt259).trans rfl
theorem t259_37 : zT 259 37 = some (.ireturn, 1, 0, 0, 0, 0) := (congrArg (fun t => List.lookup 37 t) gt259).trans rfl
theorem t259_38 : zT 259 38 = some (.aload_n 0, 1, 0, 0, 0, 0) := (congrArg (fun t => List.lookup 38 t) gt259).trans rfl
theorem t259_39 : zT 259 39 = some (.dup, 1, 0, 0, 0, 0) := (congrArg (fun t => List.lookup 39 t) gt259).trans rfl
theorem t259_40 : zT 259 40 = some (.getfield 210, 3, 12, 13, 0, 1620) := (congrArg (fun t => List.lookup 40 t) gt259).trans rfl
theorem t259_43 : zT 259 43 = some (.iconst 1, 1, 0, 0, 1, 0) := (congrArg (fun t => List.lookup 43 t) gt259).trans rfl
theorem t259_44 : zT 259 44 = some (.iadd, 1, 0, 0, 0, 0) := (congrArg (fun t => List.lookup 44 t) gt259).trans rfl
theorem t259_45 : zT 259 45 = some (.putfield 210, 3, 12, 13, 0, 1620) := (congrArg (fun t => List.lookup 45 t) gt259).trans rfl
theorem t259_48 : zT 259 48 = some (.iload_n 1, 1, 1, 0, 0, 0) := (congrArg (fun t => List.lookup 48 t) gt259).trans rfl
theorem t259_49 : zT 259 49 = some (.invokestatic 140, 3, 245, 1, 0, 1841) := (congrArg (fun t => List.lookup 49 t) gt259).trans rfl
theorem t259_52 : zT 259 52 = some (.ifCond .eq 31, 3, 83, 0, 0, 0) := (congrArg (fun t => List.lookup 52 t) gt259).trans rfl
theorem t259_55 : zT 259 55 = some (.aload_n 0, 1, 0, 0, 0, 0) := (congrArg (fun t => List.lookup 55 t) gt259).trans rfl
theorem t259_56 : zT 259 56 = some (.aload_n 0, 1, 0, 0, 0, 0) := (congrArg (fun t => List.lookup 56 t) gt259).trans rfl
theorem t259_57 : zT 259 57 = some (.getfield 126, 3, 12, 6, 0, 1613) := (congrArg (fun t => List.lookup 57 t) gt259).trans rfl
theorem t259_60 : zT 259 60 = some (.iconst 1, 1, 0, 0, 1, 0) := (congrArg (fun t => List.lookup 60 t) gt259).trans rfl
theorem t259_61 : zT 259 61 = some (.iconst 0, 1, 0, 0, 0, 0) := (congrArg (fun t => List.lookup 61 t) gt259).trans rfl
theorem t259_62 : zT 259 62 = some (.sipush 9999, 3, 0, 0, 9999, 0) := (congrArg (fun t => List.lookup 62 t) gt259).trans rfl
theorem t259_65 : zT 259 65 = some (.invokevirtual 143, 3, 244, 0, 0, 1837) := (congrArg (fun t => List.lookup 65 t) gt259).trans rfl
theorem t259_68 : zT 259 68 = some (.ifCond .ne 5, 3, 73, 0, 0, 0) := (congrArg (fun t => List.lookup 68 t) gt259).trans rfl
theorem t259_71 : zT 259 71 = some (.iconst 0, 1, 0, 0, 0, 0) := (congrArg (fun t => List.lookup 71 t) gt259).trans rfl
theorem t259_72 : zT 259 72 = some (.ireturn, 1, 0, 0, 0, 0) := (congrArg (fun t => List.lookup 72 t) gt259).trans rfl
theorem t259_73 : zT 259 73 = some (.aload_n 0, 1, 0, 0, 0, 0) := (congrArg (fun t => List.lookup 73 t) gt259).trans rfl
theorem t259_74 : zT 259 74 = some (.aload_n 0, 1, 0, 0, 0, 0) := (congrArg (fun t => List.lookup 74 t) gt259).trans rfl
theorem t259_75 : zT 259 75 = some (.getfield 137, 3, 12, 8, 0, 1615) := (congrArg (fun t => List.lookup 75 t) gt259).trans rfl
theorem t259_78 : zT 259 78 = some (.invokevirtual 213, 3, 261, 0, 0, 1906) := (congrArg (fun t => List.lookup 78 t) gt259).trans rfl
theorem t259_81 : zT 259 81 = some (.iconst 1, 1, 0, 0, 1, 0) := (congrArg (fun t => List.lookup 81 t) gt259).trans rfl
theorem t259_82 : zT 259 82 = some (.ireturn, 1, 0, 0, 0, 0) := (congrArg (fun t => List.lookup 82 t) gt259).trans rfl
theorem t259_83 : zT 259 83 = some (.aload_n 0, 1, 0, 0, 0, 0) := (congrArg (fun t => List.lookup 83 t) gt259).trans rfl
theorem t259_84 : zT 259 84 = some (.sipush 10000, 3, 0, 0, 10000, 0) := (congrArg (fun t => List.lookup 84 t) gt259).trans rfl
theorem t259_87 : zT 259 87 = some (.iload_n 1, 1, 1, 0, 0, 0) := (congrArg (fun t => List.lookup 87 t) gt259).trans rfl
theorem t259_88 : zT 259 88 = some (.invokestatic 207, 3, 260, 1, 0, 1903) := (congrArg (fun t => List.lookup 88 t) gt259).trans rfl
theorem t259_91 : zT 259 91 = some (.iadd, 1, 0, 0, 0, 0) := (congrArg (fun t => List.lookup 91 t) gt259).trans rfl
theorem t259_92 : zT 259 92 = some (.invokevirtual 213, 3, 261, 0, 0, 1906) := (congrArg (fun t => List.lookup 92 t) gt259).trans rfl
theorem t259_95 : zT 259 95 = some (.aload_n 0, 1, 0, 0, 0, 0) := (congrArg (fun t => List.lookup 95 t) gt259).trans rfl
theorem t259_96 : zT 259 96 = some (.dup, 1, 0, 0, 0, 0) := (congrArg (fun t => List.lookup 96 t) gt259).trans rfl
theorem t259_97 : zT 259 97 = some (.getfield 126, 3, 12, 6, 0, 1613) := (congrArg (fun t => List.lookup 97 t) gt259).trans rfl
theorem t259_100 : zT 259 100 = some (.iconst 1, 1, 0, 0, 1, 0) := (congrArg (fun t => List.lookup 100 t) gt259).trans rfl
theorem t259_101 : zT 259 101 = some (.iadd, 1, 0, 0, 0, 0) := (congrArg (fun t => List.lookup 101 t) gt259).trans rfl
theorem t259_102 : zT 259 102 = some (.putfield 126, 3, 12, 6, 0, 1613) := (congrArg (fun t => List.lookup 102 t) gt259).trans rfl
theorem t259_105 : zT 259 105 = some (.iconst 1, 1, 0, 0, 1, 0) := (congrArg (fun t => List.lookup 105 t) gt259).trans rfl
theorem t259_106 : zT 259 106 = some (.ireturn, 1, 0, 0, 0, 0) := (congrArg (fun t => List.lookup 106 t) gt259).trans rfl
theorem t261_0 : zT 261 0 = some (.aload_n 0, 1, 0, 0, 0, 0) := (congrArg (fun t => List.lookup 0 t) gt261).trans rfl
theorem t261_1 : zT 261 1 = some (.getfield 25, 3, 12, 9, 0, 1616) := (congrArg (fun t => List.lookup 1 t) gt261).trans rfl
theorem t261_4 : zT 261 4 = some (.aload_n 0, 1, 0, 0, 0, 0) := (congrArg (fun t => List.lookup 4 t) gt261).trans rfl
theorem t261_5 : zT 261 5 = some (.getfield 204, 3, 12, 11, 0, 1618) := (congrArg (fun t => List.lookup 5 t) gt261).trans rfl
theorem t261_8 : zT 261 8 = some (.iload_n 1, 1, 1, 0, 0, 0) := (congrArg (fun t => List.lookup 8 t) gt261).trans rfl
theorem t261_9 : zT 261 9 = some (.iastore, 1, 0, 0, 0, 0) := (congrArg (fun t => List.lookup 9 t) gt261).trans rfl
theorem t261_10 : zT 261 10 = some (.aload_n 0, 1, 0, 0, 0, 0) := (congrArg (fun t => List.lookup 10 t) gt261).trans rfl
theorem t261_11 : zT 261 11 = some (.dup, 1, 0, 0, 0, 0) := (congrArg (fun t => List.lookup 11 t) gt261).trans rfl
theorem t261_12 : zT 261 12 = some (.getfield 204, 3, 12, 11, 0, 1618) := (congrArg (fun t => List.lookup 12 t) gt261).trans rfl
theorem t261_15 : zT 261 15 = some (.iconst 1, 1, 0, 0, 1, 0) := (congrArg (fun t => List.lookup 15 t) gt261).trans rfl
theorem t261_16 : zT 261 16 = some (.iadd, 1, 0, 0, 0, 0) := (congrArg (fun t => List.lookup 16 t) gt261).trans rfl
theorem t261_17 : zT 261 17 = some (.putfield 204, 3, 12, 11, 0, 1618) := (congrArg (fun t => List.lookup 17 t) gt261).trans rfl
theorem t261_20 : zT 261 20 = some (.return_, 1, 0, 0, 0, 0) := (congrArg (fun t => List.lookup 20 t) gt261).trans rfl
theorem t263_0 : zT 263 0 = some (.aload_n 0, 1, 0, 0, 0, 0) := (congrArg (fun t => List.lookup 0 t) gt263).trans rfl
theorem t263_1 : zT 263 1 = some (.bipush 33, 2, 0, 0, 33, 0) := (congrArg (fun t => List.lookup 1 t) gt263).trans rfl
theorem t263_3 : zT 263 3 = some (.invokevirtual 228, 3, 264, 0, 0, 1917) := (congrArg (fun t => List.lookup 3 t) gt263).trans rfl
theorem t263_6 : zT 263 6 = some (.ifCond .eq 20, 3, 26, 0, 0, 0) := (congrArg (fun t => List.lookup 6 t) gt263).trans rfl
theorem t263_9 : zT 263 9 = some (.aload_n 0, 1, 0, 0, 0, 0) := (congrArg (fun t => List.lookup 9 t) gt263).trans rfl
theorem t263_10 : zT 263 10 = some (.invokevirtual 231, 3, 265, 0, 0, 1921) := (congrArg (fun t => List.lookup 10 t) gt263).trans rfl
theorem t263_13 : zT 263 13 = some (.aload_n 0, 1, 0, 0, 0, 0) := (congrArg (fun t => List.lookup 13 t) gt263).trans rfl
theorem t263_14 : zT 263 14 = some (.dup, 1, 0, 0, 0, 0) := (congrArg (fun t => List.lookup 14 t) gt263).trans rfl
theorem t263_15 : zT 263 15 = some (.getfield 234, 3, 12, 14, 0, 1621) := (congrArg (fun t => List.lookup 15 t) gt263).trans rfl
theorem t263_18 : zT 263 18 = some (.iconst 1, 1, 0, 0, 1, 0) := (congrArg (fun t => List.lookup 18 t) gt263).trans rfl
theorem t263_19 : zT 263 19 = some (.isub, 1, 0, 0, 0, 0) := (congrArg (fun t => List.lookup 19 t) gt263).trans rfl
theorem t263_20 : zT 263 20 = some (.putfield 234, 3, 12, 14, 0, 1621) := (congrArg (fun t => List.lookup 20 t) gt263).trans rfl
theorem t263_23 : zT 263 23 = some (.goto (-23), 3, 0, 0, 0, 0) := (congrArg (fun t => List.lookup 23 t) gt263).trans rfl
theorem t263_26 : zT 263 26 = some (.return_, 1, 0, 0, 0, 0) := (congrArg (fun t => List.lookup 26 t) gt263).trans rfl
theorem t264_0 : zT 264 0 = some (.aload_n 0, 1, 0, 0, 0, 0) := (congrArg (fun t => List.lookup 0 t) gt264).trans rfl
theorem t264_1 : zT 264 1 = some (.getfield 225, 3, 12, 12, 0, 1619) := (congrArg (fun t => List.lookup 1 t) gt264).trans rfl
theorem t264_4 : zT 264 4 = some (.ifCond .le 22, 3, 26, 0, 0, 0) := (congrArg (fun t => List.lookup 4 t) gt264).trans rfl
theorem t264_7 : zT 264 7 = some (.aload_n 0, 1, 0, 0, 0, 0) := (congrArg (fun t => List.lookup 7 t) gt264).trans rfl
theorem t264_8 : zT 264 8 = some (.getfield 28, 3, 12, 10, 0, 1617) := (congrArg (fun t => List.lookup 8 t) gt264).trans rfl
theorem t264_11 : zT 264 11 = some (.aload_n 0, 1, 0, 0, 0, 0) := (congrArg (fun t => List.lookup 11 t) gt264).trans rfl
theorem t264_12 : zT 264 12 = some (.getfield 225, 3, 12, 12, 0, 1619) := (congrArg (fun t => List.lookup 12 t) gt264).trans rfl
theorem t264_15 : zT 264 15 = some (.iconst 1, 1, 0, 0, 1, 0) := (congrArg (fun t => List.lookup 15 t) gt264).trans rfl
theorem t264_16 : zT 264 16 = some (.isub, 1, 0, 0, 0, 0) := (congrArg (fun t => List.lookup 16 t) gt264).trans rfl
theorem t264_17 : zT 264 17 = some (.iaload, 1, 0, 0, 0, 0) := (congrArg (fun t => List.lookup 17 t) gt264).trans rfl
theorem t264_18 : zT 264 18 = some (.iload_n 1, 1, 1, 0, 0, 0) := (congrArg (fun t => List.lookup 18 t) gt264).trans rfl
theorem t264_19 : zT 264 19 = some (.if_icmp .ne 7, 3, 26, 0, 0, 0) := (congrArg (fun t => List.lookup 19 t) gt264).trans rfl
theorem t264_22 : zT 264 22 = some (.iconst 1, 1, 0, 0, 1, 0) := (congrArg (fun t => List.lookup 22 t) gt264).trans rfl
theorem t264_23 : zT 264 23 = some (.goto 4, 3, 27, 0, 0, 0) := (congrArg (fun t => List.lookup 23 t) gt264).trans rfl
theorem t264_26 : zT 264 26 = some (.iconst 0, 1, 0, 0, 0, 0) := (congrArg (fun t => List.lookup 26 t) gt264).trans rfl
theorem t264_27 : zT 264 27 = some (.ireturn, 1, 0, 0, 0, 0) := (congrArg (fun t => List.lookup 27 t) gt264).trans rfl
theorem t265_0 : zT 265 0 = some (.aload_n 0, 1, 0, 0, 0, 0) := (congrArg (fun t => List.lookup 0 t) gt265).trans rfl
theorem t265_1 : zT 265 1 = some (.dup, 1, 0, 0, 0, 0) := (congrArg (fun t => List.lookup 1 t) gt265).trans rfl
theorem t265_2 : zT 265 2 = some (.getfield 225, 3, 12, 12, 0, 1619) := (congrArg (fun t => List.lookup 2 t) gt265).trans rfl
theorem t265_5 : zT 265 5 = some (.iconst 1, 1, 0, 0, 1, 0) := (congrArg (fun t => List.lookup 5 t) gt265).trans rfl
theorem t265_6 : zT 265 6 = some (.isub, 1, 0, 0, 0, 0) := (congrArg (fun t => List.lookup 6 t) gt265).trans rfl
theorem t265_7 : zT 265 7 = some (.putfield 225, 3, 12, 12, 0, 1619) := (congrArg (fun t => List.lookup 7 t) gt265).trans rfl
theorem t265_10 : zT 265 10 = some (.aload_n 0, 1, 0, 0, 0, 0) := (congrArg (fun t => List.lookup 10 t) gt265).trans rfl
theorem t265_11 : zT 265 11 = some (.sipush 20000, 3, 0, 0, 20000, 0) := (congrArg (fun t => List.lookup 11 t) gt265).trans rfl
theorem t265_14 : zT 265 14 = some (.aload_n 0, 1, 0, 0, 0, 0) := (congrArg (fun t => List.lookup 14 t) gt265).trans rfl
theorem t265_15 : zT 265 15 = some (.getfield 28, 3, 12, 10, 0, 1617) := (congrArg (fun t => List.lookup 15 t) gt265).trans rfl
theorem t265_18 : zT 265 18 = some (.aload_n 0, 1, 0, 0, 0, 0) := (congrArg (fun t => List.lookup 18 t) gt265).trans rfl
theorem t265_19 : zT 265 19 = some (.getfield 225, 3, 12, 12, 0, 1619) := (congrArg (fun t => List.lookup 19 t) gt265).trans rfl
theorem t265_22 : zT 265 22 = some (.iaload, 1, 0, 0, 0, 0) := (congrArg (fun t => List.lookup 22 t) gt265).trans rfl
theorem t265_23 : zT 265 23 = some (.iadd, 1, 0, 0, 0, 0) := (congrArg (fun t => List.lookup 23 t) gt265).trans rfl
theorem t265_24 : zT 265 24 = some (.invokevirtual 213, 3, 261, 0, 0, 1906) := (congrArg (fun t => List.lookup 24 t) gt265).trans rfl
theorem t265_27 : zT 265 27 = some (.return_, 1, 0, 0, 0, 0) := (congrArg (fun t => List.lookup 27 t) gt265).trans rfl
theorem fk_zMm_340 : zK zMm 340 = (20, 200) := by decide +kernel
theorem fk_zMm_341 : zK zMm 341 = (20, 40) := by decide +kernel
theorem fv_zMm_336_10 : zfv zMm 336 (cY 12 10) 10 = .ref 341 := by decide +kernel
theorem fv_zMm_336_9 : zfv zMm 336 (cY 12 9) 9 = .ref 340 := by decide +kernel
