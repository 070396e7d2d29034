theorem t166_14 : zT 166 14 = some (.aload_n 1, 1, 1, 0, 0, 0) := (congrArg (fun t => List.lookup 14 t) gt166).trans rfl
theorem t166_15 : zT 166 15 = some (.getfield 100, 3, 8, 3, 0, 427) := (congrArg (fun t => List.lookup 15 t) gt166).trans rfl
theorem t166_18 : zT 166 18 = some (.ireturn, 1, 0, 0, 0, 0) := (congrArg (fun t => List.lookup 18 t) gt166).trans rfl
theorem t167_0 : zT 167 0 = some (.iconst 0, 1, 0, 0, 0, 0) := (congrArg (fun t => List.lookup 0 t) gt167).trans rfl
theorem t167_1 : zT 167 1 = some (.istore_n 1, 1, 1, 0, 0, 0) := (congrArg (fun t => List.lookup 1 t) gt167).trans rfl
theorem t167_2 : zT 167 2 = some (.iconst 0, 1, 0, 0, 0, 0) := (congrArg (fun t => List.lookup 2 t) gt167).trans rfl
theorem t167_3 : zT 167 3 = some (.istore_n 2, 1, 2, 0, 0, 0) := (congrArg (fun t => List.lookup 3 t) gt167).trans rfl
theorem t167_4 : zT 167 4 = some (.iload_n 2, 1, 2, 0, 0, 0) := (congrArg (fun t => List.lookup 4 t) gt167).trans rfl
theorem t167_5 : zT 167 5 = some (.aload_n 0, 1, 0, 0, 0, 0) := (congrArg (fun t => List.lookup 5 t) gt167).trans rfl
theorem t167_6 : zT 167 6 = some (.getfield 29, 3, 4, 4, 0, 496) := (congrArg (fun t => List.lookup 6 t) gt167).trans rfl
theorem t167_9 : zT 167 9 = some (.if_icmp .ge 33, 3, 42, 0, 0, 0) := (congrArg (fun t => List.lookup 9 t) gt167).trans rfl
theorem t167_12 : zT 167 12 = some (.aload_n 0, 1, 0, 0, 0, 0) := (congrArg (fun t => List.lookup 12 t) gt167).trans rfl
theorem t167_13 : zT 167 13 = some (.getfield 18, 3, 4, 1, 0, 493) := (congrArg (fun t => List.lookup 13 t) gt167).trans rfl
theorem t167_16 : zT 167 16 = some (.iload_n 2, 1, 2, 0, 0, 0) := (congrArg (fun t => List.lookup 16 t) gt167).trans rfl
theorem t167_17 : zT 167 17 = some (.invokevirtual 96, 3, 126, 0, 0, 1163) := (congrArg (fun t => List.lookup 17 t) gt167).trans rfl
theorem t167_20 : zT 167 20 = some (.astore_n 3, 1, 3, 0, 0, 0) := (congrArg (fun t => List.lookup 20 t) gt167).trans rfl
theorem t167_21 : zT 167 21 = some (.iload_n 1, 1, 1, 0, 0, 0) := (congrArg (fun t => List.lookup 21 t) gt167).trans rfl
theorem t167_22 : zT 167 22 = some (.aload_n 3, 1, 3, 0, 0, 0) := (congrArg (fun t => List.lookup 22 t) gt167).trans rfl
theorem t167_23 : zT 167 23 = some (.ifnonnull 7, 3, 30, 0, 0, 0) := (congrArg (fun t => List.lookup 23 t) gt167).trans rfl
theorem t167_26 : zT 167 26 = some (.iconst 0, 1, 0, 0, 0, 0) := (congrArg (fun t => List.lookup 26 t) gt167).trans rfl
theorem t167_27 : zT 167 27 = some (.goto 7, 3, 34, 0, 0, 0) := (congrArg (fun t => List.lookup 27 t) gt167).trans rfl
theorem t167_30 : zT 167 30 = some (.aload_n 3, 1, 3, 0, 0, 0) := (congrArg (fun t => List.lookup 30 t) gt167).trans rfl
theorem t167_31 : zT 167 31 = some (.getfield 100, 3, 8, 3, 0, 427) := (congrArg (fun t => List.lookup 31 t) gt167).trans rfl
theorem t167_34 : zT 167 34 = some (.iadd, 1, 0, 0, 0, 0) := (congrArg (fun t => List.lookup 34 t) gt167).trans rfl
theorem t167_35 : zT 167 35 = some (.istore_n 1, 1, 1, 0, 0, 0) := (congrArg (fun t => List.lookup 35 t) gt167).trans rfl
theorem t167_36 : zT 167 36 = some (.iinc 2 1, 3, 0, 0, 0, 0) := (congrArg (fun t => List.lookup 36 t) gt167).trans rfl
theorem t167_39 : zT 167 39 = some (.goto (-35), 3, 4, 0, 0, 0) := (congrArg (fun t => List.lookup 39 t) gt167).trans rfl
theorem t167_42 : zT 167 42 = some (.iload_n 1, 1, 1, 0, 0, 0) := (congrArg (fun t => List.lookup 42 t) gt167).trans rfl
theorem t167_43 : zT 167 43 = some (.ireturn, 1, 0, 0, 0, 0) := (congrArg (fun t => List.lookup 43 t) gt167).trans rfl
theorem t168_0 : zT 168 0 = some (.iconst 0, 1, 0, 0, 0, 0) := (congrArg (fun t => List.lookup 0 t) gt168).trans rfl
theorem t168_1 : zT 168 1 = some (.istore_n 1, 1, 1, 0, 0, 0) := (congrArg (fun t => List.lookup 1 t) gt168).trans rfl
theorem t168_2 : zT 168 2 = some (.iconst 0, 1, 0, 0, 0, 0) := (congrArg (fun t => List.lookup 2 t) gt168).trans rfl
theorem t168_3 : zT 168 3 = some (.istore_n 2, 1, 2, 0, 0, 0) := (congrArg (fun t => List.lookup 3 t) gt168).trans rfl
theorem t168_4 : zT 168 4 = some (.iload_n 2, 1, 2, 0, 0, 0) := (congrArg (fun t => List.lookup 4 t) gt168).trans rfl
theorem t168_5 : zT 168 5 = some (.aload_n 0, 1, 0, 0, 0, 0) := (congrArg (fun t => List.lookup 5 t) gt168).trans rfl
theorem t168_6 : zT 168 6 = some (.getfield 45, 3, 4, 9, 0, 501) := (congrArg (fun t => List.lookup 6 t) gt168).trans rfl
theorem t168_9 : zT 168 9 = some (.if_icmp .ge 20, 3, 29, 0, 0, 0) := (congrArg (fun t => List.lookup 9 t) gt168).trans rfl
theorem t168_12 : zT 168 12 = some (.iload_n 1, 1, 1, 0, 0, 0) := (congrArg (fun t => List.lookup 12 t) gt168).trans rfl
theorem t168_13 : zT 168 13 = some (.aload_n 0, 1, 0, 0, 0, 0) := (congrArg (fun t => List.lookup 13 t) gt168).trans rfl
theorem t168_14 : zT 168 14 = some (.getfield 51, 3, 4, 11, 0, 503) := (congrArg (fun t => List.lookup 14 t) gt168).trans rfl
theorem t168_17 : zT 168 17 = some (.iload_n 2, 1, 2, 0, 0, 0) := (congrArg (fun t => List.lookup 17 t) gt168).trans rfl
theorem t168_18 : zT 168 18 = some (.iaload, 1, 0, 0, 0, 0) := (congrArg (fun t => List.lookup 18 t) gt168).trans rfl
theorem t168_19 : zT 168 19 = some (.invokestatic 156, 3, 21, 1, 0, 1351) := (congrArg (fun t => List.lookup 19 t) gt168).trans rfl
theorem t168_22 : zT 168 22 = some (.istore_n 1, 1, 1, 0, 0, 0) := (congrArg (fun t => List.lookup 22 t) gt168).trans rfl
theorem t168_23 : zT 168 23 = some (.iinc 2 1, 3, 0, 0, 0, 0) := (congrArg (fun t => List.lookup 23 t) gt168).trans rfl
theorem t168_26 : zT 168 26 = some (.goto (-22), 3, 4, 0, 0, 0) := (congrArg (fun t => List.lookup 26 t) gt168).trans rfl
theorem t168_29 : zT 168 29 = some (.iload_n 1, 1, 1, 0, 0, 0) := (congrArg (fun t => List.lookup 29 t) gt168).trans rfl
theorem t168_30 : zT 168 30 = some (.ireturn, 1, 0, 0, 0, 0) := (congrArg (fun t => List.lookup 30 t) gt168).trans rfl
theorem t169_0 : zT 169 0 = some (.aload_n 0, 1, 0, 0, 0, 0) := (congrArg (fun t => List.lookup 0 t) gt169).trans rfl
theorem t169_1 : zT 169 1 = some (.getfield 50, 3, 11, 6, 0, 604) := (congrArg (fun t => List.lookup 1 t) gt169).trans rfl
theorem t169_4 : zT 169 4 = some (.aload_n 0, 1, 0, 0, 0, 0) := (congrArg (fun t => List.lookup 4 t) gt169).trans rfl
theorem t169_5 : zT 169 5 = some (.getfield 12, 3, 11, 0, 0, 598) := (congrArg (fun t => List.lookup 5 t) gt169).trans rfl
theorem t169_8 : zT 169 8 = some (.invokevirtual 212, 3, 105, 0, 0, 1068) := (congrArg (fun t => List.lookup 8 t) gt169).trans rfl
theorem t169_11 : zT 169 11 = some (.iload_n 1, 1, 1, 0, 0, 0) := (congrArg (fun t => List.lookup 11 t) gt169).trans rfl
theorem t169_12 : zT 169 12 = some (.invokevirtual 256, 3, 163, 0, 0, 1356) := (congrArg (fun t => List.lookup 12 t) gt169).trans rfl
theorem t169_15 : zT 169 15 = some (.astore_n 3, 1, 3, 0, 0, 0) := (congrArg (fun t => List.lookup 15 t) gt169).trans rfl
theorem t169_16 : zT 169 16 = some (.aload_n 3, 1, 3, 0, 0, 0) := (congrArg (fun t => List.lookup 16 t) gt169).trans rfl
theorem t169_17 : zT 169 17 = some (.ifnonnull 6, 3, 23, 0, 0, 0) := (congrArg (fun t => List.lookup 17 t) gt169).trans rfl
theorem t169_20 : zT 169 20 = some (.ldc 196, 2, 0, 0, (-100000), 1066) := (congrArg (fun t => List.lookup 20 t) gt169).trans rfl
theorem t169_22 : zT 169 22 = some (.ireturn, 1, 0, 0, 0, 0) := (congrArg (fun t => List.lookup 22 t) gt169).trans rfl
theorem t169_23 : zT 169 23 = some (.iload_n 2, 1, 2, 0, 0, 0) := (congrArg (fun t => List.lookup 23 t) gt169).trans rfl
theorem t169_24 : zT 169 24 = some (.tableswitch 105 0 8 #[52, 57, 62, 67, 72, 77, 82, 87, 96], 52, 0, 0, 0, 0) := (congrArg (fun t => List.lookup 24 t) gt169).trans rfl
theorem t169_76 : zT 169 76 = some (.aload_n 3, 1, 3, 0, 0, 0) := (congrArg (fun t => List.lookup 76 t) gt169).trans rfl
theorem t169_77 : zT 169 77 = some (.getfield 260, 3, 8, 0, 0, 417) := (congrArg (fun t => List.lookup 77 t) gt169).trans rfl
theorem t169_80 : zT 169 80 = some (.ireturn, 1, 0, 0, 0, 0) := (congrArg (fun t => List.lookup 80 t) gt169).trans rfl
theorem t169_81 : zT 169 81 = some (.aload_n 3, 1, 3, 0, 0, 0) := (congrArg (fun t => List.lookup 81 t) gt169).trans rfl
theorem t169_82 : zT 169 82 = some (.getfield 264, 3, 8, 1, 0, 421) := (congrArg (fun t => List.lookup 82 t) gt169).trans rfl
theorem t169_85 : zT 169 85 = some (.ireturn, 1, 0, 0, 0, 0) := (congrArg (fun t => List.lookup 85 t) gt169).trans rfl
theorem t169_86 : zT 169 86 = some (.aload_n 3, 1, 3, 0, 0, 0) := (congrArg (fun t => List.lookup 86 t) gt169).trans rfl
theorem t169_87 : zT 169 87 = some (.getfield 266, 3, 8, 2, 0, 425) := (congrArg (fun t => List.lookup 87 t) gt169).trans rfl
theorem t169_90 : zT 169 90 = some (.ireturn, 1, 0, 0, 0, 0) := (congrArg (fun t => List.lookup 90 t) gt169).trans rfl
theorem t169_91 : zT 169 91 = some (.aload_n 3, 1, 3, 0, 0, 0) := (congrArg (fun t => List.lookup 91 t) gt169).trans rfl
theorem t169_92 : zT 169 92 = some (.getfield 269, 3, 8, 3, 0, 428) := (congrArg (fun t => List.lookup 92 t) gt169).trans rfl
theorem t169_95 : zT 169 95 = some (.ireturn, 1, 0, 0, 0, 0) := (congrArg (fun t => List.lookup 95 t) gt169).trans rfl
theorem t169_96 : zT 169 96 = some (.aload_n 3, 1, 3, 0, 0, 0) := (congrArg (fun t => List.lookup 96 t) gt169).trans rfl
theorem t169_97 : zT 169 97 = some (.getfield 272, 3, 8, 4, 0, 431) := (congrArg (fun t => List.lookup 97 t) gt169).trans rfl
theorem t169_100 : zT 169 100 = some (.ireturn, 1, 0, 0, 0, 0) := (congrArg (fun t => List.lookup 100 t) gt169).trans rfl
theorem t169_101 : zT 169 101 = some (.aload_n 3, 1, 3, 0, 0, 0) := (congrArg (fun t => List.lookup 101 t) gt169).trans rfl
theorem t169_102 : zT 169 102 = some (.invokevirtual 275, 3, 139, 0, 0, 1357) := (congrArg (fun t => List.lookup 102 t) gt169).trans rfl
theorem t169_105 : zT 169 105 = some (.ireturn, 1, 0, 0, 0, 0) := (congrArg (fun t => List.lookup 105 t) gt169).trans rfl
theorem t169_106 : zT 169 106 = some (.aload_n 3, 1, 3, 0, 0, 0) := (congrArg (fun t => List.lookup 106 t) gt169).trans rfl
theorem t169_107 : zT 169 107 = some (.getfield 278, 3, 8, 5, 0, 433) := (congrArg (fun t => List.lookup 107 t) gt169).trans rfl
theorem t169_110 : zT 169 110 = some (.ireturn, 1, 0, 0, 0, 0) := (congrArg (fun t => List.lookup 110 t) gt169).trans rfl
theorem t169_111 : zT 169 111 = some (.aload_n 0, 1, 0, 0, 0, 0) := (congrArg (fun t => List.lookup 111 t) gt169).trans rfl
theorem t169_112 : zT 169 112 = some (.getfield 50, 3, 11, 6, 0, 604) := (congrArg (fun t => List.lookup 112 t) gt169).trans rfl
theorem t169_115 : zT 169 115 = some (.iload_n 1, 1, 1, 0, 0, 0) := (congrArg (fun t => List.lookup 115 t) gt169).trans rfl
theorem t169_116 : zT 169 116 = some (.invokevirtual 281, 3, 170, 0, 0, 1358) := (congrArg (fun t => List.lookup 116 t) gt169).trans rfl
theorem t169_119 : zT 169 119 = some (.ireturn, 1, 0, 0, 0, 0) := (congrArg (fun t => List.lookup 119 t) gt169).trans rfl
theorem t169_120 : zT 169 120 = some (.aload_n 0, 1, 0, 0, 0, 0) := (congrArg (fun t => List.lookup 120 t) gt169).trans rfl
theorem t169_121 : zT 169 121 = some (.getfield 50, 3, 11, 6, 0, 604) := (congrArg (fun t => List.lookup 121 t) gt169).trans rfl
theorem t169_124 : zT 169 124 = some (.iload_n 1, 1, 1, 0, 0, 0) := (congrArg (fun t => List.lookup 124 t) gt169).trans rfl
theorem t169_125 : zT 169 125 = some (.invokevirtual 284, 3, 171, 0, 0, 1366) := (congrArg (fun t => List.lookup 125 t) gt169).trans rfl
theorem t169_128 : zT 169 128 = some (.ireturn, 1, 0, 0, 0, 0) := (congrArg (fun t => List.lookup 128 t) gt169).trans rfl
theorem t169_129 : zT 169 129 = some (.ldc 196, 2, 0, 0, (-100000), 1066) := (congrArg (fun t => List.lookup 129 t) gt169).trans rfl
theorem t169_131 : zT 169 131 = some (.ireturn, 1, 0, 0, 0, 0) := (congrArg (fun t => List.lookup 131 t) gt169).trans rfl
theorem t170_0 : zT 170 0 = some (.aload_n 0, 1, 0, 0, 0, 0) := (congrArg (fun t => List.lookup 0 t) gt170).trans rfl
theorem t170_1 : zT 170 1 = some (.aload_n 0, 1, 0, 0, 0, 0) := (congrArg (fun t => List.lookup 1 t) gt170).trans rfl
theorem t170_2 : zT 170 2 = some (.iload_n 1, 1, 1, 0, 0, 0) := (congrArg (fun t => List.lookup 2 t) gt170).trans rfl
theorem t170_3 : zT 170 3 = some (.invokevirtual 166, 3, 171, 0, 0, 1362) := (congrArg (fun t => List.lookup 3 t) gt170).trans rfl
theorem t170_6 : zT 170 6 = some (.iload_n 1, 1, 1, 0, 0, 0) := (congrArg (fun t => List.lookup 6 t) gt170).trans rfl
theorem t170_7 : zT 170 7 = some (.invokevirtual 163, 3, 146, 0, 0, 1245) := (congrArg (fun t => List.lookup 7 t) gt170).trans rfl
theorem t170_10 : zT 170 10 = some (.ireturn, 1, 0, 0, 0, 0) := (congrArg (fun t => List.lookup 10 t) gt170).trans rfl
theorem t171_0 : zT 171 0 = some (.bipush (-2), 2, 0, 0, (-2), 0) := (congrArg (fun t => List.lookup 0 t) gt171).trans rfl
theorem t171_2 : zT 171 2 = some (.istore_n 2, 1, 2, 0, 0, 0) := (congrArg (fun t => List.lookup 2 t) gt171).trans rfl
theorem t171_3 : zT 171 3 = some (.iconst 0, 1, 0, 0, 0, 0) := (congrArg (fun t => List.lookup 3 t) gt171).trans rfl
theorem t171_4 : zT 171 4 = some (.istore_n 3, 1, 3, 0, 0, 0) := (congrArg (fun t => List.lookup 4 t) gt171).trans rfl
theorem t171_5 : zT 171 5 = some (.iconst 0, 1, 0, 0, 0, 0) := (congrArg (fun t => List.lookup 5 t) gt171).trans rfl
theorem t171_6 : zT 171 6 = some (.istore 4, 2, 0, 0, 0, 0) := (congrArg (fun t => List.lookup 6 t) gt171).trans rfl
theorem t171_8 : zT 171 8 = some (.iload 4, 2, 0, 0, 0, 0) := (congrArg (fun t => List.lookup 8 t) gt171).trans rfl
theorem t171_10 : zT 171 10 = some (.aload_n 0, 1, 0, 0, 0, 0) := (congrArg (fun t => List.lookup 10 t) gt171).trans rfl
theorem t171_11 : zT 171 11 = some (.getfield 32, 3, 4, 5, 0, 497) := (congrArg (fun t => List.lookup 11 t) gt171).trans rfl
theorem t171_14 : zT 171 14 = some (.if_icmp .ge 31, 3, 45, 0, 0, 0) := (congrArg (fun t => List.lookup 14 t) gt171).trans rfl
theorem t171_17 : zT 171 17 = some (.aload_n 0, 1, 0, 0, 0, 0) := (congrArg (fun t => List.lookup 17 t) gt171).trans rfl
theorem t171_18 : zT 171 18 = some (.iload 4, 2, 0, 0, 0, 0) := (congrArg (fun t => List.lookup 18 t) gt171).trans rfl
theorem t171_20 : zT 171 20 = some (.iload_n 1, 1, 1, 0, 0, 0) := (congrArg (fun t => List.lookup 20 t) gt171).trans rfl
theorem t171_21 : zT 171 21 = some (.invokevirtual 163, 3, 146, 0, 0, 1245) := (congrArg (fun t => List.lookup 21 t) gt171).trans rfl
theorem t171_24 : zT 171 24 = some (.iload_n 3, 1, 3, 0, 0, 0) := (congrArg (fun t => List.lookup 24 t) gt171).trans rfl
theorem t171_25 : zT 171 25 = some (.if_icmp .le 14, 3, 39, 0, 0, 0) := (congrArg (fun t => List.lookup 25 t) gt171).trans rfl
theorem t171_28 : zT 171 28 = some (.aload_n 0, 1, 0, 0, 0, 0) := (congrArg (fun t => List.lookup 28 t) gt171).trans rfl
theorem t171_29 : zT 171 29 = some (.iload 4, 2, 0, 0, 0, 0) := (congrArg (fun t => List.lookup 29 t) gt171).trans rfl
theorem t171_31 : zT 171 31 = some (.iload_n 1, 1, 1, 0, 0, 0) := (congrArg (fun t => List.lookup 31 t) gt171).trans rfl
theorem t171_32 : zT 171 32 = some (.invokevirtual 163, 3, 146, 0, 0, 1245) := (congrArg (fun t => List.lookup 32 t) gt171).trans rfl
theorem t171_35 : zT 171 35 = some (.istore_n 3, 1, 3, 0, 0, 0) := (congrArg (fun t => List.lookup 35 t) gt171).trans rfl
theorem t171_36 : zT 171 36 = some (.iload 4, 2, 0, 0, 0, 0) := (congrArg (fun t => List.lookup 36 t) gt171).trans rfl
theorem t171_38 : zT 171 38 = some (.istore_n 2, 1, 2, 0, 0, 0) := (congrArg (fun t => List.lookup 38 t) gt171).trans rfl
theorem t171_39 : zT 171 39 = some (.iinc 4 1, 3, 0, 0, 0, 0) := (congrArg (fun t => List.lookup 39 t) gt171).trans rfl
theorem t171_42 : zT 171 42 = some (.goto (-34), 3, 8, 0, 0, 0) := (congrArg (fun t => List.lookup 42 t) gt171).trans rfl
theorem t171_45 : zT 171 45 = some (.iload_n 2, 1, 2, 0, 0, 0) := (congrArg (fun t => List.lookup 45 t) gt171).trans rfl
theorem t171_46 : zT 171 46 = some (.ireturn, 1, 0, 0, 0, 0) := (congrArg (fun t => List.lookup 46 t) gt171).trans rfl
theorem t172_0 : zT 172 0 = some (.aload_n 0, 1, 0, 0, 0, 0) := (congrArg (fun t => List.lookup 0 t) gt172).trans rfl
theorem t172_1 : zT 172 1 = some (.getfield 50, 3, 11, 6, 0, 604) := (congrArg (fun t => List.lookup 1 t) gt172).trans rfl
theorem t172_4 : zT 172 4 = some (.aload_n 0, 1, 0, 0, 0, 0) := (congrArg (fun t => List.lookup 4 t) gt172).trans rfl
theorem t172_5 : zT 172 5 = some (.getfield 12, 3, 11, 0, 0, 598) := (congrArg (fun t => List.lookup 5 t) gt172).trans rfl
theorem t172_8 : zT 172 8 = some (.invokevirtual 212, 3, 105, 0, 0, 1068) := (congrArg (fun t => List.lookup 8 t) gt172).trans rfl
theorem t172_11 : zT 172 11 = some (.iload_n 1, 1, 1, 0, 0, 0) := (congrArg (fun t => List.lookup 11 t) gt172).trans rfl
theorem t172_12 : zT 172 12 = some (.invokevirtual 256, 3, 163, 0, 0, 1356) := (congrArg (fun t => List.lookup 12 t) gt172).trans rfl
theorem t172_15 : zT 172 15 = some (.astore_n 3, 1, 3, 0, 0, 0) := (congrArg (fun t => List.lookup 15 t) gt172).trans rfl
theorem t172_16 : zT 172 16 = some (.aload_n 3, 1, 3, 0, 0, 0) := (congrArg (fun t => List.lookup 16 t) gt172).trans rfl
theorem t172_17 : zT 172 17 = some (.ifnull 14, 3, 31, 0, 0, 0) := (congrArg (fun t => List.lookup 17 t) gt172).trans rfl
theorem t172_20 : zT 172 20 = some (.aload_n 0, 1, 0, 0, 0, 0) := (congrArg (fun t => List.lookup 20 t) gt172).trans rfl
theorem t172_21 : zT 172 21 = some (.getfield 12, 3, 11, 0, 0, 598) := (congrArg (fun t => List.lookup 21 t) gt172).trans rfl
theorem t172_24 : zT 172 24 = some (.iload_n 2, 1, 2, 0, 0, 0) := (congrArg (fun t => List.lookup 24 t) gt172).trans rfl
theorem t172_25 : zT 172 25 = some (.invokevirtual 179, 3, 41, 0, 0, 1023) := (congrArg (fun t => List.lookup 25 t) gt172).trans rfl
theorem t172_28 : zT 172 28 = some (.ifCond .ne 7, 3, 35, 0, 0, 0) := (congrArg (fun t => List.lookup 28 t) gt172).trans rfl
theorem t172_31 : zT 172 31 = some (.iconst (-1), 1, 0, 0, (-1), 0) := (congrArg (fun t => List.lookup 31 t) gt172).trans rfl
theorem t172_32 : zT 172 32 = some (.goto 9, 3, 41, 0, 0, 0) := (congrArg (fun t => List.lookup 32 t) gt172).trans rfl
theorem t172_35 : zT 172 35 = some (.aload_n 3, 1, 3, 0, 0, 0) := (congrArg (fun t => List.lookup 35 t) gt172).trans rfl
theorem t172_36 : zT 172 36 = some (.getfield 287, 3, 8, 6, 0, 437) := (congrArg (fun t => List.lookup 36 t) gt172).trans rfl
theorem t172_39 : zT 172 39 = some (.iload_n 2, 1, 2, 0, 0, 0) := (congrArg (fun t => List.lookup 39 t) gt172).trans rfl
theorem t172_40 : zT 172 40 = some (.iaload, 1, 0, 0, 0, 0) := (congrArg (fun t => List.lookup 40 t) gt172).trans rfl
theorem t172_41 : zT 172 41 = some (.ireturn, 1, 0, 0, 0, 0) := (congrArg (fun t => List.lookup 41 t) gt172).trans rfl
theorem t173_0 : zT 173 0 = some (.aload_n 0, 1, 0, 0, 0, 0) := (congrArg (fun t => List.lookup 0 t) gt173).trans rfl
theorem t173_1 : zT 173 1 = some (.getfield 50, 3, 11, 6, 0, 604) := (congrArg (fun t => List.lookup 1 t) gt173).trans rfl
theorem t173_4 : zT 173 4 = some (.aload_n 0, 1, 0, 0, 0, 0) := (congrArg (fun t => List.lookup 4 t) gt173).trans rfl
theorem t173_5 : zT 173 5 = some (.getfield 12, 3, 11, 0, 0, 598) := (congrArg (fun t => List.lookup 5 t) gt173).trans rfl
theorem t173_8 : zT 173 8 = some (.invokevirtual 212, 3, 105, 0, 0, 1068) := (congrArg (fun t => List.lookup 8 t) gt173).trans rfl
theorem t173_11 : zT 173 11 = some (.iload_n 1, 1, 1, 0, 0, 0) := (congrArg (fun t => List.lookup 11 t) gt173).trans rfl
theorem t173_12 : zT 173 12 = some (.invokevirtual 256, 3, 163, 0, 0, 1356) := (congrArg (fun t => List.lookup 12 t) gt173).trans rfl
theorem t173_15 : zT 173 15 = some (.astore_n 3, 1, 3, 0, 0, 0) := (congrArg (fun t => List.lookup 15 t) gt173).trans rfl
theorem t173_16 : zT 173 16 = some (.aload_n 3, 1, 3, 0, 0, 0) := (congrArg (fun t => List.lookup 16 t) gt173).trans rfl
theorem t173_17 : zT 173 17 = some (.ifnonnull 7, 3, 24, 0, 0, 0) := (congrArg (fun t => List.lookup 17 t) gt173).trans rfl
theorem t173_20 : zT 173 20 = some (.ldc2_w 290, 3, 1, 0, (-1000000000000), 1375) := (congrArg (fun t => List.lookup 20 t) gt173).trans rfl
theorem t173_23 : zT 173 23 = some (.lreturn, 1, 0, 0, 0, 0) := (congrArg (fun t => List.lookup 23 t) gt173).trans rfl
theorem t173_24 : zT 173 24 = some (.iload_n 2, 1, 2, 0, 0, 0) := (congrArg (fun t => List.lookup 24 t) gt173).trans rfl
theorem t173_25 : zT 173 25 = some (.tableswitch 111 0 5 #[39, 51, 63, 75, 87, 99], 39, 0, 0, 0, 0) := (congrArg (fun t => List.lookup 25 t) gt173).trans rfl
theorem t173_64 : zT 173 64 = some (.aload_n 3, 1, 3, 0, 0, 0) := (congrArg (fun t => List.lookup 64 t) gt173).trans rfl
theorem t173_65 : zT 173 65 = some (.getfield 292, 3, 8, 9, 0, 443) := (congrArg (fun t => List.lookup 65 t) gt173).trans rfl
theorem t173_68 : zT 173 68 = some (.aload_n 3, 1, 3, 0, 0, 0) := (congrArg (fun t => List.lookup 68 t) gt173).trans rfl
theorem t173_69 : zT 173 69 = some (.getfield 296, 3, 8, 8, 0, 441) := (congrArg (fun t => List.lookup 69 t) gt173).trans rfl
theorem t173_72 : zT 173 72 = some (.invokestatic 299, 3, 174, 1, 0, 1376) := (congrArg (fun t => List.lookup 72 t) gt173).trans rfl
theorem t173_75 : zT 173 75 = some (.lreturn, 1, 0, 0, 0, 0) := (congrArg (fun t => List.lookup 75 t) gt173).trans rfl
theorem t173_76 : zT 173 76 = some (.aload_n 3, 1, 3, 0, 0, 0) := (congrArg (fun t => List.lookup 76 t) gt173).trans rfl
theorem t173_77 : zT 173 77 = some (.getfield 292, 3, 8, 9, 0, 443) := (congrArg (fun t => List.lookup 77 t) gt173).trans rfl
theorem t173_80 : zT 173 80 = some (.aload_n 3, 1, 3, 0, 0, 0) := (congrArg (fun t => List.lookup 80 t) gt173).trans rfl
theorem t173_81 : zT 173 81 = some (.getfield 296, 3, 8, 8, 0, 441) := (congrArg (fun t => List.lookup 81 t) gt173).trans rfl
theorem t173_84 : zT 173 84 = some (.invokestatic 303, 3, 176, 1, 0, 1383) := (congrArg (fun t => List.lookup 84 t) gt173).trans rfl
theorem t173_87 : zT 173 87 = some (.lreturn, 1, 0, 0, 0, 0) := (congrArg (fun t => List.lookup 87 t) gt173).trans rfl
theorem t173_88 : zT 173 88 = some (.aload_n 3, 1, 3, 0, 0, 0) := (congrArg (fun t => List.lookup 88 t) gt173).trans rfl
theorem t173_89 : zT 173 89 = some (.getfield 306, 3, 8, 10, 0, 445) := (congrArg (fun t => List.lookup 89 t) gt173).trans rfl
theorem t173_92 : zT 173 92 = some (.aload_n 3, 1, 3, 0, 0, 0) := (congrArg (fun t => List.lookup 92 t) gt173).trans rfl
theorem t173_93 : zT 173 93 = some (.getfield 296, 3, 8, 8, 0, 441) := (congrArg (fun t => List.lookup 93 t) gt173).trans rfl
theorem t173_96 : zT 173 96 = some (.invokestatic 299, 3, 174, 1, 0, 1376) := (congrArg (fun t => List.lookup 96 t) gt173).trans rfl
theorem t173_99 : zT 173 99 = some (.lreturn, 1, 0, 0, 0, 0) := (congrArg (fun t => List.lookup 99 t) gt173).trans rfl
theorem t173_100 : zT 173 100 = some (.aload_n 3, 1, 3, 0, 0, 0) := (congrArg (fun t => List.lookup 100 t) gt173).trans rfl
theorem t173_101 : zT 173 101 = some (.getfield 306, 3, 8, 10, 0, 445) := (congrArg (fun t => List.lookup 101 t) gt173).trans rfl
theorem t173_104 : zT 173 104 = some (.aload_n 3, 1, 3, 0, 0, 0) := (congrArg (fun t => List.lookup 104 t) gt173).trans rfl
theorem t173_105 : zT 173 105 = some (.getfield 296, 3, 8, 8, 0, 441) := (congrArg (fun t => List.lookup 105 t) gt173).trans rfl
theorem t173_108 : zT 173 108 = some (.invokestatic 303, 3, 176, 1, 0, 1383) := (congrArg (fun t => List.lookup 108 t) gt173).trans rfl
theorem t173_111 : zT 173 111 = some (.lreturn, 1, 0, 0, 0, 0) := (congrArg (fun t => List.lookup 111 t) gt173).trans rfl
theorem t173_112 : zT 173 112 = some (.aload_n 3, 1, 3, 0, 0, 0) := (congrArg (fun t => List.lookup 112 t) gt173).trans rfl
theorem t173_113 : zT 173 113 = some (.getfield 309, 3, 8, 11, 0, 447) := (congrArg (fun t => List.lookup 113 t) gt173).trans rfl
theorem t173_116 : zT 173 116 = some (.aload_n 3, 1, 3, 0, 0, 0) := (congrArg (fun t => List.lookup 116 t) gt173).trans rfl
theorem t173_117 : zT 173 117 = some (.getfield 296, 3, 8, 8, 0, 441) := (congrArg (fun t => List.lookup 117 t) gt173).trans rfl
theorem t173_120 : zT 173 120 = some (.invokestatic 299, 3, 174, 1, 0, 1376) := (congrArg (fun t => List.lookup 120 t) gt173).trans rfl
theorem t173_123 : zT 173 123 = some (.lreturn, 1, 0, 0, 0, 0) := (congrArg (fun t => List.lookup 123 t) gt173).trans rfl
theorem t173_124 : zT 173 124 = some (.aload_n 3, 1, 3, 0, 0, 0) := (congrArg (fun t => List.lookup 124 t) gt173).trans rfl
theorem t173_125 : zT 173 125 = some (.getfield 309, 3, 8, 11, 0, 447) := (congrArg (fun t => List.lookup 125 t) gt173).trans rfl
theorem t173_128 : zT 173 128 = some (.aload_n 3, 1, 3, 0, 0, 0) := (congrArg (fun t => List.lookup 128 t) gt173).trans rfl
theorem t173_129 : zT 173 129 = some (.getfield 296, 3, 8, 8, 0, 441) := (congrArg (fun t => List.lookup 129 t) gt173).trans rfl
theorem t173_132 : zT 173 132 = some (.invokestatic 303, 3, 176, 1, 0, 1383) := (congrArg (fun t => List.lookup 132 t) gt173).trans rfl
theorem t173_135 : zT 173 135 = some (.lreturn, 1, 0, 0, 0, 0) := (congrArg (fun t => List.lookup 135 t) gt173).trans rfl
theorem t173_136 : zT 173 136 = some (.ldc2_w 290, 3, 1, 0, (-1000000000000), 1375) := (congrArg (fun t => List.lookup 136 t) gt173).trans rfl
theorem t173_139 : zT 173 139 = some (.lreturn, 1, 0, 0, 0, 0) := (congrArg (fun t => List.lookup 139 t) gt173).trans rfl
theorem t174_0 : zT 174 0 = some (.lload_n 0, 1, 0, 0, 0, 0) := (congrArg (fun t => List.lookup 0 t) gt174).trans rfl
theorem t174_1 : zT 174 1 = some (.lload_n 2, 1, 2, 0, 0, 0) := (congrArg (fun t => List.lookup 1 t) gt174).trans rfl
theorem t174_2 : zT 174 2 = some (.invokestatic 412, 3, 175, 1, 0, 1379) := (congrArg (fun t => List.lookup 2 t) gt174).trans rfl
theorem t174_5 : zT 174 5 = some (.lstore 4, 2, 0, 0, 0, 0) := (congrArg (fun t => List.lookup 5 t) gt174).trans rfl
theorem t174_7 : zT 174 7 = some (.lload 4, 2, 0, 0, 0, 0) := (congrArg (fun t => List.lookup 7 t) gt174).trans rfl
theorem t174_9 : zT 174 9 = some (.lconst 0, 1, 0, 0, 0, 0) := (congrArg (fun t => List.lookup 9 t) gt174).trans rfl
theorem t174_10 : zT 174 10 = some (.lcmp, 1, 0, 0, 0, 0) := (congrArg (fun t => List.lookup 10 t) gt174).trans rfl
theorem t174_11 : zT 174 11 = some (.ifCond .ne 5, 3, 16, 0, 0, 0) := (congrArg (fun t => List.lookup 11 t) gt174).trans rfl
theorem t174_14 : zT 174 14 = some (.lconst 0, 1, 0, 0, 0, 0) := (congrArg (fun t => List.lookup 14 t) gt174).trans rfl
theorem t174_15 : zT 174 15 = some (.lreturn, 1, 0, 0, 0, 0) := (congrArg (fun t => List.lookup 15 t) gt174).trans rfl
theorem t174_16 : zT 174 16 = some (.lload_n 2, 1, 2, 0, 0, 0) := (congrArg (fun t => List.lookup 16 t) gt174).trans rfl
theorem t174_17 : zT 174 17 = some (.lconst 0, 1, 0, 0, 0, 0) := (congrArg (fun t => List.lookup 17 t) gt174).trans rfl
theorem t174_18 : zT 174 18 = some (.lcmp, 1, 0, 0, 0, 0) := (congrArg (fun t => List.lookup 18 t) gt174).trans rfl
theorem t174_19 : zT 174 19 = some (.ifCond .ge 11, 3, 30, 0, 0, 0) := (congrArg (fun t => List.lookup 19 t) gt174).trans rfl
theorem t174_22 : zT 174 22 = some (.lload_n 0, 1, 0, 0, 0, 0) := (congrArg (fun t => List.lookup 22 t) gt174).trans rfl
theorem t174_23 : zT 174 23 = some (.lneg, 1, 0, 0, 0, 0) := (congrArg (fun t => List.lookup 23 t) gt174).trans rfl
theorem t174_24 : zT 174 24 = some (.lload 4, 2, 0, 0, 0, 0) := (congrArg (fun t => List.lookup 24 t) gt174).trans rfl
theorem t174_26 : zT 174 26 = some (.ldiv, 1, 0, 0, 0, 0) := (congrArg (fun t => List.lookup 26 t) gt174).trans rfl
theorem t174_27 : zT 174 27 = some (.goto 7, 3, 34, 0, 0, 0) := (congrArg (fun t => List.lookup 27 t) gt174).trans rfl
theorem t174_30 : zT 174 30 = some (.lload_n 0, 1, 0, 0, 0, 0) := (congrArg (fun t => List.lookup 30 t) gt174).trans rfl
theorem t174_31 : zT 174 31 = some (.lload 4, 2, 0, 0, 0, 0) := (congrArg (fun t => List.lookup 31 t) gt174).trans rfl
theorem t174_33 : zT 174 33 = some (.ldiv, 1, 0, 0, 0, 0) := (congrArg (fun t => List.lookup 33 t) gt174).trans rfl
theorem t174_34 : zT 174 34 = some (.lreturn, 1, 0, 0, 0, 0) := (congrArg (fun t => List.lookup 34 t) gt174).trans rfl
theorem t175_0 : zT 175 0 = some (.lload_n 0, 1, 0, 0, 0, 0) := (congrArg (fun t => List.lookup 0 t) gt175).trans rfl
theorem t175_1 : zT 175 1 = some (.invokestatic 466, 3, 136, 1, 0, 1382) := (congrArg (fun t => List.lookup 1 t) gt175).trans rfl
theorem t175_4 : zT 175 4 = some (.lstore 4, 2, 0, 0, 0, 0) := (congrArg (fun t => List.lookup 4 t) gt175).trans rfl
theorem t175_6 : zT 175 6 = some (.lload_n 2, 1, 2, 0, 0, 0) := (congrArg (fun t => List.lookup 6 t) gt175).trans rfl
theorem t175_7 : zT 175 7 = some (.invokestatic 466, 3, 136, 1, 0, 1382) := (congrArg (fun t => List.lookup 7 t) gt175).trans rfl
theorem t175_10 : zT 175 10 = some (.lstore 6, 2, 0, 0, 0, 0) := (congrArg (fun t => List.lookup 10 t) gt175).trans rfl
theorem t175_12 : zT 175 12 = some (.iconst 0, 1, 0, 0, 0, 0) := (congrArg (fun t => List.lookup 12 t) gt175).trans rfl
theorem t175_13 : zT 175 13 = some (.istore 8, 2, 0, 0, 0, 0) := (congrArg (fun t => List.lookup 13 t) gt175).trans rfl
theorem t175_15 : zT 175 15 = some (.iload 8, 2, 0, 0, 0, 0) := (congrArg (fun t => List.lookup 15 t) gt175).trans rfl
theorem t175_17 : zT 175 17 = some (.sipush 200, 3, 0, 0, 200, 0) := (congrArg (fun t => List.lookup 17 t) gt175).trans rfl
theorem t175_20 : zT 175 20 = some (.if_icmp .ge 31, 3, 51, 0, 0, 0) := (congrArg (fun t => List.lookup 20 t) gt175).trans rfl
theorem t175_23 : zT 175 23 = some (.lload 6, 2, 0, 0, 0, 0) := (congrArg (fun t => List.lookup 23 t) gt175).trans rfl
theorem t175_25 : zT 175 25 = some (.lconst 0, 1, 0, 0, 0, 0) := (congrArg (fun t => List.lookup 25 t) gt175).trans rfl
theorem t175_26 : zT 175 26 = some (.lcmp, 1, 0, 0, 0, 0) := (congrArg (fun t => List.lookup 26 t) gt175).trans rfl
theorem t175_27 : zT 175 27 = some (.ifCond .eq 24, 3, 51, 0, 0, 0) := (congrArg (fun t => List.lookup 27 t) gt175).trans rfl
theorem t175_30 : zT 175 30 = some (.lload 4, 2, 0, 0, 0, 0) := (congrArg (fun t => List.lookup 30 t) gt175).trans rfl
theorem t175_32 : zT 175 32 = some (.lload 6, 2, 0, 0, 0, 0) := (congrArg (fun t => List.lookup 32 t) gt175).trans rfl
theorem t175_34 : zT 175 34 = some (.lrem, 1, 0, 0, 0, 0) := (congrArg (fun t => List.lookup 34 t) gt175).trans rfl
theorem t175_35 : zT 175 35 = some (.lstore 9, 2, 0, 0, 0, 0) := (congrArg (fun t => List.lookup 35 t) gt175).trans rfl
theorem t175_37 : zT 175 37 = some (.lload 6, 2, 0, 0, 0, 0) := (congrArg (fun t => List.lookup 37 t) gt175).trans rfl
theorem t175_39 : zT 175 39 = some (.lstore 4, 2, 0, 0, 0, 0) := (congrArg (fun t => List.lookup 39 t) gt175).trans rfl
theorem t175_41 : zT 175 41 = some (.lload 9, 2, 0, 0, 0, 0) := (congrArg (fun t => List.lookup 41 t) gt175).trans rfl
theorem t175_43 : zT 175 43 = some (.lstore 6, 2, 0, 0, 0, 0) := (congrArg (fun t => List.lookup 43 t) gt175).trans rfl
theorem t175_45 : zT 175 45 = some (.iinc 8 1, 3, 0, 0, 0, 0) := (congrArg (fun t => List.lookup 45 t) gt175).trans rfl
theorem t175_48 : zT 175 48 = some (.goto (-33), 3, 15, 0, 0, 0) := (congrArg (fun t => List.lookup 48 t) gt175).trans rfl
theorem t175_51 : zT 175 51 = some (.lload 4, 2, 0, 0, 0, 0) := (congrArg (fun t => List.lookup 51 t) gt175).trans rfl
theorem t175_53 : zT 175 53 = some (.lreturn, 1, 0, 0, 0, 0) := (congrArg (fun t => List.lookup 53 t) gt175).trans rfl
theorem t176_0 : zT 176 0 = some (.lload_n 0, 1, 0, 0, 0, 0) := (congrArg (fun t => List.lookup 0 t) gt176).trans rfl
theorem t176_1 : zT 176 1 = some (.lload_n 2, 1, 2, 0, 0, 0) := (congrArg (fun t => List.lookup 1 t) gt176).trans rfl
theorem t176_2 : zT 176 2 = some (.invokestatic 412, 3, 175, 1, 0, 1379) := (congrArg (fun t => List.lookup 2 t) gt176).trans rfl
theorem t176_5 : zT 176 5 = some (.lstore 4, 2, 0, 0, 0, 0) := (congrArg (fun t => List.lookup 5 t) gt176).trans rfl
theorem t176_7 : zT 176 7 = some (.lload 4, 2, 0, 0, 0, 0) := (congrArg (fun t => List.lookup 7 t) gt176).trans rfl
theorem t176_9 : zT 176 9 = some (.lconst 0, 1, 0, 0, 0, 0) := (congrArg (fun t => List.lookup 9 t) gt176).trans rfl
theorem t176_10 : zT 176 10 = some (.lcmp, 1, 0, 0, 0, 0) := (congrArg (fun t => List.lookup 10 t) gt176).trans rfl
theorem t176_11 : zT 176 11 = some (.ifCond .ne 7, 3, 18, 0, 0, 0) := (congrArg (fun t => List.lookup 11 t) gt176).trans rfl
theorem t176_14 : zT 176 14 = some (.lconst 1, 1, 0, 0, 1, 0) := (congrArg (fun t => List.lookup 14 t) gt176).trans rfl
theorem t176_15 : zT 176 15 = some (.goto 10, 3, 25, 0, 0, 0) := (congrArg (fun t => List.lookup 15 t) gt176).trans rfl
theorem t176_18 : zT 176 18 = some (.lload_n 2, 1, 2, 0, 0, 0) := (congrArg (fun t => List.lookup 18 t) gt176).trans rfl
theorem t176_19 : zT 176 19 = some (.invokestatic 466, 3, 136, 1, 0, 1382) := (congrArg (fun t => List.lookup 19 t) gt176).trans rfl
theorem t176_22 : zT 176 22 = some (.lload 4, 2, 0, 0, 0, 0) := (congrArg (fun t => List.lookup 22 t) gt176).trans rfl
theorem t176_24 : zT 176 24 = some (.ldiv, 1, 0, 0, 0, 0) := (congrArg (fun t => List.lookup 24 t) gt176).trans rfl
theorem t176_25 : zT 176 25 = some (.lreturn, 1, 0, 0, 0, 0) := (congrArg (fun t => List.lookup 25 t) gt176).trans rfl
theorem t177_0 : zT 177 0 = some (.iload_n 1, 1, 1, 0, 0, 0) := (congrArg (fun t => List.lookup 0 t) gt177).trans rfl
theorem t177_1 : zT 177 1 = some (.ifCond .lt 21, 3, 22, 0, 0, 0) := (congrArg (fun t => List.lookup 1 t) gt177).trans rfl
theorem t177_4 : zT 177 4 = some (.iload_n 1, 1, 1, 0, 0, 0) := (congrArg (fun t => List.lookup 4 t) gt177).trans rfl
theorem t177_5 : zT 177 5 = some (.aload_n 0, 1, 0, 0, 0, 0) := (congrArg (fun t => List.lookup 5 t) gt177).trans rfl
theorem t177_6 : zT 177 6 = some (.getfield 50, 3, 11, 6, 0, 604) := (congrArg (fun t => List.lookup 6 t) gt177).trans rfl
theorem t177_9 : zT 177 9 = some (.aload_n 0, 1, 0, 0, 0, 0) := (congrArg (fun t => List.lookup 9 t) gt177).trans rfl
theorem t177_10 : zT 177 10 = some (.getfield 12, 3, 11, 0, 0, 598) := (congrArg (fun t => List.lookup 10 t) gt177).trans rfl
theorem t177_13 : zT 177 13 = some (.invokevirtual 212, 3, 105, 0, 0, 1068) := (congrArg (fun t => List.lookup 13 t) gt177).trans rfl
theorem t177_16 : zT 177 16 = some (.invokevirtual 312, 3, 152, 0, 0, 1273) := (congrArg (fun t => List.lookup 16 t) gt177).trans rfl
theorem t177_19 : zT 177 19 = some (.if_icmp .lt 6, 3, 25, 0, 0, 0) := (congrArg (fun t => List.lookup 19 t) gt177).trans rfl
theorem t177_22 : zT 177 22 = some (.ldc 196, 2, 0, 0, (-100000), 1066) := (congrArg (fun t => List.lookup 22 t) gt177).trans rfl
theorem t177_24 : zT 177 24 = some (.ireturn, 1, 0, 0, 0, 0) := (congrArg (fun t => List.lookup 24 t) gt177).trans rfl
theorem t177_25 : zT 177 25 = some (.iload_n 2, 1, 2, 0, 0, 0) := (congrArg (fun t => List.lookup 25 t) gt177).trans rfl
theorem t177_26 : zT 177 26 = some (.lookupswitch 44 #[(0, 26), (1, 35)], 26, 0, 0, 0, 0) := (congrArg (fun t => List.lookup 26 t) gt177).trans rfl
theorem t177_52 : zT 177 52 = some (.aload_n 0, 1, 0, 0, 0, 0) := (congrArg (fun t => List.lookup 52 t) gt177).trans rfl
theorem t177_53 : zT 177 53 = some (.getfield 50, 3, 11, 6, 0, 604) := (congrArg (fun t => List.lookup 53 t) gt177).trans rfl
theorem t177_56 : zT 177 56 = some (.iload_n 1, 1, 1, 0, 0, 0) := (congrArg (fun t => List.lookup 56 t) gt177).trans rfl
theorem t177_57 : zT 177 57 = some (.invokevirtual 315, 3, 178, 0, 0, 1390) := (congrArg (fun t => List.lookup 57 t) gt177).trans rfl
theorem t177_60 : zT 177 60 = some (.ireturn, 1, 0, 0, 0, 0) := (congrArg (fun t => List.lookup 60 t) gt177).trans rfl
theorem t177_61 : zT 177 61 = some (.aload_n 0, 1, 0, 0, 0, 0) := (congrArg (fun t => List.lookup 61 t) gt177).trans rfl
theorem t177_62 : zT 177 62 = some (.getfield 50, 3, 11, 6, 0, 604) := (congrArg (fun t => List.lookup 62 t) gt177).trans rfl
theorem t177_65 : zT 177 65 = some (.iload_n 1, 1, 1, 0, 0, 0) := (congrArg (fun t => List.lookup 65 t) gt177).trans rfl
theorem t177_66 : zT 177 66 = some (.invokevirtual 318, 3, 179, 0, 0, 1394) := (congrArg (fun t => List.lookup 66 t) gt177).trans rfl
theorem t177_69 : zT 177 69 = some (.ireturn, 1, 0, 0, 0, 0) := (congrArg (fun t => List.lookup 69 t) gt177).trans rfl
theorem t177_70 : zT 177 70 = some (.ldc 196, 2, 0, 0, (-100000), 1066) := (congrArg (fun t => List.lookup 70 t) gt177).trans rfl
theorem t177_72 : zT 177 72 = some (.ireturn, 1, 0, 0, 0, 0) := (congrArg (fun t => List.lookup 72 t) gt177).trans rfl
theorem t178_0 : zT 178 0 = some (.iload_n 1, 1, 1, 0, 0, 0) := (congrArg (fun t => List.lookup 0 t) gt178).trans rfl
theorem t178_1 : zT 178 1 = some (.ifCond .lt 20, 3, 21, 0, 0, 0) := (congrArg (fun t => List.lookup 1 t) gt178).trans rfl
theorem t178_4 : zT 178 4 = some (.iload_n 1, 1, 1, 0, 0, 0) := (congrArg (fun t => List.lookup 4 t) gt178).trans rfl
theorem t178_5 : zT 178 5 = some (.aload_n 0, 1, 0, 0, 0, 0) := (congrArg (fun t => List.lookup 5 t) gt178).trans rfl
theorem t178_6 : zT 178 6 = some (.getfield 45, 3, 4, 9, 0, 501) := (congrArg (fun t => List.lookup 6 t) gt178).trans rfl
theorem t178_9 : zT 178 9 = some (.if_icmp .ge 12, 3, 21, 0, 0, 0) := (congrArg (fun t => List.lookup 9 t) gt178).trans rfl
theorem t178_12 : zT 178 12 = some (.aload_n 0, 1, 0, 0, 0, 0) := (congrArg (fun t => List.lookup 12 t) gt178).trans rfl
theorem t178_13 : zT 178 13 = some (.getfield 51, 3, 4, 11, 0, 503) := (congrArg (fun t => List.lookup 13 t) gt178).trans rfl
theorem t178_16 : zT 178 16 = some (.iload_n 1, 1, 1, 0, 0, 0) := (congrArg (fun t => List.lookup 16 t) gt178).trans rfl
theorem t178_17 : zT 178 17 = some (.iaload, 1, 0, 0, 0, 0) := (congrArg (fun t => List.lookup 17 t) gt178).trans rfl
theorem t178_18 : zT 178 18 = some (.goto 4, 3, 22, 0, 0, 0) := (congrArg (fun t => List.lookup 18 t) gt178).trans rfl
theorem t178_21 : zT 178 21 = some (.iconst 0, 1, 0, 0, 0, 0) := (congrArg (fun t => List.lookup 21 t) gt178).trans rfl
theorem t178_22 : zT 178 22 = some (.ireturn, 1, 0, 0, 0, 0) := (congrArg (fun t => List.lookup 22 t) gt178).trans rfl
theorem t179_0 : zT 179 0 = some (.aload_n 0, 1, 0, 0, 0, 0) := (congrArg (fun t => List.lookup 0 t) gt179).trans rfl
theorem t179_1 : zT 179 1 = some (.iload_n 1, 1, 1, 0, 0, 0) := (congrArg (fun t => List.lookup 1 t) gt179).trans rfl
theorem t179_2 : zT 179 2 = some (.invokevirtual 147, 3, 178, 0, 0, 1398) := (congrArg (fun t => List.lookup 2 t) gt179).trans rfl
theorem t179_5 : zT 179 5 = some (.istore_n 2, 1, 2, 0, 0, 0) := (congrArg (fun t => List.lookup 5 t) gt179).trans rfl
theorem t179_6 : zT 179 6 = some (.iload_n 2, 1, 2, 0, 0, 0) := (congrArg (fun t => List.lookup 6 t) gt179).trans rfl
theorem t179_7 : zT 179 7 = some (.ifCond .ne 7, 3, 14, 0, 0, 0) := (congrArg (fun t => List.lookup 7 t) gt179).trans rfl
theorem t179_10 : zT 179 10 = some (.iconst 0, 1, 0, 0, 0, 0) := (congrArg (fun t => List.lookup 10 t) gt179).trans rfl
theorem t179_11 : zT 179 11 = some (.goto 13, 3, 24, 0, 0, 0) := (congrArg (fun t => List.lookup 11 t) gt179).trans rfl
theorem t179_14 : zT 179 14 = some (.aload_n 0, 1, 0, 0, 0, 0) := (congrArg (fun t => List.lookup 14 t) gt179).trans rfl
theorem t179_15 : zT 179 15 = some (.getfield 54, 3, 4, 12, 0, 504) := (congrArg (fun t => List.lookup 15 t) gt179).trans rfl
theorem t179_18 : zT 179 18 = some (.iload_n 1, 1, 1, 0, 0, 0) := (congrArg (fun t => List.lookup 18 t) gt179).trans rfl
theorem t179_19 : zT 179 19 = some (.iaload, 1, 0, 0, 0, 0) := (congrArg (fun t => List.lookup 19 t) gt179).trans rfl
theorem t179_20 : zT 179 20 = some (.iload_n 2, 1, 2, 0, 0, 0) := (congrArg (fun t => List.lookup 20 t) gt179).trans rfl
theorem t179_21 : zT 179 21 = some (.invokestatic 150, 3, 54, 1, 0, 1399) := (congrArg (fun t => List.lookup 21 t) gt179).trans rfl
theorem t179_24 : zT 179 24 = some (.ireturn, 1, 0, 0, 0, 0) := (congrArg (fun t => List.lookup 24 t) gt179).trans rfl
theorem t185_0 : zT 185 0 = some (.iconst 0, 1, 0, 0, 0, 0) := (congrArg (fun t => List.lookup 0 t) gt185).trans rfl
theorem t185_1 : zT 185 1 = some (.istore_n 2, 1, 2, 0, 0, 0) := (congrArg (fun t => List.lookup 1 t) gt185).trans rfl
theorem t185_2 : zT 185 2 = some (.iload_n 2, 1, 2, 0, 0, 0) := (congrArg (fun t => List.lookup 2 t) gt185).trans rfl
theorem t185_3 : zT 185 3 = some (.aload_n 0, 1, 0, 0, 0, 0) := (congrArg (fun t => List.lookup 3 t) gt185).trans rfl
theorem t185_4 : zT 185 4 = some (.getfield 61, 3, 6, 13, 0, 191) := (congrArg (fun t => List.lookup 4 t) gt185).trans rfl
theorem t185_7 : zT 185 7 = some (.if_icmp .ge 21, 3, 28, 0, 0, 0) := (congrArg (fun t => List.lookup 7 t) gt185).trans rfl
theorem t185_10 : zT 185 10 = some (.aload_n 0, 1, 0, 0, 0, 0) := (congrArg (fun t => List.lookup 10 t) gt185).trans rfl
theorem t185_11 : zT 185 11 = some (.getfield 64, 3, 6, 14, 0, 193) := (congrArg (fun t => List.lookup 11 t) gt185).trans rfl
theorem t185_14 : zT 185 14 = some (.iload_n 2, 1, 2, 0, 0, 0) := (congrArg (fun t => List.lookup 14 t) gt185).trans rfl
theorem t185_15 : zT 185 15 = some (.baload, 1, 0, 0, 0, 0) := (congrArg (fun t => List.lookup 15 t) gt185).trans rfl
theorem t185_16 : zT 185 16 = some (.iload_n 1, 1, 1, 0, 0, 0) := (congrArg (fun t => List.lookup 16 t) gt185).trans rfl
theorem t185_17 : zT 185 17 = some (.if_icmp .ne 5, 3, 22, 0, 0, 0) := (congrArg (fun t => List.lookup 17 t) gt185).trans rfl
theorem t185_20 : zT 185 20 = some (.iconst 1, 1, 0, 0, 1, 0) := (congrArg (fun t => List.lookup 20 t) gt185).trans rfl
theorem t185_21 : zT 185 21 = some (.ireturn, 1, 0, 0, 0, 0) := (congrArg (fun t => List.lookup 21 t) gt185).trans rfl
theorem t185_22 : zT 185 22 = some (.iinc 2 1, 3, 0, 0, 0, 0) := (congrArg (fun t => List.lookup 22 t) gt185).trans rfl
theorem t185_25 : zT 185 25 = some (.goto (-23), 3, 2, 0, 0, 0) := (congrArg (fun t => List.lookup 25 t) gt185).trans rfl
theorem t185_28 : zT 185 28 = some (.iconst 0, 1, 0, 0, 0, 0) := (congrArg (fun t => List.lookup 28 t) gt185).trans rfl
theorem t185_29 : zT 185 29 = some (.ireturn, 1, 0, 0, 0, 0) := (congrArg (fun t => List.lookup 29 t) gt185).trans rfl
theorem t187_0 : zT 187 0 = some (.iconst 2, 1, 0, 0, 2, 0) := (congrArg (fun t => List.lookup 0 t) gt187).trans rfl
theorem t187_1 : zT 187 1 = some (.aload_n 0, 1, 0, 0, 0, 0) := (congrArg (fun t => List.lookup 1 t) gt187).trans rfl
theorem t187_2 : zT 187 2 = some (.getfield 12, 3, 11, 0, 0, 598) := (congrArg (fun t => List.lookup 2 t) gt187).trans rfl
theorem t187_5 : zT 187 5 = some (.iconst 0, 1, 0, 0, 0, 0) := (congrArg (fun t => List.lookup 5 t) gt187).trans rfl
theorem t187_6 : zT 187 6 = some (.invokevirtual 158, 3, 96, 0, 0, 1029) := (congrArg (fun t => List.lookup 6 t) gt187).trans rfl
theorem t187_9 : zT 187 9 = some (.imul, 1, 0, 0, 0, 0) := (congrArg (fun t => List.lookup 9 t) gt187).trans rfl
theorem t187_10 : zT 187 10 = some (.iconst 1, 1, 0, 0, 1, 0) := (congrArg (fun t => List.lookup 10 t) gt187).trans rfl
theorem t187_11 : zT 187 11 = some (.iadd, 1, 0, 0, 0, 0) := (congrArg (fun t => List.lookup 11 t) gt187).trans rfl
theorem t187_12 : zT 187 12 = some (.istore_n 1, 1, 1, 0, 0, 0) := (congrArg (fun t => List.lookup 12 t) gt187).trans rfl
theorem t187_13 : zT 187 13 = some (.iconst 2, 1, 0, 0, 2, 0) := (congrArg (fun t => List.lookup 13 t) gt187).trans rfl
theorem t187_14 : zT 187 14 = some (.aload_n 0, 1, 0, 0, 0, 0) := (congrArg (fun t => List.lookup 14 t) gt187).trans rfl
theorem t187_15 : zT 187 15 = some (.getfield 12, 3, 11, 0, 0, 598) := (congrArg (fun t => List.lookup 15 t) gt187).trans rfl
theorem t187_18 : zT 187 18 = some (.iconst 1, 1, 0, 0, 1, 0) := (congrArg (fun t => List.lookup 18 t) gt187).trans rfl
theorem t187_19 : zT 187 19 = some (.invokevirtual 158, 3, 96, 0, 0, 1029) := (congrArg (fun t => List.lookup 19 t) gt187).trans rfl
theorem t187_22 : zT 187 22 = some (.imul, 1, 0, 0, 0, 0) := (congrArg (fun t => List.lookup 22 t) gt187).trans rfl
theorem t187_23 : zT 187 23 = some (.iconst 1, 1, 0, 0, 1, 0) := (congrArg (fun t => List.lookup 23 t) gt187).trans rfl
theorem t187_24 : zT 187 24 = some (.iadd, 1, 0, 0, 0, 0) := (congrArg (fun t => List.lookup 24 t) gt187).trans rfl
theorem t187_25 : zT 187 25 = some (.istore_n 2, 1, 2, 0, 0, 0) := (congrArg (fun t => List.lookup 25 t) gt187).trans rfl
theorem t187_26 : zT 187 26 = some (.aload_n 0, 1, 0, 0, 0, 0) := (congrArg (fun t => List.lookup 26 t) gt187).trans rfl
theorem t187_27 : zT 187 27 = some (.getfield 12, 3, 11, 0, 0, 598) := (congrArg (fun t => List.lookup 27 t) gt187).trans rfl
theorem t187_30 : zT 187 30 = some (.invokevirtual 170, 3, 92, 0, 0, 1010) := (congrArg (fun t => List.lookup 30 t) gt187).trans rfl
theorem t187_33 : zT 187 33 = some (.iload_n 1, 1, 1, 0, 0, 0) := (congrArg (fun t => List.lookup 33 t) gt187).trans rfl
theorem t187_34 : zT 187 34 = some (.imul, 1, 0, 0, 0, 0) := (congrArg (fun t => List.lookup 34 t) gt187).trans rfl
theorem t187_35 : zT 187 35 = some (.iload_n 2, 1, 2, 0, 0, 0) := (congrArg (fun t => List.lookup 35 t) gt187).trans rfl
theorem t187_36 : zT 187 36 = some (.imul, 1, 0, 0, 0, 0) := (congrArg (fun t => List.lookup 36 t) gt187).trans rfl
theorem t187_37 : zT 187 37 = some (.bipush 10, 2, 0, 0, 10, 0) := (congrArg (fun t => List.lookup 37 t) gt187).trans rfl
theorem t187_39 : zT 187 39 = some (.aload_n 0, 1, 0, 0, 0, 0) := (congrArg (fun t => List.lookup 39 t) gt187).trans rfl
theorem t187_40 : zT 187 40 = some (.getfield 50, 3, 11, 6, 0, 604) := (congrArg (fun t => List.lookup 40 t) gt187).trans rfl
theorem t187_43 : zT 187 43 = some (.aload_n 0, 1, 0, 0, 0, 0) := (congrArg (fun t => List.lookup 43 t) gt187).trans rfl
theorem t187_44 : zT 187 44 = some (.getfield 12, 3, 11, 0, 0, 598) := (congrArg (fun t => List.lookup 44 t) gt187).trans rfl
theorem t187_47 : zT 187 47 = some (.invokevirtual 212, 3, 105, 0, 0, 1068) := (congrArg (fun t => List.lookup 47 t) gt187).trans rfl
theorem t187_50 : zT 187 50 = some (.invokevirtual 234, 3, 144, 0, 0, 1237) := (congrArg (fun t => List.lookup 50 t) gt187).trans rfl
theorem t187_53 : zT 187 53 = some (.imul, 1, 0, 0, 0, 0) := (congrArg (fun t => List.lookup 53 t) gt187).trans rfl
theorem t187_54 : zT 187 54 = some (.iadd, 1, 0, 0, 0, 0) := (congrArg (fun t => List.lookup 54 t) gt187).trans rfl
theorem t187_55 : zT 187 55 = some (.ireturn, 1, 0, 0, 0, 0) := (congrArg (fun t => List.lookup 55 t) gt187).trans rfl
theorem t188_0 : zT 188 0 = some (.iload_n 1, 1, 1, 0, 0, 0) := (congrArg (fun t => List.lookup 0 t) gt188).trans rfl
theorem t188_1 : zT 188 1 = some (.iload_n 2, 1, 2, 0, 0, 0) := (congrArg (fun t => List.lookup 1 t) gt188).trans rfl
theorem t188_2 : zT 188 2 = some (.iload 4, 2, 0, 0, 0, 0) := (congrArg (fun t => List.lookup 2 t) gt188).trans rfl
theorem t188_4 : zT 188 4 = some (.invokestatic 364, 3, 189, 1, 0, 1443) := (congrArg (fun t => List.lookup 4 t) gt188).trans rfl
theorem t188_7 : zT 188 7 = some (.ifCond .eq 13, 3, 20, 0, 0, 0) := (congrArg (fun t => List.lookup 7 t) gt188).trans rfl
theorem t188_10 : zT 188 10 = some (.iload_n 3, 1, 3, 0, 0, 0) := (congrArg (fun t => List.lookup 10 t) gt188).trans rfl
theorem t188_11 : zT 188 11 = some (.iconst 1, 1, 0, 0, 1, 0) := (congrArg (fun t => List.lookup 11 t) gt188).trans rfl
theorem t188_12 : zT 188 12 = some (.bipush 8, 2, 0, 0, 8, 0) := (congrArg (fun t => List.lookup 12 t) gt188).trans rfl
theorem t188_14 : zT 188 14 = some (.invokestatic 246, 3, 39, 1, 0, 1028) := (congrArg (fun t => List.lookup 14 t) gt188).trans rfl
theorem t188_17 : zT 188 17 = some (.ifCond .ne 5, 3, 22, 0, 0, 0) := (congrArg (fun t => List.lookup 17 t) gt188).trans rfl
theorem t188_20 : zT 188 20 = some (.iconst (-1), 1, 0, 0, (-1), 0) := (congrArg (fun t => List.lookup 20 t) gt188).trans rfl
theorem t188_21 : zT 188 21 = some (.ireturn, 1, 0, 0, 0, 0) := (congrArg (fun t => List.lookup 21 t) gt188).trans rfl
theorem t188_22 : zT 188 22 = some (.aload_n 0, 1, 0, 0, 0, 0) := (congrArg (fun t => List.lookup 22 t) gt188).trans rfl
theorem t188_23 : zT 188 23 = some (.invokevirtual 367, 3, 187, 0, 0, 1446) := (congrArg (fun t => List.lookup 23 t) gt188).trans rfl
theorem t188_26 : zT 188 26 = some (.aload_n 0, 1, 0, 0, 0, 0) := (congrArg (fun t => List.lookup 26 t) gt188).trans rfl
theorem t188_27 : zT 188 27 = some (.getfield 12, 3, 11, 0, 0, 598) := (congrArg (fun t => List.lookup 27 t) gt188).trans rfl
theorem t188_30 : zT 188 30 = some (.bipush 7, 2, 0, 0, 7, 0) := (congrArg (fun t => List.lookup 30 t) gt188).trans rfl
theorem t188_32 : zT 188 32 = some (.invokevirtual 158, 3, 96, 0, 0, 1029) := (congrArg (fun t => List.lookup 32 t) gt188).trans rfl
theorem t188_35 : zT 188 35 = some (.invokestatic 370, 3, 190, 1, 0, 1447) := (congrArg (fun t => List.lookup 35 t) gt188).trans rfl
theorem t188_38 : zT 188 38 = some (.istore 6, 2, 0, 0, 0, 0) := (congrArg (fun t => List.lookup 38 t) gt188).trans rfl
theorem t188_40 : zT 188 40 = some (.aload_n 0, 1, 0, 0, 0, 0) := (congrArg (fun t => List.lookup 40 t) gt188).trans rfl
theorem t188_41 : zT 188 41 = some (.getfield 64, 3, 11, 8, 0, 606) := (congrArg (fun t => List.lookup 41 t) gt188).trans rfl
theorem t188_44 : zT 188 44 = some (.iload_n 1, 1, 1, 0, 0, 0) := (congrArg (fun t => List.lookup 44 t) gt188).trans rfl
theorem t188_45 : zT 188 45 = some (.iload_n 2, 1, 2, 0, 0, 0) := (congrArg (fun t => List.lookup 45 t) gt188).trans rfl
theorem t188_46 : zT 188 46 = some (.iload_n 3, 1, 3, 0, 0, 0) := (congrArg (fun t => List.lookup 46 t) gt188).trans rfl
theorem t188_47 : zT 188 47 = some (.iload 4, 2, 0, 0, 0, 0) := (congrArg (fun t => List.lookup 47 t) gt188).trans rfl
theorem t188_49 : zT 188 49 = some (.iload 6, 2, 0, 0, 0, 0) := (congrArg (fun t => List.lookup 49 t) gt188).trans rfl
theorem t188_51 : zT 188 51 = some (.aload_n 0, 1, 0, 0, 0, 0) := (congrArg (fun t => List.lookup 51 t) gt188).trans rfl
theorem t188_52 : zT 188 52 = some (.getfield 12, 3, 11, 0, 0, 598) := (congrArg (fun t => List.lookup 52 t) gt188).trans rfl
theorem t188_55 : zT 188 55 = some (.bipush 8, 2, 0, 0, 8, 0) := (congrArg (fun t => List.lookup 55 t) gt188).trans rfl
theorem t188_57 : zT 188 57 = some (.invokevirtual 158, 3, 96, 0, 0, 1029) := (congrArg (fun t => List.lookup 57 t) gt188).trans rfl
theorem t188_60 : zT 188 60 = some (.invokevirtual 373, 3, 191, 0, 0, 1451) := (congrArg (fun t => List.lookup 60 t) gt188).trans rfl
theorem t188_63 : zT 188 63 = some (.iload 5, 2, 0, 0, 0, 0) := (congrArg (fun t => List.lookup 63 t) gt188).trans rfl
theorem t188_65 : zT 188 65 = some (.tableswitch 63 0 3 #[31, 39, 47, 55], 31, 0, 0, 0, 0) := (congrArg (fun t => List.lookup 65 t) gt188).trans rfl
theorem t188_96 : zT 188 96 = some (.aload_n 0, 1, 0, 0, 0, 0) := (congrArg (fun t => List.lookup 96 t) gt188).trans rfl
theorem t188_97 : zT 188 97 = some (.getfield 64, 3, 11, 8, 0, 606) := (congrArg (fun t => List.lookup 97 t) gt188).trans rfl
theorem t188_100 : zT 188 100 = some (.getfield 377, 3, 10, 0, 0, 576) := (congrArg (fun t => List.lookup 100 t) gt188).trans rfl
theorem t188_103 : zT 188 103 = some (.ireturn, 1, 0, 0, 0, 0) := (congrArg (fun t => List.lookup 103 t) gt188).trans rfl
theorem t188_104 : zT 188 104 = some (.aload_n 0, 1, 0, 0, 0, 0) := (congrArg (fun t => List.lookup 104 t) gt188).trans rfl
theorem t188_105 : zT 188 105 = some (.getfield 64, 3, 11, 8, 0, 606) := (congrArg (fun t => List.lookup 105 t) gt188).trans rfl
theorem t188_108 : zT 188 108 = some (.getfield 380, 3, 10, 1, 0, 578) := (congrArg (fun t => List.lookup 108 t) gt188).trans rfl
theorem t188_111 : zT 188 111 = some (.ireturn, 1, 0, 0, 0, 0) := (congrArg (fun t => List.lookup 111 t) gt188).trans rfl
theorem t188_112 : zT 188 112 = some (.aload_n 0, 1, 0, 0, 0, 0) := (congrArg (fun t => List.lookup 112 t) gt188).trans rfl
theorem t188_113 : zT 188 113 = some (.getfield 64, 3, 11, 8, 0, 606) := (congrArg (fun t => List.lookup 113 t) gt188).trans rfl
theorem t188_116 : zT 188 116 = some (.getfield 383, 3, 10, 2, 0, 580) := (congrArg (fun t => List.lookup 116 t) gt188).trans rfl
theorem t188_119 : zT 188 119 = some (.ireturn, 1, 0, 0, 0, 0) := (congrArg (fun t => List.lookup 119 t) gt188).trans rfl
theorem t188_120 : zT 188 120 = some (.aload_n 0, 1, 0, 0, 0, 0) := (congrArg (fun t => List.lookup 120 t) gt188).trans rfl
theorem t188_121 : zT 188 121 = some (.getfield 64, 3, 11, 8, 0, 606) := (congrArg (fun t => List.lookup 121 t) gt188).trans rfl
theorem t188_124 : zT 188 124 = some (.getfield 386, 3, 10, 3, 0, 582) := (congrArg (fun t => List.lookup 124 t) gt188).trans rfl
theorem t188_127 : zT 188 127 = some (.ireturn, 1, 0, 0, 0, 0) := (congrArg (fun t => List.lookup 127 t) gt188).trans rfl
theorem t188_128 : zT 188 128 = some (.iconst (-1), 1, 0, 0, (-1), 0) := (congrArg (fun t => List.lookup 128 t) gt188).trans rfl
theorem t188_129 : zT 188 129 = some (.ireturn, 1, 0, 0, 0, 0) := (congrArg (fun t => List.lookup 129 t) gt188).trans rfl
theorem t189_0 : zT 189 0 = some (.iload_n 0, 1, 0, 0, 0, 0) := (congrArg (fun t => List.lookup 0 t) gt189).trans rfl
theorem t189_1 : zT 189 1 = some (.iconst 1, 1, 0, 0, 1, 0) := (congrArg (fun t => List.lookup 1 t) gt189).trans rfl
theorem t189_2 : zT 189 2 = some (.sipush 200, 3, 0, 0, 200, 0) := (congrArg (fun t => List.lookup 2 t) gt189).trans rfl
theorem t189_5 : zT 189 5 = some (.invokestatic 246, 3, 39, 1, 0, 1028) := (congrArg (fun t => List.lookup 5 t) gt189).trans rfl
theorem t189_8 : zT 189 8 = some (.ifCond .eq 28, 3, 36, 0, 0, 0) := (congrArg (fun t => List.lookup 8 t) gt189).trans rfl
theorem t189_11 : zT 189 11 = some (.iload_n 1, 1, 1, 0, 0, 0) := (congrArg (fun t => List.lookup 11 t) gt189).trans rfl
theorem t189_12 : zT 189 12 = some (.iconst 1, 1, 0, 0, 1, 0) := (congrArg (fun t => List.lookup 12 t) gt189).trans rfl
theorem t189_13 : zT 189 13 = some (.sipush 999, 3, 0, 0, 999, 0) := (congrArg (fun t => List.lookup 13 t) gt189).trans rfl
theorem t189_16 : zT 189 16 = some (.invokestatic 246, 3, 39, 1, 0, 1028) := (congrArg (fun t => List.lookup 16 t) gt189).trans rfl
theorem t189_19 : zT 189 19 = some (.ifCond .eq 17, 3, 36, 0, 0, 0) := (congrArg (fun t => List.lookup 19 t) gt189).trans rfl
theorem t189_22 : zT 189 22 = some (.iload_n 2, 1, 2, 0, 0, 0) := (congrArg (fun t => List.lookup 22 t) gt189).trans rfl
theorem t189_23 : zT 189 23 = some (.iconst 0, 1, 0, 0, 0, 0) := (congrArg (fun t => List.lookup 23 t) gt189).trans rfl
theorem t189_24 : zT 189 24 = some (.bipush 50, 2, 0, 0, 50, 0) := (congrArg (fun t => List.lookup 24 t) gt189).trans rfl
theorem t189_26 : zT 189 26 = some (.invokestatic 246, 3, 39, 1, 0, 1028) := (congrArg (fun t => List.lookup 26 t) gt189).trans rfl
theorem t189_29 : zT 189 29 = some (.ifCond .eq 7, 3, 36, 0, 0, 0) := (congrArg (fun t => List.lookup 29 t) gt189).trans rfl
theorem t189_32 : zT 189 32 = some (.iconst 1, 1, 0, 0, 1, 0) := (congrArg (fun t => List.lookup 32 t) gt189).trans rfl
theorem t189_33 : zT 189 33 = some (.goto 4, 3, 37, 0, 0, 0) := (congrArg (fun t => List.lookup 33 t) gt189).trans rfl
theorem t189_36 : zT 189 36 = some (.iconst 0, 1, 0, 0, 0, 0) := (congrArg (fun t => List.lookup 36 t) gt189).trans rfl
theorem t189_37 : zT 189 37 = some (.ireturn, 1, 0, 0, 0, 0) := (congrArg (fun t => List.lookup 37 t) gt189).trans rfl
theorem t190_0 : zT 190 0 = some (.iload_n 1, 1, 1, 0, 0, 0) := (congrArg (fun t => List.lookup 0 t) gt190).trans rfl
theorem t190_1 : zT 190 1 = some (.iconst 1, 1, 0, 0, 1, 0) := (congrArg (fun t => List.lookup 1 t) gt190).trans rfl
theorem t190_2 : zT 190 2 = some (.if_icmp .ge 7, 3, 9, 0, 0, 0) := (congrArg (fun t => List.lookup 2 t) gt190).trans rfl
theorem t190_5 : zT 190 5 = some (.iconst 1, 1, 0, 0, 1, 0) := (congrArg (fun t => List.lookup 5 t) gt190).trans rfl
theorem t190_6 : zT 190 6 = some (.goto 14, 3, 20, 0, 0, 0) := (congrArg (fun t => List.lookup 6 t) gt190).trans rfl
theorem t190_9 : zT 190 9 = some (.iconst 1, 1, 0, 0, 1, 0) := (congrArg (fun t => List.lookup 9 t) gt190).trans rfl
theorem t190_10 : zT 190 10 = some (.iload_n 0, 1, 0, 0, 0, 0) := (congrArg (fun t => List.lookup 10 t) gt190).trans rfl
theorem t190_11 : zT 190 11 = some (.iload_n 1, 1, 1, 0, 0, 0) := (congrArg (fun t => List.lookup 11 t) gt190).trans rfl
theorem t190_12 : zT 190 12 = some (.iadd, 1, 0, 0, 0, 0) := (congrArg (fun t => List.lookup 12 t) gt190).trans rfl
theorem t190_13 : zT 190 13 = some (.iconst 1, 1, 0, 0, 1, 0) := (congrArg (fun t => List.lookup 13 t) gt190).trans rfl
theorem t190_14 : zT 190 14 = some (.isub, 1, 0, 0, 0, 0) := (congrArg (fun t => List.lookup 14 t) gt190).trans rfl
theorem t190_15 : zT 190 15 = some (.iload_n 1, 1, 1, 0, 0, 0) := (congrArg (fun t => List.lookup 15 t) gt190).trans rfl
theorem t190_16 : zT 190 16 = some (.idiv, 1, 0, 0, 0, 0) := (congrArg (fun t => List.lookup 16 t) gt190).trans rfl
theorem t190_17 : zT 190 17 = some (.invokestatic 359, 3, 21, 1, 0, 1450) := (congrArg (fun t => List.lookup 17 t) gt190).trans rfl
theorem t190_20 : zT 190 20 = some (.ireturn, 1, 0, 0, 0, 0) := (congrArg (fun t => List.lookup 20 t) gt190).trans rfl
theorem t191_0 : zT 191 0 = some (.aload_n 0, 1, 0, 0, 0, 0) := (congrArg (fun t => List.lookup 0 t) gt191).trans rfl
theorem t191_1 : zT 191 1 = some (.iconst 0, 1, 0, 0, 0, 0) := (congrArg (fun t => List.lookup 1 t) gt191).trans rfl
theorem t191_2 : zT 191 2 = some (.putfield 9, 3, 10, 0, 0, 575) := (congrArg (fun t => List.lookup 2 t) gt191).trans rfl
theorem t191_5 : zT 191 5 = some (.aload_n 0, 1, 0, 0, 0, 0) := (congrArg (fun t => List.lookup 5 t) gt191).trans rfl
theorem t191_6 : zT 191 6 = some (.iconst 0, 1, 0, 0, 0, 0) := (congrArg (fun t => List.lookup 6 t) gt191).trans rfl
theorem t191_7 : zT 191 7 = some (.putfield 15, 3, 10, 1, 0, 577) := (congrArg (fun t => List.lookup 7 t) gt191).trans rfl
theorem t191_10 : zT 191 10 = some (.aload_n 0, 1, 0, 0, 0, 0) := (congrArg (fun t => List.lookup 10 t) gt191).trans rfl
theorem t191_11 : zT 191 11 = some (.iconst 0, 1, 0, 0, 0, 0) := (congrArg (fun t => List.lookup 11 t) gt191).trans rfl
theorem t191_12 : zT 191 12 = some (.putfield 18, 3, 10, 2, 0, 579) := (congrArg (fun t => List.lookup 12 t) gt191).trans rfl
theorem t191_15 : zT 191 15 = some (.aload_n 0, 1, 0, 0, 0, 0) := (congrArg (fun t => List.lookup 15 t) gt191).trans rfl
theorem t191_16 : zT 191 16 = some (.iconst 0, 1, 0, 0, 0, 0) := (congrArg (fun t => List.lookup 16 t) gt191).trans rfl
theorem t191_17 : zT 191 17 = some (.putfield 21, 3, 10, 3, 0, 581) := (congrArg (fun t => List.lookup 17 t) gt191).trans rfl
theorem t191_20 : zT 191 20 = some (.iconst 0, 1, 0, 0, 0, 0) := (congrArg (fun t => List.lookup 20 t) gt191).trans rfl
theorem t191_21 : zT 191 21 = some (.istore 7, 2, 0, 0, 0, 0) := (congrArg (fun t => List.lookup 21 t) gt191).trans rfl
theorem t191_23 : zT 191 23 = some (.iload 7, 2, 0, 0, 0, 0) := (congrArg (fun t => List.lookup 23 t) gt191).trans rfl
theorem t191_25 : zT 191 25 = some (.bipush 8, 2, 0, 0, 8, 0) := (congrArg (fun t => List.lookup 25 t) gt191).trans rfl
theorem t191_27 : zT 191 27 = some (.if_icmp .ge 17, 3, 44, 0, 0, 0) := (congrArg (fun t => List.lookup 27 t) gt191).trans rfl
theorem t191_30 : zT 191 30 = some (.aload_n 0, 1, 0, 0, 0, 0) := (congrArg (fun t => List.lookup 30 t) gt191).trans rfl
theorem t191_31 : zT 191 31 = some (.getfield 24, 3, 10, 4, 0, 583) := (congrArg (fun t => List.lookup 31 t) gt191).trans rfl
theorem t191_34 : zT 191 34 = some (.iload 7, 2, 0, 0, 0, 0) := (congrArg (fun t => List.lookup 34 t) gt191).trans rfl
theorem t191_36 : zT 191 36 = some (.iconst 0, 1, 0, 0, 0, 0) := (congrArg (fun t => List.lookup 36 t) gt191).trans rfl
theorem t191_37 : zT 191 37 = some (.iastore, 1, 0, 0, 0, 0) := (congrArg (fun t => List.lookup 37 t) gt191).trans rfl
theorem t191_38 : zT 191 38 = some (.iinc 7 1, 3, 0, 0, 0, 0) := (congrArg (fun t => List.lookup 38 t) gt191).trans rfl
theorem t191_41 : zT 191 41 = some (.goto (-18), 3, 23, 0, 0, 0) := (congrArg (fun t => List.lookup 41 t) gt191).trans rfl
theorem t191_44 : zT 191 44 = some (.iconst 0, 1, 0, 0, 0, 0) := (congrArg (fun t => List.lookup 44 t) gt191).trans rfl
theorem t191_45 : zT 191 45 = some (.istore 7, 2, 0, 0, 0, 0) := (congrArg (fun t => List.lookup 45 t) gt191).trans rfl
theorem t191_47 : zT 191 47 = some (.iconst 0, 1, 0, 0, 0, 0) := (congrArg (fun t => List.lookup 47 t) gt191).trans rfl
theorem t191_48 : zT 191 48 = some (.istore 8, 2, 0, 0, 0, 0) := (congrArg (fun t => List.lookup 48 t) gt191).trans rfl
theorem t191_50 : zT 191 50 = some (.iconst 0, 1, 0, 0, 0, 0) := (congrArg (fun t => List.lookup 50 t) gt191).trans rfl
theorem t191_51 : zT 191 51 = some (.istore 9, 2, 0, 0, 0, 0) := (congrArg (fun t => List.lookup 51 t) gt191).trans rfl
theorem t191_53 : zT 191 53 = some (.iload 9, 2, 0, 0, 0, 0) := (congrArg (fun t => List.lookup 53 t) gt191).trans rfl
theorem t191_55 : zT 191 55 = some (.iload_n 1, 1, 1, 0, 0, 0) := (congrArg (fun t => List.lookup 55 t) gt191).trans rfl
theorem t191_56 : zT 191 56 = some (.if_icmp .ge 185, 3, 241, 0, 0, 0) := (congrArg (fun t => List.lookup 56 t) gt191).trans rfl
theorem t191_59 : zT 191 59 = some (.iload 7, 2, 0, 0, 0, 0) := (congrArg (fun t => List.lookup 59 t) gt191).trans rfl
theorem t191_61 : zT 191 61 = some (.sipush 200, 3, 0, 0, 200, 0) := (congrArg (fun t => List.lookup 61 t) gt191).trans rfl
theorem t191_64 : zT 191 64 = some (.if_icmp .ge 177, 3, 241, 0, 0, 0) := (congrArg (fun t => List.lookup 64 t) gt191).trans rfl
theorem t191_67 : zT 191 67 = some (.iload 9, 2, 0, 0, 0, 0) := (congrArg (fun t => List.lookup 67 t) gt191).trans rfl
theorem t191_69 : zT 191 69 = some (.iload_n 2, 1, 2, 0, 0, 0) := (congrArg (fun t => List.lookup 69 t) gt191).trans rfl
theorem t191_70 : zT 191 70 = some (.imul, 1, 0, 0, 0, 0) := (congrArg (fun t => List.lookup 70 t) gt191).trans rfl
theorem t191_71 : zT 191 71 = some (.istore 10, 2, 0, 0, 0, 0) := (congrArg (fun t => List.lookup 71 t) gt191).trans rfl
theorem t191_73 : zT 191 73 = some (.iload 8, 2, 0, 0, 0, 0) := (congrArg (fun t => List.lookup 73 t) gt191).trans rfl
theorem t191_75 : zT 191 75 = some (.iload 7, 2, 0, 0, 0, 0) := (congrArg (fun t => List.lookup 75 t) gt191).trans rfl
theorem t191_77 : zT 191 77 = some (.if_icmp .ge 21, 3, 98, 0, 0, 0) := (congrArg (fun t => List.lookup 77 t) gt191).trans rfl
theorem t191_80 : zT 191 80 = some (.aload_n 0, 1, 0, 0, 0, 0) := (congrArg (fun t => List.lookup 80 t) gt191).trans rfl
theorem t191_81 : zT 191 81 = some (.getfield 28, 3, 10, 5, 0, 584) := (congrArg (fun t => List.lookup 81 t) gt191).trans rfl
theorem t191_84 : zT 191 84 = some (.iload 8, 2, 0, 0, 0, 0) := (congrArg (fun t => List.lookup 84 t) gt191).trans rfl
theorem t191_86 : zT 191 86 = some (.iaload, 1, 0, 0, 0, 0) := (congrArg (fun t => List.lookup 86 t) gt191).trans rfl
theorem t191_87 : zT 191 87 = some (.iload 10, 2, 0, 0, 0, 0) := (congrArg (fun t => List.lookup 87 t) gt191).trans rfl
theorem t191_89 : zT 191 89 = some (.if_icmp .gt 9, 3, 98, 0, 0, 0) := (congrArg (fun t => List.lookup 89 t) gt191).trans rfl
theorem t191_92 : zT 191 92 = some (.iinc 8 1, 3, 0, 0, 0, 0) := (congrArg (fun t => List.lookup 92 t) gt191).trans rfl
theorem t191_95 : zT 191 95 = some (.goto (-22), 3, 73, 0, 0, 0) := (congrArg (fun t => List.lookup 95 t) gt191).trans rfl
theorem t191_98 : zT 191 98 = some (.aload_n 0, 1, 0, 0, 0, 0) := (congrArg (fun t => List.lookup 98 t) gt191).trans rfl
theorem t191_99 : zT 191 99 = some (.iload_n 3, 1, 3, 0, 0, 0) := (congrArg (fun t => List.lookup 99 t) gt191).trans rfl
theorem t191_100 : zT 191 100 = some (.invokevirtual 31, 3, 192, 0, 0, 1455) := (congrArg (fun t => List.lookup 100 t) gt191).trans rfl
theorem t191_103 : zT 191 103 = some (.istore 11, 2, 0, 0, 0, 0) := (congrArg (fun t => List.lookup 103 t) gt191).trans rfl
theorem t191_105 : zT 191 105 = some (.iload 10, 2, 0, 0, 0, 0) := (congrArg (fun t => List.lookup 105 t) gt191).trans rfl
theorem t191_107 : zT 191 107 = some (.aload_n 0, 1, 0, 0, 0, 0) := (congrArg (fun t => List.lookup 107 t) gt191).trans rfl
theorem t191_108 : zT 191 108 = some (.getfield 24, 3, 10, 4, 0, 583) := (congrArg (fun t => List.lookup 108 t) gt191).trans rfl
theorem t191_111 : zT 191 111 = some (.iload 11, 2, 0, 0, 0, 0) := (congrArg (fun t => List.lookup 111 t) gt191).trans rfl
theorem t191_113 : zT 191 113 = some (.iaload, 1, 0, 0, 0, 0) := (congrArg (fun t => List.lookup 113 t) gt191).trans rfl
theorem t191_114 : zT 191 114 = some (.invokestatic 35, 3, 21, 1, 0, 1459) := (congrArg (fun t => List.lookup 114 t) gt191).trans rfl
theorem t191_117 : zT 191 117 = some (.istore 12, 2, 0, 0, 0, 0) := (congrArg (fun t => List.lookup 117 t) gt191).trans rfl
theorem t191_119 : zT 191 119 = some (.iload 12, 2, 0, 0, 0, 0) := (congrArg (fun t => List.lookup 119 t) gt191).trans rfl
theorem t191_121 : zT 191 121 = some (.iload 10, 2, 0, 0, 0, 0) := (congrArg (fun t => List.lookup 121 t) gt191).trans rfl
theorem t191_123 : zT 191 123 = some (.if_icmp .le 26, 3, 149, 0, 0, 0) := (congrArg (fun t => List.lookup 123 t) gt191).trans rfl
theorem t191_126 : zT 191 126 = some (.iload 7, 2, 0, 0, 0, 0) := (congrArg (fun t => List.lookup 126 t) gt191).trans rfl
theorem t191_128 : zT 191 128 = some (.iload 8, 2, 0, 0, 0, 0) := (congrArg (fun t => List.lookup 128 t) gt191).trans rfl
theorem t191_130 : zT 191 130 = some (.isub, 1, 0, 0, 0, 0) := (congrArg (fun t => List.lookup 130 t) gt191).trans rfl
theorem t191_131 : zT 191 131 = some (.iload 4, 2, 0, 0, 0, 0) := (congrArg (fun t => List.lookup 131 t) gt191).trans rfl
theorem t191_133 : zT 191 133 = some (.if_icmp .lt 16, 3, 149, 0, 0, 0) := (congrArg (fun t => List.lookup 133 t) gt191).trans rfl
theorem t191_136 : zT 191 136 = some (.aload_n 0, 1, 0, 0, 0, 0) := (congrArg (fun t => List.lookup 136 t) gt191).trans (by decide +kernel)
theorem t191_137 : zT 191 137 = some (.dup, 1, 0, 0, 0, 0) := (congrArg (fun t => List.lookup 137 t) gt191).trans (by decide +kernel)
theorem t191_138 : zT 191 138 = some (.getfield 9, 3, 10, 0, 0, 575) := (congrArg (fun t => List.lookup 138 t) gt191).trans (by decide +kernel)
theorem t191_141 : zT 191 141 = some (.iconst 1, 1, 0, 0, 1, 0) := (congrArg (fun t => List.lookup 141 t) gt191).trans (by decide +kernel)
theorem t191_142 : zT 191 142 = some (.iadd, 1, 0, 0, 0, 0) := (congrArg (fun t => List.lookup 142 t) gt191).trans (by decide +kernel)
theorem t191_143 : zT 191 143 = some (.putfield 9, 3, 10, 0, 0, 575) := (congrArg (fun t => List.lookup 143 t) gt191).trans (by decide +kernel)
theorem t191_146 : zT 191 146 = some (.goto 89, 3, 235, 0, 0, 0) := (congrArg (fun t => List.lookup 146 t) gt191).trans (by decide +kernel)
theorem t191_149 : zT 191 149 = some (.aload_n 0, 1, 0, 0, 0, 0) := (congrArg (fun t => List.lookup 149 t) gt191).trans (by decide +kernel)
theorem t191_150 : zT 191 150 = some (.getfield 28, 3, 10, 5, 0, 584) := (congrArg (fun t => List.lookup 150 t) gt191).trans (by decide +kernel)
theorem t191_153 : zT 191 153 = some (.iload 7, 2, 0, 0, 0, 0) := (congrArg (fun t => List.lookup 153 t) gt191).trans (by decide +kernel)
theorem t191_155 : zT 191 155 = some (.iload 12, 2, 0, 0, 0, 0) := (congrArg (fun t => List.lookup 155 t) gt191).trans (by decide +kernel)
theorem t191_157 : zT 191 157 = some (.iastore, 1, 0, 0, 0, 0) := (congrArg (fun t => List.lookup 157 t) gt191).trans (by decide +kernel)
theorem t191_158 : zT 191 158 = some (.iinc 7 1, 3, 0, 0, 0, 0) := (congrArg (fun t => List.lookup 158 t) gt191).trans (by decide +kernel)
theorem t191_161 : zT 191 161 = some (.aload_n 0, 1, 0, 0, 0, 0) := (congrArg (fun t => List.lookup 161 t) gt191).trans (by decide +kernel)
theorem t191_162 : zT 191 162 = some (.getfield 24, 3, 10, 4, 0, 583) := (congrArg (fun t => List.lookup 162 t) gt191).trans (by decide +kernel)
theorem t191_165 : zT 191 165 = some (.iload 11, 2, 0, 0, 0, 0) := (congrArg (fun t => List.lookup 165 t) gt191).trans (by decide +kernel)
theorem t191_167 : zT 191 167 = some (.iload 12, 2, 0, 0, 0, 0) := (congrArg (fun t => List.lookup 167 t) gt191).trans (by decide +kernel)
theorem t191_169 : zT 191 169 = some (.iload 5, 2, 0, 0, 0, 0) := (congrArg (fun t => List.lookup 169 t) gt191).trans (by decide +kernel)
theorem t191_171 : zT 191 171 = some (.iadd, 1, 0, 0, 0, 0) := (congrArg (fun t => List.lookup 171 t) gt191).trans (by decide +kernel)
theorem t191_172 : zT 191 172 = some (.iastore, 1, 0, 0, 0, 0) := (congrArg (fun t => List.lookup 172 t) gt191).trans (by decide +kernel)
theorem t191_173 : zT 191 173 = some (.iload 12, 2, 0, 0, 0, 0) := (congrArg (fun t => List.lookup 173 t) gt191).trans (by decide +kernel)
theorem t191_175 : zT 191 175 = some (.iload 10, 2, 0, 0, 0, 0) := (congrArg (fun t => List.lookup 175 t) gt191).trans (by decide +kernel)
theorem t191_177 : zT 191 177 = some (.if_icmp .le 19, 3, 196, 0, 0, 0) := (congrArg (fun t => List.lookup 177 t) gt191).trans (by decide +kernel)
theorem t191_180 : zT 191 180 = some (.aload_n 0, 1, 0, 0, 0, 0) := (congrArg (fun t => List.lookup 180 t) gt191).trans (by decide +kernel)
theorem t191_181 : zT 191 181 = some (.aload_n 0, 1, 0, 0, 0, 0) := (congrArg (fun t => List.lookup 181 t) gt191).trans (by decide +kernel)
theorem t191_182 : zT 191 182 = some (.getfield 18, 3, 10, 2, 0, 579) := (congrArg (fun t => List.lookup 182 t) gt191).trans (by decide +kernel)
theorem t191_185 : zT 191 185 = some (.iload 7, 2, 0, 0, 0, 0) := (congrArg (fun t => List.lookup 185 t) gt191).trans (by decide +kernel)
theorem t191_187 : zT 191 187 = some (.iload 8, 2, 0, 0, 0, 0) := (congrArg (fun t => List.lookup 187 t) gt191).trans (by decide +kernel)
theorem t191_189 : zT 191 189 = some (.isub, 1, 0, 0, 0, 0) := (congrArg (fun t => List.lookup 189 t) gt191).trans (by decide +kernel)
theorem t191_190 : zT 191 190 = some (.invokestatic 35, 3, 21, 1, 0, 1459) := (congrArg (fun t => List.lookup 190 t) gt191).trans (by decide +kernel)
theorem t191_193 : zT 191 193 = some (.putfield 18, 3, 10, 2, 0, 579) := (congrArg (fun t => List.lookup 193 t) gt191).trans (by decide +kernel)
theorem t191_196 : zT 191 196 = some (.iload 12, 2, 0, 0, 0, 0) := (congrArg (fun t => List.lookup 196 t) gt191).trans (by decide +kernel)
theorem t191_198 : zT 191 198 = some (.iload 5, 2, 0, 0, 0, 0) := (congrArg (fun t => List.lookup 198 t) gt191).trans (by decide +kernel)
theorem t191_200 : zT 191 200 = some (.iadd, 1, 0, 0, 0, 0) := (congrArg (fun t => List.lookup 200 t) gt191).trans (by decide +kernel)
theorem t191_201 : zT 191 201 = some (.iload 10, 2, 0, 0, 0, 0) := (congrArg (fun t => List.lookup 201 t) gt191).trans (by decide +kernel)
theorem t191_203 : zT 191 203 = some (.isub, 1, 0, 0, 0, 0) := (congrArg (fun t => List.lookup 203 t) gt191).trans (by decide +kernel)
theorem t191_204 : zT 191 204 = some (.iload 6, 2, 0, 0, 0, 0) := (congrArg (fun t => List.lookup 204 t) gt191).trans (by decide +kernel)
theorem t191_206 : zT 191 206 = some (.if_icmp .le 13, 3, 219, 0, 0, 0) := (congrArg (fun t => List.lookup 206 t) gt191).trans (by decide +kernel)
theorem t191_209 : zT 191 209 = some (.aload_n 0, 1, 0, 0, 0, 0) := (congrArg (fun t => List.lookup 209 t) gt191).trans (by decide +kernel)
theorem t191_210 : zT 191 210 = some (.dup, 1, 0, 0, 0, 0) := (congrArg (fun t => List.lookup 210 t) gt191).trans (by decide +kernel)
theorem t191_211 : zT 191 211 = some (.getfield 15, 3, 10, 1, 0, 577) := (congrArg (fun t => List.lookup 211 t) gt191).trans (by decide +kernel)
theorem t191_214 : zT 191 214 = some (.iconst 1, 1, 0, 0, 1, 0) := (congrArg (fun t => List.lookup 214 t) gt191).trans (by decide +kernel)
theorem t191_215 : zT 191 215 = some (.iadd, 1, 0, 0, 0, 0) := (congrArg (fun t => List.lookup 215 t) gt191).trans (by decide +kernel)
theorem t191_216 : zT 191 216 = some (.putfield 15, 3, 10, 1, 0, 577) := (congrArg (fun t => List.lookup 216 t) gt191).trans (by decide +kernel)
theorem t191_219 : zT 191 219 = some (.aload_n 0, 1, 0, 0, 0, 0) := (congrArg (fun t => List.lookup 219 t) gt191).trans (by decide +kernel)
theorem t191_220 : zT 191 220 = some (.aload_n 0, 1, 0, 0, 0, 0) := (congrArg (fun t => List.lookup 220 t) gt191).trans (by decide +kernel)
theorem t191_221 : zT 191 221 = some (.getfield 21, 3, 10, 3, 0, 581) := (congrArg (fun t => List.lookup 221 t) gt191).trans (by decide +kernel)
theorem t191_224 : zT 191 224 = some (.iload 12, 2, 0, 0, 0, 0) := (congrArg (fun t => List.lookup 224 t) gt191).trans (by decide +kernel)
theorem t191_226 : zT 191 226 = some (.iload 5, 2, 0, 0, 0, 0) := (congrArg (fun t => List.lookup 226 t) gt191).trans (by decide +kernel)
theorem t191_228 : zT 191 228 = some (.iadd, 1, 0, 0, 0, 0) := (congrArg (fun t => List.lookup 228 t) gt191).trans (by decide +kernel)
theorem t191_229 : zT 191 229 = some (.invokestatic 35, 3, 21, 1, 0, 1459) := (congrArg (fun t => List.lookup 229 t) gt191).trans (by decide +kernel)
theorem t191_232 : zT 191 232 = some (.putfield 21, 3, 10, 3, 0, 581) := (congrArg (fun t => List.lookup 232 t) gt191).trans (by decide +kernel)
theorem t191_235 : zT 191 235 = some (.iinc 9 1, 3, 0, 0, 0, 0) := (congrArg (fun t => List.lookup 235 t) gt191).trans (by decide +kernel)
theorem t191_238 : zT 191 238 = some (.goto (-185), 3, 53, 0, 0, 0) := (congrArg (fun t => List.lookup 238 t) gt191).trans (by decide +kernel)
theorem t191_241 : zT 191 241 = some (.return_, 1, 0, 0, 0, 0) := (congrArg (fun t => List.lookup 241 t) gt191).trans (by decide +kernel)
theorem t192_0 : zT 192 0 = some (.iconst 0, 1, 0, 0, 0, 0) := (congrArg (fun t => List.lookup 0 t) gt192).trans rfl
theorem t192_1 : zT 192 1 = some (.istore_n 2, 1, 2, 0, 0, 0) := (congrArg (fun t => List.lookup 1 t) gt192).trans rfl
theorem t192_2 : zT 192 2 = some (.iconst 1, 1, 0, 0, 1, 0) := (congrArg (fun t => List.lookup 2 t) gt192).trans rfl
theorem t192_3 : zT 192 3 = some (.istore_n 3, 1, 3, 0, 0, 0) := (congrArg (fun t => List.lookup 3 t) gt192).trans rfl
theorem t192_4 : zT 192 4 = some (.iload_n 3, 1, 3, 0, 0, 0) := (congrArg (fun t => List.lookup 4 t) gt192).trans rfl
theorem t192_5 : zT 192 5 = some (.iload_n 1, 1, 1, 0, 0, 0) := (congrArg (fun t => List.lookup 5 t) gt192).trans rfl
theorem t192_6 : zT 192 6 = some (.if_icmp .ge 32, 3, 38, 0, 0, 0) := (congrArg (fun t => List.lookup 6 t) gt192).trans rfl
theorem t192_9 : zT 192 9 = some (.iload_n 3, 1, 3, 0, 0, 0) := (congrArg (fun t => List.lookup 9 t) gt192).trans rfl
theorem t192_10 : zT 192 10 = some (.bipush 8, 2, 0, 0, 8, 0) := (congrArg (fun t => List.lookup 10 t) gt192).trans rfl
theorem t192_12 : zT 192 12 = some (.if_icmp .ge 26, 3, 38, 0, 0, 0) := (congrArg (fun t => List.lookup 12 t) gt192).trans rfl
theorem t192_15 : zT 192 15 = some (.aload_n 0, 1, 0, 0, 0, 0) := (congrArg (fun t => List.lookup 15 t) gt192).trans rfl
theorem t192_16 : zT 192 16 = some (.getfield 24, 3, 10, 4, 0, 583) := (congrArg (fun t => List.lookup 16 t) gt192).trans rfl
theorem t192_19 : zT 192 19 = some (.iload_n 3, 1, 3, 0, 0, 0) := (congrArg (fun t => List.lookup 19 t) gt192).trans rfl
theorem t192_20 : zT 192 20 = some (.iaload, 1, 0, 0, 0, 0) := (congrArg (fun t => List.lookup 20 t) gt192).trans rfl
theorem t192_21 : zT 192 21 = some (.aload_n 0, 1, 0, 0, 0, 0) := (congrArg (fun t => List.lookup 21 t) gt192).trans rfl
theorem t192_22 : zT 192 22 = some (.getfield 24, 3, 10, 4, 0, 583) := (congrArg (fun t => List.lookup 22 t) gt192).trans rfl
theorem t192_25 : zT 192 25 = some (.iload_n 2, 1, 2, 0, 0, 0) := (congrArg (fun t => List.lookup 25 t) gt192).trans rfl
theorem t192_26 : zT 192 26 = some (.iaload, 1, 0, 0, 0, 0) := (congrArg (fun t => List.lookup 26 t) gt192).trans rfl
theorem t192_27 : zT 192 27 = some (.if_icmp .ge 5, 3, 32, 0, 0, 0) := (congrArg (fun t => List.lookup 27 t) gt192).trans rfl
theorem t192_30 : zT 192 30 = some (.iload_n 3, 1, 3, 0, 0, 0) := (congrArg (fun t => List.lookup 30 t) gt192).trans rfl
theorem t192_31 : zT 192 31 = some (.istore_n 2, 1, 2, 0, 0, 0) := (congrArg (fun t => List.lookup 31 t) gt192).trans rfl
theorem t192_32 : zT 192 32 = some (.iinc 3 1, 3, 0, 0, 0, 0) := (congrArg (fun t => List.lookup 32 t) gt192).trans rfl
theorem t192_35 : zT 192 35 = some (.goto (-31), 3, 4, 0, 0, 0) := (congrArg (fun t => List.lookup 35 t) gt192).trans rfl
theorem t192_38 : zT 192 38 = some (.iload_n 2, 1, 2, 0, 0, 0) := (congrArg (fun t => List.lookup 38 t) gt192).trans rfl
theorem t192_39 : zT 192 39 = some (.ireturn, 1, 0, 0, 0, 0) := (congrArg (fun t => List.lookup 39 t) gt192).trans rfl
theorem t193_0 : zT 193 0 = some (.iload_n 1, 1, 1, 0, 0, 0) := (congrArg (fun t => List.lookup 0 t) gt193).trans rfl
theorem t193_1 : zT 193 1 = some (.iload_n 2, 1, 2, 0, 0, 0) := (congrArg (fun t => List.lookup 1 t) gt193).trans rfl
theorem t193_2 : zT 193 2 = some (.iload_n 3, 1, 3, 0, 0, 0) := (congrArg (fun t => List.lookup 2 t) gt193).trans rfl
theorem t193_3 : zT 193 3 = some (.invokestatic 364, 3, 189, 1, 0, 1443) := (congrArg (fun t => List.lookup 3 t) gt193).trans rfl
theorem t193_6 : zT 193 6 = some (.ifCond .ne 5, 3, 11, 0, 0, 0) := (congrArg (fun t => List.lookup 6 t) gt193).trans rfl
theorem t193_9 : zT 193 9 = some (.iconst (-1), 1, 0, 0, (-1), 0) := (congrArg (fun t => List.lookup 9 t) gt193).trans rfl
theorem t193_10 : zT 193 10 = some (.ireturn, 1, 0, 0, 0, 0) := (congrArg (fun t => List.lookup 10 t) gt193).trans rfl
theorem t193_11 : zT 193 11 = some (.aload_n 0, 1, 0, 0, 0, 0) := (congrArg (fun t => List.lookup 11 t) gt193).trans rfl
theorem t193_12 : zT 193 12 = some (.invokevirtual 367, 3, 187, 0, 0, 1446) := (congrArg (fun t => List.lookup 12 t) gt193).trans rfl
theorem t193_15 : zT 193 15 = some (.aload_n 0, 1, 0, 0, 0, 0) := (congrArg (fun t => List.lookup 15 t) gt193).trans rfl
theorem t193_16 : zT 193 16 = some (.getfield 12, 3, 11, 0, 0, 598) := (congrArg (fun t => List.lookup 16 t) gt193).trans rfl
theorem t193_19 : zT 193 19 = some (.bipush 7, 2, 0, 0, 7, 0) := (congrArg (fun t => List.lookup 19 t) gt193).trans rfl
theorem t193_21 : zT 193 21 = some (.invokevirtual 158, 3, 96, 0, 0, 1029) := (congrArg (fun t => List.lookup 21 t) gt193).trans rfl
theorem t193_24 : zT 193 24 = some (.invokestatic 370, 3, 190, 1, 0, 1447) := (congrArg (fun t => List.lookup 24 t) gt193).trans rfl
theorem t193_27 : zT 193 27 = some (.istore 4, 2, 0, 0, 0, 0) := (congrArg (fun t => List.lookup 27 t) gt193).trans rfl
theorem t193_29 : zT 193 29 = some (.iconst 1, 1, 0, 0, 1, 0) := (congrArg (fun t => List.lookup 29 t) gt193).trans rfl
theorem t193_30 : zT 193 30 = some (.istore 5, 2, 0, 0, 0, 0) := (congrArg (fun t => List.lookup 30 t) gt193).trans rfl
theorem t193_32 : zT 193 32 = some (.iload 5, 2, 0, 0, 0, 0) := (congrArg (fun t => List.lookup 32 t) gt193).trans rfl
theorem t193_34 : zT 193 34 = some (.bipush 8, 2, 0, 0, 8, 0) := (congrArg (fun t => List.lookup 34 t) gt193).trans rfl
theorem t193_36 : zT 193 36 = some (.if_icmp .gt 55, 3, 91, 0, 0, 0) := (congrArg (fun t => List.lookup 36 t) gt193).trans rfl
theorem t193_39 : zT 193 39 = some (.aload_n 0, 1, 0, 0, 0, 0) := (congrArg (fun t => List.lookup 39 t) gt193).trans rfl
theorem t193_40 : zT 193 40 = some (.getfield 64, 3, 11, 8, 0, 606) := (congrArg (fun t => List.lookup 40 t) gt193).trans rfl
theorem t193_43 : zT 193 43 = some (.iload_n 1, 1, 1, 0, 0, 0) := (congrArg (fun t => List.lookup 43 t) gt193).trans rfl
theorem t193_44 : zT 193 44 = some (.iload_n 2, 1, 2, 0, 0, 0) := (congrArg (fun t => List.lookup 44 t) gt193).trans rfl
theorem t193_45 : zT 193 45 = some (.iload 5, 2, 0, 0, 0, 0) := (congrArg (fun t => List.lookup 45 t) gt193).trans rfl
theorem t193_47 : zT 193 47 = some (.iload_n 3, 1, 3, 0, 0, 0) := (congrArg (fun t => List.lookup 47 t) gt193).trans rfl
theorem t193_48 : zT 193 48 = some (.iload 4, 2, 0, 0, 0, 0) := (congrArg (fun t => List.lookup 48 t) gt193).trans rfl
theorem t193_50 : zT 193 50 = some (.aload_n 0, 1, 0, 0, 0, 0) := (congrArg (fun t => List.lookup 50 t) gt193).trans rfl
theorem t193_51 : zT 193 51 = some (.getfield 12, 3, 11, 0, 0, 598) := (congrArg (fun t => List.lookup 51 t) gt193).trans rfl
theorem t193_54 : zT 193 54 = some (.bipush 8, 2, 0, 0, 8, 0) := (congrArg (fun t => List.lookup 54 t) gt193).trans rfl
theorem t193_56 : zT 193 56 = some (.invokevirtual 158, 3, 96, 0, 0, 1029) := (congrArg (fun t => List.lookup 56 t) gt193).trans rfl
theorem t193_59 : zT 193 59 = some (.invokevirtual 373, 3, 191, 0, 0, 1451) := (congrArg (fun t => List.lookup 59 t) gt193).trans rfl
theorem t193_62 : zT 193 62 = some (.aload_n 0, 1, 0, 0, 0, 0) := (congrArg (fun t => List.lookup 62 t) gt193).trans rfl
theorem t193_63 : zT 193 63 = some (.getfield 64, 3, 11, 8, 0, 606) := (congrArg (fun t => List.lookup 63 t) gt193).trans rfl
theorem t193_66 : zT 193 66 = some (.getfield 377, 3, 10, 0, 0, 576) := (congrArg (fun t => List.lookup 66 t) gt193).trans rfl
theorem t193_69 : zT 193 69 = some (.ifCond .ne 16, 3, 85, 0, 0, 0) := (congrArg (fun t => List.lookup 69 t) gt193).trans rfl
theorem t193_72 : zT 193 72 = some (.aload_n 0, 1, 0, 0, 0, 0) := (congrArg (fun t => List.lookup 72 t) gt193).trans rfl
theorem t193_73 : zT 193 73 = some (.getfield 64, 3, 11, 8, 0, 606) := (congrArg (fun t => List.lookup 73 t) gt193).trans rfl
theorem t193_76 : zT 193 76 = some (.getfield 380, 3, 10, 1, 0, 578) := (congrArg (fun t => List.lookup 76 t) gt193).trans rfl
theorem t193_79 : zT 193 79 = some (.ifCond .ne 6, 3, 85, 0, 0, 0) := (congrArg (fun t => List.lookup 79 t) gt193).trans rfl
theorem t193_82 : zT 193 82 = some (.iload 5, 2, 0, 0, 0, 0) := (congrArg (fun t => List.lookup 82 t) gt193).trans rfl
theorem t193_84 : zT 193 84 = some (.ireturn, 1, 0, 0, 0, 0) := (congrArg (fun t => List.lookup 84 t) gt193).trans rfl
theorem t193_85 : zT 193 85 = some (.iinc 5 1, 3, 0, 0, 0, 0) := (congrArg (fun t => List.lookup 85 t) gt193).trans rfl
theorem t193_88 : zT 193 88 = some (.goto (-56), 3, 32, 0, 0, 0) := (congrArg (fun t => List.lookup 88 t) gt193).trans rfl
theorem t193_91 : zT 193 91 = some (.bipush (-2), 2, 0, 0, (-2), 0) := (congrArg (fun t => List.lookup 91 t) gt193).trans rfl
theorem t193_93 : zT 193 93 = some (.ireturn, 1, 0, 0, 0, 0) := (congrArg (fun t => List.lookup 93 t) gt193).trans rfl
theorem t194_0 : zT 194 0 = some (.aload_n 0, 1, 0, 0, 0, 0) := (congrArg (fun t => List.lookup 0 t) gt194).trans rfl
theorem t194_1 : zT 194 1 = some (.getfield 12, 3, 11, 0, 0, 598) := (congrArg (fun t => List.lookup 1 t) gt194).trans rfl
theorem t194_4 : zT 194 4 = some (.iload_n 1, 1, 1, 0, 0, 0) := (congrArg (fun t => List.lookup 4 t) gt194).trans rfl
theorem t194_5 : zT 194 5 = some (.invokevirtual 179, 3, 41, 0, 0, 1023) := (congrArg (fun t => List.lookup 5 t) gt194).trans rfl
theorem t194_8 : zT 194 8 = some (.ifCond .eq 25, 3, 33, 0, 0, 0) := (congrArg (fun t => List.lookup 8 t) gt194).trans rfl
theorem t194_11 : zT 194 11 = some (.aload_n 0, 1, 0, 0, 0, 0) := (congrArg (fun t => List.lookup 11 t) gt194).trans rfl
theorem t194_12 : zT 194 12 = some (.getfield 50, 3, 11, 6, 0, 604) := (congrArg (fun t => List.lookup 12 t) gt194).trans rfl
theorem t194_15 : zT 194 15 = some (.aload_n 0, 1, 0, 0, 0, 0) := (congrArg (fun t => List.lookup 15 t) gt194).trans rfl
theorem t194_16 : zT 194 16 = some (.getfield 12, 3, 11, 0, 0, 598) := (congrArg (fun t => List.lookup 16 t) gt194).trans rfl
theorem t194_19 : zT 194 19 = some (.invokevirtual 212, 3, 105, 0, 0, 1068) := (congrArg (fun t => List.lookup 19 t) gt194).trans rfl
theorem t194_22 : zT 194 22 = some (.aload_n 0, 1, 0, 0, 0, 0) := (congrArg (fun t => List.lookup 22 t) gt194).trans rfl
theorem t194_23 : zT 194 23 = some (.getfield 12, 3, 11, 0, 0, 598) := (congrArg (fun t => List.lookup 23 t) gt194).trans rfl
theorem t194_26 : zT 194 26 = some (.iload_n 1, 1, 1, 0, 0, 0) := (congrArg (fun t => List.lookup 26 t) gt194).trans rfl
theorem t194_27 : zT 194 27 = some (.invokevirtual 389, 3, 195, 0, 0, 1468) := (congrArg (fun t => List.lookup 27 t) gt194).trans rfl
theorem t194_30 : zT 194 30 = some (.goto 5, 3, 35, 0, 0, 0) := (congrArg (fun t => List.lookup 30 t) gt194).trans rfl
theorem t194_33 : zT 194 33 = some (.ldc 196, 2, 0, 0, (-100000), 1066) := (congrArg (fun t => List.lookup 33 t) gt194).trans rfl
theorem t194_35 : zT 194 35 = some (.ireturn, 1, 0, 0, 0, 0) := (congrArg (fun t => List.lookup 35 t) gt194).trans rfl
theorem t195_0 : zT 195 0 = some (.aload_n 1, 1, 1, 0, 0, 0) := (congrArg (fun t => List.lookup 0 t) gt195).trans rfl
theorem t195_1 : zT 195 1 = some (.iload_n 2, 1, 2, 0, 0, 0) := (congrArg (fun t => List.lookup 1 t) gt195).trans rfl
theorem t195_2 : zT 195 2 = some (.invokevirtual 183, 3, 41, 0, 0, 1472) := (congrArg (fun t => List.lookup 2 t) gt195).trans rfl
theorem t195_5 : zT 195 5 = some (.ifCond .eq 12, 3, 17, 0, 0, 0) := (congrArg (fun t => List.lookup 5 t) gt195).trans rfl
theorem t195_8 : zT 195 8 = some (.aload_n 1, 1, 1, 0, 0, 0) := (congrArg (fun t => List.lookup 8 t) gt195).trans rfl
theorem t195_9 : zT 195 9 = some (.getfield 186, 3, 6, 2, 0, 163) := (congrArg (fun t => List.lookup 9 t) gt195).trans rfl
theorem t195_12 : zT 195 12 = some (.iload_n 2, 1, 2, 0, 0, 0) := (congrArg (fun t => List.lookup 12 t) gt195).trans rfl
theorem t195_13 : zT 195 13 = some (.baload, 1, 0, 0, 0, 0) := (congrArg (fun t => List.lookup 13 t) gt195).trans rfl
theorem t195_14 : zT 195 14 = some (.ifCond .ne 5, 3, 19, 0, 0, 0) := (congrArg (fun t => List.lookup 14 t) gt195).trans rfl
theorem t195_17 : zT 195 17 = some (.iconst 0, 1, 0, 0, 0, 0) := (congrArg (fun t => List.lookup 17 t) gt195).trans rfl
theorem t195_18 : zT 195 18 = some (.ireturn, 1, 0, 0, 0, 0) := (congrArg (fun t => List.lookup 18 t) gt195).trans rfl
theorem t195_19 : zT 195 19 = some (.aload_n 0, 1, 0, 0, 0, 0) := (congrArg (fun t => List.lookup 19 t) gt195).trans rfl
theorem t195_20 : zT 195 20 = some (.getfield 57, 3, 4, 13, 0, 505) := (congrArg (fun t => List.lookup 20 t) gt195).trans rfl
theorem t195_23 : zT 195 23 = some (.iload_n 2, 1, 2, 0, 0, 0) := (congrArg (fun t => List.lookup 23 t) gt195).trans rfl
theorem t195_24 : zT 195 24 = some (.baload, 1, 0, 0, 0, 0) := (congrArg (fun t => List.lookup 24 t) gt195).trans rfl
theorem t195_25 : zT 195 25 = some (.ifCond .ne 41, 3, 66, 0, 0, 0) := (congrArg (fun t => List.lookup 25 t) gt195).trans rfl
theorem t195_28 : zT 195 28 = some (.aload_n 0, 1, 0, 0, 0, 0) := (congrArg (fun t => List.lookup 28 t) gt195).trans rfl
theorem t195_29 : zT 195 29 = some (.getfield 22, 3, 4, 2, 0, 494) := (congrArg (fun t => List.lookup 29 t) gt195).trans rfl
theorem t195_32 : zT 195 32 = some (.aload_n 1, 1, 1, 0, 0, 0) := (congrArg (fun t => List.lookup 32 t) gt195).trans rfl
theorem t195_33 : zT 195 33 = some (.iload_n 2, 1, 2, 0, 0, 0) := (congrArg (fun t => List.lookup 33 t) gt195).trans rfl
theorem t195_34 : zT 195 34 = some (.aload_n 0, 1, 0, 0, 0, 0) := (congrArg (fun t => List.lookup 34 t) gt195).trans rfl
theorem t195_35 : zT 195 35 = some (.getfield 25, 3, 4, 3, 0, 495) := (congrArg (fun t => List.lookup 35 t) gt195).trans rfl
theorem t195_38 : zT 195 38 = some (.invokevirtual 71, 3, 106, 0, 0, 1073) := (congrArg (fun t => List.lookup 38 t) gt195).trans rfl
theorem t195_41 : zT 195 41 = some (.aload_n 0, 1, 0, 0, 0, 0) := (congrArg (fun t => List.lookup 41 t) gt195).trans rfl
theorem t195_42 : zT 195 42 = some (.getfield 61, 3, 4, 14, 0, 506) := (congrArg (fun t => List.lookup 42 t) gt195).trans rfl
theorem t195_45 : zT 195 45 = some (.iload_n 2, 1, 2, 0, 0, 0) := (congrArg (fun t => List.lookup 45 t) gt195).trans rfl
