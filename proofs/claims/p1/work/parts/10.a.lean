theorem li200 : (200 : Int32).toInt = 200 := by decide
theorem mf191 : zmf 191 7 10 1 13 := by unfold zmf; decide +kernel
theorem mf192 : zmf 192 2 10 0 4 := by unfold zmf; decide +kernel
theorem mr191 : (mt 191).2.2.2.1 = none := by decide +kernel
theorem mr192 : (mt 192).2.2.2.1 = some .int := by decide +kernel
theorem t21_5 : zT 21 5 = some (.iload_n 0, 1, 0, 0, 0, 0) := by decide +kernel
theorem t21_6 : zT 21 6 = some (.goto 4, 3, 10, 0, 0, 0) := by decide +kernel
theorem t191_0 : zT 191 0 = some (.aload_n 0, 1, 0, 0, 0, 0) := by decide +kernel
theorem t191_1 : zT 191 1 = some (.iconst 0, 1, 0, 0, 0, 0) := by decide +kernel
theorem t191_2 : zT 191 2 = some (.putfield 9, 3, 10, 0, 0, 575) := by decide +kernel
theorem t191_5 : zT 191 5 = some (.aload_n 0, 1, 0, 0, 0, 0) := by decide +kernel
theorem t191_6 : zT 191 6 = some (.iconst 0, 1, 0, 0, 0, 0) := by decide +kernel
theorem t191_7 : zT 191 7 = some (.putfield 15, 3, 10, 1, 0, 577) := by decide +kernel
theorem t191_10 : zT 191 10 = some (.aload_n 0, 1, 0, 0, 0, 0) := by decide +kernel
theorem t191_11 : zT 191 11 = some (.iconst 0, 1, 0, 0, 0, 0) := by decide +kernel
theorem t191_12 : zT 191 12 = some (.putfield 18, 3, 10, 2, 0, 579) := by decide +kernel
theorem t191_15 : zT 191 15 = some (.aload_n 0, 1, 0, 0, 0, 0) := by decide +kernel
theorem t191_16 : zT 191 16 = some (.iconst 0, 1, 0, 0, 0, 0) := by decide +kernel
theorem t191_17 : zT 191 17 = some (.putfield 21, 3, 10, 3, 0, 581) := by decide +kernel
theorem t191_20 : zT 191 20 = some (.iconst 0, 1, 0, 0, 0, 0) := by decide +kernel
theorem t191_21 : zT 191 21 = some (.istore 7, 2, 0, 0, 0, 0) := by decide +kernel
theorem t191_23 : zT 191 23 = some (.iload 7, 2, 0, 0, 0, 0) := by decide +kernel
theorem t191_25 : zT 191 25 = some (.bipush 8, 2, 0, 0, 8, 0) := by decide +kernel
theorem t191_27 : zT 191 27 = some (.if_icmp .ge 17, 3, 44, 0, 0, 0) := by decide +kernel
theorem t191_30 : zT 191 30 = some (.aload_n 0, 1, 0, 0, 0, 0) := by decide +kernel
theorem t191_31 : zT 191 31 = some (.getfield 24, 3, 10, 4, 0, 583) := by decide +kernel
theorem t191_34 : zT 191 34 = some (.iload 7, 2, 0, 0, 0, 0) := by decide +kernel
theorem t191_36 : zT 191 36 = some (.iconst 0, 1, 0, 0, 0, 0) := by decide +kernel
theorem t191_37 : zT 191 37 = some (.iastore, 1, 0, 0, 0, 0) := by decide +kernel
theorem t191_38 : zT 191 38 = some (.iinc 7 1, 3, 0, 0, 0, 0) := by decide +kernel
theorem t191_41 : zT 191 41 = some (.goto (-18), 3, 23, 0, 0, 0) := by decide +kernel
theorem t191_44 : zT 191 44 = some (.iconst 0, 1, 0, 0, 0, 0) := by decide +kernel
theorem t191_45 : zT 191 45 = some (.istore 7, 2, 0, 0, 0, 0) := by decide +kernel
theorem t191_47 : zT 191 47 = some (.iconst 0, 1, 0, 0, 0, 0) := by decide +kernel
theorem t191_48 : zT 191 48 = some (.istore 8, 2, 0, 0, 0, 0) := by decide +kernel
theorem t191_50 : zT 191 50 = some (.iconst 0, 1, 0, 0, 0, 0) := by decide +kernel
theorem t191_51 : zT 191 51 = some (.istore 9, 2, 0, 0, 0, 0) := by decide +kernel
theorem t191_53 : zT 191 53 = some (.iload 9, 2, 0, 0, 0, 0) := by decide +kernel
theorem t191_55 : zT 191 55 = some (.iload_n 1, 1, 1, 0, 0, 0) := by decide +kernel
theorem t191_56 : zT 191 56 = some (.if_icmp .ge 185, 3, 241, 0, 0, 0) := by decide +kernel
theorem t191_59 : zT 191 59 = some (.iload 7, 2, 0, 0, 0, 0) := by decide +kernel
theorem t191_61 : zT 191 61 = some (.sipush 200, 3, 0, 0, 200, 0) := by decide +kernel
theorem t191_64 : zT 191 64 = some (.if_icmp .ge 177, 3, 241, 0, 0, 0) := by decide +kernel
theorem t191_67 : zT 191 67 = some (.iload 9, 2, 0, 0, 0, 0) := by decide +kernel
theorem t191_69 : zT 191 69 = some (.iload_n 2, 1, 2, 0, 0, 0) := by decide +kernel
theorem t191_70 : zT 191 70 = some (.imul, 1, 0, 0, 0, 0) := by decide +kernel
theorem t191_71 : zT 191 71 = some (.istore 10, 2, 0, 0, 0, 0) := by decide +kernel
theorem t191_73 : zT 191 73 = some (.iload 8, 2, 0, 0, 0, 0) := by decide +kernel
theorem t191_75 : zT 191 75 = some (.iload 7, 2, 0, 0, 0, 0) := by decide +kernel
theorem t191_77 : zT 191 77 = some (.if_icmp .ge 21, 3, 98, 0, 0, 0) := by decide +kernel
theorem t191_80 : zT 191 80 = some (.aload_n 0, 1, 0, 0, 0, 0) := by decide +kernel
theorem t191_81 : zT 191 81 = some (.getfield 28, 3, 10, 5, 0, 584) := by decide +kernel
theorem t191_84 : zT 191 84 = some (.iload 8, 2, 0, 0, 0, 0) := by decide +kernel
theorem t191_86 : zT 191 86 = some (.iaload, 1, 0, 0, 0, 0) := by decide +kernel
theorem t191_87 : zT 191 87 = some (.iload 10, 2, 0, 0, 0, 0) := by decide +kernel
theorem t191_89 : zT 191 89 = some (.if_icmp .gt 9, 3, 98, 0, 0, 0) := by decide +kernel
theorem t191_92 : zT 191 92 = some (.iinc 8 1, 3, 0, 0, 0, 0) := by decide +kernel
theorem t191_95 : zT 191 95 = some (.goto (-22), 3, 73, 0, 0, 0) := by decide +kernel
theorem t191_98 : zT 191 98 = some (.aload_n 0, 1, 0, 0, 0, 0) := by decide +kernel
theorem t191_99 : zT 191 99 = some (.iload_n 3, 1, 3, 0, 0, 0) := by decide +kernel
theorem t191_100 : zT 191 100 = some (.invokevirtual 31, 3, 192, 0, 0, 1455) := by decide +kernel
theorem t191_103 : zT 191 103 = some (.istore 11, 2, 0, 0, 0, 0) := by decide +kernel
theorem t191_105 : zT 191 105 = some (.iload 10, 2, 0, 0, 0, 0) := by decide +kernel
theorem t191_107 : zT 191 107 = some (.aload_n 0, 1, 0, 0, 0, 0) := by decide +kernel
theorem t191_108 : zT 191 108 = some (.getfield 24, 3, 10, 4, 0, 583) := by decide +kernel
theorem t191_111 : zT 191 111 = some (.iload 11, 2, 0, 0, 0, 0) := by decide +kernel
theorem t191_113 : zT 191 113 = some (.iaload, 1, 0, 0, 0, 0) := by decide +kernel
theorem t191_114 : zT 191 114 = some (.invokestatic 35, 3, 21, 1, 0, 1459) := by decide +kernel
theorem t191_117 : zT 191 117 = some (.istore 12, 2, 0, 0, 0, 0) := by decide +kernel
theorem t191_119 : zT 191 119 = some (.iload 12, 2, 0, 0, 0, 0) := by decide +kernel
theorem t191_121 : zT 191 121 = some (.iload 10, 2, 0, 0, 0, 0) := by decide +kernel
theorem t191_123 : zT 191 123 = some (.if_icmp .le 26, 3, 149, 0, 0, 0) := by decide +kernel
theorem t191_149 : zT 191 149 = some (.aload_n 0, 1, 0, 0, 0, 0) := by decide +kernel
theorem t191_150 : zT 191 150 = some (.getfield 28, 3, 10, 5, 0, 584) := by decide +kernel
theorem t191_153 : zT 191 153 = some (.iload 7, 2, 0, 0, 0, 0) := by decide +kernel
theorem t191_155 : zT 191 155 = some (.iload 12, 2, 0, 0, 0, 0) := by decide +kernel
theorem t191_157 : zT 191 157 = some (.iastore, 1, 0, 0, 0, 0) := by decide +kernel
theorem t191_158 : zT 191 158 = some (.iinc 7 1, 3, 0, 0, 0, 0) := by decide +kernel
theorem t191_161 : zT 191 161 = some (.aload_n 0, 1, 0, 0, 0, 0) := by decide +kernel
theorem t191_162 : zT 191 162 = some (.getfield 24, 3, 10, 4, 0, 583) := by decide +kernel
theorem t191_165 : zT 191 165 = some (.iload 11, 2, 0, 0, 0, 0) := by decide +kernel
theorem t191_167 : zT 191 167 = some (.iload 12, 2, 0, 0, 0, 0) := by decide +kernel
theorem t191_169 : zT 191 169 = some (.iload 5, 2, 0, 0, 0, 0) := by decide +kernel
theorem t191_171 : zT 191 171 = some (.iadd, 1, 0, 0, 0, 0) := by decide +kernel
theorem t191_172 : zT 191 172 = some (.iastore, 1, 0, 0, 0, 0) := by decide +kernel
theorem t191_173 : zT 191 173 = some (.iload 12, 2, 0, 0, 0, 0) := by decide +kernel
theorem t191_175 : zT 191 175 = some (.iload 10, 2, 0, 0, 0, 0) := by decide +kernel
theorem t191_177 : zT 191 177 = some (.if_icmp .le 19, 3, 196, 0, 0, 0) := by decide +kernel
theorem t191_196 : zT 191 196 = some (.iload 12, 2, 0, 0, 0, 0) := by decide +kernel
theorem t191_198 : zT 191 198 = some (.iload 5, 2, 0, 0, 0, 0) := by decide +kernel
theorem t191_200 : zT 191 200 = some (.iadd, 1, 0, 0, 0, 0) := by decide +kernel
theorem t191_201 : zT 191 201 = some (.iload 10, 2, 0, 0, 0, 0) := by decide +kernel
theorem t191_203 : zT 191 203 = some (.isub, 1, 0, 0, 0, 0) := by decide +kernel
theorem t191_204 : zT 191 204 = some (.iload 6, 2, 0, 0, 0, 0) := by decide +kernel
theorem t191_206 : zT 191 206 = some (.if_icmp .le 13, 3, 219, 0, 0, 0) := by decide +kernel
theorem t191_219 : zT 191 219 = some (.aload_n 0, 1, 0, 0, 0, 0) := by decide +kernel
theorem t191_220 : zT 191 220 = some (.aload_n 0, 1, 0, 0, 0, 0) := by decide +kernel
theorem t191_221 : zT 191 221 = some (.getfield 21, 3, 10, 3, 0, 581) := by decide +kernel
theorem t191_224 : zT 191 224 = some (.iload 12, 2, 0, 0, 0, 0) := by decide +kernel
theorem t191_226 : zT 191 226 = some (.iload 5, 2, 0, 0, 0, 0) := by decide +kernel
theorem t191_228 : zT 191 228 = some (.iadd, 1, 0, 0, 0, 0) := by decide +kernel
theorem t191_229 : zT 191 229 = some (.invokestatic 35, 3, 21, 1, 0, 1459) := by decide +kernel
theorem t191_232 : zT 191 232 = some (.putfield 21, 3, 10, 3, 0, 581) := by decide +kernel
theorem t191_235 : zT 191 235 = some (.iinc 9 1, 3, 0, 0, 0, 0) := by decide +kernel
theorem t191_238 : zT 191 238 = some (.goto (-185), 3, 53, 0, 0, 0) := by decide +kernel
theorem t191_241 : zT 191 241 = some (.return_, 1, 0, 0, 0, 0) := by decide +kernel
theorem t192_0 : zT 192 0 = some (.iconst 0, 1, 0, 0, 0, 0) := by decide +kernel
theorem t192_1 : zT 192 1 = some (.istore_n 2, 1, 2, 0, 0, 0) := by decide +kernel
theorem t192_2 : zT 192 2 = some (.iconst 1, 1, 0, 0, 1, 0) := by decide +kernel
theorem t192_3 : zT 192 3 = some (.istore_n 3, 1, 3, 0, 0, 0) := by decide +kernel
theorem t192_4 : zT 192 4 = some (.iload_n 3, 1, 3, 0, 0, 0) := by decide +kernel
theorem t192_5 : zT 192 5 = some (.iload_n 1, 1, 1, 0, 0, 0) := by decide +kernel
theorem t192_6 : zT 192 6 = some (.if_icmp .ge 32, 3, 38, 0, 0, 0) := by decide +kernel
theorem t192_9 : zT 192 9 = some (.iload_n 3, 1, 3, 0, 0, 0) := by decide +kernel
theorem t192_10 : zT 192 10 = some (.bipush 8, 2, 0, 0, 8, 0) := by decide +kernel
theorem t192_12 : zT 192 12 = some (.if_icmp .ge 26, 3, 38, 0, 0, 0) := by decide +kernel
theorem t192_15 : zT 192 15 = some (.aload_n 0, 1, 0, 0, 0, 0) := by decide +kernel
theorem t192_16 : zT 192 16 = some (.getfield 24, 3, 10, 4, 0, 583) := by decide +kernel
theorem t192_19 : zT 192 19 = some (.iload_n 3, 1, 3, 0, 0, 0) := by decide +kernel
theorem t192_20 : zT 192 20 = some (.iaload, 1, 0, 0, 0, 0) := by decide +kernel
theorem t192_21 : zT 192 21 = some (.aload_n 0, 1, 0, 0, 0, 0) := by decide +kernel
theorem t192_22 : zT 192 22 = some (.getfield 24, 3, 10, 4, 0, 583) := by decide +kernel
theorem t192_25 : zT 192 25 = some (.iload_n 2, 1, 2, 0, 0, 0) := by decide +kernel
theorem t192_26 : zT 192 26 = some (.iaload, 1, 0, 0, 0, 0) := by decide +kernel
theorem t192_27 : zT 192 27 = some (.if_icmp .ge 5, 3, 32, 0, 0, 0) := by decide +kernel
theorem t192_30 : zT 192 30 = some (.iload_n 3, 1, 3, 0, 0, 0) := by decide +kernel
theorem t192_31 : zT 192 31 = some (.istore_n 2, 1, 2, 0, 0, 0) := by decide +kernel
theorem t192_32 : zT 192 32 = some (.iinc 3 1, 3, 0, 0, 0, 0) := by decide +kernel
theorem t192_35 : zT 192 35 = some (.goto (-31), 3, 4, 0, 0, 0) := by decide +kernel
theorem t192_38 : zT 192 38 = some (.iload_n 2, 1, 2, 0, 0, 0) := by decide +kernel
theorem t192_39 : zT 192 39 = some (.ireturn, 1, 0, 0, 0, 0) := by decide +kernel
/-! ===== the class's waiting run, where every event begins at once ===== -/
theorem zfvs {M : zM} {k j k' j' : Nat} {v : Int32} {t : FieldType} (ht : zft t = 2) : zfv (zsI M k j v) k' t j' = zfv M k' t j' := by
  unfold zfv
  rw [ht]
  rfl
theorem zfvP {M Mb : zM} {k j : Nat} {t : FieldType} (h : M.2.2.2.2 = Mb.2.2.2.2) (ht : zft t = 2) : zfv M k t j = zfv Mb k t j := by
  unfold zfv
  rw [ht]
  show va_rf (M.2.2.2.2 k j) = va_rf (Mb.2.2.2.2 k j)
  rw [h]
def zWc (Mb M : zM) (i t : Nat) (last : Int) : Prop := M.2.1 = Mb.2.1 ∧ M.2.2.2.2 = Mb.2.2.2.2 ∧ (zI M 332 0 = 0 ∧ zI M 332 1 = 0 ∧ zI M 332 2 = 0) ∧ (zI M 332 3).toInt = last ∧ (∀ j, j < 8 → (zI M 333 j).toInt ≤ (t : Int)) ∧ ∀ j, j < i → (zI M 334 j).toInt ≤ (t : Int)
def zWb (Mb : zM) : Prop := zK Mb 332 = (10, 0) ∧ zK Mb 333 = (20, 8) ∧ zK Mb 334 = (20, 200) ∧ zfv Mb 332 (cY 10 4) 4 = .ref 333 ∧ zfv Mb 332 (cY 10 5) 5 = .ref 334
theorem zWc.b {Mb M : zM} {i t : Nat} {last : Int} (h : zWc Mb M i t last) (b : zWb Mb) : zWb M :=
  ⟨(congrFun h.1 332).trans b.1, (congrFun h.1 333).trans b.2.1, (congrFun h.1 334).trans b.2.2.1, (zfvP h.2.1 rfl).trans b.2.2.2.1, (zfvP h.2.1 rfl).trans b.2.2.2.2⟩
section WAIT
variable {X : zX} {l : Launch} {Q : Option Value → zM → Prop}
theorem ff_l {M : zM} {wv : Int32} (b : zWb M) : ∀ (m i q : Nat) (iv qv : Int32), i + m = 8 → iv.toInt = (i : Int) → qv.toInt = (q : Int) → q < 8 → zGo X l 0 0 0 192 4 [(3, .int iv), (2, .int qv), (0, .ref 332), (1, .int wv)] [] M (fun r M' => M = M' ∧ ∃ (q : Nat) (qv : Int32), q < 8 ∧ r = some (.int qv) ∧ qv.toInt = (q : Int)) := by
  obtain ⟨f332, f333, f334, p4, p5⟩ := b
  intro m
  induction m with
  | zero =>
    intro i q iv qv him hi hq hq8
    refine zs_iload_n (pc := 4) t192_4 rfl ?_
    refine zs_iload_n (pc := 5) t192_5 rfl ?_
    by_cases w1 : wv.toInt ≤ (i : Int)
    · refine zs_icmp_geT (pc := 6) t192_6 hi rfl (by omega) ?_
      refine zs_iload_n (pc := 38) t192_38 rfl ?_
      exact zs_iret (pc := 39) t192_39 mr192 rfl ⟨rfl, q, qv, hq8, rfl, hq⟩
    · refine zs_icmp_geF (pc := 6) t192_6 hi rfl (by omega) ?_
      refine zs_iload_n (pc := 9) t192_9 rfl ?_
      refine zs_bipush (pc := 10) t192_10 (v := 8) (by decide) ?_
      refine zs_icmp_geT (pc := 12) t192_12 hi li8 (by omega) ?_
      refine zs_iload_n (pc := 38) t192_38 rfl ?_
      exact zs_iret (pc := 39) t192_39 mr192 rfl ⟨rfl, q, qv, hq8, rfl, hq⟩
  | succ m ih =>
    intro i q iv qv him hi hq hq8
    refine zs_iload_n (pc := 4) t192_4 rfl ?_
    refine zs_iload_n (pc := 5) t192_5 rfl ?_
    by_cases w1 : wv.toInt ≤ (i : Int)
    · refine zs_icmp_geT (pc := 6) t192_6 hi rfl (by omega) ?_
      refine zs_iload_n (pc := 38) t192_38 rfl ?_
      exact zs_iret (pc := 39) t192_39 mr192 rfl ⟨rfl, q, qv, hq8, rfl, hq⟩
    · refine zs_icmp_geF (pc := 6) t192_6 hi rfl (by omega) ?_
      refine zs_iload_n (pc := 9) t192_9 rfl ?_
      refine zs_bipush (pc := 10) t192_10 (v := 8) (by decide) ?_
      refine zs_icmp_geF (pc := 12) t192_12 hi li8 (by omega) ?_
      refine zs_aload_n (pc := 15) t192_15 rfl ?_
      refine zs_get (pc := 16) t192_16 (by decide) (zk1 f332) p4 ?_
      refine zs_iload_n (pc := 19) t192_19 rfl ?_
      refine zs_iald (pc := 20) t192_20 (j := i) (by decide) (zk1 f333) hi (zk2 f333 (by omega)) rfl ?_
      refine zs_aload_n (pc := 21) t192_21 rfl ?_
      refine zs_get (pc := 22) t192_22 (by decide) (zk1 f332) p4 ?_
      refine zs_iload_n (pc := 25) t192_25 rfl ?_
      refine zs_iald (pc := 26) t192_26 (j := q) (by decide) (zk1 f333) hq (zk2 f333 (by omega)) rfl ?_
      by_cases w2 : (zI M 333 q).toInt ≤ (zI M 333 i).toInt
      · refine zs_icmp_geT (pc := 27) t192_27 rfl rfl (by omega) ?_
        obtain ⟨w3v, w3e, w3⟩ := ziadd (a := iv) (b := Int32.ofInt 1) hi (show (Int32.ofInt 1).toInt = 1 by decide) (by omega) (by omega)
        refine zs_iinc (pc := 32) t192_32 (ls' := [(3, .int w3v), (2, .int qv), (0, .ref 332), (1, .int wv)]) (zml mf192 (by decide)) rfl (c := w3v) w3e rfl ?_
        refine zs_goto (pc := 35) t192_35 ?_
        exact zGo.locals (by simp) (ih (i + 1) q w3v qv (by omega) (by omega) hq (by omega))
      · refine zs_icmp_geF (pc := 27) t192_27 rfl rfl (by omega) ?_
        refine zs_iload_n (pc := 30) t192_30 rfl ?_
        refine zs_istore_n (pc := 31) t192_31 (ls' := [(2, .int iv), (3, .int iv), (0, .ref 332), (1, .int wv)]) (zml mf192 (by decide)) rfl ?_
        obtain ⟨w4v, w4e, w4⟩ := ziadd (a := iv) (b := Int32.ofInt 1) hi (show (Int32.ofInt 1).toInt = 1 by decide) (by omega) (by omega)
        refine zs_iinc (pc := 32) t192_32 (ls' := [(3, .int w4v), (2, .int iv), (0, .ref 332), (1, .int wv)]) (zml mf192 (by decide)) rfl (c := w4v) w4e rfl ?_
        refine zs_goto (pc := 35) t192_35 ?_
        exact zGo.locals (by simp) (ih (i + 1) i w4v iv (by omega) (by omega) hi (by omega))
theorem ff_c {M : zM} {wv : Int32} (b : zWb M) : zCall X l 0 0 0 192 [.ref 332, .int wv] M (fun r M' => M = M' ∧ ∃ (q : Nat) (qv : Int32), q < 8 ∧ r = some (.int qv) ∧ qv.toInt = (q : Int)) := by
  refine zs_in (by decide) mf192 (Nat.le_of_ble_eq_true rfl) ?_
  show zGo X l 0 0 0 192 0 [(0, .ref 332), (1, .int wv)] [] M _
  refine zs_iconst (pc := 0) t192_0 (v := 0) (by decide) ?_
  refine zs_istore_n (pc := 1) t192_1 (ls' := [(2, .int (0 : Int32)), (0, .ref 332), (1, .int wv)]) (zml mf192 (by decide)) rfl ?_
  refine zs_iconst (pc := 2) t192_2 (v := 1) (by decide) ?_
  refine zs_istore_n (pc := 3) t192_3 (ls' := [(3, .int (1 : Int32)), (2, .int (0 : Int32)), (0, .ref 332), (1, .int wv)]) (zml mf192 (by decide)) rfl ?_
  exact zGo.locals (by simp) (ff_l (wv := wv) b 7 1 0 1 0 (by omega) (by decide) (by decide) (by omega))
theorem rl_in {M : zM} {i t : Nat} {nv pv wv bv iv tv nowv : Int32} (b : zWb M) (hB : ∀ j, j < i → (zI M 334 j).toInt ≤ (t : Int)) (hi2 : i < 200) (htv : tv.toInt = (i : Int)) (hnow : nowv.toInt = (t : Int)) (hnext : ∀ gv : Int32, gv.toInt = (i : Int) → zGo X l 1 0 0 191 98 [(8, .int gv), (10, .int nowv), (9, .int iv), (7, .int tv), (0, .ref 332), (1, .int nv), (2, .int pv), (3, .int wv), (4, .int bv), (5, .int (1 : Int32)), (6, .int (50 : Int32))] [] M Q) : ∀ (m g : Nat) (gv : Int32), g + m = i → gv.toInt = (g : Int) → zGo X l 1 0 0 191 73 [(8, .int gv), (10, .int nowv), (9, .int iv), (7, .int tv), (0, .ref 332), (1, .int nv), (2, .int pv), (3, .int wv), (4, .int bv), (5, .int (1 : Int32)), (6, .int (50 : Int32))] [] M Q := by
  obtain ⟨f332, f333, f334, p4, p5⟩ := b
  intro m
  induction m with
  | zero =>
    intro g gv hgm hg
    refine zs_iload (pc := 73) t191_73 rfl ?_
    refine zs_iload (pc := 75) t191_75 rfl ?_
    refine zs_icmp_geT (pc := 77) t191_77 hg htv (by omega) ?_
    exact zGo.locals (by simp) (hnext gv (by omega))
  | succ m ih =>
    intro g gv hgm hg
    refine zs_iload (pc := 73) t191_73 rfl ?_
    refine zs_iload (pc := 75) t191_75 rfl ?_
    refine zs_icmp_geF (pc := 77) t191_77 hg htv (by omega) ?_
    refine zs_aload_n (pc := 80) t191_80 rfl ?_
    refine zs_get (pc := 81) t191_81 (by decide) (zk1 f332) p5 ?_
    refine zs_iload (pc := 84) t191_84 rfl ?_
    have b334 := hB g (by omega)
    refine zs_iald (pc := 86) t191_86 (j := g) (by decide) (zk1 f334) hg (zk2 f334 (by omega)) rfl ?_
    refine zs_iload (pc := 87) t191_87 rfl ?_
    refine zs_icmp_gtF (pc := 89) t191_89 rfl hnow (by omega) ?_
    obtain ⟨w1v, w1e, w1⟩ := ziadd (a := gv) (b := Int32.ofInt 1) hg (show (Int32.ofInt 1).toInt = 1 by decide) (by omega) (by omega)
    refine zs_iinc (pc := 92) t191_92 (ls' := [(8, .int w1v), (10, .int nowv), (9, .int iv), (7, .int tv), (0, .ref 332), (1, .int nv), (2, .int pv), (3, .int wv), (4, .int bv), (5, .int (1 : Int32)), (6, .int (50 : Int32))]) (zml mf191 (by decide)) rfl (c := w1v) w1e rfl ?_
    refine zs_goto (pc := 95) t191_95 ?_
    exact zGo.locals (by simp) (ih (g + 1) w1v (by omega) (by omega))
theorem zWc_s {Mb M : zM} {i t p q : Nat} {last : Int} {x y z : Int32} (h : zWc Mb M i (i * p) last) (ht : t = i * p) (hp : 1 ≤ p) (hx : x.toInt = (t : Int)) (hy : y.toInt = (t : Int) + 1) (hz : z.toInt = (t : Int) + 1) : zWc Mb (zsI (zsI (zsI M 334 i x) 333 q y) 332 3 z) (i + 1) ((i + 1) * p) ((t : Int) + 1) := by
  obtain ⟨h1, h2, h3, h4, h5, h6⟩ := h
  rw [Nat.succ_mul, ← ht]
  rw [← ht] at h5 h6
  refine ⟨h1, h2, h3, hz, fun j hj => ?_, fun j hj => ?_⟩
  · show (upd (zI M 333) q y j).toInt ≤ _
    unfold upd
    have := h5 j hj
    split <;> omega
  · show (upd (zI M 334) i x j).toInt ≤ _
    unfold upd
    split
    · omega
    · have := h6 j (by omega)
      omega
theorem rl_m {Mb : zM} {n p : Nat} {nv pv wv bv : Int32} (bb : zWb Mb) (hn : nv.toInt = (n : Int)) (hn2 : n ≤ 200) (hp : pv.toInt = (p : Int)) (hp1 : 1 ≤ p) (hp2 : p ≤ 999) (hQ : ∀ M last, zWc Mb M n (n * p) last → (n = 0 ∧ last = 0) ∨ (1 ≤ n ∧ last = ((n * p : Nat) : Int) - p + 1) → Q none M) : ∀ (m i g : Nat) (iv tv gv : Int32) (M : zM) (last : Int), i + m = n → iv.toInt = (i : Int) → tv.toInt = (i : Int) → gv.toInt = (g : Int) → g ≤ i → zWc Mb M i (i * p) last → (i = 0 ∧ last = 0) ∨ (1 ≤ i ∧ last = ((i * p : Nat) : Int) - p + 1) → zGo X l 1 0 0 191 53 [(9, .int iv), (8, .int gv), (7, .int tv), (0, .ref 332), (1, .int nv), (2, .int pv), (3, .int wv), (4, .int bv), (5, .int (1 : Int32)), (6, .int (50 : Int32))] [] M Q := by
  intro m
  induction m with
  | zero =>
    intro i g iv tv gv M last him hi htv hg hgi hM hl
    obtain rfl : i = n := by omega
    refine zs_iload (pc := 53) t191_53 rfl ?_
    refine zs_iload_n (pc := 55) t191_55 rfl ?_
    refine zs_icmp_geT (pc := 56) t191_56 hi hn (by omega) ?_
    exact zs_vret (pc := 241) t191_241 mr191 (hQ M last hM hl)
  | succ m ih =>
    intro i g iv tv gv M last him hi htv hg hgi hM hl
    have b := hM.b bb
    obtain ⟨f332, f333, f334, p4, p5⟩ := b
    have hA := hM.2.2.2.2.1
    have hB := hM.2.2.2.2.2
    have hlast := hM.2.2.2.1
    have ht2 : i * p ≤ 198801 := Nat.le_trans (Nat.mul_le_mul (show i ≤ 199 by omega) hp2) (by decide)
    have hsu : (i + 1) * p = i * p + p := Nat.succ_mul i p
    have hz : i = 0 → i * p = 0 := fun q => by rw [q, Nat.zero_mul]
    obtain ⟨t, ht⟩ : ∃ t, t = i * p := ⟨_, rfl⟩
    rw [← ht] at ht2 hsu hz hA hB hl
    refine zs_iload (pc := 53) t191_53 rfl ?_
    refine zs_iload_n (pc := 55) t191_55 rfl ?_
    refine zs_icmp_geF (pc := 56) t191_56 hi hn (by omega) ?_
    refine zs_iload (pc := 59) t191_59 rfl ?_
    refine zs_sipush (pc := 61) t191_61 (v := 200) (by decide) ?_
    refine zs_icmp_geF (pc := 64) t191_64 htv li200 (by omega) ?_
    refine zs_iload (pc := 67) t191_67 rfl ?_
    refine zs_iload_n (pc := 69) t191_69 rfl ?_
    obtain ⟨nowv, now0, now1⟩ := zimul (a := iv) (b := pv) hi hp (by rw [← Int.natCast_mul, ← ht]; omega) (by rw [← Int.natCast_mul, ← ht]; omega)
    have hnow : nowv.toInt = (t : Int) := by rw [now1, ← Int.natCast_mul, ← ht]
    refine zs_imul (pc := 70) t191_70 (c := nowv) now0 ?_
    refine zs_istore (pc := 71) t191_71 (ls' := [(10, .int nowv), (9, .int iv), (8, .int gv), (7, .int tv), (0, .ref 332), (1, .int nv), (2, .int pv), (3, .int wv), (4, .int bv), (5, .int (1 : Int32)), (6, .int (50 : Int32))]) (zml mf191 (by decide)) rfl ?_
    refine zGo.locals (ls' := [(8, .int gv), (10, .int nowv), (9, .int iv), (7, .int tv), (0, .ref 332), (1, .int nv), (2, .int pv), (3, .int wv), (4, .int bv), (5, .int (1 : Int32)), (6, .int (50 : Int32))]) (by simp) ?_
    refine rl_in (t := t) ⟨f332, f333, f334, p4, p5⟩ hB (by omega) htv hnow ?_ (i - g) g gv (by omega) hg
    intro gv hg
    refine zs_aload_n (pc := 98) t191_98 rfl ?_
    refine zs_iload_n (pc := 99) t191_99 rfl ?_
    refine zs_invV (pc := 100) (k := 332) (as' := [.int wv]) (st := []) t191_100 mf192 rfl rfl (Or.inl ⟨by decide, (zk1 f332)⟩) ⟨by decide, by decide, Nat.le_of_ble_eq_true rfl, Nat.le_of_ble_eq_true rfl⟩ (ff_c ⟨f332, f333, f334, p4, p5⟩) ?_
    rintro r M9 ⟨rfl, q, qv, hq8, rfl, hq⟩
    show zGo X l 1 0 0 191 103 [(8, .int gv), (10, .int nowv), (9, .int iv), (7, .int tv), (0, .ref 332), (1, .int nv), (2, .int pv), (3, .int wv), (4, .int bv), (5, .int (1 : Int32)), (6, .int (50 : Int32))] [.int qv] M _
    refine zs_istore (pc := 103) t191_103 (ls' := [(11, .int qv), (8, .int gv), (10, .int nowv), (9, .int iv), (7, .int tv), (0, .ref 332), (1, .int nv), (2, .int pv), (3, .int wv), (4, .int bv), (5, .int (1 : Int32)), (6, .int (50 : Int32))]) (zml mf191 (by decide)) rfl ?_
    refine zs_iload (pc := 105) t191_105 rfl ?_
    refine zs_aload_n (pc := 107) t191_107 rfl ?_
    refine zs_get (pc := 108) t191_108 (by decide) (zk1 f332) p4 ?_
    refine zs_iload (pc := 111) t191_111 rfl ?_
    have b333 := hA q (by omega)
    refine zs_iald (pc := 113) t191_113 (j := q) (by decide) (zk1 f333) hq (zk2 f333 (by omega)) rfl ?_
    refine zs_invS (pc := 114) (as := [.int nowv, .int (zI M 333 q)]) (st := []) t191_114 (by decide) mf21 rfl rfl ⟨by decide, by decide, Nat.le_of_ble_eq_true rfl, Nat.le_of_ble_eq_true rfl⟩ (zs_in (by decide) mf21 (Nat.le_of_ble_eq_true rfl) ?_) (fun _ _ q => q)
    show zGo X l 0 0 0 21 0 [(0, .int nowv), (1, .int (zI M 333 q))] [] M _
    refine zs_iload_n (pc := 0) t21_0 rfl ?_
    refine zs_iload_n (pc := 1) t21_1 rfl ?_
    refine zs_icmp_ltF (pc := 2) t21_2 hnow rfl (by omega) ?_
    refine zs_iload_n (pc := 5) t21_5 rfl ?_
    refine zs_goto (pc := 6) t21_6 ?_
    refine zs_iret (pc := 10) t21_10 mr21 rfl ?_
    show zGo X l 1 0 0 191 117 [(11, .int qv), (8, .int gv), (10, .int nowv), (9, .int iv), (7, .int tv), (0, .ref 332), (1, .int nv), (2, .int pv), (3, .int wv), (4, .int bv), (5, .int (1 : Int32)), (6, .int (50 : Int32))] [.int nowv] M _
    refine zs_istore (pc := 117) t191_117 (ls' := [(12, .int nowv), (11, .int qv), (8, .int gv), (10, .int nowv), (9, .int iv), (7, .int tv), (0, .ref 332), (1, .int nv), (2, .int pv), (3, .int wv), (4, .int bv), (5, .int (1 : Int32)), (6, .int (50 : Int32))]) (zml mf191 (by decide)) rfl ?_
    refine zs_iload (pc := 119) t191_119 rfl ?_
    refine zs_iload (pc := 121) t191_121 rfl ?_
    refine zs_icmp_leT (pc := 123) t191_123 hnow hnow (by omega) ?_
    refine zs_aload_n (pc := 149) t191_149 rfl ?_
    refine zs_get (pc := 150) t191_150 (by decide) (zk1 f332) p5 ?_
    refine zs_iload (pc := 153) t191_153 rfl ?_
    refine zs_iload (pc := 155) t191_155 rfl ?_
    refine zs_iast (pc := 157) t191_157 (j := i) (by decide) (zk1 f334) htv (zk2 f334 (by omega)) ?_
    obtain ⟨w1v, w1e, w1⟩ := ziadd (a := tv) (b := Int32.ofInt 1) htv (show (Int32.ofInt 1).toInt = 1 by decide) (by omega) (by omega)
    refine zs_iinc (pc := 158) t191_158 (ls' := [(7, .int w1v), (12, .int nowv), (11, .int qv), (8, .int gv), (10, .int nowv), (9, .int iv), (0, .ref 332), (1, .int nv), (2, .int pv), (3, .int wv), (4, .int bv), (5, .int (1 : Int32)), (6, .int (50 : Int32))]) (zml mf191 (by decide)) rfl (c := w1v) w1e rfl ?_
    refine zs_aload_n (pc := 161) t191_161 rfl ?_
    refine zs_get (pc := 162) t191_162 (by decide) (zk1 f332) ((zfvs rfl).trans p4) ?_
    refine zs_iload (pc := 165) t191_165 rfl ?_
    refine zs_iload (pc := 167) t191_167 rfl ?_
    refine zs_iload (pc := 169) t191_169 rfl ?_
    obtain ⟨w2v, w2e, w2⟩ := ziadd (a := nowv) (b := (1 : Int32)) hnow li1 (by omega) (by omega)
    refine zs_iadd (pc := 171) t191_171 (c := w2v) w2e ?_
    refine zs_iast (pc := 172) t191_172 (j := q) (by decide) (zk1 f333) hq (zk2 f333 (by omega)) ?_
    refine zs_iload (pc := 173) t191_173 rfl ?_
    refine zs_iload (pc := 175) t191_175 rfl ?_
    refine zs_icmp_leT (pc := 177) t191_177 hnow hnow (by omega) ?_
    refine zs_iload (pc := 196) t191_196 rfl ?_
    refine zs_iload (pc := 198) t191_198 rfl ?_
    obtain ⟨w3v, w3e, w3⟩ := ziadd (a := nowv) (b := (1 : Int32)) hnow li1 (by omega) (by omega)
    refine zs_iadd (pc := 200) t191_200 (c := w3v) w3e ?_
    refine zs_iload (pc := 201) t191_201 rfl ?_
    obtain ⟨w4v, w4e, w4⟩ := zisub (a := w3v) (b := nowv) w3 hnow (by omega) (by omega)
    refine zs_isub (pc := 203) t191_203 (c := w4v) w4e ?_
    refine zs_iload (pc := 204) t191_204 rfl ?_
    refine zs_icmp_leT (pc := 206) t191_206 w4 li50 (by omega) ?_
    refine zs_aload_n (pc := 219) t191_219 rfl ?_
    refine zs_aload_n (pc := 220) t191_220 rfl ?_
    refine zs_get (pc := 221) t191_221 (by decide) (zk1 f332) (show zfv (zsI (zsI M 334 i nowv) 333 q w2v) 332 (cY 10 3) 3 = .int (zI M 332 3) from rfl) ?_
    refine zs_iload (pc := 224) t191_224 rfl ?_
    refine zs_iload (pc := 226) t191_226 rfl ?_
    obtain ⟨w5v, w5e, w5⟩ := ziadd (a := nowv) (b := (1 : Int32)) hnow li1 (by omega) (by omega)
    refine zs_iadd (pc := 228) t191_228 (c := w5v) w5e ?_
    refine zs_invS (pc := 229) (as := [.int (zI M 332 3), .int w5v]) (st := [.ref 332]) t191_229 (by decide) mf21 rfl rfl ⟨by decide, by decide, Nat.le_of_ble_eq_true rfl, Nat.le_of_ble_eq_true rfl⟩ (zs_in (by decide) mf21 (Nat.le_of_ble_eq_true rfl) ?_) (fun _ _ q => q)
    show zGo X l 0 0 0 21 0 [(0, .int (zI M 332 3)), (1, .int w5v)] [] (zsI (zsI M 334 i nowv) 333 q w2v) _
    refine zs_iload_n (pc := 0) t21_0 rfl ?_
    refine zs_iload_n (pc := 1) t21_1 rfl ?_
    refine zs_icmp_ltT (pc := 2) t21_2 hlast w5 (by omega) ?_
    refine zs_iload_n (pc := 9) t21_9 rfl ?_
    refine zs_iret (pc := 10) t21_10 mr21 rfl ?_
    show zGo X l 1 0 0 191 232 [(7, .int w1v), (12, .int nowv), (11, .int qv), (8, .int gv), (10, .int nowv), (9, .int iv), (0, .ref 332), (1, .int nv), (2, .int pv), (3, .int wv), (4, .int bv), (5, .int (1 : Int32)), (6, .int (50 : Int32))] [.int w5v, .ref 332] (zsI (zsI M 334 i nowv) 333 q w2v) _
    refine zs_putI (pc := 232) t191_232 (zk1 f332) rfl ?_
    obtain ⟨w6v, w6e, w6⟩ := ziadd (a := iv) (b := Int32.ofInt 1) hi (show (Int32.ofInt 1).toInt = 1 by decide) (by omega) (by omega)
    refine zs_iinc (pc := 235) t191_235 (ls' := [(9, .int w6v), (7, .int w1v), (12, .int nowv), (11, .int qv), (8, .int gv), (10, .int nowv), (0, .ref 332), (1, .int nv), (2, .int pv), (3, .int wv), (4, .int bv), (5, .int (1 : Int32)), (6, .int (50 : Int32))]) (zml mf191 (by decide)) rfl (c := w6v) w6e rfl ?_
    refine zs_goto (pc := 238) t191_238 ?_
    refine zGo.locals (ls' := [(9, .int w6v), (8, .int gv), (7, .int w1v), (0, .ref 332), (1, .int nv), (2, .int pv), (3, .int wv), (4, .int bv), (5, .int (1 : Int32)), (6, .int (50 : Int32))]) (by simp) ?_
    refine ih (i + 1) i w6v w1v gv _ ((t : Int) + 1) (by omega) (by omega) (by omega) hg (by omega) ?_ (Or.inr ⟨by omega, by rw [hsu]; omega⟩)
    exact zWc_s hM ht hp1 (by omega) (by omega) (by omega)
/-- the run: nothing is lost or late or waits; when the last is done -/
theorem run_c {Mb : zM} {n p : Nat} {nv pv wv bv : Int32} (bb : zWb Mb) (hn : nv.toInt = (n : Int)) (hn1 : 1 ≤ n) (hn2 : n ≤ 200) (hp : pv.toInt = (p : Int)) (hp1 : 1 ≤ p) (hp2 : p ≤ 999) : zCall X l 1 0 0 191 [.ref 332, .int nv, .int pv, .int wv, .int bv, .int (1 : Int32), .int (50 : Int32)] Mb (fun r M => r = none ∧ M.2.1 = Mb.2.1 ∧ M.2.2.2.2 = Mb.2.2.2.2 ∧ zI M 332 0 = 0 ∧ zI M 332 1 = 0 ∧ zI M 332 2 = 0 ∧ (zI M 332 3).toInt = ((n * p : Nat) : Int) - p + 1) := by
  have b := bb
  obtain ⟨f332, f333, f334, p4, p5⟩ := b
  refine zs_in (by decide) mf191 (Nat.le_of_ble_eq_true rfl) ?_
  show zGo X l 1 0 0 191 0 [(0, .ref 332), (1, .int nv), (2, .int pv), (3, .int wv), (4, .int bv), (5, .int (1 : Int32)), (6, .int (50 : Int32))] [] Mb _
  refine zs_aload_n (pc := 0) t191_0 rfl ?_
  refine zs_iconst (pc := 1) t191_1 (v := 0) (by decide) ?_
  refine zs_putI (pc := 2) t191_2 (zk1 f332) rfl ?_
  refine zs_aload_n (pc := 5) t191_5 rfl ?_
  refine zs_iconst (pc := 6) t191_6 (v := 0) (by decide) ?_
  refine zs_putI (pc := 7) t191_7 (zk1 f332) rfl ?_
  refine zs_aload_n (pc := 10) t191_10 rfl ?_
  refine zs_iconst (pc := 11) t191_11 (v := 0) (by decide) ?_
  refine zs_putI (pc := 12) t191_12 (zk1 f332) rfl ?_
  refine zs_aload_n (pc := 15) t191_15 rfl ?_
  refine zs_iconst (pc := 16) t191_16 (v := 0) (by decide) ?_
  refine zs_putI (pc := 17) t191_17 (zk1 f332) rfl ?_
  refine zs_iconst (pc := 20) t191_20 (v := 0) (by decide) ?_
  refine zs_istore (pc := 21) t191_21 (ls' := [(7, .int (0 : Int32)), (0, .ref 332), (1, .int nv), (2, .int pv), (3, .int wv), (4, .int bv), (5, .int (1 : Int32)), (6, .int (50 : Int32))]) (zml mf191 (by decide)) rfl ?_
  refine zs_iload (pc := 23) t191_23 rfl ?_
  refine zs_bipush (pc := 25) t191_25 (v := 8) (by decide) ?_
  refine zs_icmp_geF (pc := 27) t191_27 li0 li8 (by decide) ?_
  refine zs_aload_n (pc := 30) t191_30 rfl ?_
  refine zs_get (pc := 31) t191_31 (by decide) (zk1 f332) ((zfvs rfl).trans ((zfvs rfl).trans ((zfvs rfl).trans ((zfvs rfl).trans p4)))) ?_
  refine zs_iload (pc := 34) t191_34 rfl ?_
  refine zs_iconst (pc := 36) t191_36 (v := 0) (by decide) ?_
  refine zs_iast (pc := 37) t191_37 (j := 0) (by decide) (zk1 f333) li0 (zk2 f333 (by omega)) ?_
  refine zs_iinc (pc := 38) t191_38 (ls' := [(7, .int (1 : Int32)), (0, .ref 332), (1, .int nv), (2, .int pv), (3, .int wv), (4, .int bv), (5, .int (1 : Int32)), (6, .int (50 : Int32))]) (zml mf191 (by decide)) rfl (c := 1) (by decide) rfl ?_
  refine zs_goto (pc := 41) t191_41 ?_
  refine zs_iload (pc := 23) t191_23 rfl ?_
  refine zs_bipush (pc := 25) t191_25 (v := 8) (by decide) ?_
  refine zs_icmp_geF (pc := 27) t191_27 li1 li8 (by decide) ?_
  refine zs_aload_n (pc := 30) t191_30 rfl ?_
  refine zs_get (pc := 31) t191_31 (by decide) (zk1 f332) ((zfvs rfl).trans ((zfvs rfl).trans ((zfvs rfl).trans ((zfvs rfl).trans ((zfvs rfl).trans p4))))) ?_
  refine zs_iload (pc := 34) t191_34 rfl ?_
  refine zs_iconst (pc := 36) t191_36 (v := 0) (by decide) ?_
  refine zs_iast (pc := 37) t191_37 (j := 1) (by decide) (zk1 f333) li1 (zk2 f333 (by omega)) ?_
  refine zs_iinc (pc := 38) t191_38 (ls' := [(7, .int (2 : Int32)), (0, .ref 332), (1, .int nv), (2, .int pv), (3, .int wv), (4, .int bv), (5, .int (1 : Int32)), (6, .int (50 : Int32))]) (zml mf191 (by decide)) rfl (c := 2) (by decide) rfl ?_
  refine zs_goto (pc := 41) t191_41 ?_
  refine zs_iload (pc := 23) t191_23 rfl ?_
  refine zs_bipush (pc := 25) t191_25 (v := 8) (by decide) ?_
  refine zs_icmp_geF (pc := 27) t191_27 li2 li8 (by decide) ?_
  refine zs_aload_n (pc := 30) t191_30 rfl ?_
  refine zs_get (pc := 31) t191_31 (by decide) (zk1 f332) ((zfvs rfl).trans ((zfvs rfl).trans ((zfvs rfl).trans ((zfvs rfl).trans ((zfvs rfl).trans ((zfvs rfl).trans p4)))))) ?_
  refine zs_iload (pc := 34) t191_34 rfl ?_
  refine zs_iconst (pc := 36) t191_36 (v := 0) (by decide) ?_
  refine zs_iast (pc := 37) t191_37 (j := 2) (by decide) (zk1 f333) li2 (zk2 f333 (by omega)) ?_
  refine zs_iinc (pc := 38) t191_38 (ls' := [(7, .int (3 : Int32)), (0, .ref 332), (1, .int nv), (2, .int pv), (3, .int wv), (4, .int bv), (5, .int (1 : Int32)), (6, .int (50 : Int32))]) (zml mf191 (by decide)) rfl (c := 3) (by decide) rfl ?_
  refine zs_goto (pc := 41) t191_41 ?_
  refine zs_iload (pc := 23) t191_23 rfl ?_
  refine zs_bipush (pc := 25) t191_25 (v := 8) (by decide) ?_
  refine zs_icmp_geF (pc := 27) t191_27 li3 li8 (by decide) ?_
  refine zs_aload_n (pc := 30) t191_30 rfl ?_
  refine zs_get (pc := 31) t191_31 (by decide) (zk1 f332) ((zfvs rfl).trans ((zfvs rfl).trans ((zfvs rfl).trans ((zfvs rfl).trans ((zfvs rfl).trans ((zfvs rfl).trans ((zfvs rfl).trans p4))))))) ?_
  refine zs_iload (pc := 34) t191_34 rfl ?_
  refine zs_iconst (pc := 36) t191_36 (v := 0) (by decide) ?_
  refine zs_iast (pc := 37) t191_37 (j := 3) (by decide) (zk1 f333) li3 (zk2 f333 (by omega)) ?_
  refine zs_iinc (pc := 38) t191_38 (ls' := [(7, .int (4 : Int32)), (0, .ref 332), (1, .int nv), (2, .int pv), (3, .int wv), (4, .int bv), (5, .int (1 : Int32)), (6, .int (50 : Int32))]) (zml mf191 (by decide)) rfl (c := 4) (by decide) rfl ?_
  refine zs_goto (pc := 41) t191_41 ?_
  refine zs_iload (pc := 23) t191_23 rfl ?_
  refine zs_bipush (pc := 25) t191_25 (v := 8) (by decide) ?_
  refine zs_icmp_geF (pc := 27) t191_27 li4 li8 (by decide) ?_
  refine zs_aload_n (pc := 30) t191_30 rfl ?_
  refine zs_get (pc := 31) t191_31 (by decide) (zk1 f332) ((zfvs rfl).trans ((zfvs rfl).trans ((zfvs rfl).trans ((zfvs rfl).trans ((zfvs rfl).trans ((zfvs rfl).trans ((zfvs rfl).trans ((zfvs rfl).trans p4)))))))) ?_
  refine zs_iload (pc := 34) t191_34 rfl ?_
  refine zs_iconst (pc := 36) t191_36 (v := 0) (by decide) ?_
  refine zs_iast (pc := 37) t191_37 (j := 4) (by decide) (zk1 f333) li4 (zk2 f333 (by omega)) ?_
  refine zs_iinc (pc := 38) t191_38 (ls' := [(7, .int (5 : Int32)), (0, .ref 332), (1, .int nv), (2, .int pv), (3, .int wv), (4, .int bv), (5, .int (1 : Int32)), (6, .int (50 : Int32))]) (zml mf191 (by decide)) rfl (c := 5) (by decide) rfl ?_
  refine zs_goto (pc := 41) t191_41 ?_
  refine zs_iload (pc := 23) t191_23 rfl ?_
  refine zs_bipush (pc := 25) t191_25 (v := 8) (by decide) ?_
  refine zs_icmp_geF (pc := 27) t191_27 li5 li8 (by decide) ?_
  refine zs_aload_n (pc := 30) t191_30 rfl ?_
  refine zs_get (pc := 31) t191_31 (by decide) (zk1 f332) ((zfvs rfl).trans ((zfvs rfl).trans ((zfvs rfl).trans ((zfvs rfl).trans ((zfvs rfl).trans ((zfvs rfl).trans ((zfvs rfl).trans ((zfvs rfl).trans ((zfvs rfl).trans p4))))))))) ?_
  refine zs_iload (pc := 34) t191_34 rfl ?_
  refine zs_iconst (pc := 36) t191_36 (v := 0) (by decide) ?_
  refine zs_iast (pc := 37) t191_37 (j := 5) (by decide) (zk1 f333) li5 (zk2 f333 (by omega)) ?_
  refine zs_iinc (pc := 38) t191_38 (ls' := [(7, .int (6 : Int32)), (0, .ref 332), (1, .int nv), (2, .int pv), (3, .int wv), (4, .int bv), (5, .int (1 : Int32)), (6, .int (50 : Int32))]) (zml mf191 (by decide)) rfl (c := 6) (by decide) rfl ?_
  refine zs_goto (pc := 41) t191_41 ?_
  refine zs_iload (pc := 23) t191_23 rfl ?_
  refine zs_bipush (pc := 25) t191_25 (v := 8) (by decide) ?_
  refine zs_icmp_geF (pc := 27) t191_27 li6 li8 (by decide) ?_
  refine zs_aload_n (pc := 30) t191_30 rfl ?_
  refine zs_get (pc := 31) t191_31 (by decide) (zk1 f332) ((zfvs rfl).trans ((zfvs rfl).trans ((zfvs rfl).trans ((zfvs rfl).trans ((zfvs rfl).trans ((zfvs rfl).trans ((zfvs rfl).trans ((zfvs rfl).trans ((zfvs rfl).trans ((zfvs rfl).trans p4)))))))))) ?_
  refine zs_iload (pc := 34) t191_34 rfl ?_
  refine zs_iconst (pc := 36) t191_36 (v := 0) (by decide) ?_
  refine zs_iast (pc := 37) t191_37 (j := 6) (by decide) (zk1 f333) li6 (zk2 f333 (by omega)) ?_
  refine zs_iinc (pc := 38) t191_38 (ls' := [(7, .int (7 : Int32)), (0, .ref 332), (1, .int nv), (2, .int pv), (3, .int wv), (4, .int bv), (5, .int (1 : Int32)), (6, .int (50 : Int32))]) (zml mf191 (by decide)) rfl (c := 7) (by decide) rfl ?_
  refine zs_goto (pc := 41) t191_41 ?_
  refine zs_iload (pc := 23) t191_23 rfl ?_
  refine zs_bipush (pc := 25) t191_25 (v := 8) (by decide) ?_
  refine zs_icmp_geF (pc := 27) t191_27 li7 li8 (by decide) ?_
  refine zs_aload_n (pc := 30) t191_30 rfl ?_
  refine zs_get (pc := 31) t191_31 (by decide) (zk1 f332) ((zfvs rfl).trans ((zfvs rfl).trans ((zfvs rfl).trans ((zfvs rfl).trans ((zfvs rfl).trans ((zfvs rfl).trans ((zfvs rfl).trans ((zfvs rfl).trans ((zfvs rfl).trans ((zfvs rfl).trans ((zfvs rfl).trans p4))))))))))) ?_
  refine zs_iload (pc := 34) t191_34 rfl ?_
  refine zs_iconst (pc := 36) t191_36 (v := 0) (by decide) ?_
  refine zs_iast (pc := 37) t191_37 (j := 7) (by decide) (zk1 f333) li7 (zk2 f333 (by omega)) ?_
  refine zs_iinc (pc := 38) t191_38 (ls' := [(7, .int (8 : Int32)), (0, .ref 332), (1, .int nv), (2, .int pv), (3, .int wv), (4, .int bv), (5, .int (1 : Int32)), (6, .int (50 : Int32))]) (zml mf191 (by decide)) rfl (c := 8) (by decide) rfl ?_
  refine zs_goto (pc := 41) t191_41 ?_
  refine zs_iload (pc := 23) t191_23 rfl ?_
  refine zs_bipush (pc := 25) t191_25 (v := 8) (by decide) ?_
  refine zs_icmp_geT (pc := 27) t191_27 li8 li8 (by decide) ?_
  refine zs_iconst (pc := 44) t191_44 (v := 0) (by decide) ?_
  refine zs_istore (pc := 45) t191_45 (ls' := [(7, .int (0 : Int32)), (0, .ref 332), (1, .int nv), (2, .int pv), (3, .int wv), (4, .int bv), (5, .int (1 : Int32)), (6, .int (50 : Int32))]) (zml mf191 (by decide)) rfl ?_
  refine zs_iconst (pc := 47) t191_47 (v := 0) (by decide) ?_
  refine zs_istore (pc := 48) t191_48 (ls' := [(8, .int (0 : Int32)), (7, .int (0 : Int32)), (0, .ref 332), (1, .int nv), (2, .int pv), (3, .int wv), (4, .int bv), (5, .int (1 : Int32)), (6, .int (50 : Int32))]) (zml mf191 (by decide)) rfl ?_
  refine zs_iconst (pc := 50) t191_50 (v := 0) (by decide) ?_
  refine zs_istore (pc := 51) t191_51 (ls' := [(9, .int (0 : Int32)), (8, .int (0 : Int32)), (7, .int (0 : Int32)), (0, .ref 332), (1, .int nv), (2, .int pv), (3, .int wv), (4, .int bv), (5, .int (1 : Int32)), (6, .int (50 : Int32))]) (zml mf191 (by decide)) rfl ?_
  refine zGo.locals (ls' := [(9, .int (0 : Int32)), (8, .int (0 : Int32)), (7, .int (0 : Int32)), (0, .ref 332), (1, .int nv), (2, .int pv), (3, .int wv), (4, .int bv), (5, .int (1 : Int32)), (6, .int (50 : Int32))]) (by simp) ?_
  refine rl_m bb hn hn2 hp hp1 hp2 (fun M last hM hl => ?_) n 0 0 0 0 0 _ 0 (by omega) (by decide) (by decide) (by decide) (by omega) ?_ (Or.inl ⟨rfl, rfl⟩)
  · refine ⟨rfl, hM.1, hM.2.1, hM.2.2.1.1, hM.2.2.1.2.1, hM.2.2.1.2.2, ?_⟩
    rw [hM.2.2.2.1]
    omega
  · refine ⟨rfl, rfl, ⟨rfl, rfl, rfl⟩, by rfl, fun j hj => ?_, fun j hj => absurd hj (by omega)⟩
    rw [Nat.zero_mul]
    match j, hj with
    | 0, _ => exact (by decide : (0 : Int32).toInt ≤ ((0 : Nat) : Int))
    | 1, _ => exact (by decide : (0 : Int32).toInt ≤ ((0 : Nat) : Int))
    | 2, _ => exact (by decide : (0 : Int32).toInt ≤ ((0 : Nat) : Int))
    | 3, _ => exact (by decide : (0 : Int32).toInt ≤ ((0 : Nat) : Int))
    | 4, _ => exact (by decide : (0 : Int32).toInt ≤ ((0 : Nat) : Int))
    | 5, _ => exact (by decide : (0 : Int32).toInt ≤ ((0 : Nat) : Int))
    | 6, _ => exact (by decide : (0 : Int32).toInt ≤ ((0 : Nat) : Int))
    | 7, _ => exact (by decide : (0 : Int32).toInt ≤ ((0 : Nat) : Int))
end WAIT
