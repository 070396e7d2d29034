/-! ===== the bytes read quickly ===== -/
theorem zb_run {α β : Type} {x : Jvm.ClassFile.Decoder α} {f : α → Jvm.ClassFile.Decoder β} {code : ByteArray} {p q : Nat} {a : α} (h : x code p = .ok (a, q)) : (x >>= f) code p = f a code q := by
  have e : (x >>= f) code p = Except.bind (x code p) (fun d => f d.1 code d.2) := rfl
  rw [e, h]
  rfl
theorem zm_run {α β : Type} {x : Jvm.ClassFile.Decoder α} {f : α → β} {code : ByteArray} {p q : Nat} {a : α} (h : x code p = .ok (a, q)) : (f <$> x) code p = .ok (f a, q) := by
  have e : (f <$> x) code p = Except.bind (x code p) (fun d => .ok (f d.1, d.2)) := by
    show Except.map (fun d => (f d.1, d.2)) (x code p) = _
    cases x code p <;> rfl
  rw [e, h]
  rfl
abbrev zu (code : ByteArray) (p a : Nat) : Prop := (Jvm.ClassFile.Reader.u1 : Jvm.ClassFile.Decoder Nat) code p = .ok (a, p + 1)
theorem zu1 {code : ByteArray} {p : Nat} (h : p < code.size) : zu code p (code[p]'h).toNat := by
  show (if h : p < code.size then (do set (p + 1); pure (code[p]'h).toNat : Jvm.ClassFile.Decoder Nat) else throw (Jvm.ClassFile.HasTruncated.truncated p) : Jvm.ClassFile.Decoder Nat) code p = _
  rw [dif_pos h]
  rfl
theorem zu2 {code : ByteArray} {p a b : Nat} (h : zu code p a) (h2 : zu code (p + 1) b) : (Jvm.ClassFile.Reader.u2 : Jvm.ClassFile.Decoder Nat) code p = .ok (a * 256 + b, p + 2) := (zb_run h).trans ((zb_run h2).trans rfl)
def zOq0 (k : Nat) (i : Instr) : Prop := ∀ (code : ByteArray) (pc : Nat), zu code pc k → Jvm.ClassFile.Decoder.instr pc code pc = .ok (i, pc + 1)
def zOq1 (k : Nat) (f : Nat → Instr) : Prop := ∀ (code : ByteArray) (pc a : Nat), zu code pc k → zu code (pc + 1) a → Jvm.ClassFile.Decoder.instr pc code pc = .ok (f a, pc + 2)
def zOq2 (k : Nat) (f : Nat → Nat → Instr) : Prop := ∀ (code : ByteArray) (pc a b : Nat), zu code pc k → zu code (pc + 1) a → zu code (pc + 2) b → Jvm.ClassFile.Decoder.instr pc code pc = .ok (f a b, pc + 3)
def zAll {α : Type} (P : α → Prop) : List α → Prop
  | [] => True
  | a :: r => P a ∧ zAll P r
theorem zAll.lk {α : Type} {P : Nat × α → Prop} {k : Nat} {v : α} : ∀ {L : List (Nat × α)}, zAll P L → L.lookup k = some v → P (k, v)
  | [], _, h => by cases h
  | (j, w) :: r, h, e => by
    rw [List.lookup_cons] at e
    by_cases q : k = j
    · subst q
      rw [show (k == k) = true from beq_self_eq_true k] at e
      have e : some w = some v := e
      cases e
      exact h.1
    · rw [show (k == j) = false from beq_eq_false_iff_ne.mpr q] at e
      exact zAll.lk h.2 e
theorem z0_1 : zOq0 1 .aconst_null := fun code pc h => (zb_run h).trans rfl
theorem z0_2 : zOq0 2 (.iconst (-1)) := fun code pc h => (zb_run h).trans rfl
theorem z0_3 : zOq0 3 (.iconst 0) := fun code pc h => (zb_run h).trans rfl
theorem z0_4 : zOq0 4 (.iconst 1) := fun code pc h => (zb_run h).trans rfl
theorem z0_5 : zOq0 5 (.iconst 2) := fun code pc h => (zb_run h).trans rfl
theorem z0_6 : zOq0 6 (.iconst 3) := fun code pc h => (zb_run h).trans rfl
theorem z0_7 : zOq0 7 (.iconst 4) := fun code pc h => (zb_run h).trans rfl
theorem z0_8 : zOq0 8 (.iconst 5) := fun code pc h => (zb_run h).trans rfl
theorem z0_9 : zOq0 9 (.lconst 0) := fun code pc h => (zb_run h).trans rfl
theorem z0_10 : zOq0 10 (.lconst 1) := fun code pc h => (zb_run h).trans rfl
theorem z1_16 : zOq1 16 (fun a => .bipush (Jvm.ClassFile.Reader.signed 8 a)) := fun code pc a h h1 => (zb_run h).trans ((zb_run (zm_run h1)).trans rfl)
theorem z2_17 : zOq2 17 (fun a b => .sipush (Jvm.ClassFile.Reader.signed 16 (a * 256 + b))) := fun code pc a b h h1 h2 => (zb_run h).trans ((zb_run (zm_run (zu2 h1 h2))).trans rfl)
theorem z1_18 : zOq1 18 (fun a => .ldc a) := fun code pc a h h1 => (zb_run h).trans ((zb_run h1).trans rfl)
theorem z2_19 : zOq2 19 (fun a b => .ldc_w (a * 256 + b)) := fun code pc a b h h1 h2 => (zb_run h).trans ((zb_run (zu2 h1 h2)).trans rfl)
theorem z2_20 : zOq2 20 (fun a b => .ldc2_w (a * 256 + b)) := fun code pc a b h h1 h2 => (zb_run h).trans ((zb_run (zu2 h1 h2)).trans rfl)
theorem z1_21 : zOq1 21 (fun a => .iload a) := fun code pc a h h1 => (zb_run h).trans ((zb_run h1).trans rfl)
theorem z1_22 : zOq1 22 (fun a => .lload a) := fun code pc a h h1 => (zb_run h).trans ((zb_run h1).trans rfl)
theorem z1_25 : zOq1 25 (fun a => .aload a) := fun code pc a h h1 => (zb_run h).trans ((zb_run h1).trans rfl)
theorem z0_26 : zOq0 26 (.iload_n 0) := fun code pc h => (zb_run h).trans rfl
theorem z0_27 : zOq0 27 (.iload_n 1) := fun code pc h => (zb_run h).trans rfl
theorem z0_28 : zOq0 28 (.iload_n 2) := fun code pc h => (zb_run h).trans rfl
theorem z0_29 : zOq0 29 (.iload_n 3) := fun code pc h => (zb_run h).trans rfl
theorem z0_30 : zOq0 30 (.lload_n 0) := fun code pc h => (zb_run h).trans rfl
theorem z0_31 : zOq0 31 (.lload_n 1) := fun code pc h => (zb_run h).trans rfl
theorem z0_32 : zOq0 32 (.lload_n 2) := fun code pc h => (zb_run h).trans rfl
theorem z0_33 : zOq0 33 (.lload_n 3) := fun code pc h => (zb_run h).trans rfl
theorem z0_42 : zOq0 42 (.aload_n 0) := fun code pc h => (zb_run h).trans rfl
theorem z0_43 : zOq0 43 (.aload_n 1) := fun code pc h => (zb_run h).trans rfl
theorem z0_44 : zOq0 44 (.aload_n 2) := fun code pc h => (zb_run h).trans rfl
theorem z0_45 : zOq0 45 (.aload_n 3) := fun code pc h => (zb_run h).trans rfl
theorem z0_46 : zOq0 46 .iaload := fun code pc h => (zb_run h).trans rfl
theorem z0_47 : zOq0 47 .laload := fun code pc h => (zb_run h).trans rfl
theorem z0_50 : zOq0 50 .aaload := fun code pc h => (zb_run h).trans rfl
theorem z0_51 : zOq0 51 .baload := fun code pc h => (zb_run h).trans rfl
theorem z1_54 : zOq1 54 (fun a => .istore a) := fun code pc a h h1 => (zb_run h).trans ((zb_run h1).trans rfl)
theorem z1_55 : zOq1 55 (fun a => .lstore a) := fun code pc a h h1 => (zb_run h).trans ((zb_run h1).trans rfl)
theorem z1_58 : zOq1 58 (fun a => .astore a) := fun code pc a h h1 => (zb_run h).trans ((zb_run h1).trans rfl)
theorem z0_59 : zOq0 59 (.istore_n 0) := fun code pc h => (zb_run h).trans rfl
theorem z0_60 : zOq0 60 (.istore_n 1) := fun code pc h => (zb_run h).trans rfl
theorem z0_61 : zOq0 61 (.istore_n 2) := fun code pc h => (zb_run h).trans rfl
theorem z0_62 : zOq0 62 (.istore_n 3) := fun code pc h => (zb_run h).trans rfl
theorem z0_63 : zOq0 63 (.lstore_n 0) := fun code pc h => (zb_run h).trans rfl
theorem z0_64 : zOq0 64 (.lstore_n 1) := fun code pc h => (zb_run h).trans rfl
theorem z0_65 : zOq0 65 (.lstore_n 2) := fun code pc h => (zb_run h).trans rfl
theorem z0_66 : zOq0 66 (.lstore_n 3) := fun code pc h => (zb_run h).trans rfl
theorem z0_75 : zOq0 75 (.astore_n 0) := fun code pc h => (zb_run h).trans rfl
theorem z0_76 : zOq0 76 (.astore_n 1) := fun code pc h => (zb_run h).trans rfl
theorem z0_77 : zOq0 77 (.astore_n 2) := fun code pc h => (zb_run h).trans rfl
theorem z0_78 : zOq0 78 (.astore_n 3) := fun code pc h => (zb_run h).trans rfl
theorem z0_79 : zOq0 79 .iastore := fun code pc h => (zb_run h).trans rfl
theorem z0_80 : zOq0 80 .lastore := fun code pc h => (zb_run h).trans rfl
theorem z0_83 : zOq0 83 .aastore := fun code pc h => (zb_run h).trans rfl
theorem z0_84 : zOq0 84 .bastore := fun code pc h => (zb_run h).trans rfl
theorem z0_87 : zOq0 87 .pop := fun code pc h => (zb_run h).trans rfl
theorem z0_88 : zOq0 88 .pop2 := fun code pc h => (zb_run h).trans rfl
theorem z0_89 : zOq0 89 .dup := fun code pc h => (zb_run h).trans rfl
theorem z0_92 : zOq0 92 .dup2 := fun code pc h => (zb_run h).trans rfl
theorem z0_96 : zOq0 96 .iadd := fun code pc h => (zb_run h).trans rfl
theorem z0_97 : zOq0 97 .ladd := fun code pc h => (zb_run h).trans rfl
theorem z0_100 : zOq0 100 .isub := fun code pc h => (zb_run h).trans rfl
theorem z0_101 : zOq0 101 .lsub := fun code pc h => (zb_run h).trans rfl
theorem z0_104 : zOq0 104 .imul := fun code pc h => (zb_run h).trans rfl
theorem z0_105 : zOq0 105 .lmul := fun code pc h => (zb_run h).trans rfl
theorem z0_108 : zOq0 108 .idiv := fun code pc h => (zb_run h).trans rfl
theorem z0_109 : zOq0 109 .ldiv := fun code pc h => (zb_run h).trans rfl
theorem z0_112 : zOq0 112 .irem := fun code pc h => (zb_run h).trans rfl
theorem z0_113 : zOq0 113 .lrem := fun code pc h => (zb_run h).trans rfl
theorem z0_116 : zOq0 116 .ineg := fun code pc h => (zb_run h).trans rfl
theorem z0_117 : zOq0 117 .lneg := fun code pc h => (zb_run h).trans rfl
theorem z0_120 : zOq0 120 .ishl := fun code pc h => (zb_run h).trans rfl
theorem z0_122 : zOq0 122 .ishr := fun code pc h => (zb_run h).trans rfl
theorem z0_124 : zOq0 124 .iushr := fun code pc h => (zb_run h).trans rfl
theorem z0_126 : zOq0 126 .iand := fun code pc h => (zb_run h).trans rfl
theorem z0_128 : zOq0 128 .ior := fun code pc h => (zb_run h).trans rfl
theorem z0_130 : zOq0 130 .ixor := fun code pc h => (zb_run h).trans rfl
theorem z0_131 : zOq0 131 .lxor := fun code pc h => (zb_run h).trans rfl
theorem z2_132 : zOq2 132 (fun a b => .iinc a (Jvm.ClassFile.Reader.signed 8 b)) := fun code pc a b h h1 h2 => (zb_run h).trans ((zb_run h1).trans ((zb_run (zm_run h2)).trans rfl))
theorem z0_133 : zOq0 133 .i2l := fun code pc h => (zb_run h).trans rfl
theorem z0_136 : zOq0 136 .l2i := fun code pc h => (zb_run h).trans rfl
theorem z0_145 : zOq0 145 .i2b := fun code pc h => (zb_run h).trans rfl
theorem z0_146 : zOq0 146 .i2c := fun code pc h => (zb_run h).trans rfl
theorem z0_148 : zOq0 148 .lcmp := fun code pc h => (zb_run h).trans rfl
theorem z2_153 : zOq2 153 (fun a b => .ifCond .eq (Jvm.ClassFile.Reader.signed 16 (a * 256 + b))) := fun code pc a b h h1 h2 => (zb_run h).trans ((zb_run (zm_run (zu2 h1 h2))).trans rfl)
theorem z2_154 : zOq2 154 (fun a b => .ifCond .ne (Jvm.ClassFile.Reader.signed 16 (a * 256 + b))) := fun code pc a b h h1 h2 => (zb_run h).trans ((zb_run (zm_run (zu2 h1 h2))).trans rfl)
theorem z2_155 : zOq2 155 (fun a b => .ifCond .lt (Jvm.ClassFile.Reader.signed 16 (a * 256 + b))) := fun code pc a b h h1 h2 => (zb_run h).trans ((zb_run (zm_run (zu2 h1 h2))).trans rfl)
theorem z2_156 : zOq2 156 (fun a b => .ifCond .ge (Jvm.ClassFile.Reader.signed 16 (a * 256 + b))) := fun code pc a b h h1 h2 => (zb_run h).trans ((zb_run (zm_run (zu2 h1 h2))).trans rfl)
theorem z2_157 : zOq2 157 (fun a b => .ifCond .gt (Jvm.ClassFile.Reader.signed 16 (a * 256 + b))) := fun code pc a b h h1 h2 => (zb_run h).trans ((zb_run (zm_run (zu2 h1 h2))).trans rfl)
theorem z2_158 : zOq2 158 (fun a b => .ifCond .le (Jvm.ClassFile.Reader.signed 16 (a * 256 + b))) := fun code pc a b h h1 h2 => (zb_run h).trans ((zb_run (zm_run (zu2 h1 h2))).trans rfl)
theorem z2_159 : zOq2 159 (fun a b => .if_icmp .eq (Jvm.ClassFile.Reader.signed 16 (a * 256 + b))) := fun code pc a b h h1 h2 => (zb_run h).trans ((zb_run (zm_run (zu2 h1 h2))).trans rfl)
theorem z2_160 : zOq2 160 (fun a b => .if_icmp .ne (Jvm.ClassFile.Reader.signed 16 (a * 256 + b))) := fun code pc a b h h1 h2 => (zb_run h).trans ((zb_run (zm_run (zu2 h1 h2))).trans rfl)
theorem z2_161 : zOq2 161 (fun a b => .if_icmp .lt (Jvm.ClassFile.Reader.signed 16 (a * 256 + b))) := fun code pc a b h h1 h2 => (zb_run h).trans ((zb_run (zm_run (zu2 h1 h2))).trans rfl)
theorem z2_162 : zOq2 162 (fun a b => .if_icmp .ge (Jvm.ClassFile.Reader.signed 16 (a * 256 + b))) := fun code pc a b h h1 h2 => (zb_run h).trans ((zb_run (zm_run (zu2 h1 h2))).trans rfl)
theorem z2_163 : zOq2 163 (fun a b => .if_icmp .gt (Jvm.ClassFile.Reader.signed 16 (a * 256 + b))) := fun code pc a b h h1 h2 => (zb_run h).trans ((zb_run (zm_run (zu2 h1 h2))).trans rfl)
theorem z2_164 : zOq2 164 (fun a b => .if_icmp .le (Jvm.ClassFile.Reader.signed 16 (a * 256 + b))) := fun code pc a b h h1 h2 => (zb_run h).trans ((zb_run (zm_run (zu2 h1 h2))).trans rfl)
theorem z2_167 : zOq2 167 (fun a b => .goto (Jvm.ClassFile.Reader.signed 16 (a * 256 + b))) := fun code pc a b h h1 h2 => (zb_run h).trans ((zb_run (zm_run (zu2 h1 h2))).trans rfl)
theorem z0_172 : zOq0 172 .ireturn := fun code pc h => (zb_run h).trans rfl
theorem z0_173 : zOq0 173 .lreturn := fun code pc h => (zb_run h).trans rfl
theorem z0_176 : zOq0 176 .areturn := fun code pc h => (zb_run h).trans rfl
theorem z0_177 : zOq0 177 .return_ := fun code pc h => (zb_run h).trans rfl
theorem z2_178 : zOq2 178 (fun a b => .getstatic (a * 256 + b)) := fun code pc a b h h1 h2 => (zb_run h).trans ((zb_run (zu2 h1 h2)).trans rfl)
theorem z2_180 : zOq2 180 (fun a b => .getfield (a * 256 + b)) := fun code pc a b h h1 h2 => (zb_run h).trans ((zb_run (zu2 h1 h2)).trans rfl)
theorem z2_181 : zOq2 181 (fun a b => .putfield (a * 256 + b)) := fun code pc a b h h1 h2 => (zb_run h).trans ((zb_run (zu2 h1 h2)).trans rfl)
theorem z2_182 : zOq2 182 (fun a b => .invokevirtual (a * 256 + b)) := fun code pc a b h h1 h2 => (zb_run h).trans ((zb_run (zu2 h1 h2)).trans rfl)
theorem z2_183 : zOq2 183 (fun a b => .invokespecial (a * 256 + b)) := fun code pc a b h h1 h2 => (zb_run h).trans ((zb_run (zu2 h1 h2)).trans rfl)
theorem z2_184 : zOq2 184 (fun a b => .invokestatic (a * 256 + b)) := fun code pc a b h h1 h2 => (zb_run h).trans ((zb_run (zu2 h1 h2)).trans rfl)
theorem z2_187 : zOq2 187 (fun a b => .new (a * 256 + b)) := fun code pc a b h h1 h2 => (zb_run h).trans ((zb_run (zu2 h1 h2)).trans rfl)
theorem z2_189 : zOq2 189 (fun a b => .anewarray (a * 256 + b)) := fun code pc a b h h1 h2 => (zb_run h).trans ((zb_run (zu2 h1 h2)).trans rfl)
theorem z0_190 : zOq0 190 .arraylength := fun code pc h => (zb_run h).trans rfl
theorem z2_192 : zOq2 192 (fun a b => .checkcast (a * 256 + b)) := fun code pc a b h h1 h2 => (zb_run h).trans ((zb_run (zu2 h1 h2)).trans rfl)
theorem z2_198 : zOq2 198 (fun a b => .ifnull (Jvm.ClassFile.Reader.signed 16 (a * 256 + b))) := fun code pc a b h h1 h2 => (zb_run h).trans ((zb_run (zm_run (zu2 h1 h2))).trans rfl)
theorem z2_199 : zOq2 199 (fun a b => .ifnonnull (Jvm.ClassFile.Reader.signed 16 (a * 256 + b))) := fun code pc a b h h1 h2 => (zb_run h).trans ((zb_run (zm_run (zu2 h1 h2))).trans rfl)
def zOp0 : List (Nat × Instr) := [(45, (.aload_n 3)), (44, (.aload_n 2)), (43, (.aload_n 1)), (42, (.aload_n 0)), (29, (.iload_n 3)), (28, (.iload_n 2)), (27, (.iload_n 1)), (26, (.iload_n 0)), (8, (.iconst 5)), (7, (.iconst 4)), (6, (.iconst 3)), (5, (.iconst 2)), (4, (.iconst 1)), (3, (.iconst 0)), (2, (.iconst (-1))), (172, .ireturn), (46, .iaload), (96, .iadd), (62, (.istore_n 3)), (61, (.istore_n 2)), (60, (.istore_n 1)), (59, (.istore_n 0)), (79, .iastore), (100, .isub), (87, .pop), (10, (.lconst 1)), (9, (.lconst 0)), (133, .i2l), (104, .imul), (89, .dup), (177, .return_), (33, (.lload_n 3)), (32, (.lload_n 2)), (31, (.lload_n 1)), (30, (.lload_n 0)), (105, .lmul), (173, .lreturn), (51, .baload), (47, .laload), (148, .lcmp), (101, .lsub), (97, .ladd), (126, .iand), (116, .ineg), (92, .dup2), (109, .ldiv), (84, .bastore), (78, (.astore_n 3)), (77, (.astore_n 2)), (76, (.astore_n 1)), (75, (.astore_n 0)), (108, .idiv), (66, (.lstore_n 3)), (65, (.lstore_n 2)), (64, (.lstore_n 1)), (63, (.lstore_n 0)), (117, .lneg), (136, .l2i), (128, .ior), (120, .ishl), (176, .areturn), (112, .irem), (190, .arraylength), (124, .iushr), (80, .lastore), (50, .aaload), (145, .i2b), (122, .ishr), (88, .pop2), (83, .aastore), (146, .i2c), (130, .ixor), (113, .lrem), (1, .aconst_null), (131, .lxor)]
def zOp1 : List (Nat × (Nat → Instr)) := [(21, (fun a => .iload a)), (16, (fun a => .bipush (Jvm.ClassFile.Reader.signed 8 a))), (54, (fun a => .istore a)), (22, (fun a => .lload a)), (55, (fun a => .lstore a)), (25, (fun a => .aload a)), (18, (fun a => .ldc a)), (58, (fun a => .astore a))]
def zOp2 : List (Nat × (Nat → Nat → Instr)) := [(180, (fun a b => .getfield (a * 256 + b))), (182, (fun a b => .invokevirtual (a * 256 + b))), (164, (fun a b => .if_icmp .le (Jvm.ClassFile.Reader.signed 16 (a * 256 + b)))), (163, (fun a b => .if_icmp .gt (Jvm.ClassFile.Reader.signed 16 (a * 256 + b)))), (162, (fun a b => .if_icmp .ge (Jvm.ClassFile.Reader.signed 16 (a * 256 + b)))), (161, (fun a b => .if_icmp .lt (Jvm.ClassFile.Reader.signed 16 (a * 256 + b)))), (160, (fun a b => .if_icmp .ne (Jvm.ClassFile.Reader.signed 16 (a * 256 + b)))), (159, (fun a b => .if_icmp .eq (Jvm.ClassFile.Reader.signed 16 (a * 256 + b)))), (167, (fun a b => .goto (Jvm.ClassFile.Reader.signed 16 (a * 256 + b)))), (158, (fun a b => .ifCond .le (Jvm.ClassFile.Reader.signed 16 (a * 256 + b)))), (157, (fun a b => .ifCond .gt (Jvm.ClassFile.Reader.signed 16 (a * 256 + b)))), (156, (fun a b => .ifCond .ge (Jvm.ClassFile.Reader.signed 16 (a * 256 + b)))), (155, (fun a b => .ifCond .lt (Jvm.ClassFile.Reader.signed 16 (a * 256 + b)))), (154, (fun a b => .ifCond .ne (Jvm.ClassFile.Reader.signed 16 (a * 256 + b)))), (153, (fun a b => .ifCond .eq (Jvm.ClassFile.Reader.signed 16 (a * 256 + b)))), (181, (fun a b => .putfield (a * 256 + b))), (184, (fun a b => .invokestatic (a * 256 + b))), (132, (fun a b => .iinc a (Jvm.ClassFile.Reader.signed 8 b))), (17, (fun a b => .sipush (Jvm.ClassFile.Reader.signed 16 (a * 256 + b)))), (20, (fun a b => .ldc2_w (a * 256 + b))), (183, (fun a b => .invokespecial (a * 256 + b))), (187, (fun a b => .new (a * 256 + b))), (19, (fun a b => .ldc_w (a * 256 + b))), (198, (fun a b => .ifnull (Jvm.ClassFile.Reader.signed 16 (a * 256 + b)))), (199, (fun a b => .ifnonnull (Jvm.ClassFile.Reader.signed 16 (a * 256 + b)))), (178, (fun a b => .getstatic (a * 256 + b))), (189, (fun a b => .anewarray (a * 256 + b))), (192, (fun a b => .checkcast (a * 256 + b)))]
theorem zOp0_ok : zAll (fun e => zOq0 e.1 e.2) zOp0 := ⟨z0_45, z0_44, z0_43, z0_42, z0_29, z0_28, z0_27, z0_26, z0_8, z0_7, z0_6, z0_5, z0_4, z0_3, z0_2, z0_172, z0_46, z0_96, z0_62, z0_61, z0_60, z0_59, z0_79, z0_100, z0_87, z0_10, z0_9, z0_133, z0_104, z0_89, z0_177, z0_33, z0_32, z0_31, z0_30, z0_105, z0_173, z0_51, z0_47, z0_148, z0_101, z0_97, z0_126, z0_116, z0_92, z0_109, z0_84, z0_78, z0_77, z0_76, z0_75, z0_108, z0_66, z0_65, z0_64, z0_63, z0_117, z0_136, z0_128, z0_120, z0_176, z0_112, z0_190, z0_124, z0_80, z0_50, z0_145, z0_122, z0_88, z0_83, z0_146, z0_130, z0_113, z0_1, z0_131, trivial⟩
theorem zOp1_ok : zAll (fun e => zOq1 e.1 e.2) zOp1 := ⟨z1_21, z1_16, z1_54, z1_22, z1_55, z1_25, z1_18, z1_58, trivial⟩
theorem zOp2_ok : zAll (fun e => zOq2 e.1 e.2) zOp2 := ⟨z2_180, z2_182, z2_164, z2_163, z2_162, z2_161, z2_160, z2_159, z2_167, z2_158, z2_157, z2_156, z2_155, z2_154, z2_153, z2_181, z2_184, z2_132, z2_17, z2_20, z2_183, z2_187, z2_19, z2_198, z2_199, z2_178, z2_189, z2_192, trivial⟩
def zdec (code : ByteArray) (pc : Nat) : Option (Instr × Nat) := match code.data.toList.drop pc with
  | [] => none
  | o :: r => match zOp0.lookup o.toNat with
    | some i => some (i, 1)
    | none => match r with
      | [] => none
      | a :: r => match zOp2.lookup o.toNat with
        | some f => match r with
          | [] => none
          | b :: _ => some (f a.toNat b.toNat, 3)
        | none => match zOp1.lookup o.toNat with
          | some f => some (f a.toNat, 2)
          | none => none
theorem zbyt {code : ByteArray} {p : Nat} {o : UInt8} {r : List UInt8} (h : code.data.toList.drop p = o :: r) : zu code p o.toNat ∧ code.data.toList.drop (p + 1) = r := by
  have hl : p < code.data.toList.length := by
    refine Nat.lt_of_not_le fun q => ?_
    rw [List.drop_eq_nil_of_le q] at h
    cases h
  have e := List.drop_eq_getElem_cons hl
  rw [e] at h
  injection h with h1 h2
  have hs : p < code.size := hl
  refine ⟨?_, h2⟩
  have z := zu1 hs
  rw [show code[p]'hs = o from h1] at z
  exact z
theorem zdec_ok {code : ByteArray} {pc n : Nat} {i : Instr} (h : zdec code pc = some (i, n)) : decode code pc = .ok (i, n) := by
  have k : Jvm.ClassFile.Decoder.instr pc code pc = .ok (i, pc + n) := by
    unfold zdec at h
    split at h
    · cases h
    · rename_i o r e
      have b0 := zbyt e
      split at h
      · rename_i j e0
        cases h
        exact zAll.lk zOp0_ok e0 code pc b0.1
      · split at h
        · cases h
        · rename_i a r2
          have b1 := zbyt b0.2
          split at h
          · rename_i f e2
            split at h
            · cases h
            · rename_i b r3
              have b2 := zbyt b1.2
              cases h
              exact zAll.lk zOp2_ok e2 code pc _ _ b0.1 b1.1 b2.1
          · split at h
            · rename_i f e1
              cases h
              exact zAll.lk zOp1_ok e1 code pc _ b0.1 b1.1
            · cases h
  have e : decode code pc = Except.bind (Jvm.ClassFile.Decoder.instr pc code pc) (fun d => .ok (d.1, d.2 - pc)) := rfl
  rw [e, k]
  show Except.ok (i, pc + n - pc) = _
  rw [Nat.add_sub_cancel_left]
def zdecB (code : ByteArray) (pc : Nat) (ins : Instr) (n : Nat) : Bool := match zdec code pc with
  | some (i, k) => decide (i = ins) && Nat.beq k n
  | none => decide (decode code pc = .ok (ins, n))
theorem zdecB_ok {code : ByteArray} {pc n : Nat} {ins : Instr} (h : zdecB code pc ins n = true) : decode code pc = .ok (ins, n) := by
  unfold zdecB at h
  split at h
  · rename_i i k e
    rw [Bool.and_eq_true, decide_eq_true_eq] at h
    have h2 := Nat.eq_of_beq_eq_true h.2
    rw [← h.1, ← h2]
    exact zdec_ok e
  · exact of_decide_eq_true h
def zlw (PL : Nat) : Option Cond := (lw_tbl.drop (PL / 64 * 64))[PL % 64]?
theorem zlw_eq {PL : Nat} : zlw PL = lw_tbl[PL]? := by
  unfold zlw
  rw [List.getElem?_drop, show PL / 64 * 64 + PL % 64 = PL by omega]
def zlkG (g : Nat → Option Cond) (y pc : Nat) (ins : Instr) (A B : Nat) (V : Int) (PL : Nat) : Bool := match ins with
  | .getfield i => if A = 30 then decide (B < 2) && decide (g PL = some (.fieldLink (mt y).1.cls i "java/lang/String" (zsf B).1 (zsf B).2.1)) else decide (A < 13) && decide (B < cN A) && decide ((cT A B).1 = cR A) && decide (g PL = some (.fieldLink (mt y).1.cls i (cR A) (cT A B).2.1 (cT A B).2.2.1))
  | .putfield i => decide (A < 13) && decide (B < cN A) && decide ((cT A B).1 = cR A) && decide (g PL = some (.fieldLink (mt y).1.cls i (cR A) (cT A B).2.1 (cT A B).2.2.1)) && (decide ((cT A B).2.2.2 = false) || (decide ((mt y).1.name = "<init>") && decide ((mt y).1.cls = cR A)))
  | .getstatic i => decide (A < 5) && (if B = 0 then decide (g PL = some (.fieldLink (mt y).1.cls i (zstat A).1 (zstat A).2.1 (zstat A).2.2.1)) else decide (g PL = some (.fieldLinkNest (mt y).1.cls i (zstat A).1 (zstat A).2.1 (zstat A).2.2.1 "TrackVotes")))
  | .ldc i => if A = 0 then decide (g PL = some (.constant (mt y).1.cls i (Int32.ofInt V))) else decide (((mt y).1.cls = "TrackVotes$Trigger" ∧ i = 9) ∨ ((mt y).1.cls = "TrackVotes" ∧ i = 324))
  | .ldc_w i => if A = 0 then decide (g PL = some (.constant (mt y).1.cls i (Int32.ofInt V))) else decide (((mt y).1.cls = "TrackVotes$Trigger" ∧ i = 9) ∨ ((mt y).1.cls = "TrackVotes" ∧ i = 324))
  | .ldc2_w i => decide (g PL = some (.constantLong (mt y).1.cls i (Int64.ofInt V)))
  | .new i => decide (A < 13) && decide (g PL = some (.classLink (mt y).1.cls i (cR A)))
  | .newarray t => decide ((A = 20 ∧ t = .int) ∨ (A = 21 ∧ t = .byte) ∨ (A = 22 ∧ t = .boolean) ∨ (A = 23 ∧ t = .long))
  | .anewarray i => (decide (A = 24) && decide (g PL = some (.classLink (mt y).1.cls i "TrackVotes$State"))) || (decide (A = 25) && decide (g PL = some (.classLink (mt y).1.cls i "TrackVotes$Track")))
  | .checkcast i => decide (g PL = some (.classLink (mt y).1.cls i "[I"))
  | .invokevirtual i => if B = 7 then decide (g PL = some (.methodLink (mt y).1.cls i ⟨"[I", "clone", "()Ljava/lang/Object;"⟩)) else if B = 0 then decide (A < 350) && decide ((mt A).2.2.2.2.2.2.2.1 < 100000) && decide (g PL = some (.methodLink (mt y).1.cls i (mt A).1)) else true
  | .invokestatic i => if B = 6 then decide (g PL = some (.methodLink (mt y).1.cls i arraycopyName)) else if B = 1 then decide (A < 350) && decide ((mt A).2.2.2.2.2.2.2.1 = 100000) && decide (g PL = some (.methodLink (mt y).1.cls i (mt A).1)) else if B = 2 then decide (A < 350) && decide ((mt A).2.2.2.2.2.2.2.1 = 100000) && decide (g PL = some (.methodLinkNest (mt y).1.cls i (mt A).1 "TrackVotes")) else true
  | .invokespecial i => if B = 5 then decide (g PL = some (.methodLink (mt y).1.cls i objectInit)) else if B = 3 then decide (A < 350) && decide ((mt A).2.2.2.2.2.2.2.1 = 100001) && decide (g PL = some (.methodLink (mt y).1.cls i (mt A).1)) else if B = 4 then decide (A < 350) && decide ((mt A).2.2.2.2.2.2.2.1 = 100001) && decide (g PL = some (.methodLinkNest (mt y).1.cls i (mt A).1 "TrackVotes")) else true
  | .if_icmp _ off => decide ((pc : Int) + off = (A : Int))
  | .ifCond _ off => decide ((pc : Int) + off = (A : Int))
  | .goto off => decide ((pc : Int) + off = (A : Int))
  | .ifnull off => decide ((pc : Int) + off = (A : Int))
  | .ifnonnull off => decide ((pc : Int) + off = (A : Int))
  | .lookupswitch dflt ps => (ps.toList.zip (ps.toList.drop 1)).all (fun (a, next) => a.1 < next.1) && decide (0 ≤ (pc : Int) + dflt) && ps.toList.all (fun q => decide (0 ≤ (pc : Int) + q.2))
  | .tableswitch dflt lo hi offs => decide (0 ≤ (pc : Int) + dflt) && offs.toList.all (fun q => decide (0 ≤ (pc : Int) + q)) && decide (hi - lo + 1 = (offs.size : Int))
  | _ => true
theorem zlkG_eq {y pc : Nat} {ins : Instr} {A B : Nat} {V : Int} {PL : Nat} : zlkG (fun p => lw_tbl[p]?) y pc ins A B V PL = zlk y pc ins A B V PL := by
  cases ins <;> rfl
theorem zlkF_eq {y pc : Nat} {ins : Instr} {A B : Nat} {V : Int} {PL : Nat} : zlkG zlw y pc ins A B V PL = zlk y pc ins A B V PL := by
  rw [show zlw = fun p => lw_tbl[p]? from funext fun p => zlw_eq]
  exact zlkG_eq
def zchkF (y : Nat) (q : Nat × gE) : Bool := zdecB (mt y).2.1 q.1 q.2.1 q.2.2.1 && zlen q.2.1 q.2.2.1 && zlkG zlw y q.1 q.2.1 q.2.2.2.1 q.2.2.2.2.1 q.2.2.2.2.2.1 q.2.2.2.2.2.2
theorem zchkF_ok {y : Nat} {q : Nat × gE} (h : zchkF y q = true) : zchk y q = true := by
  unfold zchkF at h
  rw [Bool.and_eq_true, Bool.and_eq_true, zlkF_eq] at h
  unfold zchk
  rw [Bool.and_eq_true, Bool.and_eq_true]
  exact ⟨⟨decide_eq_true (zdecB_ok h.1.1), h.1.2⟩, h.2⟩
theorem zckF {y : Nat} {t : List (Nat × gE)} (h : t.all (zchkF y) = true) : t.all (zchk y) = true := by
  rw [List.all_eq_true] at h ⊢
  exact fun q hq => zchkF_ok (h q hq)
