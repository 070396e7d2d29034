/-! ===== a row an instruction ===== -/
section ZS
variable {X : zX} {l : Launch} {d kc ks y pc n A B PL : Nat} {V : Int} {ls ls' : List (Nat × Value)} {st : List Value} {M : zM} {Q : Option Value → zM → Prop}
theorem zst {ins : Instr} (ht : zT y pc = some (ins, n, A, B, V, PL)) (h : zSt (some X.2.2.2.2.2) False (zCall X l) (fun _ => false) (zGo X l) d kc ks y pc ls st M Q ins A B V) : zGo X l d kc ks y pc ls st M Q :=
  zS_ok (inl := fun _ => false) (fun _ _ _ _ _ _ _ _ _ q => q) (by unfold zS; rw [ht]; exact h)
theorem z0i : (0 : Int32).toInt = 0 := by decide
theorem zlt {a b : Int32} {ea eb : Int} (ha : a.toInt = ea) (hb : b.toInt = eb) : a < b ↔ ea < eb := by rw [Int32.lt_iff_toInt_lt, ha, hb]
theorem zle {a b : Int32} {ea eb : Int} (ha : a.toInt = ea) (hb : b.toInt = eb) : a ≤ b ↔ ea ≤ eb := by rw [Int32.le_iff_toInt_le, ha, hb]
theorem zeq {a b : Int32} {ea eb : Int} (ha : a.toInt = ea) (hb : b.toInt = eb) : a = b ↔ ea = eb := by rw [← Int32.toInt_inj, ha, hb]
theorem zpT {c A B : Prop} [Decidable c] (hc : c) (h : A) : if c then A else B := by rw [if_pos hc]; exact h
theorem zpF {c A B : Prop} [Decidable c] (hc : ¬ c) (h : B) : if c then A else B := by rw [if_neg hc]; exact h
theorem zs_iconst {k : Int} {v : Int32} (ht : zT y pc = some (.iconst k, n, A, B, V, PL)) (hv : Int32.ofInt k = v) (h : zGo X l d kc ks y (pc + 1) ls (.int v :: st) M Q) : zGo X l d kc ks y pc ls st M Q := by subst hv; exact zst ht h
theorem zs_bipush {k : Int} {v : Int32} (ht : zT y pc = some (.bipush k, n, A, B, V, PL)) (hv : (Int8.ofInt k).toInt32 = v) (h : zGo X l d kc ks y (pc + 2) ls (.int v :: st) M Q) : zGo X l d kc ks y pc ls st M Q := by subst hv; exact zst ht h
theorem zs_sipush {k : Int} {v : Int32} (ht : zT y pc = some (.sipush k, n, A, B, V, PL)) (hv : (Int16.ofInt k).toInt32 = v) (h : zGo X l d kc ks y (pc + 3) ls (.int v :: st) M Q) : zGo X l d kc ks y pc ls st M Q := by subst hv; exact zst ht h
theorem zs_lconst {k : Fin 2} {v : Int64} (ht : zT y pc = some (.lconst k, n, A, B, V, PL)) (hv : Int64.ofNat (k : Nat) = v) (h : zGo X l d kc ks y (pc + 1) ls (.long v :: st) M Q) : zGo X l d kc ks y pc ls st M Q := by subst hv; exact zst ht h
theorem zs_aconst_null  (ht : zT y pc = some (.aconst_null, n, A, B, V, PL))  (h : zGo X l d kc ks y (pc + 1) ls (.null :: st) M Q) : zGo X l d kc ks y pc ls st M Q := zst ht h
theorem zs_ldc {k : Nat} {v : Int32} (ht : zT y pc = some (.ldc k, n, A, B, V, PL)) (hA : A = 0) (hv : Int32.ofInt V = v) (h : zGo X l d kc ks y (pc + 2) ls (.int v :: st) M Q) : zGo X l d kc ks y pc ls st M Q := by subst hv; exact zst ht (zpT hA h)
theorem zs_ldc_w {k : Nat} {v : Int32} (ht : zT y pc = some (.ldc_w k, n, A, B, V, PL)) (hA : A = 0) (hv : Int32.ofInt V = v) (h : zGo X l d kc ks y (pc + 3) ls (.int v :: st) M Q) : zGo X l d kc ks y pc ls st M Q := by subst hv; exact zst ht (zpT hA h)
theorem zs_ldc2_w {k : Nat} {v : Int64} (ht : zT y pc = some (.ldc2_w k, n, A, B, V, PL)) (hv : Int64.ofInt V = v) (h : zGo X l d kc ks y (pc + 3) ls (.long v :: st) M Q) : zGo X l d kc ks y pc ls st M Q := by subst hv; exact zst ht h
theorem zs_iadd {a b c : Int32} (ht : zT y pc = some (.iadd, n, A, B, V, PL)) (hc : a + b = c) (h : zGo X l d kc ks y (pc + 1) ls (.int c :: st) M Q) : zGo X l d kc ks y pc ls (.int b :: .int a :: st) M Q := by subst hc; exact zst ht h
theorem zs_isub {a b c : Int32} (ht : zT y pc = some (.isub, n, A, B, V, PL)) (hc : a - b = c) (h : zGo X l d kc ks y (pc + 1) ls (.int c :: st) M Q) : zGo X l d kc ks y pc ls (.int b :: .int a :: st) M Q := by subst hc; exact zst ht h
theorem zs_imul {a b c : Int32} (ht : zT y pc = some (.imul, n, A, B, V, PL)) (hc : a * b = c) (h : zGo X l d kc ks y (pc + 1) ls (.int c :: st) M Q) : zGo X l d kc ks y pc ls (.int b :: .int a :: st) M Q := by subst hc; exact zst ht h
theorem zs_iand {a b c : Int32} (ht : zT y pc = some (.iand, n, A, B, V, PL)) (hc : a &&& b = c) (h : zGo X l d kc ks y (pc + 1) ls (.int c :: st) M Q) : zGo X l d kc ks y pc ls (.int b :: .int a :: st) M Q := by subst hc; exact zst ht h
theorem zs_ior {a b c : Int32} (ht : zT y pc = some (.ior, n, A, B, V, PL)) (hc : a ||| b = c) (h : zGo X l d kc ks y (pc + 1) ls (.int c :: st) M Q) : zGo X l d kc ks y pc ls (.int b :: .int a :: st) M Q := by subst hc; exact zst ht h
theorem zs_ixor {a b c : Int32} (ht : zT y pc = some (.ixor, n, A, B, V, PL)) (hc : a ^^^ b = c) (h : zGo X l d kc ks y (pc + 1) ls (.int c :: st) M Q) : zGo X l d kc ks y pc ls (.int b :: .int a :: st) M Q := by subst hc; exact zst ht h
theorem zs_ishl {a b c : Int32} (ht : zT y pc = some (.ishl, n, A, B, V, PL)) (hc : a <<< (b &&& 31) = c) (h : zGo X l d kc ks y (pc + 1) ls (.int c :: st) M Q) : zGo X l d kc ks y pc ls (.int b :: .int a :: st) M Q := by subst hc; exact zst ht h
theorem zs_ishr {a b c : Int32} (ht : zT y pc = some (.ishr, n, A, B, V, PL)) (hc : a >>> (b &&& 31) = c) (h : zGo X l d kc ks y (pc + 1) ls (.int c :: st) M Q) : zGo X l d kc ks y pc ls (.int b :: .int a :: st) M Q := by subst hc; exact zst ht h
theorem zs_iushr {a b c : Int32} (ht : zT y pc = some (.iushr, n, A, B, V, PL)) (hc : (a.toUInt32 >>> (b.toUInt32 &&& Int32.toUInt32 31)).toInt32 = c) (h : zGo X l d kc ks y (pc + 1) ls (.int c :: st) M Q) : zGo X l d kc ks y pc ls (.int b :: .int a :: st) M Q := by subst hc; exact zst ht h
theorem zs_idiv {a b c : Int32} (ht : zT y pc = some (.idiv, n, A, B, V, PL)) (hb : b ≠ 0) (hc : a / b = c) (h : zGo X l d kc ks y (pc + 1) ls (.int c :: st) M Q) : zGo X l d kc ks y pc ls (.int b :: .int a :: st) M Q := by subst hc; exact zst ht (zpF hb h)
theorem zs_irem {a b c : Int32} (ht : zT y pc = some (.irem, n, A, B, V, PL)) (hb : b ≠ 0) (hc : a - a / b * b = c) (h : zGo X l d kc ks y (pc + 1) ls (.int c :: st) M Q) : zGo X l d kc ks y pc ls (.int b :: .int a :: st) M Q := by subst hc; exact zst ht (zpF hb h)
theorem zs_ladd {a b c : Int64} (ht : zT y pc = some (.ladd, n, A, B, V, PL)) (hc : a + b = c) (h : zGo X l d kc ks y (pc + 1) ls (.long c :: st) M Q) : zGo X l d kc ks y pc ls (.long b :: .long a :: st) M Q := by subst hc; exact zst ht h
theorem zs_lsub {a b c : Int64} (ht : zT y pc = some (.lsub, n, A, B, V, PL)) (hc : a - b = c) (h : zGo X l d kc ks y (pc + 1) ls (.long c :: st) M Q) : zGo X l d kc ks y pc ls (.long b :: .long a :: st) M Q := by subst hc; exact zst ht h
theorem zs_lmul {a b c : Int64} (ht : zT y pc = some (.lmul, n, A, B, V, PL)) (hc : a * b = c) (h : zGo X l d kc ks y (pc + 1) ls (.long c :: st) M Q) : zGo X l d kc ks y pc ls (.long b :: .long a :: st) M Q := by subst hc; exact zst ht h
theorem zs_lxor {a b c : Int64} (ht : zT y pc = some (.lxor, n, A, B, V, PL)) (hc : a ^^^ b = c) (h : zGo X l d kc ks y (pc + 1) ls (.long c :: st) M Q) : zGo X l d kc ks y pc ls (.long b :: .long a :: st) M Q := by subst hc; exact zst ht h
theorem zs_ldiv {a b c : Int64} (ht : zT y pc = some (.ldiv, n, A, B, V, PL)) (hb : b ≠ 0) (hc : a / b = c) (h : zGo X l d kc ks y (pc + 1) ls (.long c :: st) M Q) : zGo X l d kc ks y pc ls (.long b :: .long a :: st) M Q := by subst hc; exact zst ht (zpF hb h)
theorem zs_lrem {a b c : Int64} (ht : zT y pc = some (.lrem, n, A, B, V, PL)) (hb : b ≠ 0) (hc : a - a / b * b = c) (h : zGo X l d kc ks y (pc + 1) ls (.long c :: st) M Q) : zGo X l d kc ks y pc ls (.long b :: .long a :: st) M Q := by subst hc; exact zst ht (zpF hb h)
theorem zs_ineg {a c : Int32} (ht : zT y pc = some (.ineg, n, A, B, V, PL)) (hc : -a = c) (h : zGo X l d kc ks y (pc + 1) ls (.int c :: st) M Q) : zGo X l d kc ks y pc ls (.int a :: st) M Q := by subst hc; exact zst ht h
theorem zs_lneg {a c : Int64} (ht : zT y pc = some (.lneg, n, A, B, V, PL)) (hc : -a = c) (h : zGo X l d kc ks y (pc + 1) ls (.long c :: st) M Q) : zGo X l d kc ks y pc ls (.long a :: st) M Q := by subst hc; exact zst ht h
theorem zs_i2l {a : Int32} {c : Int64} (ht : zT y pc = some (.i2l, n, A, B, V, PL)) (hc : a.toInt64 = c) (h : zGo X l d kc ks y (pc + 1) ls (.long c :: st) M Q) : zGo X l d kc ks y pc ls (.int a :: st) M Q := by subst hc; exact zst ht h
theorem zs_l2i {a : Int64} {c : Int32} (ht : zT y pc = some (.l2i, n, A, B, V, PL)) (hc : a.toInt32 = c) (h : zGo X l d kc ks y (pc + 1) ls (.int c :: st) M Q) : zGo X l d kc ks y pc ls (.long a :: st) M Q := by subst hc; exact zst ht h
theorem zs_i2b {a c : Int32} (ht : zT y pc = some (.i2b, n, A, B, V, PL)) (hc : a.toInt8.toInt32 = c) (h : zGo X l d kc ks y (pc + 1) ls (.int c :: st) M Q) : zGo X l d kc ks y pc ls (.int a :: st) M Q := by subst hc; exact zst ht h
theorem zs_i2c {a c : Int32} (ht : zT y pc = some (.i2c, n, A, B, V, PL)) (hc : (a.toUInt32 % 65536).toInt32 = c) (h : zGo X l d kc ks y (pc + 1) ls (.int c :: st) M Q) : zGo X l d kc ks y pc ls (.int a :: st) M Q := by subst hc; exact zst ht h
theorem zs_lcmp {a b : Int64} {c : Int32} (ht : zT y pc = some (.lcmp, n, A, B, V, PL)) (hc : lg_cmp a b = c) (h : zGo X l d kc ks y (pc + 1) ls (.int c :: st) M Q) : zGo X l d kc ks y pc ls (.long b :: .long a :: st) M Q := by subst hc; exact zst ht h
theorem zs_dup {v : Value} (ht : zT y pc = some (.dup, n, A, B, V, PL)) (hv : v.category = 1) (h : zGo X l d kc ks y (pc + 1) ls (v :: v :: st) M Q) : zGo X l d kc ks y pc ls (v :: st) M Q := zst ht (zpT hv h)
theorem zs_pop {v : Value} (ht : zT y pc = some (.pop, n, A, B, V, PL)) (hv : v.category = 1) (h : zGo X l d kc ks y (pc + 1) ls st M Q) : zGo X l d kc ks y pc ls (v :: st) M Q := zst ht (zpT hv h)
theorem zs_dup2 {v w : Value} (ht : zT y pc = some (.dup2, n, A, B, V, PL)) (hv : v.category = 1 ∧ w.category = 1) (h : zGo X l d kc ks y (pc + 1) ls (v :: w :: v :: w :: st) M Q) : zGo X l d kc ks y pc ls (v :: w :: st) M Q := zst ht (zpT hv h)
theorem zs_iload {i : Nat} {x : Int32} (ht : zT y pc = some (.iload i, n, A, B, V, PL)) (hl : ls.lookup i = some (.int x)) (h : zGo X l d kc ks y (pc + 2) ls (.int x :: st) M Q) : zGo X l d kc ks y pc ls st M Q := zst ht (by show zli False (ls.lookup i) _; rw [hl]; exact h)
theorem zs_iload_n {i : Fin 4} {x : Int32} (ht : zT y pc = some (.iload_n i, n, A, B, V, PL)) (hl : ls.lookup (i : Nat) = some (.int x)) (h : zGo X l d kc ks y (pc + 1) ls (.int x :: st) M Q) : zGo X l d kc ks y pc ls st M Q := zst ht (by show zli False (ls.lookup (i : Nat)) _; rw [hl]; exact h)
theorem zs_lload {i : Nat} {x : Int64} (ht : zT y pc = some (.lload i, n, A, B, V, PL)) (hl : ls.lookup i = some (.long x)) (h : zGo X l d kc ks y (pc + 2) ls (.long x :: st) M Q) : zGo X l d kc ks y pc ls st M Q := zst ht (by show zll False (ls.lookup i) _; rw [hl]; exact h)
theorem zs_lload_n {i : Fin 4} {x : Int64} (ht : zT y pc = some (.lload_n i, n, A, B, V, PL)) (hl : ls.lookup (i : Nat) = some (.long x)) (h : zGo X l d kc ks y (pc + 1) ls (.long x :: st) M Q) : zGo X l d kc ks y pc ls st M Q := zst ht (by show zll False (ls.lookup (i : Nat)) _; rw [hl]; exact h)
theorem zs_aload {i : Nat} {k : Nat} (ht : zT y pc = some (.aload i, n, A, B, V, PL)) (hl : ls.lookup i = some (.ref k)) (h : zGo X l d kc ks y (pc + 2) ls (.ref k :: st) M Q) : zGo X l d kc ks y pc ls st M Q := zst ht (by show zla False (ls.lookup i) _ _; rw [hl]; exact h)
theorem zs_aload0 {i : Nat} (ht : zT y pc = some (.aload i, n, A, B, V, PL)) (hl : ls.lookup i = some .null) (h : zGo X l d kc ks y (pc + 2) ls (.null :: st) M Q) : zGo X l d kc ks y pc ls st M Q := zst ht (by show zla False (ls.lookup i) _ _; rw [hl]; exact h)
theorem zs_aload_n {i : Fin 4} {k : Nat} (ht : zT y pc = some (.aload_n i, n, A, B, V, PL)) (hl : ls.lookup (i : Nat) = some (.ref k)) (h : zGo X l d kc ks y (pc + 1) ls (.ref k :: st) M Q) : zGo X l d kc ks y pc ls st M Q := zst ht (by show zla False (ls.lookup (i : Nat)) _ _; rw [hl]; exact h)
theorem zs_aload_n0 {i : Fin 4} (ht : zT y pc = some (.aload_n i, n, A, B, V, PL)) (hl : ls.lookup (i : Nat) = some .null) (h : zGo X l d kc ks y (pc + 1) ls (.null :: st) M Q) : zGo X l d kc ks y pc ls st M Q := zst ht (by show zla False (ls.lookup (i : Nat)) _ _; rw [hl]; exact h)
theorem zs_istore {i : Nat} {x : Int32} (ht : zT y pc = some (.istore i, n, A, B, V, PL)) (hi : i < (mt y).2.2.1) (hl : zst1 ls i (.int x) = ls') (h : zGo X l d kc ks y (pc + 2) ls' st M Q) : zGo X l d kc ks y pc ls (.int x :: st) M Q := by subst hl; exact zst ht (zpT hi h)
theorem zs_istore_n {i : Fin 4} {x : Int32} (ht : zT y pc = some (.istore_n i, n, A, B, V, PL)) (hi : (i : Nat) < (mt y).2.2.1) (hl : zst1 ls (i : Nat) (.int x) = ls') (h : zGo X l d kc ks y (pc + 1) ls' st M Q) : zGo X l d kc ks y pc ls (.int x :: st) M Q := by subst hl; exact zst ht (zpT hi h)
theorem zs_lstore {i : Nat} {x : Int64} (ht : zT y pc = some (.lstore i, n, A, B, V, PL)) (hi : i + 1 < (mt y).2.2.1) (hl : zst2 ls i (.long x) = ls') (h : zGo X l d kc ks y (pc + 2) ls' st M Q) : zGo X l d kc ks y pc ls (.long x :: st) M Q := by subst hl; exact zst ht (zpT hi h)
theorem zs_lstore_n {i : Fin 4} {x : Int64} (ht : zT y pc = some (.lstore_n i, n, A, B, V, PL)) (hi : (i : Nat) + 1 < (mt y).2.2.1) (hl : zst2 ls (i : Nat) (.long x) = ls') (h : zGo X l d kc ks y (pc + 1) ls' st M Q) : zGo X l d kc ks y pc ls (.long x :: st) M Q := by subst hl; exact zst ht (zpT hi h)
theorem zs_astore {i : Nat} {k : Nat} (ht : zT y pc = some (.astore i, n, A, B, V, PL)) (hi : i < (mt y).2.2.1) (hl : zst1 ls i (.ref k) = ls') (h : zGo X l d kc ks y (pc + 2) ls' st M Q) : zGo X l d kc ks y pc ls (.ref k :: st) M Q := by subst hl; exact zst ht (zpT hi h)
theorem zs_astore0 {i : Nat} (ht : zT y pc = some (.astore i, n, A, B, V, PL)) (hi : i < (mt y).2.2.1) (hl : zst1 ls i .null = ls') (h : zGo X l d kc ks y (pc + 2) ls' st M Q) : zGo X l d kc ks y pc ls (.null :: st) M Q := by subst hl; exact zst ht (zpT hi h)
theorem zs_astore_n {i : Fin 4} {k : Nat} (ht : zT y pc = some (.astore_n i, n, A, B, V, PL)) (hi : (i : Nat) < (mt y).2.2.1) (hl : zst1 ls (i : Nat) (.ref k) = ls') (h : zGo X l d kc ks y (pc + 1) ls' st M Q) : zGo X l d kc ks y pc ls (.ref k :: st) M Q := by subst hl; exact zst ht (zpT hi h)
theorem zs_astore_n0 {i : Fin 4} (ht : zT y pc = some (.astore_n i, n, A, B, V, PL)) (hi : (i : Nat) < (mt y).2.2.1) (hl : zst1 ls (i : Nat) .null = ls') (h : zGo X l d kc ks y (pc + 1) ls' st M Q) : zGo X l d kc ks y pc ls (.null :: st) M Q := by subst hl; exact zst ht (zpT hi h)
theorem zs_iinc {i : Nat} {k : Int} {x c : Int32} (ht : zT y pc = some (.iinc i k, n, A, B, V, PL)) (hi : i < (mt y).2.2.1) (hx : ls.lookup i = some (.int x)) (hc : x + Int32.ofInt k = c) (hl : zst1 ls i (.int c) = ls') (h : zGo X l d kc ks y (pc + 3) ls' st M Q) : zGo X l d kc ks y pc ls st M Q := by subst hc; subst hl; exact zst ht (zpT hi (by show zli False (ls.lookup i) _; rw [hx]; exact h))
theorem zs_icmp_eqT {k : Int} {a b : Int32} {ea eb : Int} (ht : zT y pc = some (.if_icmp .eq k, n, A, B, V, PL)) (ha : a.toInt = ea) (hb : b.toInt = eb) (hc : ea = eb) (h : zGo X l d kc ks y A ls st M Q) : zGo X l d kc ks y pc ls (.int b :: .int a :: st) M Q := zst ht (zpT ((zeq ha hb).mpr hc) h)
theorem zs_if_eqT {k : Int} {a : Int32} {ea : Int} (ht : zT y pc = some (.ifCond .eq k, n, A, B, V, PL)) (ha : a.toInt = ea) (hc : ea = 0) (h : zGo X l d kc ks y A ls st M Q) : zGo X l d kc ks y pc ls (.int a :: st) M Q := zst ht (zpT ((zeq ha z0i).mpr hc) h)
theorem zs_icmp_eqF {k : Int} {a b : Int32} {ea eb : Int} (ht : zT y pc = some (.if_icmp .eq k, n, A, B, V, PL)) (ha : a.toInt = ea) (hb : b.toInt = eb) (hc : ¬ ea = eb) (h : zGo X l d kc ks y (pc + 3) ls st M Q) : zGo X l d kc ks y pc ls (.int b :: .int a :: st) M Q := zst ht (zpF (fun q => hc ((zeq ha hb).mp q)) h)
theorem zs_if_eqF {k : Int} {a : Int32} {ea : Int} (ht : zT y pc = some (.ifCond .eq k, n, A, B, V, PL)) (ha : a.toInt = ea) (hc : ¬ ea = 0) (h : zGo X l d kc ks y (pc + 3) ls st M Q) : zGo X l d kc ks y pc ls (.int a :: st) M Q := zst ht (zpF (fun q => hc ((zeq ha z0i).mp q)) h)
theorem zs_icmp_neT {k : Int} {a b : Int32} {ea eb : Int} (ht : zT y pc = some (.if_icmp .ne k, n, A, B, V, PL)) (ha : a.toInt = ea) (hb : b.toInt = eb) (hc : ea ≠ eb) (h : zGo X l d kc ks y A ls st M Q) : zGo X l d kc ks y pc ls (.int b :: .int a :: st) M Q := zst ht (zpF (fun q => hc ((zeq ha hb).mp q)) h)
theorem zs_if_neT {k : Int} {a : Int32} {ea : Int} (ht : zT y pc = some (.ifCond .ne k, n, A, B, V, PL)) (ha : a.toInt = ea) (hc : ea ≠ 0) (h : zGo X l d kc ks y A ls st M Q) : zGo X l d kc ks y pc ls (.int a :: st) M Q := zst ht (zpF (fun q => hc ((zeq ha z0i).mp q)) h)
theorem zs_icmp_neF {k : Int} {a b : Int32} {ea eb : Int} (ht : zT y pc = some (.if_icmp .ne k, n, A, B, V, PL)) (ha : a.toInt = ea) (hb : b.toInt = eb) (hc : ea = eb) (h : zGo X l d kc ks y (pc + 3) ls st M Q) : zGo X l d kc ks y pc ls (.int b :: .int a :: st) M Q := zst ht (zpT ((zeq ha hb).mpr hc) h)
theorem zs_if_neF {k : Int} {a : Int32} {ea : Int} (ht : zT y pc = some (.ifCond .ne k, n, A, B, V, PL)) (ha : a.toInt = ea) (hc : ea = 0) (h : zGo X l d kc ks y (pc + 3) ls st M Q) : zGo X l d kc ks y pc ls (.int a :: st) M Q := zst ht (zpT ((zeq ha z0i).mpr hc) h)
theorem zs_icmp_ltT {k : Int} {a b : Int32} {ea eb : Int} (ht : zT y pc = some (.if_icmp .lt k, n, A, B, V, PL)) (ha : a.toInt = ea) (hb : b.toInt = eb) (hc : ea < eb) (h : zGo X l d kc ks y A ls st M Q) : zGo X l d kc ks y pc ls (.int b :: .int a :: st) M Q := zst ht (zpT ((zlt ha hb).mpr hc) h)
theorem zs_if_ltT {k : Int} {a : Int32} {ea : Int} (ht : zT y pc = some (.ifCond .lt k, n, A, B, V, PL)) (ha : a.toInt = ea) (hc : ea < 0) (h : zGo X l d kc ks y A ls st M Q) : zGo X l d kc ks y pc ls (.int a :: st) M Q := zst ht (zpT ((zlt ha z0i).mpr hc) h)
theorem zs_icmp_ltF {k : Int} {a b : Int32} {ea eb : Int} (ht : zT y pc = some (.if_icmp .lt k, n, A, B, V, PL)) (ha : a.toInt = ea) (hb : b.toInt = eb) (hc : ¬ ea < eb) (h : zGo X l d kc ks y (pc + 3) ls st M Q) : zGo X l d kc ks y pc ls (.int b :: .int a :: st) M Q := zst ht (zpF (fun q => hc ((zlt ha hb).mp q)) h)
theorem zs_if_ltF {k : Int} {a : Int32} {ea : Int} (ht : zT y pc = some (.ifCond .lt k, n, A, B, V, PL)) (ha : a.toInt = ea) (hc : ¬ ea < 0) (h : zGo X l d kc ks y (pc + 3) ls st M Q) : zGo X l d kc ks y pc ls (.int a :: st) M Q := zst ht (zpF (fun q => hc ((zlt ha z0i).mp q)) h)
theorem zs_icmp_geT {k : Int} {a b : Int32} {ea eb : Int} (ht : zT y pc = some (.if_icmp .ge k, n, A, B, V, PL)) (ha : a.toInt = ea) (hb : b.toInt = eb) (hc : eb ≤ ea) (h : zGo X l d kc ks y A ls st M Q) : zGo X l d kc ks y pc ls (.int b :: .int a :: st) M Q := zst ht (zpT ((zle hb ha).mpr hc) h)
theorem zs_if_geT {k : Int} {a : Int32} {ea : Int} (ht : zT y pc = some (.ifCond .ge k, n, A, B, V, PL)) (ha : a.toInt = ea) (hc : 0 ≤ ea) (h : zGo X l d kc ks y A ls st M Q) : zGo X l d kc ks y pc ls (.int a :: st) M Q := zst ht (zpT ((zle z0i ha).mpr hc) h)
theorem zs_icmp_geF {k : Int} {a b : Int32} {ea eb : Int} (ht : zT y pc = some (.if_icmp .ge k, n, A, B, V, PL)) (ha : a.toInt = ea) (hb : b.toInt = eb) (hc : ¬ eb ≤ ea) (h : zGo X l d kc ks y (pc + 3) ls st M Q) : zGo X l d kc ks y pc ls (.int b :: .int a :: st) M Q := zst ht (zpF (fun q => hc ((zle hb ha).mp q)) h)
theorem zs_if_geF {k : Int} {a : Int32} {ea : Int} (ht : zT y pc = some (.ifCond .ge k, n, A, B, V, PL)) (ha : a.toInt = ea) (hc : ¬ 0 ≤ ea) (h : zGo X l d kc ks y (pc + 3) ls st M Q) : zGo X l d kc ks y pc ls (.int a :: st) M Q := zst ht (zpF (fun q => hc ((zle z0i ha).mp q)) h)
theorem zs_icmp_gtT {k : Int} {a b : Int32} {ea eb : Int} (ht : zT y pc = some (.if_icmp .gt k, n, A, B, V, PL)) (ha : a.toInt = ea) (hb : b.toInt = eb) (hc : eb < ea) (h : zGo X l d kc ks y A ls st M Q) : zGo X l d kc ks y pc ls (.int b :: .int a :: st) M Q := zst ht (zpT ((zlt hb ha).mpr hc) h)
theorem zs_if_gtT {k : Int} {a : Int32} {ea : Int} (ht : zT y pc = some (.ifCond .gt k, n, A, B, V, PL)) (ha : a.toInt = ea) (hc : 0 < ea) (h : zGo X l d kc ks y A ls st M Q) : zGo X l d kc ks y pc ls (.int a :: st) M Q := zst ht (zpT ((zlt z0i ha).mpr hc) h)
theorem zs_icmp_gtF {k : Int} {a b : Int32} {ea eb : Int} (ht : zT y pc = some (.if_icmp .gt k, n, A, B, V, PL)) (ha : a.toInt = ea) (hb : b.toInt = eb) (hc : ¬ eb < ea) (h : zGo X l d kc ks y (pc + 3) ls st M Q) : zGo X l d kc ks y pc ls (.int b :: .int a :: st) M Q := zst ht (zpF (fun q => hc ((zlt hb ha).mp q)) h)
theorem zs_if_gtF {k : Int} {a : Int32} {ea : Int} (ht : zT y pc = some (.ifCond .gt k, n, A, B, V, PL)) (ha : a.toInt = ea) (hc : ¬ 0 < ea) (h : zGo X l d kc ks y (pc + 3) ls st M Q) : zGo X l d kc ks y pc ls (.int a :: st) M Q := zst ht (zpF (fun q => hc ((zlt z0i ha).mp q)) h)
theorem zs_icmp_leT {k : Int} {a b : Int32} {ea eb : Int} (ht : zT y pc = some (.if_icmp .le k, n, A, B, V, PL)) (ha : a.toInt = ea) (hb : b.toInt = eb) (hc : ea ≤ eb) (h : zGo X l d kc ks y A ls st M Q) : zGo X l d kc ks y pc ls (.int b :: .int a :: st) M Q := zst ht (zpT ((zle ha hb).mpr hc) h)
theorem zs_if_leT {k : Int} {a : Int32} {ea : Int} (ht : zT y pc = some (.ifCond .le k, n, A, B, V, PL)) (ha : a.toInt = ea) (hc : ea ≤ 0) (h : zGo X l d kc ks y A ls st M Q) : zGo X l d kc ks y pc ls (.int a :: st) M Q := zst ht (zpT ((zle ha z0i).mpr hc) h)
theorem zs_icmp_leF {k : Int} {a b : Int32} {ea eb : Int} (ht : zT y pc = some (.if_icmp .le k, n, A, B, V, PL)) (ha : a.toInt = ea) (hb : b.toInt = eb) (hc : ¬ ea ≤ eb) (h : zGo X l d kc ks y (pc + 3) ls st M Q) : zGo X l d kc ks y pc ls (.int b :: .int a :: st) M Q := zst ht (zpF (fun q => hc ((zle ha hb).mp q)) h)
theorem zs_if_leF {k : Int} {a : Int32} {ea : Int} (ht : zT y pc = some (.ifCond .le k, n, A, B, V, PL)) (ha : a.toInt = ea) (hc : ¬ ea ≤ 0) (h : zGo X l d kc ks y (pc + 3) ls st M Q) : zGo X l d kc ks y pc ls (.int a :: st) M Q := zst ht (zpF (fun q => hc ((zle ha z0i).mp q)) h)
theorem zs_goto {k : Int} (ht : zT y pc = some (.goto k, n, A, B, V, PL))  (h : zGo X l d kc ks y A ls st M Q) : zGo X l d kc ks y pc ls st M Q := zst ht h
theorem zs_ifnullT {k : Int} (ht : zT y pc = some (.ifnull k, n, A, B, V, PL))  (h : zGo X l d kc ks y A ls st M Q) : zGo X l d kc ks y pc ls (.null :: st) M Q := zst ht h
theorem zs_ifnullF {k : Int} {r : Nat} (ht : zT y pc = some (.ifnull k, n, A, B, V, PL))  (h : zGo X l d kc ks y (pc + 3) ls st M Q) : zGo X l d kc ks y pc ls (.ref r :: st) M Q := zst ht h
theorem zs_ifnonnullT {k : Int} {r : Nat} (ht : zT y pc = some (.ifnonnull k, n, A, B, V, PL))  (h : zGo X l d kc ks y A ls st M Q) : zGo X l d kc ks y pc ls (.ref r :: st) M Q := zst ht h
theorem zs_ifnonnullF {k : Int} (ht : zT y pc = some (.ifnonnull k, n, A, B, V, PL))  (h : zGo X l d kc ks y (pc + 3) ls st M Q) : zGo X l d kc ks y pc ls (.null :: st) M Q := zst ht h
def ztsel : List Int → Int → Int → Option Int
  | [], _, _ => none
  | o :: r, lo, e => if e = lo then some o else ztsel r (lo + 1) e
def zlsel : List (Int × Int) → Int → Int → Int
  | [], d, _ => d
  | (m, o) :: r, d, e => if e = m then o else zlsel r d e
theorem ztsel_ok {x : Int32} {e off : Int} {k : Int → Prop} (hx : x.toInt = e) (hk : k off) : ∀ {offs : List Int} {lo : Int}, ztsel offs lo e = some off → ztsw False offs lo x k
  | [], _, h => by cases h
  | o :: r, lo, h => by
    unfold ztsel at h
    unfold ztsw
    rw [hx]
    by_cases q : e = lo
    · rw [if_pos q] at h ⊢
      cases h
      exact hk
    · rw [if_neg q] at h ⊢
      exact ztsel_ok hx hk h
theorem zlsel_ok {x : Int32} {e off d : Int} {k : Int → Prop} (hx : x.toInt = e) (hk : k off) : ∀ {ps : List (Int × Int)}, zlsel ps d e = off → zlsw ps d x k
  | [], h => by unfold zlsel at h; subst h; exact hk
  | (m, o) :: r, h => by
    unfold zlsel at h
    unfold zlsw
    rw [hx]
    by_cases q : e = m
    · rw [if_pos q] at h ⊢
      subst h
      exact hk
    · rw [if_neg q] at h ⊢
      exact zlsel_ok hx hk h
theorem zs_tswD {dflt lo hi : Int} {offs : Array Int} {x : Int32} {e : Int} {pc2 : Nat} (ht : zT y pc = some (.tableswitch dflt lo hi offs, n, A, B, V, PL)) (hx : x.toInt = e) (hc : e < lo ∨ hi < e) (hp : ((pc : Int) + dflt).toNat = pc2) (h : zGo X l d kc ks y pc2 ls st M Q) : zGo X l d kc ks y pc ls (.int x :: st) M Q := by subst hp; exact zst ht (zpT (by rw [hx]; exact hc) h)
theorem zs_tswI {dflt lo hi : Int} {offs : Array Int} {x : Int32} {e off : Int} {pc2 : Nat} (ht : zT y pc = some (.tableswitch dflt lo hi offs, n, A, B, V, PL)) (hx : x.toInt = e) (hc : ¬ (e < lo ∨ hi < e)) (hs : ztsel offs.toList lo e = some off) (hp : ((pc : Int) + off).toNat = pc2) (h : zGo X l d kc ks y pc2 ls st M Q) : zGo X l d kc ks y pc ls (.int x :: st) M Q := by subst hp; exact zst ht (zpF (by rw [hx]; exact hc) (ztsel_ok hx h hs))
theorem zs_lsw {dflt : Int} {ps : Array (Int × Int)} {x : Int32} {e off : Int} {pc2 : Nat} (ht : zT y pc = some (.lookupswitch dflt ps, n, A, B, V, PL)) (hx : x.toInt = e) (hs : zlsel ps.toList dflt e = off) (hp : ((pc : Int) + off).toNat = pc2) (h : zGo X l d kc ks y pc2 ls st M Q) : zGo X l d kc ks y pc ls (.int x :: st) M Q := by subst hp; exact zst ht (zlsel_ok hx h hs)
theorem zs_vret (ht : zT y pc = some (.return_, n, A, B, V, PL)) (hr : (mt y).2.2.2.1 = none) (hq : Q none M) : zGo X l d kc ks y pc ls [] M Q := zst ht (zpT ⟨hr, rfl⟩ hq)
theorem zs_iret {v : Int32} {t : FieldType} (ht : zT y pc = some (.ireturn, n, A, B, V, PL)) (hr : (mt y).2.2.2.1 = some t) (hf : zfiB t v = true) (hq : Q (some (.int v)) M) : zGo X l d kc ks y pc ls [.int v] M Q := zst ht (by show (if ([] : List Value) = [] then zret False (mt y).2.2.2.1 _ else False); rw [if_pos rfl, hr]; exact zpT hf hq)
theorem zs_lret {v : Int64} (ht : zT y pc = some (.lreturn, n, A, B, V, PL)) (hr : (mt y).2.2.2.1 = some .long) (hq : Q (some (.long v)) M) : zGo X l d kc ks y pc ls [.long v] M Q := zst ht (zpT ⟨rfl, hr⟩ hq)
theorem zs_aret {k : Nat} (ht : zT y pc = some (.areturn, n, A, B, V, PL)) (hr : zretr (mt y).2.2.2.1 = true) (hq : Q (some (.ref k)) M) : zGo X l d kc ks y pc ls [.ref k] M Q := zst ht (zpT hr (by show (if ([] : List Value) = [] then _ else False); rw [if_pos rfl]; exact hq))
theorem zs_aret0 (ht : zT y pc = some (.areturn, n, A, B, V, PL)) (hr : zretr (mt y).2.2.2.1 = true) (hq : Q (some .null) M) : zGo X l d kc ks y pc ls [.null] M Q := zst ht (zpT hr (by show (if ([] : List Value) = [] then _ else False); rw [if_pos rfl]; exact hq))
theorem zs_get {i k : Nat} {v : Value} (ht : zT y pc = some (.getfield i, n, A, B, V, PL)) (hA : A ≠ 30) (hk : (zK M k).1 = A) (hv : zfv M k (cY A B) B = v) (h : zGo X l d kc ks y (pc + 3) ls (v :: st) M Q) : zGo X l d kc ks y pc ls (.ref k :: st) M Q := by subst hv; exact zst ht (zpF hA (zpT hk h))
theorem zs_putI {i k : Nat} {v : Int32} (ht : zT y pc = some (.putfield i, n, A, B, V, PL)) (hk : (zK M k).1 = A) (hf : zfiB (cY A B) v = true) (h : zGo X l d kc ks y (pc + 3) ls st (zsI M k B v) Q) : zGo X l d kc ks y pc ls (.int v :: .ref k :: st) M Q := zst ht (zpT ⟨hk, hf⟩ h)
theorem zs_putJ {i k : Nat} {v : Int64} (ht : zT y pc = some (.putfield i, n, A, B, V, PL)) (hk : (zK M k).1 = A) (hf : cY A B = .long) (h : zGo X l d kc ks y (pc + 3) ls st (zsJ M k B v) Q) : zGo X l d kc ks y pc ls (.long v :: .ref k :: st) M Q := zst ht (zpT ⟨hk, hf⟩ h)
theorem zs_getstatic {i : Nat} {v : Value} (ht : zT y pc = some (.getstatic i, n, A, B, V, PL)) (hv : (zstat A).2.2.2 = v) (h : zGo X l d kc ks y (pc + 3) ls (v :: st) M Q) : zGo X l d kc ks y pc ls st M Q := by subst hv; exact zst ht h
theorem zix {i : Int32} {j m : Nat} (hj : i.toInt = (j : Int)) (hm : j < m) : zixB i m = true ∧ i.toNatClampNeg = j := by
  refine ⟨?_, ?_⟩
  · unfold zixB
    rw [Bool.and_eq_true, decide_eq_true_eq, decide_eq_true_eq, hj]
    omega
  · show i.toInt.toNat = j
    rw [hj]
    omega
theorem zs_iald {k j : Nat} {i v : Int32} (ht : zT y pc = some (.iaload, n, A, B, V, PL)) (h0 : k ≠ 0) (hk : (zK M k).1 = 20) (hj : i.toInt = (j : Int)) (hm : j < (zK M k).2) (hv : zI M k j = v) (h : zGo X l d kc ks y (pc + 1) ls (.int v :: st) M Q) : zGo X l d kc ks y pc ls (.int i :: .ref k :: st) M Q := by subst hv; exact zst ht (zpF h0 (zpT ⟨hk, (zix hj hm).1⟩ (by rw [(zix hj hm).2]; exact h)))
theorem zs_sald {j : Nat} {i v : Int32} (ht : zT y pc = some (.iaload, n, A, B, V, PL)) (hj : i.toInt = (j : Int)) (hm : j < X.2.2.2.2.2.1) (hv : X.2.2.2.2.2.2 j = v) (h : zGo X l d kc ks y (pc + 1) ls (.int v :: st) M Q) : zGo X l d kc ks y pc ls (.int i :: .ref 0 :: st) M Q := by subst hv; exact zst ht (zpT (zix hj hm).1 (by rw [(zix hj hm).2]; exact h))
theorem zs_slen {v : Int32} (ht : zT y pc = some (.arraylength, n, A, B, V, PL)) (hv : Int32.ofNat X.2.2.2.2.2.1 = v) (h : zGo X l d kc ks y (pc + 1) ls (.int v :: st) M Q) : zGo X l d kc ks y pc ls (.ref 0 :: st) M Q := by subst hv; exact zst ht h
theorem zs_bald {k j : Nat} {i v : Int32} (ht : zT y pc = some (.baload, n, A, B, V, PL)) (hk : (zK M k).1 = 21 ∨ (zK M k).1 = 22) (hj : i.toInt = (j : Int)) (hm : j < (zK M k).2) (hv : zI M k j = v) (h : zGo X l d kc ks y (pc + 1) ls (.int v :: st) M Q) : zGo X l d kc ks y pc ls (.int i :: .ref k :: st) M Q := by subst hv; exact zst ht (zpT ⟨hk, (zix hj hm).1⟩ (by rw [(zix hj hm).2]; exact h))
theorem zs_lald {k j : Nat} {i : Int32} {v : Int64} (ht : zT y pc = some (.laload, n, A, B, V, PL)) (hk : (zK M k).1 = 23) (hj : i.toInt = (j : Int)) (hm : j < (zK M k).2) (hv : zJ M k j = v) (h : zGo X l d kc ks y (pc + 1) ls (.long v :: st) M Q) : zGo X l d kc ks y pc ls (.int i :: .ref k :: st) M Q := by subst hv; exact zst ht (zpT ⟨hk, (zix hj hm).1⟩ (by rw [(zix hj hm).2]; exact h))
theorem zs_aald {k j : Nat} {i : Int32} {v : Value} (ht : zT y pc = some (.aaload, n, A, B, V, PL)) (hk : (zK M k).1 = 24 ∨ (zK M k).1 = 25) (hj : i.toInt = (j : Int)) (hm : j < (zK M k).2) (hv : va_rf (zP M k j) = v) (h : zGo X l d kc ks y (pc + 1) ls (v :: st) M Q) : zGo X l d kc ks y pc ls (.int i :: .ref k :: st) M Q := by subst hv; exact zst ht (zpT ⟨hk, (zix hj hm).1⟩ (by rw [(zix hj hm).2]; exact h))
theorem zs_iast {k j : Nat} {i v : Int32} (ht : zT y pc = some (.iastore, n, A, B, V, PL)) (h0 : 6 ≤ k) (hk : (zK M k).1 = 20) (hj : i.toInt = (j : Int)) (hm : j < (zK M k).2) (h : zGo X l d kc ks y (pc + 1) ls st (zsI M k j v) Q) : zGo X l d kc ks y pc ls (.int v :: .int i :: .ref k :: st) M Q := zst ht (zpT ⟨h0, hk, (zix hj hm).1⟩ (by rw [(zix hj hm).2]; exact h))
theorem zs_bastB {k j : Nat} {i v w : Int32} (ht : zT y pc = some (.bastore, n, A, B, V, PL)) (h0 : 6 ≤ k) (hk : (zK M k).1 = 21) (hj : i.toInt = (j : Int)) (hm : j < (zK M k).2) (hw : vp_nar .byte v = w) (h : zGo X l d kc ks y (pc + 1) ls st (zsI M k j w) Q) : zGo X l d kc ks y pc ls (.int v :: .int i :: .ref k :: st) M Q := by subst hw; exact zst ht (zpT ⟨h0, (zix hj hm).1⟩ (zpT hk (by rw [(zix hj hm).2]; exact h)))
theorem zs_bastZ {k j : Nat} {i v w : Int32} (ht : zT y pc = some (.bastore, n, A, B, V, PL)) (h0 : 6 ≤ k) (hk : (zK M k).1 = 22) (hj : i.toInt = (j : Int)) (hm : j < (zK M k).2) (hw : vp_nar .boolean v = w) (h : zGo X l d kc ks y (pc + 1) ls st (zsI M k j w) Q) : zGo X l d kc ks y pc ls (.int v :: .int i :: .ref k :: st) M Q := by subst hw; exact zst ht (zpT ⟨h0, (zix hj hm).1⟩ (zpF (by rw [hk]; decide) (zpT hk (by rw [(zix hj hm).2]; exact h))))
theorem zs_last {k j : Nat} {i : Int32} {v : Int64} (ht : zT y pc = some (.lastore, n, A, B, V, PL)) (hk : (zK M k).1 = 23) (hj : i.toInt = (j : Int)) (hm : j < (zK M k).2) (h : zGo X l d kc ks y (pc + 1) ls st (zsJ M k j v) Q) : zGo X l d kc ks y pc ls (.long v :: .int i :: .ref k :: st) M Q := zst ht (zpT ⟨hk, (zix hj hm).1⟩ (by rw [(zix hj hm).2]; exact h))
theorem zs_alen {k m : Nat} {v : Int32} (ht : zT y pc = some (.arraylength, n, A, B, V, PL)) (h0 : k ≠ 0) (hk : 20 ≤ (zK M k).1 ∧ (zK M k).1 ≤ 25) (hm : (zK M k).2 = m) (hv : Int32.ofNat m = v) (h : zGo X l d kc ks y (pc + 1) ls (.int v :: st) M Q) : zGo X l d kc ks y pc ls (.ref k :: st) M Q := by subst hv; subst hm; exact zst ht (zpF h0 (zpT hk h))
/-- a method's numbers: arguments, class, height, locals; it makes nothing -/
def zmf (y' m c h L : Nat) : Prop := zna y' = m ∧ zci y' = c ∧ zht y' = h ∧ zac y' = 0 ∧ zas y' = 0 ∧ (mt y').2.2.1 = L
theorem zs_cl {y' m c h L : Nat} {as : List Value} {Qc : Option Value → zM → Prop} (mf : zmf y' m c h L) (hd : h ≠ 99 ∧ h + 1 ≤ d ∧ zwd st ≤ 8 ∧ zwd as ≤ L) (hcall : zCall X l h 0 0 y' as M Qc) (hn : ∀ r M', Qc r M' → zGo X l d kc ks y (pc + 3) ls (r.toList ++ st) M' Q) : zcl False (zCall X l) (fun _ => false) (zGo X l) d kc ks y pc ls as st M Q y' := by
  obtain ⟨m1, m2, m3, m4, m5, m6⟩ := mf
  unfold zcl
  have hz : zdp y' d = h := by
    unfold zdp
    rw [m3, if_neg hd.1]
  rw [hz, m4, m5, m6]
  refine zpT ⟨hd.2.1, Nat.zero_le _, Nat.zero_le _, hd.2.2.1, hd.2.2.2⟩ (zpF (fun q => by cases q) (hcall.mono hn))
theorem zrev {as st : List Value} {m : Nat} (hm : as.length = m) : m ≤ (as.reverse ++ st).length ∧ ((as.reverse ++ st).take m).reverse = as ∧ (as.reverse ++ st).drop m = st := by
  subst hm
  refine ⟨by simp, ?_, ?_⟩
  · rw [← List.length_reverse (as := as), List.take_left', List.reverse_reverse]
    rfl
  · rw [← List.length_reverse (as := as), List.drop_left']
    rfl
theorem zs_invV {i y' m c h L k : Nat} {as' stk : List Value} {Qc : Option Value → zM → Prop} (ht : zT y pc = some (.invokevirtual i, n, y', 0, V, PL)) (mf : zmf y' m c h L) (hs : stk = (.ref k :: as').reverse ++ st) (hl : (Value.ref k :: as').length = m) (hk : (c < 13 ∧ (zK M k).1 = c) ∨ (c = 30 ∧ k = 4)) (hd : h ≠ 99 ∧ h + 1 ≤ d ∧ zwd st ≤ 8 ∧ zwd (.ref k :: as') ≤ L) (hcall : zCall X l h 0 0 y' (.ref k :: as') M Qc) (hn : ∀ r M', Qc r M' → zGo X l d kc ks y (pc + 3) ls (r.toList ++ st) M' Q) : zGo X l d kc ks y pc ls stk M Q := by
  subst hs
  obtain ⟨r1, r2, r3⟩ := zrev (st := st) hl
  refine zst ht (zpT ⟨rfl, by rw [mf.1]; exact r1⟩ ?_)
  rw [mf.1, r2, r3]
  exact zpT (by rw [mf.2.1]; exact hk) (zs_cl mf hd hcall hn)
theorem zs_invS {i y' m c h L : Nat} {as stk : List Value} {Qc : Option Value → zM → Prop} (ht : zT y pc = some (.invokestatic i, n, y', B, V, PL)) (hB : B = 1 ∨ B = 2) (mf : zmf y' m c h L) (hs : stk = as.reverse ++ st) (hl : as.length = m) (hd : h ≠ 99 ∧ h + 1 ≤ d ∧ zwd st ≤ 8 ∧ zwd as ≤ L) (hcall : zCall X l h 0 0 y' as M Qc) (hn : ∀ r M', Qc r M' → zGo X l d kc ks y (pc + 3) ls (r.toList ++ st) M' Q) : zGo X l d kc ks y pc ls stk M Q := by
  subst hs
  obtain ⟨r1, r2, r3⟩ := zrev (st := st) hl
  refine zst ht (zpF (by omega) (zpT ⟨hB, by rw [mf.1]; exact r1⟩ ?_))
  rw [mf.1, r2, r3]
  exact zs_cl mf hd hcall hn
theorem zs_in {m c h L : Nat} {as : List Value} (hy : y < 350) (mf : zmf y m c h L) (hw : zwd as ≤ L) (hg : zGo X l h 0 0 y 0 (lv_args 0 as) [] M Q) : zCall X l h 0 0 y as M Q := zintro (zmP hy) (by rw [mf.2.2.2.2.2]; exact hw) hg
end ZS
