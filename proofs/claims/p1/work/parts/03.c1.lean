/-! ===== the evaluator ===== -/
abbrev zF : Type := Nat → Nat → Nat → Nat → Nat → List (Nat × Value) → List Value → zM → (Option Value → zM → Prop) → Prop
def zi1 (st : List Value) (k : Int32 → List Value → Prop) : Prop := match st with
  | .int a :: r => k a r
  | _ => False
def zi2 (st : List Value) (k : Int32 → Int32 → List Value → Prop) : Prop := match st with
  | .int b :: .int a :: r => k a b r
  | _ => False
def zl1 (st : List Value) (k : Int64 → List Value → Prop) : Prop := match st with
  | .long a :: r => k a r
  | _ => False
def zl2 (st : List Value) (k : Int64 → Int64 → List Value → Prop) : Prop := match st with
  | .long b :: .long a :: r => k a b r
  | _ => False
def zae (st : List Value) (k : Nat → Int32 → List Value → Prop) : Prop := match st with
  | .int i :: .ref a :: r => k a i r
  | _ => False
def zsi (st : List Value) (k : Nat → Int32 → Int32 → List Value → Prop) : Prop := match st with
  | .int v :: .int i :: .ref a :: r => k a i v r
  | _ => False
def zsl (st : List Value) (k : Nat → Int32 → Int64 → List Value → Prop) : Prop := match st with
  | .long v :: .int i :: .ref a :: r => k a i v r
  | _ => False
def zsp (st : List Value) (k : Nat → Int32 → Nat → List Value → Prop) : Prop := match st with
  | .ref v :: .int i :: .ref a :: r => k a i v r
  | _ => False
def zr0 (st : List Value) (k : Nat → List Value → Prop) : Prop := match st with
  | .ref a :: r => k a r
  | _ => False
def zv1 (st : List Value) (k : Value → List Value → Prop) : Prop := match st with
  | a :: r => k a r
  | _ => False
def zv2 (st : List Value) (k : Value → Value → List Value → Prop) : Prop := match st with
  | a :: b :: r => k a b r
  | _ => False
def zv3 (st : List Value) (k : Value → Value → Value → List Value → Prop) : Prop := match st with
  | a :: b :: f :: r => k a b f r
  | _ => False
def zcp (st : List Value) (k : Int32 → Int32 → Nat → Int32 → Nat → List Value → Prop) : Prop := match st with
  | .int n :: .int dp :: .ref b :: .int sp :: .ref a :: r => k n dp b sp a r
  | _ => False
def zrn (st : List Value) (k : Nat → List Value → Prop) (n : List Value → Prop) : Prop := match st with
  | .ref a :: r => k a r
  | .null :: r => n r
  | _ => False
def zpf (st : List Value) (ki : Nat → Int32 → List Value → Prop) (kl : Nat → Int64 → List Value → Prop) (kr : Nat → Nat → List Value → Prop) : Prop := match st with
  | .int v :: .ref a :: r => ki a v r
  | .long v :: .ref a :: r => kl a v r
  | .ref v :: .ref a :: r => kr a v r
  | _ => False
def zli (o : Option Value) (k : Int32 → Prop) : Prop := match o with
  | some (.int x) => k x
  | _ => False
def zll (o : Option Value) (k : Int64 → Prop) : Prop := match o with
  | some (.long x) => k x
  | _ => False
def zla (o : Option Value) (k : Nat → Prop) (n : Prop) : Prop := match o with
  | some (.ref x) => k x
  | some .null => n
  | _ => False
/-- an int that a field or an answer of this type takes as it is -/
def zfi (t : FieldType) (v : Int32) : Prop := match t with
  | .int => True
  | .boolean => v = 0 ∨ v = 1
  | .byte => v.toInt8.toInt32 = v
  | .char => (v.toUInt32 % 65536).toInt32 = v
  | _ => False
def zix (i : Int32) (n : Nat) : Prop := 0 ≤ i.toInt ∧ i.toInt < n
def zfiB (t : FieldType) (v : Int32) : Bool := match t with
  | .int => true
  | .boolean => decide (v = 0) || decide (v = 1)
  | .byte => decide (v.toInt8.toInt32 = v)
  | .char => decide ((v.toUInt32 % 65536).toInt32 = v)
  | _ => false
def zixB (i : Int32) (n : Nat) : Bool := decide (0 ≤ i.toInt) && decide (i.toInt < n)
abbrev zna (y : Nat) : Nat := (mt y).2.2.2.2.1
abbrev zci (y : Nat) : Nat := (mt y).2.2.2.2.2.2.2.2.2.1
abbrev zht (y : Nat) : Nat := (mt y).2.2.2.2.2.2.2.2.2.2.1
abbrev zac (y : Nat) : Nat := (mt y).2.2.2.2.2.2.2.2.2.2.2.1
abbrev zas (y : Nat) : Nat := (mt y).2.2.2.2.2.2.2.2.2.2.2.2
def zdp (y d : Nat) : Nat := if zht y = 99 then d - 1 else zht y
/-- a call: of one of 'inl' its own walk, of another its contract -/
def zcl (X : zX) (l : Launch) (inl : Nat → Bool) (f : zF) (d kc ks y pc : Nat) (ls : List (Nat × Value)) (as st : List Value) (M : zM) (Q : Option Value → zM → Prop) (y' : Nat) : Prop :=
  if zdp y' d + 1 ≤ d ∧ zac y' ≤ kc ∧ zas y' ≤ ks ∧ zwd st ≤ 8 ∧ zwd as ≤ (mt y').2.2.1 then
    (if inl y' = true then f (zdp y' d) (zac y') (zas y') y' 0 (lv_args 0 as) [] M (fun r M' => f d (kc - zac y') (ks - zas y') y (pc + 3) ls (r.toList ++ st) M' Q)
     else zCall X l (zdp y' d) (zac y') (zas y') y' as M (fun r M' => f d (kc - zac y') (ks - zas y') y (pc + 3) ls (r.toList ++ st) M' Q))
  else False
def zrcv (as : List Value) (k : Nat → Prop) : Prop := match as with
  | .ref a :: _ => k a
  | _ => False
def zret (ty : Option FieldType) (k : FieldType → Prop) : Prop := match ty with
  | some t => k t
  | none => False
def zlsw (ps : List (Int × Int)) (dflt : Int) (x : Int32) (k : Int → Prop) : Prop := match ps with
  | [] => k dflt
  | (m, o) :: r => if x.toInt = m then k o else zlsw r dflt x k
def ztsw (offs : List Int) (lo : Int) (x : Int32) (k : Int → Prop) : Prop := match offs with
  | [] => False
  | o :: r => if x.toInt = lo then k o else ztsw r (lo + 1) x k
def zretr (t : Option FieldType) : Bool := match t with
  | some (.object _) => true
  | some (.array _) => true
  | _ => false
/-- one instruction: what it is, its length, what it is resolved to -/
def zSt (X : zX) (l : Launch) (inl : Nat → Bool) (f : zF) (d kc ks y pc : Nat) (ls : List (Nat × Value)) (st : List Value) (M : zM) (Q : Option Value → zM → Prop) (ins : Instr) (A B : Nat) (V : Int) : Prop := match ins with
  | .iconst n => f d kc ks y (pc + 1) ls (.int (Int32.ofInt n) :: st) M Q
  | .bipush n => f d kc ks y (pc + 2) ls (.int (Int8.ofInt n).toInt32 :: st) M Q
  | .sipush n => f d kc ks y (pc + 3) ls (.int (Int16.ofInt n).toInt32 :: st) M Q
  | .lconst n => f d kc ks y (pc + 1) ls (.long (Int64.ofNat (n : Nat)) :: st) M Q
  | .aconst_null => f d kc ks y (pc + 1) ls (.null :: st) M Q
  | .iadd => zi2 st fun a b r => f d kc ks y (pc + 1) ls (.int (a + b) :: r) M Q
  | .isub => zi2 st fun a b r => f d kc ks y (pc + 1) ls (.int (a - b) :: r) M Q
  | .imul => zi2 st fun a b r => f d kc ks y (pc + 1) ls (.int (a * b) :: r) M Q
  | .iand => zi2 st fun a b r => f d kc ks y (pc + 1) ls (.int (a &&& b) :: r) M Q
  | .ior => zi2 st fun a b r => f d kc ks y (pc + 1) ls (.int (a ||| b) :: r) M Q
  | .ixor => zi2 st fun a b r => f d kc ks y (pc + 1) ls (.int (a ^^^ b) :: r) M Q
  | .ishl => zi2 st fun a b r => f d kc ks y (pc + 1) ls (.int (a <<< (b &&& 31)) :: r) M Q
  | .ishr => zi2 st fun a b r => f d kc ks y (pc + 1) ls (.int (a >>> (b &&& 31)) :: r) M Q
  | .iushr => zi2 st fun a b r => f d kc ks y (pc + 1) ls (.int ((a.toUInt32 >>> (b.toUInt32 &&& Int32.toUInt32 31)).toInt32) :: r) M Q
  | .ladd => zl2 st fun a b r => f d kc ks y (pc + 1) ls (.long (a + b) :: r) M Q
  | .lsub => zl2 st fun a b r => f d kc ks y (pc + 1) ls (.long (a - b) :: r) M Q
  | .lmul => zl2 st fun a b r => f d kc ks y (pc + 1) ls (.long (a * b) :: r) M Q
  | .land => zl2 st fun a b r => f d kc ks y (pc + 1) ls (.long (a &&& b) :: r) M Q
  | .lor => zl2 st fun a b r => f d kc ks y (pc + 1) ls (.long (a ||| b) :: r) M Q
  | .lxor => zl2 st fun a b r => f d kc ks y (pc + 1) ls (.long (a ^^^ b) :: r) M Q
  | .idiv => zi2 st fun a b r => if b = 0 then False else f d kc ks y (pc + 1) ls (.int (a / b) :: r) M Q
  | .irem => zi2 st fun a b r => if b = 0 then False else f d kc ks y (pc + 1) ls (.int (a - a / b * b) :: r) M Q
  | .ldiv => zl2 st fun a b r => if b = 0 then False else f d kc ks y (pc + 1) ls (.long (a / b) :: r) M Q
  | .lrem => zl2 st fun a b r => if b = 0 then False else f d kc ks y (pc + 1) ls (.long (a - a / b * b) :: r) M Q
  | .ineg => zi1 st fun a r => f d kc ks y (pc + 1) ls (.int (-a) :: r) M Q
  | .lneg => zl1 st fun a r => f d kc ks y (pc + 1) ls (.long (-a) :: r) M Q
  | .i2l => zi1 st fun a r => f d kc ks y (pc + 1) ls (.long a.toInt64 :: r) M Q
  | .l2i => zl1 st fun a r => f d kc ks y (pc + 1) ls (.int a.toInt32 :: r) M Q
  | .i2b => zi1 st fun a r => f d kc ks y (pc + 1) ls (.int a.toInt8.toInt32 :: r) M Q
  | .i2c => zi1 st fun a r => f d kc ks y (pc + 1) ls (.int (a.toUInt32 % 65536).toInt32 :: r) M Q
  | .lcmp => zl2 st fun a b r => f d kc ks y (pc + 1) ls (.int (lg_cmp a b) :: r) M Q
  | .dup => zv1 st fun a r => if a.category = 1 then f d kc ks y (pc + 1) ls (a :: a :: r) M Q else False
  | .pop => zv1 st fun a r => if a.category = 1 then f d kc ks y (pc + 1) ls r M Q else False
  | .pop2 => zv1 st fun a r => if a.category = 2 then f d kc ks y (pc + 1) ls r M Q else False
  | .dup2 => zv2 st fun a b r => if a.category = 1 ∧ b.category = 1 then f d kc ks y (pc + 1) ls (a :: b :: a :: b :: r) M Q else False
  | .dup_x1 => zv2 st fun a b r => if a.category = 1 ∧ b.category = 1 then f d kc ks y (pc + 1) ls (a :: b :: a :: r) M Q else False
  | .dup_x2 => zv3 st fun a b g r => if a.category = 1 ∧ b.category = 1 ∧ g.category = 1 then f d kc ks y (pc + 1) ls (a :: b :: g :: a :: r) M Q else False
  | .iload i => zli (ls.lookup i) fun x => f d kc ks y (pc + 2) ls (.int x :: st) M Q
  | .iload_n i => zli (ls.lookup (i : Nat)) fun x => f d kc ks y (pc + 1) ls (.int x :: st) M Q
  | .istore i => zi1 st fun x r => if i < (mt y).2.2.1 then f d kc ks y (pc + 2) (zst1 ls i (.int x)) r M Q else False
  | .istore_n i => zi1 st fun x r => if (i : Nat) < (mt y).2.2.1 then f d kc ks y (pc + 1) (zst1 ls (i : Nat) (.int x)) r M Q else False
  | .lload i => zll (ls.lookup i) fun x => f d kc ks y (pc + 2) ls (.long x :: st) M Q
  | .lload_n i => zll (ls.lookup (i : Nat)) fun x => f d kc ks y (pc + 1) ls (.long x :: st) M Q
  | .lstore i => zl1 st fun x r => if i + 1 < (mt y).2.2.1 then f d kc ks y (pc + 2) (zst2 ls i (.long x)) r M Q else False
  | .lstore_n i => zl1 st fun x r => if (i : Nat) + 1 < (mt y).2.2.1 then f d kc ks y (pc + 1) (zst2 ls (i : Nat) (.long x)) r M Q else False
  | .aload i => zla (ls.lookup i) (fun x => f d kc ks y (pc + 2) ls (.ref x :: st) M Q) (f d kc ks y (pc + 2) ls (.null :: st) M Q)
  | .aload_n i => zla (ls.lookup (i : Nat)) (fun x => f d kc ks y (pc + 1) ls (.ref x :: st) M Q) (f d kc ks y (pc + 1) ls (.null :: st) M Q)
  | .astore i => if i < (mt y).2.2.1 then zrn st (fun x r => f d kc ks y (pc + 2) (zst1 ls i (.ref x)) r M Q) (fun r => f d kc ks y (pc + 2) (zst1 ls i .null) r M Q) else False
  | .astore_n i => if (i : Nat) < (mt y).2.2.1 then zrn st (fun x r => f d kc ks y (pc + 1) (zst1 ls (i : Nat) (.ref x)) r M Q) (fun r => f d kc ks y (pc + 1) (zst1 ls (i : Nat) .null) r M Q) else False
  | .iinc i n => if i < (mt y).2.2.1 then zli (ls.lookup i) (fun x => f d kc ks y (pc + 3) (zst1 ls i (.int (x + Int32.ofInt n))) st M Q) else False
  | .if_icmp .eq _ => zi2 st fun a b r => if a = b then f d kc ks y A ls r M Q else f d kc ks y (pc + 3) ls r M Q
  | .ifCond .eq _ => zi1 st fun a r => if a = 0 then f d kc ks y A ls r M Q else f d kc ks y (pc + 3) ls r M Q
  | .if_icmp .ne _ => zi2 st fun a b r => if a = b then f d kc ks y (pc + 3) ls r M Q else f d kc ks y A ls r M Q
  | .ifCond .ne _ => zi1 st fun a r => if a = 0 then f d kc ks y (pc + 3) ls r M Q else f d kc ks y A ls r M Q
  | .if_icmp .lt _ => zi2 st fun a b r => if a < b then f d kc ks y A ls r M Q else f d kc ks y (pc + 3) ls r M Q
  | .ifCond .lt _ => zi1 st fun a r => if a < 0 then f d kc ks y A ls r M Q else f d kc ks y (pc + 3) ls r M Q
  | .if_icmp .ge _ => zi2 st fun a b r => if b ≤ a then f d kc ks y A ls r M Q else f d kc ks y (pc + 3) ls r M Q
  | .ifCond .ge _ => zi1 st fun a r => if 0 ≤ a then f d kc ks y A ls r M Q else f d kc ks y (pc + 3) ls r M Q
  | .if_icmp .gt _ => zi2 st fun a b r => if b < a then f d kc ks y A ls r M Q else f d kc ks y (pc + 3) ls r M Q
  | .ifCond .gt _ => zi1 st fun a r => if 0 < a then f d kc ks y A ls r M Q else f d kc ks y (pc + 3) ls r M Q
  | .if_icmp .le _ => zi2 st fun a b r => if a ≤ b then f d kc ks y A ls r M Q else f d kc ks y (pc + 3) ls r M Q
  | .ifCond .le _ => zi1 st fun a r => if a ≤ 0 then f d kc ks y A ls r M Q else f d kc ks y (pc + 3) ls r M Q
  | .goto _ => f d kc ks y A ls st M Q
  | .ifnull _ => zrn st (fun _ r => f d kc ks y (pc + 3) ls r M Q) (fun r => f d kc ks y A ls r M Q)
  | .ifnonnull _ => zrn st (fun _ r => f d kc ks y A ls r M Q) (fun r => f d kc ks y (pc + 3) ls r M Q)
  | .lookupswitch dflt ps => zi1 st fun x r => zlsw ps.toList dflt x (fun off => f d kc ks y ((pc : Int) + off).toNat ls r M Q)
  | .tableswitch dflt lo hi offs => zi1 st fun x r => if x.toInt < lo ∨ hi < x.toInt then f d kc ks y ((pc : Int) + dflt).toNat ls r M Q else ztsw offs.toList lo x (fun off => f d kc ks y ((pc : Int) + off).toNat ls r M Q)
  | .return_ => if (mt y).2.2.2.1 = none ∧ st = [] then Q none M else False
  | .ireturn => zi1 st fun v r => if r = [] then zret (mt y).2.2.2.1 (fun t => if zfiB t v = true then Q (some (.int v)) M else False) else False
  | .lreturn => zl1 st fun v r => if r = [] ∧ (mt y).2.2.2.1 = some .long then Q (some (.long v)) M else False
  | .areturn => if zretr (mt y).2.2.2.1 = true then zrn st (fun v r => if r = [] then Q (some (.ref v)) M else False) (fun r => if r = [] then Q (some .null) M else False) else False
  | .getfield _ => zr0 st fun k r => if A = 30 then (if k = 4 then f d kc ks y (pc + 3) ls ((zsf B).2.2 :: r) M Q else False) else (if (zK M k).1 = A then f d kc ks y (pc + 3) ls (zfv M k (cY A B) B :: r) M Q else False)
  | .putfield _ => zpf st (fun k v r => if (zK M k).1 = A ∧ zfiB (cY A B) v = true then f d kc ks y (pc + 3) ls r (zsI M k B v) Q else False) (fun k v r => if (zK M k).1 = A ∧ cY A B = .long then f d kc ks y (pc + 3) ls r (zsJ M k B v) Q else False) (fun k v r => if (zK M k).1 = A ∧ zft (cY A B) = 2 then f d kc ks y (pc + 3) ls r (zsP M k B (some v)) Q else False)
  | .getstatic _ => f d kc ks y (pc + 3) ls ((zstat A).2.2.2 :: st) M Q
  | .ldc _ => if A = 0 then f d kc ks y (pc + 2) ls (.int (Int32.ofInt V) :: st) M Q else f d kc ks y (pc + 2) ls (.ref 4 :: st) M Q
  | .ldc_w _ => if A = 0 then f d kc ks y (pc + 3) ls (.int (Int32.ofInt V) :: st) M Q else f d kc ks y (pc + 3) ls (.ref 4 :: st) M Q
  | .ldc2_w _ => f d kc ks y (pc + 3) ls (.long (Int64.ofInt V) :: st) M Q
  | .iaload => zae st fun k i r => if (zK M k).1 = 20 ∧ zixB i (zK M k).2 = true then f d kc ks y (pc + 1) ls (.int (zI M k i.toNatClampNeg) :: r) M Q else False
  | .baload => zae st fun k i r => if ((zK M k).1 = 21 ∨ (zK M k).1 = 22) ∧ zixB i (zK M k).2 = true then f d kc ks y (pc + 1) ls (.int (zI M k i.toNatClampNeg) :: r) M Q else False
  | .laload => zae st fun k i r => if (zK M k).1 = 23 ∧ zixB i (zK M k).2 = true then f d kc ks y (pc + 1) ls (.long (zJ M k i.toNatClampNeg) :: r) M Q else False
  | .aaload => zae st fun k i r => if ((zK M k).1 = 24 ∨ (zK M k).1 = 25) ∧ zixB i (zK M k).2 = true then f d kc ks y (pc + 1) ls (va_rf (zP M k i.toNatClampNeg) :: r) M Q else False
  | .iastore => zsi st fun k i v r => if 6 ≤ k ∧ (zK M k).1 = 20 ∧ zixB i (zK M k).2 = true then f d kc ks y (pc + 1) ls r (zsI M k i.toNatClampNeg v) Q else False
  | .bastore => zsi st fun k i v r => if 6 ≤ k ∧ zixB i (zK M k).2 = true then (if (zK M k).1 = 21 then f d kc ks y (pc + 1) ls r (zsI M k i.toNatClampNeg (vp_nar .byte v)) Q else if (zK M k).1 = 22 then f d kc ks y (pc + 1) ls r (zsI M k i.toNatClampNeg (vp_nar .boolean v)) Q else False) else False
  | .lastore => zsl st fun k i v r => if (zK M k).1 = 23 ∧ zixB i (zK M k).2 = true then f d kc ks y (pc + 1) ls r (zsJ M k i.toNatClampNeg v) Q else False
  | .aastore => zsp st fun k i v r => if (((zK M k).1 = 24 ∧ (zK M v).1 = 6) ∨ ((zK M k).1 = 25 ∧ (zK M v).1 = 8)) ∧ zixB i (zK M k).2 = true then f d kc ks y (pc + 1) ls r (zsP M k i.toNatClampNeg (some v)) Q else False
  | .arraylength => zr0 st fun k r => if 20 ≤ (zK M k).1 ∧ (zK M k).1 ≤ 25 then f d kc ks y (pc + 1) ls (.int (Int32.ofNat (zK M k).2) :: r) M Q else False
  | .new _ => if 1 ≤ kc ∧ cN A ≤ ks then f d (kc - 1) (ks - cN A) y (pc + 3) ls (.ref (zN M) :: st) (zal M (A, 0)) Q else False
  | .newarray _ => zi1 st fun n r => if 1 ≤ kc ∧ n.toNatClampNeg ≤ ks ∧ zixB n 100000 = true then f d (kc - 1) (ks - n.toNatClampNeg) y (pc + 2) ls (.ref (zN M) :: r) (zal M (A, n.toNatClampNeg)) Q else False
  | .anewarray _ => zi1 st fun n r => if 1 ≤ kc ∧ n.toNatClampNeg ≤ ks ∧ zixB n 100000 = true then f d (kc - 1) (ks - n.toNatClampNeg) y (pc + 3) ls (.ref (zN M) :: r) (zal M (A, n.toNatClampNeg)) Q else False
  | .checkcast _ => zr0 st fun k r => if 6 ≤ k ∧ (zK M k).1 = 20 then f d kc ks y (pc + 3) ls (.ref k :: r) M Q else False
  | .invokevirtual _ => if B = 7 then zr0 st (fun k r => if k = 1 ∧ 1 ≤ kc ∧ 9 ≤ ks ∧ zwd r ≤ 8 ∧ 1 ≤ d then f d (kc - 1) (ks - 9) y (pc + 3) ls (.ref (zN M) :: r) (zsR (zal M (20, 9)) (zN M) (zI M 1)) Q else False) else if B = 0 ∧ zna A ≤ st.length then zrcv (st.take (zna A)).reverse (fun k => if (zci A < 13 ∧ (zK M k).1 = zci A) ∨ (zci A = 30 ∧ k = 4) then zcl X l inl f d kc ks y pc ls (st.take (zna A)).reverse (st.drop (zna A)) M Q A else False) else False
  | .invokespecial _ => if B = 5 then zr0 st (fun _ r => if zwd r ≤ 8 ∧ 1 ≤ d then f d kc ks y (pc + 3) ls r M Q else False) else if (B = 3 ∨ B = 4) ∧ zna A ≤ st.length then zrcv (st.take (zna A)).reverse (fun _ => zcl X l inl f d kc ks y pc ls (st.take (zna A)).reverse (st.drop (zna A)) M Q A) else False
  | .invokestatic _ => if B = 6 then zcp st (fun n dp b sp a r => if 6 ≤ a ∧ 6 ≤ b ∧ (zK M a).1 = (zK M b).1 ∧ 20 ≤ (zK M b).1 ∧ (zK M b).1 < 23 ∧ 0 ≤ sp.toInt ∧ 0 ≤ dp.toInt ∧ 0 ≤ n.toInt ∧ sp.toInt + n.toInt ≤ (zK M a).2 ∧ dp.toInt + n.toInt ≤ (zK M b).2 ∧ zwd r ≤ 8 ∧ 1 ≤ d then f d kc ks y (pc + 3) ls r (zsR M b (va_cpy (zI M a) (zI M b) sp.toNatClampNeg dp.toNatClampNeg n.toNatClampNeg)) Q else False) else if (B = 1 ∨ B = 2) ∧ zna A ≤ st.length then zcl X l inl f d kc ks y pc ls (st.take (zna A)).reverse (st.drop (zna A)) M Q A else False
  | _ => False
