/-! ===== the evaluator: of a kind of answer ρ (Prop: what is shown; Bool: what is run), 'bad' where the machine would throw ===== -/
abbrev zF (ρ : Type) : Type := Nat → Nat → Nat → Nat → Nat → List (Nat × Value) → List Value → zM → (Option Value → zM → ρ) → ρ
def zi1 {ρ : Type} (bad : ρ) (st : List Value) (k : Int32 → List Value → ρ) : ρ := match st with
  | .int a :: r => k a r
  | _ => bad
def zi2 {ρ : Type} (bad : ρ) (st : List Value) (k : Int32 → Int32 → List Value → ρ) : ρ := match st with
  | .int b :: .int a :: r => k a b r
  | _ => bad
def zl1 {ρ : Type} (bad : ρ) (st : List Value) (k : Int64 → List Value → ρ) : ρ := match st with
  | .long a :: r => k a r
  | _ => bad
def zl2 {ρ : Type} (bad : ρ) (st : List Value) (k : Int64 → Int64 → List Value → ρ) : ρ := match st with
  | .long b :: .long a :: r => k a b r
  | _ => bad
def zae {ρ : Type} (bad : ρ) (st : List Value) (k : Nat → Int32 → List Value → ρ) : ρ := match st with
  | .int i :: .ref a :: r => k a i r
  | _ => bad
def zsi {ρ : Type} (bad : ρ) (st : List Value) (k : Nat → Int32 → Int32 → List Value → ρ) : ρ := match st with
  | .int v :: .int i :: .ref a :: r => k a i v r
  | _ => bad
def zsl {ρ : Type} (bad : ρ) (st : List Value) (k : Nat → Int32 → Int64 → List Value → ρ) : ρ := match st with
  | .long v :: .int i :: .ref a :: r => k a i v r
  | _ => bad
def zsp {ρ : Type} (bad : ρ) (st : List Value) (k : Nat → Int32 → Nat → List Value → ρ) : ρ := match st with
  | .ref v :: .int i :: .ref a :: r => k a i v r
  | _ => bad
def zr0 {ρ : Type} (bad : ρ) (st : List Value) (k : Nat → List Value → ρ) : ρ := match st with
  | .ref a :: r => k a r
  | _ => bad
def zv1 {ρ : Type} (bad : ρ) (st : List Value) (k : Value → List Value → ρ) : ρ := match st with
  | a :: r => k a r
  | _ => bad
def zv2 {ρ : Type} (bad : ρ) (st : List Value) (k : Value → Value → List Value → ρ) : ρ := match st with
  | a :: b :: r => k a b r
  | _ => bad
def zv3 {ρ : Type} (bad : ρ) (st : List Value) (k : Value → Value → Value → List Value → ρ) : ρ := match st with
  | a :: b :: f :: r => k a b f r
  | _ => bad
def zcp {ρ : Type} (bad : ρ) (st : List Value) (k : Int32 → Int32 → Nat → Int32 → Nat → List Value → ρ) : ρ := match st with
  | .int n :: .int dp :: .ref b :: .int sp :: .ref a :: r => k n dp b sp a r
  | _ => bad
def zrn {ρ : Type} (bad : ρ) (st : List Value) (k : Nat → List Value → ρ) (n : List Value → ρ) : ρ := match st with
  | .ref a :: r => k a r
  | .null :: r => n r
  | _ => bad
def zpf {ρ : Type} (bad : ρ) (st : List Value) (ki : Nat → Int32 → List Value → ρ) (kl : Nat → Int64 → List Value → ρ) (kr : Nat → Nat → List Value → ρ) : ρ := match st with
  | .int v :: .ref a :: r => ki a v r
  | .long v :: .ref a :: r => kl a v r
  | .ref v :: .ref a :: r => kr a v r
  | _ => bad
def zli {ρ : Type} (bad : ρ) (o : Option Value) (k : Int32 → ρ) : ρ := match o with
  | some (.int x) => k x
  | _ => bad
def zll {ρ : Type} (bad : ρ) (o : Option Value) (k : Int64 → ρ) : ρ := match o with
  | some (.long x) => k x
  | _ => bad
def zla {ρ : Type} (bad : ρ) (o : Option Value) (k : Nat → ρ) (n : ρ) : ρ := match o with
  | some (.ref x) => k x
  | some .null => n
  | _ => bad
def zfiB (t : FieldType) (v : Int32) : Bool := match t with
  | .int => true
  | .boolean => decide (v = 0) || decide (v = 1)
  | .byte => decide (v.toInt8.toInt32 = v)
  | .char => decide ((v.toUInt32 % 65536).toInt32 = v)
  | _ => false
def zixB (i : Int32) (n : Nat) : Bool := decide (0 ≤ i.toInt) && decide (i.toInt < n)
abbrev zna (y : Nat) : Nat := (mt y).2.2.2.2.1
abbrev zci (y : Nat) : Nat := (mt y).2.2.2.2.2.2.2.2.2.1
abbrev zht (y : Nat) : Nat := (mt y).2.2.2.2.2.2.2.2.2.2.1
abbrev zac (y : Nat) : Nat := (mt y).2.2.2.2.2.2.2.2.2.2.2.1
abbrev zas (y : Nat) : Nat := (mt y).2.2.2.2.2.2.2.2.2.2.2.2
def zdp (y d : Nat) : Nat := if zht y = 99 then d - 1 else zht y
/-- a call: of one of 'inl' its own walk, of another its contract -/
def zcl {ρ : Type} (bad : ρ) (call : Nat → Nat → Nat → Nat → List Value → zM → (Option Value → zM → ρ) → ρ) (inl : Nat → Bool) (f : zF ρ) (d kc ks y pc : Nat) (ls : List (Nat × Value)) (as st : List Value) (M : zM) (Q : Option Value → zM → ρ) (y' : Nat) : ρ :=
  if zdp y' d + 1 ≤ d ∧ zac y' ≤ kc ∧ zas y' ≤ ks ∧ zwd st ≤ 8 ∧ zwd as ≤ (mt y').2.2.1 then
    (if inl y' = true then f (zdp y' d) (zac y') (zas y') y' 0 (lv_args 0 as) [] M (fun r M' => f d (kc - zac y') (ks - zas y') y (pc + 3) ls (r.toList ++ st) M' Q)
     else call (zdp y' d) (zac y') (zas y') y' as M (fun r M' => f d (kc - zac y') (ks - zas y') y (pc + 3) ls (r.toList ++ st) M' Q))
  else bad
def zrcv {ρ : Type} (bad : ρ) (as : List Value) (k : Nat → ρ) : ρ := match as with
  | .ref a :: _ => k a
  | _ => bad
def zret {ρ : Type} (bad : ρ) (ty : Option FieldType) (k : FieldType → ρ) : ρ := match ty with
  | some t => k t
  | none => bad
/-- the script, where it may be read -/
def zsc {ρ : Type} (bad : ρ) (sc : Option (Nat × (Nat → Int32))) (k : Nat × (Nat → Int32) → ρ) : ρ := match sc with
  | some s => k s
  | none => bad
def zlsw {ρ : Type} (ps : List (Int × Int)) (dflt : Int) (x : Int32) (k : Int → ρ) : ρ := match ps with
  | [] => k dflt
  | (m, o) :: r => if x.toInt = m then k o else zlsw r dflt x k
def ztsw {ρ : Type} (bad : ρ) (offs : List Int) (lo : Int) (x : Int32) (k : Int → ρ) : ρ := match offs with
  | [] => bad
  | o :: r => if x.toInt = lo then k o else ztsw bad r (lo + 1) x k
def zretr (t : Option FieldType) : Bool := match t with
  | some (.object _) => true
  | some (.array _) => true
  | _ => false
/-- one instruction: what it is, what it is resolved to -/
def zSt {ρ : Type} (sc : Option (Nat × (Nat → Int32))) (bad : ρ) (call : Nat → Nat → Nat → Nat → List Value → zM → (Option Value → zM → ρ) → ρ) (inl : Nat → Bool) (f : zF ρ) (d kc ks y pc : Nat) (ls : List (Nat × Value)) (st : List Value) (M : zM) (Q : Option Value → zM → ρ) (ins : Instr) (A B : Nat) (V : Int) : ρ := match ins with
  | .iconst n => f d kc ks y (pc + 1) ls (.int (Int32.ofInt n) :: st) M Q
  | .bipush n => f d kc ks y (pc + 2) ls (.int (Int8.ofInt n).toInt32 :: st) M Q
  | .sipush n => f d kc ks y (pc + 3) ls (.int (Int16.ofInt n).toInt32 :: st) M Q
  | .lconst n => f d kc ks y (pc + 1) ls (.long (Int64.ofNat (n : Nat)) :: st) M Q
  | .aconst_null => f d kc ks y (pc + 1) ls (.null :: st) M Q
  | .iadd => zi2 bad st fun a b r => f d kc ks y (pc + 1) ls (.int (a + b) :: r) M Q
  | .isub => zi2 bad st fun a b r => f d kc ks y (pc + 1) ls (.int (a - b) :: r) M Q
  | .imul => zi2 bad st fun a b r => f d kc ks y (pc + 1) ls (.int (a * b) :: r) M Q
  | .iand => zi2 bad st fun a b r => f d kc ks y (pc + 1) ls (.int (a &&& b) :: r) M Q
  | .ior => zi2 bad st fun a b r => f d kc ks y (pc + 1) ls (.int (a ||| b) :: r) M Q
  | .ixor => zi2 bad st fun a b r => f d kc ks y (pc + 1) ls (.int (a ^^^ b) :: r) M Q
  | .ishl => zi2 bad st fun a b r => f d kc ks y (pc + 1) ls (.int (a <<< (b &&& 31)) :: r) M Q
  | .ishr => zi2 bad st fun a b r => f d kc ks y (pc + 1) ls (.int (a >>> (b &&& 31)) :: r) M Q
  | .iushr => zi2 bad st fun a b r => f d kc ks y (pc + 1) ls (.int ((a.toUInt32 >>> (b.toUInt32 &&& Int32.toUInt32 31)).toInt32) :: r) M Q
  | .ladd => zl2 bad st fun a b r => f d kc ks y (pc + 1) ls (.long (a + b) :: r) M Q
  | .lsub => zl2 bad st fun a b r => f d kc ks y (pc + 1) ls (.long (a - b) :: r) M Q
  | .lmul => zl2 bad st fun a b r => f d kc ks y (pc + 1) ls (.long (a * b) :: r) M Q
  | .land => zl2 bad st fun a b r => f d kc ks y (pc + 1) ls (.long (a &&& b) :: r) M Q
  | .lor => zl2 bad st fun a b r => f d kc ks y (pc + 1) ls (.long (a ||| b) :: r) M Q
  | .lxor => zl2 bad st fun a b r => f d kc ks y (pc + 1) ls (.long (a ^^^ b) :: r) M Q
  | .idiv => zi2 bad st fun a b r => if b = 0 then bad else f d kc ks y (pc + 1) ls (.int (a / b) :: r) M Q
  | .irem => zi2 bad st fun a b r => if b = 0 then bad else f d kc ks y (pc + 1) ls (.int (a - a / b * b) :: r) M Q
  | .ldiv => zl2 bad st fun a b r => if b = 0 then bad else f d kc ks y (pc + 1) ls (.long (a / b) :: r) M Q
  | .lrem => zl2 bad st fun a b r => if b = 0 then bad else f d kc ks y (pc + 1) ls (.long (a - a / b * b) :: r) M Q
  | .ineg => zi1 bad st fun a r => f d kc ks y (pc + 1) ls (.int (-a) :: r) M Q
  | .lneg => zl1 bad st fun a r => f d kc ks y (pc + 1) ls (.long (-a) :: r) M Q
  | .i2l => zi1 bad st fun a r => f d kc ks y (pc + 1) ls (.long a.toInt64 :: r) M Q
  | .l2i => zl1 bad st fun a r => f d kc ks y (pc + 1) ls (.int a.toInt32 :: r) M Q
  | .i2b => zi1 bad st fun a r => f d kc ks y (pc + 1) ls (.int a.toInt8.toInt32 :: r) M Q
  | .i2c => zi1 bad st fun a r => f d kc ks y (pc + 1) ls (.int (a.toUInt32 % 65536).toInt32 :: r) M Q
  | .lcmp => zl2 bad st fun a b r => f d kc ks y (pc + 1) ls (.int (lg_cmp a b) :: r) M Q
  | .dup => zv1 bad st fun a r => if a.category = 1 then f d kc ks y (pc + 1) ls (a :: a :: r) M Q else bad
  | .pop => zv1 bad st fun a r => if a.category = 1 then f d kc ks y (pc + 1) ls r M Q else bad
  | .pop2 => zv1 bad st fun a r => if a.category = 2 then f d kc ks y (pc + 1) ls r M Q else bad
  | .dup2 => zv2 bad st fun a b r => if a.category = 1 ∧ b.category = 1 then f d kc ks y (pc + 1) ls (a :: b :: a :: b :: r) M Q else bad
  | .dup_x1 => zv2 bad st fun a b r => if a.category = 1 ∧ b.category = 1 then f d kc ks y (pc + 1) ls (a :: b :: a :: r) M Q else bad
  | .dup_x2 => zv3 bad st fun a b g r => if a.category = 1 ∧ b.category = 1 ∧ g.category = 1 then f d kc ks y (pc + 1) ls (a :: b :: g :: a :: r) M Q else bad
  | .iload i => zli bad (ls.lookup i) fun x => f d kc ks y (pc + 2) ls (.int x :: st) M Q
  | .iload_n i => zli bad (ls.lookup (i : Nat)) fun x => f d kc ks y (pc + 1) ls (.int x :: st) M Q
  | .istore i => zi1 bad st fun x r => if i < (mt y).2.2.1 then f d kc ks y (pc + 2) (zst1 ls i (.int x)) r M Q else bad
  | .istore_n i => zi1 bad st fun x r => if (i : Nat) < (mt y).2.2.1 then f d kc ks y (pc + 1) (zst1 ls (i : Nat) (.int x)) r M Q else bad
  | .lload i => zll bad (ls.lookup i) fun x => f d kc ks y (pc + 2) ls (.long x :: st) M Q
  | .lload_n i => zll bad (ls.lookup (i : Nat)) fun x => f d kc ks y (pc + 1) ls (.long x :: st) M Q
  | .lstore i => zl1 bad st fun x r => if i + 1 < (mt y).2.2.1 then f d kc ks y (pc + 2) (zst2 ls i (.long x)) r M Q else bad
  | .lstore_n i => zl1 bad st fun x r => if (i : Nat) + 1 < (mt y).2.2.1 then f d kc ks y (pc + 1) (zst2 ls (i : Nat) (.long x)) r M Q else bad
  | .aload i => zla bad (ls.lookup i) (fun x => f d kc ks y (pc + 2) ls (.ref x :: st) M Q) (f d kc ks y (pc + 2) ls (.null :: st) M Q)
  | .aload_n i => zla bad (ls.lookup (i : Nat)) (fun x => f d kc ks y (pc + 1) ls (.ref x :: st) M Q) (f d kc ks y (pc + 1) ls (.null :: st) M Q)
  | .astore i => if i < (mt y).2.2.1 then zrn bad st (fun x r => f d kc ks y (pc + 2) (zst1 ls i (.ref x)) r M Q) (fun r => f d kc ks y (pc + 2) (zst1 ls i .null) r M Q) else bad
  | .astore_n i => if (i : Nat) < (mt y).2.2.1 then zrn bad st (fun x r => f d kc ks y (pc + 1) (zst1 ls (i : Nat) (.ref x)) r M Q) (fun r => f d kc ks y (pc + 1) (zst1 ls (i : Nat) .null) r M Q) else bad
  | .iinc i n => if i < (mt y).2.2.1 then zli bad (ls.lookup i) (fun x => f d kc ks y (pc + 3) (zst1 ls i (.int (x + Int32.ofInt n))) st M Q) else bad
  | .if_icmp .eq _ => zi2 bad st fun a b r => if a = b then f d kc ks y A ls r M Q else f d kc ks y (pc + 3) ls r M Q
  | .ifCond .eq _ => zi1 bad st fun a r => if a = 0 then f d kc ks y A ls r M Q else f d kc ks y (pc + 3) ls r M Q
  | .if_icmp .ne _ => zi2 bad st fun a b r => if a = b then f d kc ks y (pc + 3) ls r M Q else f d kc ks y A ls r M Q
  | .ifCond .ne _ => zi1 bad st fun a r => if a = 0 then f d kc ks y (pc + 3) ls r M Q else f d kc ks y A ls r M Q
  | .if_icmp .lt _ => zi2 bad st fun a b r => if a < b then f d kc ks y A ls r M Q else f d kc ks y (pc + 3) ls r M Q
  | .ifCond .lt _ => zi1 bad st fun a r => if a < 0 then f d kc ks y A ls r M Q else f d kc ks y (pc + 3) ls r M Q
  | .if_icmp .ge _ => zi2 bad st fun a b r => if b ≤ a then f d kc ks y A ls r M Q else f d kc ks y (pc + 3) ls r M Q
  | .ifCond .ge _ => zi1 bad st fun a r => if 0 ≤ a then f d kc ks y A ls r M Q else f d kc ks y (pc + 3) ls r M Q
  | .if_icmp .gt _ => zi2 bad st fun a b r => if b < a then f d kc ks y A ls r M Q else f d kc ks y (pc + 3) ls r M Q
  | .ifCond .gt _ => zi1 bad st fun a r => if 0 < a then f d kc ks y A ls r M Q else f d kc ks y (pc + 3) ls r M Q
  | .if_icmp .le _ => zi2 bad st fun a b r => if a ≤ b then f d kc ks y A ls r M Q else f d kc ks y (pc + 3) ls r M Q
  | .ifCond .le _ => zi1 bad st fun a r => if a ≤ 0 then f d kc ks y A ls r M Q else f d kc ks y (pc + 3) ls r M Q
  | .goto _ => f d kc ks y A ls st M Q
  | .ifnull _ => zrn bad st (fun _ r => f d kc ks y (pc + 3) ls r M Q) (fun r => f d kc ks y A ls r M Q)
  | .ifnonnull _ => zrn bad st (fun _ r => f d kc ks y A ls r M Q) (fun r => f d kc ks y (pc + 3) ls r M Q)
  | .lookupswitch dflt ps => zi1 bad st fun x r => zlsw ps.toList dflt x (fun off => f d kc ks y ((pc : Int) + off).toNat ls r M Q)
  | .tableswitch dflt lo hi offs => zi1 bad st fun x r => if x.toInt < lo ∨ hi < x.toInt then f d kc ks y ((pc : Int) + dflt).toNat ls r M Q else ztsw bad offs.toList lo x (fun off => f d kc ks y ((pc : Int) + off).toNat ls r M Q)
  | .return_ => if (mt y).2.2.2.1 = none ∧ st = [] then Q none M else bad
  | .ireturn => zi1 bad st fun v r => if r = [] then zret bad (mt y).2.2.2.1 (fun t => if zfiB t v = true then Q (some (.int v)) M else bad) else bad
  | .lreturn => zl1 bad st fun v r => if r = [] ∧ (mt y).2.2.2.1 = some .long then Q (some (.long v)) M else bad
  | .areturn => if zretr (mt y).2.2.2.1 = true then zrn bad st (fun v r => if r = [] then Q (some (.ref v)) M else bad) (fun r => if r = [] then Q (some .null) M else bad) else bad
  | .getfield _ => zr0 bad st fun k r => if A = 30 then (if k = 4 then f d kc ks y (pc + 3) ls ((zsf B).2.2 :: r) M Q else bad) else (if (zK M k).1 = A then f d kc ks y (pc + 3) ls (zfv M k (cY A B) B :: r) M Q else bad)
  | .putfield _ => zpf bad st (fun k v r => if (zK M k).1 = A ∧ zfiB (cY A B) v = true then f d kc ks y (pc + 3) ls r (zsI M k B v) Q else bad) (fun k v r => if (zK M k).1 = A ∧ cY A B = .long then f d kc ks y (pc + 3) ls r (zsJ M k B v) Q else bad) (fun k v r => if (zK M k).1 = A ∧ zft (cY A B) = 2 then f d kc ks y (pc + 3) ls r (zsP M k B (some v)) Q else bad)
  | .getstatic _ => f d kc ks y (pc + 3) ls ((zstat A).2.2.2 :: st) M Q
  | .ldc _ => if A = 0 then f d kc ks y (pc + 2) ls (.int (Int32.ofInt V) :: st) M Q else f d kc ks y (pc + 2) ls (.ref 4 :: st) M Q
  | .ldc_w _ => if A = 0 then f d kc ks y (pc + 3) ls (.int (Int32.ofInt V) :: st) M Q else f d kc ks y (pc + 3) ls (.ref 4 :: st) M Q
  | .ldc2_w _ => f d kc ks y (pc + 3) ls (.long (Int64.ofInt V) :: st) M Q
  | .iaload => zae bad st fun k i r => if k = 0 then zsc bad sc (fun s => if zixB i s.1 = true then f d kc ks y (pc + 1) ls (.int (s.2 i.toNatClampNeg) :: r) M Q else bad) else if (zK M k).1 = 20 ∧ zixB i (zK M k).2 = true then f d kc ks y (pc + 1) ls (.int (zI M k i.toNatClampNeg) :: r) M Q else bad
  | .baload => zae bad st fun k i r => if ((zK M k).1 = 21 ∨ (zK M k).1 = 22) ∧ zixB i (zK M k).2 = true then f d kc ks y (pc + 1) ls (.int (zI M k i.toNatClampNeg) :: r) M Q else bad
  | .laload => zae bad st fun k i r => if (zK M k).1 = 23 ∧ zixB i (zK M k).2 = true then f d kc ks y (pc + 1) ls (.long (zJ M k i.toNatClampNeg) :: r) M Q else bad
  | .aaload => zae bad st fun k i r => if ((zK M k).1 = 24 ∨ (zK M k).1 = 25) ∧ zixB i (zK M k).2 = true then f d kc ks y (pc + 1) ls (va_rf (zP M k i.toNatClampNeg) :: r) M Q else bad
  | .iastore => zsi bad st fun k i v r => if 6 ≤ k ∧ (zK M k).1 = 20 ∧ zixB i (zK M k).2 = true then f d kc ks y (pc + 1) ls r (zsI M k i.toNatClampNeg v) Q else bad
  | .bastore => zsi bad st fun k i v r => if 6 ≤ k ∧ zixB i (zK M k).2 = true then (if (zK M k).1 = 21 then f d kc ks y (pc + 1) ls r (zsI M k i.toNatClampNeg (vp_nar .byte v)) Q else if (zK M k).1 = 22 then f d kc ks y (pc + 1) ls r (zsI M k i.toNatClampNeg (vp_nar .boolean v)) Q else bad) else bad
  | .lastore => zsl bad st fun k i v r => if (zK M k).1 = 23 ∧ zixB i (zK M k).2 = true then f d kc ks y (pc + 1) ls r (zsJ M k i.toNatClampNeg v) Q else bad
  | .aastore => zsp bad st fun k i v r => if (((zK M k).1 = 24 ∧ (zK M v).1 = 6) ∨ ((zK M k).1 = 25 ∧ (zK M v).1 = 8)) ∧ zixB i (zK M k).2 = true then f d kc ks y (pc + 1) ls r (zsP M k i.toNatClampNeg (some v)) Q else bad
  | .arraylength => zr0 bad st fun k r => if k = 0 then zsc bad sc (fun s => f d kc ks y (pc + 1) ls (.int (Int32.ofNat s.1) :: r) M Q) else if 20 ≤ (zK M k).1 ∧ (zK M k).1 ≤ 25 then f d kc ks y (pc + 1) ls (.int (Int32.ofNat (zK M k).2) :: r) M Q else bad
  | .new _ => if 1 ≤ kc ∧ cN A ≤ ks then f d (kc - 1) (ks - cN A) y (pc + 3) ls (.ref (zN M) :: st) (zal M (A, 0)) Q else bad
  | .newarray _ => zi1 bad st fun n r => if 1 ≤ kc ∧ n.toNatClampNeg ≤ ks ∧ zixB n 100000 = true then f d (kc - 1) (ks - n.toNatClampNeg) y (pc + 2) ls (.ref (zN M) :: r) (zal M (A, n.toNatClampNeg)) Q else bad
  | .anewarray _ => zi1 bad st fun n r => if 1 ≤ kc ∧ n.toNatClampNeg ≤ ks ∧ zixB n 100000 = true then f d (kc - 1) (ks - n.toNatClampNeg) y (pc + 3) ls (.ref (zN M) :: r) (zal M (A, n.toNatClampNeg)) Q else bad
  | .checkcast _ => zr0 bad st fun k r => if 6 ≤ k ∧ (zK M k).1 = 20 then f d kc ks y (pc + 3) ls (.ref k :: r) M Q else bad
  | .invokevirtual _ => if B = 7 then zr0 bad st (fun k r => if k = 1 ∧ 1 ≤ kc ∧ 9 ≤ ks ∧ zwd r ≤ 8 ∧ 1 ≤ d then f d (kc - 1) (ks - 9) y (pc + 3) ls (.ref (zN M) :: r) (zsR (zal M (20, 9)) (zN M) (zI M 1)) Q else bad) else if B = 0 ∧ zna A ≤ st.length then zrcv bad (st.take (zna A)).reverse (fun k => if (zci A < 13 ∧ (zK M k).1 = zci A) ∨ (zci A = 30 ∧ k = 4) then zcl bad call inl f d kc ks y pc ls (st.take (zna A)).reverse (st.drop (zna A)) M Q A else bad) else bad
  | .invokespecial _ => if B = 5 then zr0 bad st (fun _ r => if zwd r ≤ 8 ∧ 1 ≤ d then f d kc ks y (pc + 3) ls r M Q else bad) else if (B = 3 ∨ B = 4) ∧ zna A ≤ st.length then zrcv bad (st.take (zna A)).reverse (fun _ => zcl bad call inl f d kc ks y pc ls (st.take (zna A)).reverse (st.drop (zna A)) M Q A) else bad
  | .invokestatic _ => if B = 6 then zcp bad st (fun n dp b sp a r => if 6 ≤ a ∧ 6 ≤ b ∧ (zK M a).1 = (zK M b).1 ∧ 20 ≤ (zK M b).1 ∧ (zK M b).1 < 23 ∧ 0 ≤ sp.toInt ∧ 0 ≤ dp.toInt ∧ 0 ≤ n.toInt ∧ sp.toInt + n.toInt ≤ (zK M a).2 ∧ dp.toInt + n.toInt ≤ (zK M b).2 ∧ zwd r ≤ 8 ∧ 1 ≤ d then f d kc ks y (pc + 3) ls r (zsR M b (va_cpy (zI M a) (zI M b) sp.toNatClampNeg dp.toNatClampNeg n.toNatClampNeg)) Q else bad) else if (B = 1 ∨ B = 2) ∧ zna A ≤ st.length then zcl bad call inl f d kc ks y pc ls (st.take (zna A)).reverse (st.drop (zna A)) M Q A else bad
  | _ => bad
