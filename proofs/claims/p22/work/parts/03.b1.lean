/-! ===== a machine over a plain memory: definitions ===== -/
/-- a memory: how many cells (the first six are the script's, three static arrays', the String constant, its bytes), their kinds (class below 20; 20 int[], 21 byte[], 22 boolean[], 23 long[], 24 State[], 25 Track[]; 30 the String; 98, 99 unknown) and lengths, what they hold: ints, longs, references -/
abbrev zM : Type := Nat × (Nat → Nat × Nat) × (Nat → Nat → Int32) × (Nat → Nat → Int64) × (Nat → Nat → Option Nat)
abbrev zN (M : zM) : Nat := M.1
abbrev zK (M : zM) : Nat → Nat × Nat := M.2.1
abbrev zI (M : zM) : Nat → Nat → Int32 := M.2.2.1
abbrev zJ (M : zM) : Nat → Nat → Int64 := M.2.2.2.1
abbrev zP (M : zM) : Nat → Nat → Option Nat := M.2.2.2.2
def zr {α : Type} (f : Nat → Nat → α) (k : Nat) (r : Nat → α) : Nat → Nat → α := fun k' => if k' = k then r else f k'
def zsI (M : zM) (k j : Nat) (v : Int32) : zM := (M.1, M.2.1, zr M.2.2.1 k (upd (M.2.2.1 k) j v), M.2.2.2.1, M.2.2.2.2)
def zsJ (M : zM) (k j : Nat) (v : Int64) : zM := (M.1, M.2.1, M.2.2.1, zr M.2.2.2.1 k (vp_updL (M.2.2.2.1 k) j v), M.2.2.2.2)
def zsP (M : zM) (k j : Nat) (v : Option Nat) : zM := (M.1, M.2.1, M.2.2.1, M.2.2.2.1, zr M.2.2.2.2 k (va_up (M.2.2.2.2 k) j v))
def zsR (M : zM) (k : Nat) (r : Nat → Int32) : zM := (M.1, M.2.1, zr M.2.2.1 k r, M.2.2.2.1, M.2.2.2.2)
def zal (M : zM) (c : Nat × Nat) : zM := (M.1 + 1, (fun k => if k = M.1 then c else M.2.1 k), zr M.2.2.1 M.1 (fun _ => 0), zr M.2.2.2.1 M.1 (fun _ => 0), zr M.2.2.2.2 M.1 (fun _ => none))
/-- what is fixed in a run of the law: classes and slots, the heap at its start, the classes of arrays, the addresses of the first six cells, the formatter, the script -/
abbrev zX : Type := va_G × Heap × (Nat → ClassId) × (Nat → Nat) × Value × Nat × (Nat → Int32)
/-- the memory at the start: the script's cell (read by rows of its own), three static arrays, the String constant, its bytes -/
def zM0 : zM := (6, (fun k => [(98, 0), (20, 9), (20, 9), (20, 9), (30, 0), (21, 8)].getD k (99, 0)), (fun k j => ([[], [1, 10, 10, 3, 20, 0, 999, 100, 50], [0, 0, 1, 2, 0, 0, 0, 1, 0], [3, 20, 500, 8, 999, 999, 999, 9999, 9999], [], [110, 104, 118, 103, 109, 108, 117, 111]].getD k []).getD j 0), (fun _ _ => 0), fun _ _ => none)
def zad (X : zX) (k : Nat) : Nat := if k < 6 then X.2.2.2.1 k else X.2.1.size + (k - 6)
def zcv (X : zX) : Value → Value
  | .ref k => .ref (zad X k)
  | .retAddr _ => X.2.2.2.2.1
  | v => v
def zA (X : zX) : Nat → Prop := fun q => X.2.1.size ≤ q
def zft : FieldType → Nat
  | .long => 1
  | .object _ => 2
  | .array _ => 2
  | _ => 0
def zfv (M : zM) (k : Nat) (t : FieldType) (j : Nat) : Value := if zft t = 0 then .int (zI M k j) else if zft t = 1 then .long (zJ M k j) else va_rf (zP M k j)
def zE (X : zX) (M : zM) (k : Nat) : va_E :=
  if (zK M k).1 < 20 then .inr ((zK M k).1, (List.range (cN (zK M k).1)).map (fun j => zcv X (zfv M k (cY (zK M k).1 j) j)))
  else if (zK M k).1 < 23 then .inl (X.2.2.1 (zK M k).1, (zK M k).2, .inl (zI M k))
  else if (zK M k).1 = 23 then .inl (X.2.2.1 23, (zK M k).2, .inr (.inl (zJ M k)))
  else .inl (X.2.2.1 (zK M k).1, (zK M k).2, .inr (.inr (.inr (.inr (fun j => (zP M k j).map (zad X))))))
def zWf (M : zM) : Prop := ∀ k j : Nat, ((zK M k).1 = 21 → fits .byte (.int (zI M k j)) = true) ∧ ((zK M k).1 = 22 → fits .boolean (.int (zI M k j)) = true)
abbrev ztys (X : zX) : List (ClassId × FieldType) := [(X.2.2.1 20, .int), (X.2.2.1 21, .byte), (X.2.2.1 22, .boolean), (X.2.2.1 23, .long), (X.2.2.1 24, .object "TrackVotes$State"), (X.2.2.1 25, .object "TrackVotes$Track")]
def zRel (X : zX) (M : zM) (H : Heap) : Prop :=
  6 ≤ zN M ∧ H.size = X.2.1.size + (zN M - 6) ∧ (∀ k, 6 ≤ k → (zK M k).1 < 30 → va_at X.1 cls (zad X k, zE X M k) H) ∧ zWf M ∧ (∀ q : Nat, q < X.2.1.size → H[q]? = X.2.1[q]?) ∧ (∀ k, k < 6 → zK M k = zK zM0 k ∧ zI M k = zI zM0 k) ∧ ∀ k, (zK M k).1 < 30 → k < zN M
/-- the words that stay beside the good ones: links within the nest, the cast of an int[] -/
def znw : Cond → Bool
  | .fieldLinkNest _ _ _ _ _ _ => true
  | .methodLinkNest _ _ _ _ => true
  | .castable _ _ => true
  | _ => false
def zFst (X : zX) : Prop := X.2.2.2.1 1 < X.2.1.size ∧ ∃ cell : Cell, X.2.1[X.2.2.2.1 1]? = some cell ∧ cell.cls = X.2.2.1 20 ∧ (∀ k, cell.vm ≠ .statics k) ∧ cell.vm ≠ .unknown ∧ cell.slots.size = 9 ∧ ∀ j, j < 9 → cell.slots[j]? = some (.int (zI zM0 1 j))
def zKn (X : zX) (U : State) : Prop :=
  va_K X.1 cls (ztys X) U ∧ (∀ k, 1 ≤ k → k < 4 → va_T .int (X.2.2.2.1 k) (zK zM0 k).2 (fun j => .int (zI zM0 k j)) (zA X) U X.2.1) ∧ va_T .byte (X.2.2.2.1 5) 8 (fun j => .int (zI zM0 5 j)) (zA X) U X.2.1 ∧
  va_O "java/lang/String" (X.2.2.2.1 4) (zA X) U X.2.1 ∧ va_OF "java/lang/String" "coder" "B" (.int 0) (X.2.2.2.1 4) (zA X) U X.2.1 ∧ va_OF "java/lang/String" "value" "[B" (.ref (X.2.2.2.1 5)) (X.2.2.2.1 4) (zA X) U X.2.1 ∧
  (va_Z "TrackVotes" "FIRST_SETTING" "[I" (.ref (X.2.2.2.1 1)) (zA X) U X.2.1 ∧ va_Z "TrackVotes" "LEAST_SETTING" "[I" (.ref (X.2.2.2.1 2)) (zA X) U X.2.1 ∧ va_Z "TrackVotes" "MOST_SETTING" "[I" (.ref (X.2.2.2.1 3)) (zA X) U X.2.1 ∧ va_Z "java/lang/String" "COMPACT_STRINGS" "Z" (.int 1) (zA X) U X.2.1 ∧ va_Z "jdk/internal/util/Preconditions" "SIOOBE_FORMATTER" "Ljava/util/function/BiFunction;" X.2.2.2.2.1 (zA X) U X.2.1) ∧
  (vk_R "TrackVotes$Trigger" 9 "nhvgmluo" (X.2.2.2.1 4) U ∧ vk_R "TrackVotes" 324 "nhvgmluo" (X.2.2.2.1 4) U) ∧ (∀ w ∈ lw_tbl, znw w = true → va_Nw w U) ∧ (X.2.2.2.2.1 = .null ∨ ∃ a, X.2.2.2.2.1 = .ref a) ∧ (va_AO "TrackVotes$State" U ∧ va_AO "TrackVotes$Track" U) ∧
  ((∀ k, 1 ≤ k → k < 4 → (zK zM0 k).1 = 20) ∧ (zK zM0 4).1 = 30 ∧ zK zM0 5 = (21, 8) ∧ (zK zM0 1).2 = 9 ∧ (zK zM0 0).1 = 98) ∧ zFst X ∧ va_T .int (X.2.2.2.1 0) X.2.2.2.2.2.1 (fun j => .int (X.2.2.2.2.2.2 j)) (zA X) U X.2.1
def zw : List Cond := lw_tbl.filter goodWord
/-- the second memory is the first with more cells at its end -/
def zExt (M M' : zM) : Prop := zN M ≤ zN M' ∧ (∀ k, k < zN M → zK M' k = zK M k) ∧ ∀ k, zN M ≤ k → k < zN M' → (zK M' k).1 < 30
/-- the cells that the memory doesn't know are as they were -/
def zHid (X : zX) (M : zM) (H0 H : Heap) : Prop := ∀ k, 6 ≤ k → k < zN M → 30 ≤ (zK M k).1 → H[zad X k]? = H0[zad X k]?
/-- what is still to be shown at a method's end, Me the memory at its start -/
def zFin (X : zX) (l : Launch) (y : Nat) (M : zM) (Q : Option Value → zM → Prop) (p : Program) (e : Env) (R : Room) (s : State) (m : MethodId) (args : Array Value) (below : List Frame) (meth : Method) (c : Code) (H : Heap) (Qw : State → Prop) : Prop :=
  ∃ Me : zM, zExt Me M ∧ zHid X Me s.heap H ∧
  ∀ (r : Option Value) (M' : zM) (H' : Heap) (locs' : List Loc) (cells' slots' pc' : Nat) (lsA' : Array Slot), Q r M' → zRel X M' H' → zExt Me M' → zHid X Me s.heap H' → (∀ q ∈ locs', zA X q.base) → cells' ≤ R.cells → slots' ≤ R.slots →
    (match r with
      | none => decode (mt y).2.1 pc' = .ok (.return_, 1) ∧ (mt y).2.2.2.1 = none
      | some (.int v) => decode (mt y).2.1 pc' = .ok (.ireturn, 1) ∧ ∃ ty, (mt y).2.2.2.1 = some ty ∧ narrow ty (.int v) = .int v
      | some (.long _) => decode (mt y).2.1 pc' = .ok (.lreturn, 1) ∧ (mt y).2.2.2.1 = some .long
      | some v => decode (mt y).2.1 pc' = .ok (.areturn, 1) ∧ (v = .null ∨ ∃ a, v = .ref a) ∧ ∃ rt, (mt y).2.2.2.1 = some rt ∧ ((∃ n, rt = .object n) ∨ ∃ t, rt = .array t)) →
    W p l e R s m args below meth c H' locs' cells' slots' Qw (F0 m pc' lsA' (r.toList.map (zcv X)))
/-- what is known within a method: the machine, its code, its class, the words, the room for d calls, the locals, the memory, what is still to be shown at its end -/
def zCx (X : zX) (l : Launch) (d kc ks y : Nat) (ls : List (Nat × Value)) (M : zM) (Q : Option Value → zM → Prop) (p : Program) (e : Env) (R : Room) (s : State) (m : MethodId) (args : Array Value) (below : List Frame) (meth : Method) (c : Code) (H : Heap) (locs : List Loc) (cells slots : Nat) (Qw : State → Prop) (lsA : Array Slot) : Prop :=
  (p.tables.exec = Jvm.exec ∧ c.code = (mt y).2.1 ∧ c.maxLocals = (mt y).2.2.1 ∧ s.vm.findClass (mt y).1.cls = some m.cls ∧ (∀ w ∈ zw, w.before args s = true) ∧ zKn X s ∧ d ≤ R.frames ∧ 64 * d ≤ R.locals ∧ ((mt y).1.name = "<init>" → meth.name = "<init>")) ∧
  (cells + kc ≤ R.cells ∧ slots + ks ≤ R.slots) ∧ lv_has lsA (mt y).2.2.1 (ls.map fun q => (q.1, zcv X q.2)) ∧ zRel X M H ∧ (∀ q ∈ locs, zA X q.base) ∧
  zFin X l y M Q p e R s m args below meth c H Qw
/-- from this place of the method y the machine goes on to the method's end, and Q holds there -/
def zGo (X : zX) (l : Launch) (d kc ks y pc : Nat) (ls : List (Nat × Value)) (st : List Value) (M : zM) (Q : Option Value → zM → Prop) : Prop :=
  ∀ (p : Program) (e : Env) (R : Room) (s : State) (m : MethodId) (args : Array Value) (below : List Frame) (meth : Method) (c : Code) (H : Heap) (locs : List Loc) (cells slots : Nat) (Qw : State → Prop) (lsA : Array Slot),
    zCx X l d kc ks y ls M Q p e R s m args below meth c H locs cells slots Qw lsA → W p l e R s m args below meth c H locs cells slots Qw (F0 m pc lsA (st.map (zcv X)))
def zwsY (y : Nat) : List Cond := Cond.code (mt y).1 (mt y).2.1 (mt y).2.2.1 (mt y).2.2.2.1 :: zw
def zrm (d kc ks : Nat) : Room := { frames := d, cells := kc, slots := ks, locals := 64 * d }
def zPc (X : zX) (as : List Value) (M : zM) : Array Value → State → Prop := fun a U => a = (as.map (zcv X)).toArray ∧ zRel X M U.heap ∧ zKn X U
def zQc (X : zX) (M : zM) (Q : Option Value → zM → Prop) : Array Value → State → Outcome → State → Prop := fun _ st o t => ∃ r M', o = .returned (r.map (zcv X)) ∧ Q r M' ∧ zRel X M' t.heap ∧ zExt M M' ∧ zHid X M st.heap t.heap
/-- a call of the method y with these arguments in this memory comes back, and Q holds -/
def zCall (X : zX) (l : Launch) (d kc ks y : Nat) (as : List Value) (M : zM) (Q : Option Value → zM → Prop) : Prop :=
  Met l (mt y).1 (zwsY y) (zrm d kc ks) (zPc X as M) (zQc X M Q) kc ks (zA X)
