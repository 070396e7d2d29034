/-! ===== a method's bytes in one walk; links checked once ===== -/
def zdecR (L : List UInt8) : Option (Instr × Nat × List UInt8) := match L with
  | [] => none
  | o :: r => match zOp0.lookup o.toNat with
    | some i => some (i, 1, r)
    | none => match r with
      | [] => none
      | a :: r2 => match zOp2.lookup o.toNat with
        | some f => match r2 with
          | [] => none
          | b :: r3 => some (f a.toNat b.toNat, 3, r3)
        | none => match zOp1.lookup o.toNat with
          | some f => some (f a.toNat, 2, r2)
          | none => none
theorem zdecR_ok {code : ByteArray} {pc n : Nat} {i : Instr} {R : List UInt8} (h : zdecR (code.data.toList.drop pc) = some (i, n, R)) : decode code pc = .ok (i, n) ∧ code.data.toList.drop (pc + n) = R := by
  have k : Jvm.ClassFile.Decoder.instr pc code pc = .ok (i, pc + n) ∧ code.data.toList.drop (pc + n) = R := by
    unfold zdecR at h
    split at h
    · cases h
    · rename_i o r e
      have b0 := zbyt e
      split at h
      · rename_i j e0
        cases h
        exact ⟨zAll.lk zOp0_ok e0 code pc b0.1, b0.2⟩
      · split at h
        · cases h
        · rename_i a r2
          have b1 := zbyt b0.2
          split at h
          · rename_i f e2
            split at h
            · cases h
            · rename_i b r3
              have b2 := zbyt b1.2
              cases h
              exact ⟨zAll.lk zOp2_ok e2 code pc _ _ b0.1 b1.1 b2.1, b2.2⟩
          · split at h
            · rename_i f e1
              cases h
              exact ⟨zAll.lk zOp1_ok e1 code pc _ b0.1 b1.1, b1.2⟩
            · cases h
  have e : decode code pc = Except.bind (Jvm.ClassFile.Decoder.instr pc code pc) (fun d => .ok (d.1, d.2 - pc)) := rfl
  refine ⟨?_, k.2⟩
  rw [e, k.1]
  show Except.ok (i, pc + n - pc) = _
  rw [Nat.add_sub_cancel_left]
def zrow9 (code : ByteArray) (L : List UInt8) (q : Nat × gE) : Option (List UInt8) := match zdecR L with
  | some (i, k, R) => if (decide (i = q.2.1) && Nat.beq k q.2.2.1) = true then some R else none
  | none => if decide (decode code q.1 = .ok (q.2.1, q.2.2.1)) = true then some (L.drop q.2.2.1) else none
theorem zrow9_ok {code : ByteArray} {L R : List UInt8} {q : Nat × gE} {pc : Nat} (e1 : q.1 = pc) (e : L = code.data.toList.drop pc) (z1 : zrow9 code L q = some R) : decode code q.1 = .ok (q.2.1, q.2.2.1) ∧ R = code.data.toList.drop (pc + q.2.2.1) := by
  unfold zrow9 at z1
  split at z1
  · rename_i i k R' hd
    by_cases hc : (decide (i = q.2.1) && Nat.beq k q.2.2.1) = true
    · rw [if_pos hc] at z1
      rw [Bool.and_eq_true, decide_eq_true_eq] at hc
      have hk := Nat.eq_of_beq_eq_true hc.2
      cases z1
      rw [e] at hd
      have y := zdecR_ok hd
      rw [← hc.1, ← hk, e1]
      exact ⟨y.1, y.2.symm⟩
    · rw [if_neg hc] at z1
      cases z1
  · by_cases hc : decide (decode code q.1 = .ok (q.2.1, q.2.2.1)) = true
    · rw [if_pos hc] at z1
      cases z1
      refine ⟨of_decide_eq_true hc, ?_⟩
      rw [e]
      simp [List.drop_drop, Nat.add_comm]
    · rw [if_neg hc] at z1
      cases z1
def zwalk (code : ByteArray) (chk : Nat × gE → Bool) : List (Nat × gE) → List UInt8 → Nat → Bool
  | [], _, _ => true
  | q :: r, L, pc => Nat.beq q.1 pc && chk q && (match zrow9 code L q with
    | some R => zwalk code chk r R (pc + q.2.2.1)
    | none => false)
theorem zwalk_ok {code : ByteArray} {chk : Nat × gE → Bool} : ∀ (t : List (Nat × gE)) (pc : Nat) (L : List UInt8), L = code.data.toList.drop pc → zwalk code chk t L pc = true → ∀ q, q ∈ t → decode code q.1 = .ok (q.2.1, q.2.2.1) ∧ chk q = true
  | [], _, _, _, _ => fun q hq => by cases hq
  | q :: r, pc, L, e, h => by
    have h : (Nat.beq q.1 pc && chk q && (match zrow9 code L q with
      | some R => zwalk code chk r R (pc + q.2.2.1)
      | none => false)) = true := h
    rw [Bool.and_eq_true, Bool.and_eq_true] at h
    obtain ⟨⟨h1, h2⟩, h3⟩ := h
    have e1 : q.1 = pc := Nat.eq_of_beq_eq_true h1
    cases hz : zrow9 code L q with
    | none =>
      rw [hz] at h3
      cases h3
    | some R =>
      rw [hz] at h3
      have d := zrow9_ok e1 e hz
      intro p hp
      rcases List.mem_cons.mp hp with hp | hp
      · rw [hp]
        exact ⟨d.1, h2⟩
      · exact zwalk_ok r _ R d.2 h3 p hp
def zlkH (g : Nat → Option Cond) (cls name : String) (pc : Nat) (ins : Instr) (A B : Nat) (V : Int) (PL : Nat) : Bool := match ins with
  | .getfield i => if A = 30 then decide (B < 2) && decide (g PL = some (.fieldLink cls i "java/lang/String" (zsf B).1 (zsf B).2.1)) else decide (A < 13) && decide (B < cN A) && decide ((cT A B).1 = cR A) && decide (g PL = some (.fieldLink cls i (cR A) (cT A B).2.1 (cT A B).2.2.1))
  | .putfield i => decide (A < 13) && decide (B < cN A) && decide ((cT A B).1 = cR A) && decide (g PL = some (.fieldLink cls i (cR A) (cT A B).2.1 (cT A B).2.2.1)) && (decide ((cT A B).2.2.2 = false) || (decide (name = "<init>") && decide (cls = cR A)))
  | .getstatic i => decide (A < 5) && (if B = 0 then decide (g PL = some (.fieldLink cls i (zstat A).1 (zstat A).2.1 (zstat A).2.2.1)) else decide (g PL = some (.fieldLinkNest cls i (zstat A).1 (zstat A).2.1 (zstat A).2.2.1 "TrackVotes")))
  | .ldc i => if A = 0 then decide (g PL = some (.constant cls i (Int32.ofInt V))) else decide ((cls = "TrackVotes$Trigger" ∧ i = 9) ∨ (cls = "TrackVotes" ∧ i = 324))
  | .ldc_w i => if A = 0 then decide (g PL = some (.constant cls i (Int32.ofInt V))) else decide ((cls = "TrackVotes$Trigger" ∧ i = 9) ∨ (cls = "TrackVotes" ∧ i = 324))
  | .ldc2_w i => decide (g PL = some (.constantLong cls i (Int64.ofInt V)))
  | .new i => decide (A < 13) && decide (g PL = some (.classLink cls i (cR A)))
  | .newarray t => decide ((A = 20 ∧ t = .int) ∨ (A = 21 ∧ t = .byte) ∨ (A = 22 ∧ t = .boolean) ∨ (A = 23 ∧ t = .long))
  | .anewarray i => (decide (A = 24) && decide (g PL = some (.classLink cls i "TrackVotes$State"))) || (decide (A = 25) && decide (g PL = some (.classLink cls i "TrackVotes$Track")))
  | .checkcast i => decide (g PL = some (.classLink cls i "[I"))
  | .invokevirtual i => if B = 7 then decide (g PL = some (.methodLink cls i ⟨"[I", "clone", "()Ljava/lang/Object;"⟩)) else if B = 0 then decide (A < 350) && decide ((mt A).2.2.2.2.2.2.2.1 < 100000) && decide (g PL = some (.methodLink cls i (mt A).1)) else true
  | .invokestatic i => if B = 6 then decide (g PL = some (.methodLink cls i arraycopyName)) else if B = 1 then decide (A < 350) && decide ((mt A).2.2.2.2.2.2.2.1 = 100000) && decide (g PL = some (.methodLink cls i (mt A).1)) else if B = 2 then decide (A < 350) && decide ((mt A).2.2.2.2.2.2.2.1 = 100000) && decide (g PL = some (.methodLinkNest cls i (mt A).1 "TrackVotes")) else true
  | .invokespecial i => if B = 5 then decide (g PL = some (.methodLink cls i objectInit)) else if B = 3 then decide (A < 350) && decide ((mt A).2.2.2.2.2.2.2.1 = 100001) && decide (g PL = some (.methodLink cls i (mt A).1)) else if B = 4 then decide (A < 350) && decide ((mt A).2.2.2.2.2.2.2.1 = 100001) && decide (g PL = some (.methodLinkNest cls i (mt A).1 "TrackVotes")) else true
  | .if_icmp _ off => decide ((pc : Int) + off = (A : Int))
  | .ifCond _ off => decide ((pc : Int) + off = (A : Int))
  | .goto off => decide ((pc : Int) + off = (A : Int))
  | .ifnull off => decide ((pc : Int) + off = (A : Int))
  | .ifnonnull off => decide ((pc : Int) + off = (A : Int))
  | .lookupswitch dflt ps => (ps.toList.zip (ps.toList.drop 1)).all (fun (a, next) => a.1 < next.1) && decide (0 ≤ (pc : Int) + dflt) && ps.toList.all (fun q => decide (0 ≤ (pc : Int) + q.2))
  | .tableswitch dflt lo hi offs => decide (0 ≤ (pc : Int) + dflt) && offs.toList.all (fun q => decide (0 ≤ (pc : Int) + q)) && decide (hi - lo + 1 = (offs.size : Int))
  | _ => true
theorem zlkH_eq {g : Nat → Option Cond} {y pc : Nat} {ins : Instr} {A B : Nat} {V : Int} {PL : Nat} : zlkH g (mt y).1.cls (mt y).1.name pc ins A B V PL = zlkG g y pc ins A B V PL := by
  cases ins <;> rfl
def zik (ins : Instr) : Nat × Nat := match ins with
  | .getfield i => (1, i)
  | .putfield i => (2, i)
  | .getstatic i => (3, i)
  | .invokevirtual i => (4, i)
  | .invokestatic i => (5, i)
  | .invokespecial i => (6, i)
  | .new i => (7, i)
  | .anewarray i => (8, i)
  | .checkcast i => (9, i)
  | _ => (0, 0)
def zki (k i : Nat) : Instr := match k with
  | 1 => .getfield i
  | 2 => .putfield i
  | 3 => .getstatic i
  | 4 => .invokevirtual i
  | 5 => .invokestatic i
  | 6 => .invokespecial i
  | 7 => .new i
  | 8 => .anewarray i
  | 9 => .checkcast i
  | _ => .aconst_null
theorem zki_ik {ins : Instr} (h : (zik ins).1 ≠ 0) : zki (zik ins).1 (zik ins).2 = ins := by
  cases ins <;> first | rfl | exact absurd rfl h
theorem zpf9 {x f b n : Bool} (h : (x && (f || (decide ("" = "<init>") && b))) = true) : (x && (f || (n && b))) = true := by
  rw [show decide ("" = "<init>") = false by decide, Bool.false_and, Bool.or_false] at h
  rw [Bool.and_eq_true] at h ⊢
  refine ⟨h.1, ?_⟩
  rw [h.2, Bool.true_or]
theorem zlkH_nm {g : Nat → Option Cond} {cls name : String} {pc : Nat} {ins : Instr} {A B : Nat} {V : Int} {PL : Nat} (hk : (zik ins).1 ≠ 0) (h : zlkH g cls "" 0 ins A B 0 PL = true) : zlkH g cls name pc ins A B V PL = true := by
  cases ins <;> first | exact absurd rfl hk | exact h | exact zpf9 h
/-- the classes of all methods -/
def cC (c : Nat) : String := if Nat.blt c 13 = true then cR c else match c with
  | 13 => "java/lang/String"
  | 14 => "java/lang/Math"
  | 15 => "java/lang/StringLatin1"
  | 16 => "java/lang/Integer"
  | 17 => "jdk/internal/util/Preconditions"
  | 18 => "TrackVotesLaw"
  | _ => ""
abbrev zLe : Type := Nat × Nat × Nat × Nat
def zlnE (e : Nat × zLe) : Bool := zlkH zlw (cC e.2.1) "" 0 (zki (e.1 % 16) e.2.2.1) e.2.2.2.1 e.2.2.2.2 0 (e.1 / 16)
def zLnk0 : List (Nat × zLe) := []
def zLnk1 : List (Nat × zLe) := []
def zLnk2 : List (Nat × zLe) := [(2055, 18, 7, 11, 0), (2086, 18, 9, 0, 3), (2134, 11, 3, 0, 5), (2183, 11, 9, 6, 0), (2214, 11, 11, 1, 4), (2262, 6, 3, 0, 5), (2275, 6, 50, 0, 1), (2308, 6, 53, 0, 7), (2409, 6, 54, 0, 0), (2417, 6, 9, 6, 0), (2418, 6, 9, 6, 0), (2433, 8, 63, 6, 0), (2449, 5, 106, 6, 0), (2465, 3, 73, 6, 0), (2481, 4, 108, 6, 0), (2497, 11, 161, 6, 0), (2513, 6, 15, 6, 1), (2529, 8, 66, 6, 1), (2545, 3, 85, 6, 1), (2561, 11, 182, 6, 1), (2577, 6, 19, 6, 2), (2593, 11, 186, 6, 2), (2609, 4, 186, 6, 2), (2625, 6, 23, 6, 3), (2626, 6, 23, 6, 3), (2641, 5, 90, 6, 3), (2657, 3, 79, 6, 3), (2673, 11, 167, 6, 3), (2689, 6, 26, 6, 4), (2705, 5, 93, 6, 4), (2721, 11, 197, 6, 4), (2737, 6, 29, 6, 5), (2753, 5, 100, 6, 5), (2769, 8, 56, 6, 5), (2785, 11, 200, 6, 5), (2801, 6, 32, 6, 6), (2817, 11, 203, 6, 6), (2833, 6, 35, 6, 7), (2849, 4, 121, 6, 7), (2865, 11, 206, 6, 7), (2881, 6, 38, 6, 8), (2882, 6, 38, 6, 8), (2897, 4, 70, 6, 8), (2913, 3, 82, 6, 8), (2929, 11, 173, 6, 8), (2945, 6, 41, 6, 9), (2961, 11, 222, 6, 9), (2977, 6, 44, 6, 10), (2993, 11, 225, 6, 10), (3009, 6, 47, 6, 11), (3025, 11, 228, 6, 11), (3041, 6, 58, 6, 12), (3057, 6, 61, 6, 13), (3058, 6, 61, 6, 13)]
def zLnk3 : List (Nat × zLe) := [(3073, 11, 321, 6, 13), (3089, 6, 64, 6, 14), (3105, 11, 341, 6, 14), (3671, 11, 19, 2, 0), (3702, 11, 21, 2, 3), (3750, 2, 3, 0, 5), (3767, 2, 9, 6, 0), (3768, 2, 9, 24, 0), (3798, 2, 31, 1, 4), (3809, 2, 11, 2, 0), (3825, 2, 17, 2, 1), (3826, 2, 17, 2, 1), (3841, 2, 21, 2, 2), (3842, 2, 21, 2, 2), (3857, 2, 24, 2, 3), (3873, 2, 27, 2, 4), (4071, 11, 26, 7, 0)]
def zLnk4 : List (Nat × zLe) := [(4102, 11, 28, 3, 4), (4150, 7, 3, 0, 5), (4161, 7, 9, 7, 0), (4177, 7, 15, 7, 1), (4178, 7, 15, 7, 1), (4193, 7, 19, 7, 2), (4194, 7, 19, 7, 2), (4209, 7, 22, 7, 3), (4210, 7, 22, 7, 3), (4225, 7, 25, 7, 4), (4226, 7, 25, 7, 4), (4241, 7, 28, 7, 5), (4242, 7, 28, 7, 5), (4471, 11, 33, 3, 0), (4502, 11, 35, 4, 4), (4550, 3, 3, 0, 5), (4561, 3, 11, 3, 0), (4577, 3, 15, 3, 1), (4593, 3, 18, 3, 2), (4727, 11, 40, 9, 0), (4758, 11, 42, 5, 4), (4806, 9, 3, 0, 5), (4836, 9, 11, 6, 0), (4900, 13, 335, 7, 0), (4963, 13, 38, 3, 0), (4993, 9, 17, 9, 0), (5009, 9, 23, 9, 1), (5025, 9, 27, 9, 2), (5026, 9, 27, 9, 2), (5041, 9, 30, 9, 3), (5042, 9, 30, 9, 3), (5057, 9, 33, 9, 4), (5058, 9, 33, 9, 4), (5073, 9, 36, 9, 5), (5074, 9, 36, 9, 5)]
def zLnk5 : List (Nat × zLe) := [(5303, 11, 47, 4, 0), (5334, 11, 49, 8, 4), (5382, 4, 3, 0, 5), (5399, 4, 15, 0, 0), (5430, 4, 17, 9, 3), (5478, 0, 3, 0, 5), (5495, 0, 9, 5, 0), (5526, 0, 11, 10, 4), (5574, 5, 3, 0, 5), (5585, 5, 9, 5, 0), (5586, 5, 9, 5, 0), (5601, 5, 15, 5, 1), (5617, 5, 19, 5, 2), (5633, 5, 22, 5, 3), (5649, 5, 25, 5, 4), (5665, 5, 28, 5, 5), (5666, 5, 28, 5, 5), (5681, 5, 31, 5, 6), (5682, 5, 31, 5, 6), (5697, 5, 34, 5, 7), (5713, 5, 37, 5, 8), (5729, 5, 40, 5, 9), (5745, 5, 43, 5, 10), (5746, 5, 43, 5, 10), (5761, 5, 46, 5, 11), (5777, 5, 49, 5, 12), (5793, 5, 52, 5, 13), (5809, 5, 55, 5, 14), (5825, 5, 58, 5, 15), (5826, 5, 58, 5, 15), (5841, 5, 61, 5, 16), (5857, 5, 64, 5, 17), (5858, 5, 64, 5, 17), (5873, 5, 67, 5, 18), (5874, 5, 67, 5, 18)]
def zLnk6 : List (Nat × zLe) := [(6519, 0, 18, 8, 0), (6520, 0, 18, 25, 0), (6566, 0, 38, 11, 4), (6614, 8, 3, 0, 5), (6625, 8, 9, 8, 0), (6626, 8, 9, 8, 0), (6641, 1, 111, 8, 0), (6657, 5, 132, 8, 0), (6673, 11, 260, 8, 0), (6690, 8, 15, 8, 1), (6705, 1, 116, 8, 1), (6721, 5, 137, 8, 1), (6737, 11, 264, 8, 1), (6754, 8, 18, 8, 2), (6769, 1, 119, 8, 2), (6785, 5, 140, 8, 2), (6801, 11, 266, 8, 2), (6818, 8, 21, 8, 3), (6833, 4, 100, 8, 3), (6849, 11, 269, 8, 3), (6866, 8, 24, 8, 4), (6882, 4, 139, 8, 4), (6897, 11, 272, 8, 4), (6914, 8, 27, 8, 5), (6929, 11, 278, 8, 5), (6945, 8, 30, 8, 6), (6961, 4, 111, 8, 6), (6977, 5, 149, 8, 6), (6993, 11, 287, 8, 6), (7025, 5, 143, 8, 7), (7041, 8, 37, 8, 8), (7042, 8, 37, 8, 8), (7057, 11, 296, 8, 8), (7073, 8, 41, 8, 9), (7074, 8, 41, 8, 9), (7089, 11, 292, 8, 9), (7105, 8, 44, 8, 10), (7106, 8, 44, 8, 10), (7121, 11, 306, 8, 10), (7138, 8, 47, 8, 11), (7153, 11, 309, 8, 11)]
def zLnk7 : List (Nat × zLe) := [(7569, 0, 12, 0, 0), (7585, 0, 20, 0, 1), (7601, 0, 24, 0, 2), (7602, 0, 24, 0, 2), (7617, 0, 28, 0, 3), (7633, 0, 32, 0, 4), (7634, 0, 32, 0, 4), (7649, 0, 35, 0, 5), (7650, 0, 35, 0, 5), (7873, 4, 9, 4, 0), (7874, 4, 9, 4, 0), (7889, 4, 18, 4, 1), (7905, 4, 22, 4, 2), (7921, 4, 25, 4, 3), (7922, 4, 25, 4, 3), (7937, 4, 29, 4, 4), (7938, 4, 29, 4, 4), (7953, 4, 32, 4, 5), (7954, 4, 32, 4, 5), (7969, 4, 35, 4, 6), (7985, 4, 39, 4, 7), (8001, 4, 42, 4, 8), (8017, 4, 45, 4, 9), (8018, 4, 45, 4, 9), (8033, 4, 48, 4, 10), (8049, 4, 51, 4, 11), (8065, 4, 54, 4, 12), (8081, 4, 57, 4, 13), (8097, 4, 61, 4, 14)]
def zLnk8 : List (Nat × zLe) := [(8615, 11, 54, 1, 0), (8646, 11, 56, 12, 4), (8694, 1, 3, 0, 5), (8705, 1, 9, 1, 0), (8706, 1, 9, 1, 0), (8721, 1, 15, 1, 1), (8722, 1, 15, 1, 1), (8737, 1, 19, 1, 2), (8753, 1, 23, 1, 3), (8769, 1, 26, 1, 4), (8785, 1, 29, 1, 5), (8801, 1, 32, 1, 6), (8817, 1, 35, 1, 7), (9111, 11, 61, 10, 0), (9142, 11, 63, 13, 4), (9190, 10, 3, 0, 5), (9201, 10, 9, 10, 0), (9202, 10, 9, 10, 0)]
def zLnk9 : List (Nat × zLe) := [(9217, 11, 377, 10, 0), (9233, 10, 15, 10, 1), (9234, 10, 15, 10, 1), (9249, 11, 380, 10, 1), (9265, 10, 18, 10, 2), (9266, 10, 18, 10, 2), (9281, 11, 383, 10, 2), (9297, 10, 21, 10, 3), (9298, 10, 21, 10, 3), (9313, 11, 386, 10, 3), (9329, 10, 24, 10, 4), (9345, 10, 28, 10, 5), (9569, 11, 12, 11, 0), (9585, 11, 16, 11, 1), (9601, 11, 22, 11, 2), (9617, 11, 29, 11, 3), (9633, 11, 36, 11, 4), (9649, 11, 43, 11, 5), (9665, 11, 50, 11, 6), (9681, 11, 57, 11, 7), (9697, 11, 64, 11, 8), (9713, 11, 68, 11, 9), (9729, 11, 72, 11, 10), (9730, 11, 72, 11, 10), (9745, 11, 76, 11, 11), (9746, 11, 76, 11, 11), (9761, 11, 79, 11, 12), (9762, 11, 79, 11, 12), (10212, 18, 13, 14, 0)]
def zLnk10 : List (Nat × zLe) := [(10276, 11, 82, 15, 0), (10340, 11, 86, 16, 0), (10404, 11, 90, 17, 0), (10468, 18, 18, 18, 0), (10532, 11, 94, 19, 0), (10597, 7, 31, 20, 1), (10645, 7, 37, 21, 1), (10692, 18, 23, 22, 0), (10756, 11, 97, 23, 0), (10821, 6, 68, 0, 6), (10868, 6, 74, 24, 0), (10933, 6, 78, 20, 1), (10949, 6, 84, 21, 1), (10964, 11, 101, 25, 0), (11028, 3, 21, 26, 0), (11092, 3, 26, 27, 0), (11156, 3, 30, 28, 0), (11220, 3, 34, 29, 0)]
def zLnk11 : List (Nat × zLe) := [(11284, 3, 38, 30, 0), (11348, 7, 40, 31, 0), (11413, 3, 41, 32, 1), (11461, 3, 45, 33, 1), (11508, 3, 49, 34, 0), (11572, 3, 53, 35, 0), (11637, 7, 48, 36, 2), (11684, 7, 51, 30, 0), (11700, 7, 44, 34, 0), (11716, 3, 56, 37, 0), (11780, 3, 59, 38, 0), (11845, 3, 88, 39, 2), (11893, 3, 92, 40, 1), (11940, 3, 106, 41, 0), (12005, 3, 109, 42, 2), (12053, 3, 96, 43, 1), (12101, 3, 100, 44, 1), (12147, 3, 112, 1, 1), (12179, 3, 115, 2, 1), (12213, 3, 103, 45, 1), (12260, 3, 63, 46, 0)]
def zLnk12 : List (Nat × zLe) := [(12324, 3, 66, 47, 0), (12388, 3, 70, 48, 0), (12452, 3, 118, 49, 0), (12516, 3, 121, 50, 0), (12580, 6, 119, 51, 0), (12644, 6, 98, 41, 0), (12661, 6, 116, 42, 2), (12677, 6, 91, 39, 2), (12692, 3, 125, 52, 0), (12756, 6, 104, 53, 0), (12821, 6, 101, 54, 1), (12868, 6, 107, 55, 0), (12932, 6, 122, 50, 0), (12948, 3, 128, 56, 0), (13012, 11, 105, 57, 0), (13076, 11, 108, 58, 0), (13140, 2, 32, 23, 0), (13157, 2, 36, 20, 1), (13172, 11, 111, 59, 0), (13236, 11, 462, 60, 0), (13300, 11, 465, 61, 0)]
def zLnk13 : List (Nat × zLe) := [(13364, 18, 28, 62, 0), (13428, 11, 114, 63, 0), (13492, 11, 118, 64, 0), (13557, 9, 39, 20, 1), (13573, 9, 45, 21, 1), (13589, 9, 48, 0, 6), (13604, 9, 54, 65, 0), (13668, 9, 62, 66, 0), (13732, 9, 68, 67, 0), (13796, 9, 65, 68, 0), (13860, 9, 71, 69, 0), (13924, 9, 75, 70, 0), (13988, 9, 78, 71, 0), (14052, 9, 81, 72, 0), (14116, 13, 633, 73, 0), (14180, 13, 492, 74, 0), (14244, 13, 505, 6, 0), (14261, 13, 637, 75, 1), (14309, 15, 88, 76, 1)]
def zLnk14 : List (Nat × zLe) := [(14357, 15, 92, 21, 1), (14373, 15, 38, 20, 1), (14389, 15, 95, 77, 1), (14437, 13, 640, 0, 9), (14723, 13, 1053, 4, 0), (15221, 9, 85, 36, 2), (15236, 9, 58, 78, 0), (15300, 9, 88, 79, 0)]
def zLnk15 : List (Nat × zLe) := [(15364, 11, 122, 80, 0), (15428, 11, 123, 81, 0), (15492, 11, 126, 24, 0), (15508, 18, 32, 82, 0), (15572, 11, 130, 83, 0), (15636, 3, 132, 84, 0), (15701, 3, 136, 85, 1), (15748, 11, 134, 86, 0), (15812, 11, 138, 87, 0), (15876, 11, 141, 88, 0), (15940, 11, 145, 89, 0), (16004, 11, 402, 51, 0), (16020, 11, 405, 50, 0), (16036, 11, 149, 90, 0), (16100, 11, 193, 91, 0), (16164, 11, 170, 92, 0), (16228, 6, 95, 93, 0), (16292, 6, 87, 91, 0), (16308, 11, 152, 94, 0), (16372, 11, 179, 41, 0)]
def zLnk16 : List (Nat × zLe) := [(16388, 11, 155, 95, 0), (16453, 11, 246, 39, 1), (16468, 11, 158, 96, 0), (16532, 11, 409, 56, 0), (16548, 18, 36, 97, 0), (16612, 18, 40, 98, 0), (16676, 18, 44, 99, 0), (16740, 11, 164, 100, 0), (16804, 11, 176, 101, 0), (16868, 18, 48, 102, 0), (16932, 11, 190, 103, 0), (16996, 18, 53, 104, 0), (17076, 11, 209, 93, 0), (17092, 11, 212, 105, 0), (17156, 4, 64, 96, 0), (17172, 4, 71, 106, 0), (17236, 0, 39, 107, 0), (17300, 5, 70, 96, 0), (17317, 5, 76, 21, 1), (17332, 5, 82, 108, 0), (17396, 5, 86, 109, 0)]
def zLnk17 : List (Nat × zLe) := [(17461, 5, 103, 20, 1), (17476, 5, 109, 55, 0), (17492, 5, 112, 53, 0), (17508, 5, 96, 93, 0), (17524, 0, 43, 110, 0), (17588, 0, 47, 111, 0), (17652, 0, 68, 112, 0), (17717, 5, 115, 113, 1), (17812, 0, 71, 114, 0), (17876, 5, 120, 115, 0), (17940, 5, 123, 116, 0), (18005, 5, 126, 54, 1), (18020, 5, 129, 117, 0), (18084, 0, 75, 118, 0), (18148, 0, 77, 119, 0), (18212, 0, 51, 115, 0), (18228, 0, 54, 116, 0), (18244, 0, 57, 120, 0), (18308, 0, 61, 121, 0), (18373, 5, 146, 122, 1), (18420, 0, 65, 123, 0)]
def zLnk18 : List (Nat × zLe) := [(18484, 4, 75, 124, 0), (18548, 4, 92, 125, 0), (18612, 4, 96, 126, 0), (18676, 4, 78, 127, 0), (18740, 4, 105, 128, 0), (18804, 4, 114, 129, 0), (18868, 4, 117, 91, 0), (18884, 4, 124, 130, 0), (18948, 4, 82, 131, 0), (19012, 4, 127, 132, 0), (19076, 8, 69, 133, 0), (19140, 8, 50, 91, 0), (19156, 8, 59, 55, 0), (19173, 8, 73, 134, 1), (19220, 4, 130, 135, 0), (19285, 8, 79, 136, 1), (19332, 4, 85, 137, 0), (19396, 4, 133, 138, 0)]
def zLnk19 : List (Nat × zLe) := [(19460, 4, 136, 139, 0), (19525, 8, 83, 140, 1), (19572, 4, 88, 141, 0), (19636, 11, 216, 142, 0), (19700, 18, 57, 143, 0), (19764, 11, 219, 130, 0), (19780, 11, 231, 128, 0), (19796, 11, 234, 144, 0), (19860, 11, 237, 145, 0), (19924, 4, 163, 146, 0), (19989, 4, 159, 39, 2), (20004, 18, 61, 147, 0), (20068, 11, 240, 53, 0), (20084, 11, 243, 55, 0), (20100, 18, 66, 148, 0), (20164, 11, 250, 149, 0), (20229, 6, 110, 113, 1), (20244, 18, 70, 150, 0), (20308, 11, 253, 151, 0), (20372, 11, 312, 152, 0), (20436, 11, 344, 153, 0)]
def zLnk20 : List (Nat × zLe) := [(20500, 1, 38, 154, 0), (20564, 1, 42, 96, 0), (20580, 1, 48, 155, 0), (20644, 4, 142, 156, 0), (20708, 1, 54, 107, 0), (20724, 1, 60, 112, 0), (20740, 1, 64, 110, 0), (20756, 1, 67, 114, 0), (20772, 1, 71, 118, 0), (20788, 1, 74, 157, 0), (20852, 1, 78, 115, 0), (20868, 1, 81, 116, 0), (20884, 1, 84, 158, 0), (20948, 1, 96, 159, 0), (21012, 1, 98, 160, 0), (21076, 1, 101, 161, 0), (21141, 1, 88, 162, 1), (21188, 1, 104, 144, 0), (21204, 1, 107, 163, 0), (21268, 1, 92, 164, 0), (21333, 1, 122, 39, 2), (21348, 11, 347, 165, 0), (21412, 11, 350, 166, 0), (21476, 4, 146, 163, 0), (21492, 11, 353, 167, 0)]
def zLnk21 : List (Nat × zLe) := [(21556, 11, 356, 168, 0), (21621, 4, 156, 21, 1), (21636, 18, 74, 169, 0), (21700, 11, 256, 163, 0), (21716, 11, 275, 139, 0), (21732, 11, 281, 170, 0), (21796, 4, 166, 171, 0), (21860, 11, 284, 171, 0), (21876, 18, 78, 172, 0), (21940, 18, 82, 173, 0), (22021, 11, 299, 174, 1), (22069, 11, 412, 175, 1), (22117, 11, 466, 136, 1), (22133, 11, 303, 176, 1), (22180, 18, 87, 177, 0), (22244, 11, 315, 178, 0), (22308, 11, 318, 179, 0), (22372, 4, 147, 178, 0), (22389, 4, 150, 54, 1), (22404, 18, 91, 180, 0), (22484, 11, 326, 6, 0), (22500, 11, 329, 181, 0)]
def zLnk22 : List (Nat × zLe) := [(22565, 13, 495, 182, 1), (22613, 15, 9, 183, 1), (22661, 13, 1059, 184, 1), (22709, 13, 498, 0, 9), (22820, 11, 333, 185, 0), (22884, 11, 337, 186, 0), (22948, 18, 95, 151, 0), (22964, 18, 99, 187, 0), (23028, 18, 103, 188, 0), (23093, 11, 364, 189, 1), (23140, 11, 367, 187, 0), (23157, 11, 370, 190, 1), (23205, 11, 359, 21, 1), (23220, 11, 373, 191, 0), (23284, 10, 31, 192, 0), (23349, 10, 35, 21, 1), (23364, 18, 107, 193, 0), (23428, 18, 111, 194, 0), (23492, 11, 389, 195, 0)]
def zLnk23 : List (Nat × zLe) := [(23556, 4, 183, 41, 0), (23572, 18, 115, 196, 0), (23636, 11, 393, 197, 0), (23700, 4, 177, 198, 0), (23764, 4, 169, 145, 0), (23780, 4, 180, 199, 0), (23845, 4, 172, 113, 1), (23860, 11, 396, 198, 0), (23876, 11, 399, 199, 0), (23892, 18, 119, 89, 0), (23908, 18, 123, 90, 0), (23924, 18, 127, 94, 0), (23940, 18, 131, 95, 0), (23956, 18, 135, 200, 0), (24021, 11, 415, 134, 1), (24052, 18, 140, 201, 0), (24116, 11, 419, 202, 0), (24180, 8, 86, 41, 0), (24196, 18, 144, 203, 0), (24260, 18, 148, 204, 0), (24325, 11, 422, 122, 1), (24340, 18, 152, 205, 0), (24405, 11, 425, 54, 1), (24420, 18, 156, 206, 0), (24485, 11, 428, 42, 1), (24500, 18, 160, 207, 0), (24564, 11, 431, 208, 0)]
def zLnk24 : List (Nat × zLe) := [(24628, 1, 126, 209, 0), (24708, 18, 164, 210, 0), (24772, 11, 434, 211, 0), (24836, 18, 168, 212, 0), (24900, 11, 437, 213, 0), (24964, 18, 172, 214, 0), (25028, 11, 441, 215, 0), (25092, 18, 177, 216, 0), (25156, 11, 445, 217, 0), (25220, 11, 448, 218, 0), (25284, 2, 42, 217, 0), (25300, 18, 181, 219, 0), (25364, 11, 451, 220, 0), (25428, 11, 455, 221, 0), (25492, 11, 458, 222, 0), (25556, 18, 185, 223, 0)]
def zLnk25 : List (Nat × zLe) := [(25623, 18, 10, 12, 0), (25654, 18, 12, 224, 3), (25702, 12, 7, 0, 5), (25713, 12, 3, 12, 0), (25729, 12, 101, 12, 1), (25730, 12, 101, 12, 1), (25745, 12, 13, 12, 2), (25761, 12, 108, 12, 3), (25762, 12, 108, 12, 3), (25777, 12, 17, 12, 4), (25793, 12, 120, 12, 5), (25794, 12, 120, 12, 5), (25809, 12, 126, 12, 6), (25810, 12, 126, 12, 6), (25825, 12, 21, 12, 7), (25826, 12, 21, 12, 7), (25841, 12, 137, 12, 8), (25842, 12, 137, 12, 8), (25857, 12, 25, 12, 9), (25873, 12, 28, 12, 10), (25889, 12, 204, 12, 11), (25890, 12, 204, 12, 11), (25905, 12, 225, 12, 12), (25906, 12, 225, 12, 12), (25921, 12, 210, 12, 13), (25922, 12, 210, 12, 13), (25937, 12, 234, 12, 14), (25938, 12, 234, 12, 14), (25953, 12, 31, 12, 15), (25969, 12, 34, 12, 16), (25985, 12, 37, 12, 17), (26001, 12, 279, 12, 18), (26002, 12, 279, 12, 18), (26017, 12, 282, 12, 19), (26018, 12, 282, 12, 19), (26033, 12, 285, 12, 20), (26034, 12, 285, 12, 20), (26049, 12, 288, 12, 21), (26050, 12, 288, 12, 21), (26065, 12, 261, 12, 22), (26066, 12, 261, 12, 22), (26081, 12, 40, 12, 23), (26097, 12, 43, 12, 24), (26113, 12, 46, 12, 25), (26129, 12, 49, 12, 26), (26145, 12, 52, 12, 27), (26161, 12, 55, 12, 28), (26177, 12, 58, 12, 29), (26193, 12, 62, 12, 30), (26209, 12, 65, 12, 31), (26225, 12, 68, 12, 32), (26241, 12, 71, 12, 33), (26257, 12, 74, 12, 34), (26273, 12, 77, 12, 35), (26289, 12, 80, 12, 36), (26305, 12, 350, 12, 37), (26306, 12, 350, 12, 37), (26321, 12, 83, 12, 38), (26337, 12, 354, 12, 39), (26338, 12, 354, 12, 39), (26353, 12, 86, 12, 40), (26369, 12, 89, 12, 41), (26385, 12, 421, 12, 42), (26386, 12, 421, 12, 42), (26401, 12, 424, 12, 43), (26402, 12, 424, 12, 43), (26417, 12, 427, 12, 44), (26418, 12, 427, 12, 44), (26433, 12, 430, 12, 45), (26434, 12, 430, 12, 45), (26449, 12, 92, 12, 46), (26465, 12, 460, 12, 47), (26466, 12, 460, 12, 47), (26481, 12, 95, 12, 48), (26482, 12, 95, 12, 48), (26497, 12, 98, 12, 49), (26513, 12, 481, 12, 50), (26514, 12, 481, 12, 50)]
def zLnk26 : List (Nat × zLe) := []
def zLnk27 : List (Nat × zLe) := [(28196, 18, 171, 225, 0), (28260, 12, 104, 226, 0), (28324, 18, 176, 227, 0), (28389, 12, 112, 228, 1), (28436, 18, 180, 229, 0), (28500, 12, 116, 230, 0), (28564, 18, 17, 231, 0), (28628, 12, 123, 232, 0)]
def zLnk28 : List (Nat × zLe) := [(28692, 18, 22, 233, 0), (28756, 18, 39, 234, 0), (28820, 18, 27, 235, 0), (28884, 12, 195, 236, 0), (28948, 12, 198, 237, 0), (29012, 12, 129, 238, 0), (29076, 12, 133, 239, 0), (29140, 12, 185, 240, 0), (29204, 12, 154, 241, 0), (29268, 12, 170, 242, 0), (29332, 12, 147, 243, 0), (29396, 12, 143, 244, 0), (29461, 12, 140, 245, 1), (29508, 12, 151, 246, 0), (29572, 12, 189, 247, 0), (29636, 12, 192, 248, 0)]
def zLnk29 : List (Nat × zLe) := [(29700, 12, 173, 249, 0), (29781, 12, 160, 250, 1), (29828, 12, 166, 251, 0), (29940, 12, 181, 252, 0), (30004, 12, 201, 253, 0), (30068, 18, 31, 254, 0), (30132, 12, 246, 255, 0), (30196, 12, 243, 256, 0), (30260, 12, 237, 257, 0), (30324, 12, 222, 258, 0), (30388, 12, 216, 259, 0), (30453, 12, 207, 260, 1), (30500, 12, 213, 261, 0), (30565, 12, 219, 262, 1), (30612, 12, 240, 263, 0), (30676, 12, 228, 264, 0)]
def zLnk30 : List (Nat × zLe) := [(30740, 12, 231, 265, 0), (30804, 18, 94, 266, 0), (30868, 12, 249, 267, 0), (30932, 12, 331, 268, 0), (30996, 12, 307, 269, 0), (31060, 12, 298, 270, 0), (31124, 12, 295, 271, 0), (31188, 12, 255, 272, 0), (31252, 12, 258, 273, 0), (31316, 12, 301, 274, 0), (31380, 12, 270, 275, 0), (31444, 12, 273, 276, 0), (31508, 12, 276, 277, 0), (31573, 12, 264, 278, 1), (31621, 12, 291, 279, 1), (31669, 12, 267, 280, 1), (31716, 12, 304, 281, 0)]
def zLnk31 : List (Nat × zLe) := [(31780, 12, 310, 282, 0), (31844, 12, 319, 283, 0), (31924, 12, 313, 284, 0), (31988, 12, 347, 285, 0), (32053, 12, 324, 286, 1), (32100, 12, 316, 287, 0), (32164, 12, 357, 288, 0), (32228, 12, 361, 289, 0), (32292, 12, 372, 290, 0), (32356, 12, 401, 291, 0), (32420, 12, 369, 292, 0), (32484, 12, 405, 293, 0), (32549, 12, 252, 294, 1), (32596, 18, 98, 295, 0), (32660, 18, 86, 296, 0), (32724, 12, 334, 297, 0)]
def zLnk32 : List (Nat × zLe) := [(32821, 12, 341, 298, 1), (32869, 12, 328, 299, 1), (32916, 18, 139, 300, 0), (32996, 18, 90, 301, 0), (33076, 18, 163, 302, 0), (33141, 12, 364, 303, 1), (33204, 18, 47, 304, 0), (33284, 18, 52, 305, 0), (33348, 12, 377, 306, 0), (33412, 18, 56, 307, 0), (33476, 12, 380, 308, 0), (33540, 18, 60, 309, 0), (33604, 12, 389, 310, 0), (33684, 12, 386, 311, 0), (33748, 12, 394, 312, 0)]
def zLnk33 : List (Nat × zLe) := [(33812, 12, 383, 313, 0), (33876, 18, 65, 314, 0), (33972, 18, 69, 315, 0), (34036, 18, 73, 316, 0), (34100, 18, 77, 317, 0), (34164, 12, 408, 318, 0), (34228, 12, 411, 319, 0), (34292, 12, 414, 320, 0), (34356, 18, 81, 321, 0), (34420, 18, 102, 322, 0), (34484, 18, 106, 323, 0), (34549, 12, 441, 324, 1), (34660, 12, 444, 325, 0), (34724, 12, 418, 322, 0), (34740, 18, 110, 326, 0), (34804, 18, 114, 327, 0)]
def zLnk34 : List (Nat × zLe) := [(34868, 18, 118, 328, 0), (34932, 12, 447, 329, 0), (34996, 12, 450, 330, 0), (35060, 18, 122, 331, 0), (35124, 18, 126, 332, 0), (35188, 18, 130, 333, 0), (35252, 18, 134, 334, 0), (35316, 18, 159, 335, 0), (35396, 18, 143, 336, 0), (35460, 12, 455, 337, 0), (35524, 18, 147, 338, 0), (35588, 18, 151, 339, 0), (35652, 18, 155, 340, 0), (35716, 18, 167, 341, 0), (35796, 18, 35, 342, 0)]
def zLnk35 : List (Nat × zLe) := [(35860, 12, 475, 343, 0), (35924, 12, 478, 344, 0), (35988, 12, 463, 331, 0), (36004, 12, 466, 332, 0), (36020, 12, 469, 333, 0), (36036, 12, 472, 334, 0), (36052, 18, 43, 345, 0), (36116, 18, 184, 346, 0), (36180, 12, 484, 347, 0), (36244, 12, 487, 348, 0), (36308, 18, 188, 349, 0), (36369, 13, 9, 30, 0), (36385, 13, 15, 30, 1)]
def zLnk : List (List (Nat × zLe)) := [zLnk0, zLnk1, zLnk2, zLnk3, zLnk4, zLnk5, zLnk6, zLnk7, zLnk8, zLnk9, zLnk10, zLnk11, zLnk12, zLnk13, zLnk14, zLnk15, zLnk16, zLnk17, zLnk18, zLnk19, zLnk20, zLnk21, zLnk22, zLnk23, zLnk24, zLnk25, zLnk26, zLnk27, zLnk28, zLnk29, zLnk30, zLnk31, zLnk32, zLnk33, zLnk34, zLnk35]
theorem zLnk0_ok : zLnk0.all zlnE = true := by decide +kernel
theorem zLnk1_ok : zLnk1.all zlnE = true := by decide +kernel
theorem zLnk2_ok : zLnk2.all zlnE = true := by decide +kernel
theorem zLnk3_ok : zLnk3.all zlnE = true := by decide +kernel
theorem zLnk4_ok : zLnk4.all zlnE = true := by decide +kernel
theorem zLnk5_ok : zLnk5.all zlnE = true := by decide +kernel
theorem zLnk6_ok : zLnk6.all zlnE = true := by decide +kernel
theorem zLnk7_ok : zLnk7.all zlnE = true := by decide +kernel
theorem zLnk8_ok : zLnk8.all zlnE = true := by decide +kernel
theorem zLnk9_ok : zLnk9.all zlnE = true := by decide +kernel
theorem zLnk10_ok : zLnk10.all zlnE = true := by decide +kernel
theorem zLnk11_ok : zLnk11.all zlnE = true := by decide +kernel
theorem zLnk12_ok : zLnk12.all zlnE = true := by decide +kernel
theorem zLnk13_ok : zLnk13.all zlnE = true := by decide +kernel
theorem zLnk14_ok : zLnk14.all zlnE = true := by decide +kernel
theorem zLnk15_ok : zLnk15.all zlnE = true := by decide +kernel
theorem zLnk16_ok : zLnk16.all zlnE = true := by decide +kernel
theorem zLnk17_ok : zLnk17.all zlnE = true := by decide +kernel
theorem zLnk18_ok : zLnk18.all zlnE = true := by decide +kernel
theorem zLnk19_ok : zLnk19.all zlnE = true := by decide +kernel
theorem zLnk20_ok : zLnk20.all zlnE = true := by decide +kernel
theorem zLnk21_ok : zLnk21.all zlnE = true := by decide +kernel
theorem zLnk22_ok : zLnk22.all zlnE = true := by decide +kernel
theorem zLnk23_ok : zLnk23.all zlnE = true := by decide +kernel
theorem zLnk24_ok : zLnk24.all zlnE = true := by decide +kernel
theorem zLnk25_ok : zLnk25.all zlnE = true := by decide +kernel
theorem zLnk26_ok : zLnk26.all zlnE = true := by decide +kernel
theorem zLnk27_ok : zLnk27.all zlnE = true := by decide +kernel
theorem zLnk28_ok : zLnk28.all zlnE = true := by decide +kernel
theorem zLnk29_ok : zLnk29.all zlnE = true := by decide +kernel
theorem zLnk30_ok : zLnk30.all zlnE = true := by decide +kernel
theorem zLnk31_ok : zLnk31.all zlnE = true := by decide +kernel
theorem zLnk32_ok : zLnk32.all zlnE = true := by decide +kernel
theorem zLnk33_ok : zLnk33.all zlnE = true := by decide +kernel
theorem zLnk34_ok : zLnk34.all zlnE = true := by decide +kernel
theorem zLnk35_ok : zLnk35.all zlnE = true := by decide +kernel
theorem zLnk_ok : zAll (fun b => b.all zlnE = true) zLnk := ⟨zLnk0_ok, zLnk1_ok, zLnk2_ok, zLnk3_ok, zLnk4_ok, zLnk5_ok, zLnk6_ok, zLnk7_ok, zLnk8_ok, zLnk9_ok, zLnk10_ok, zLnk11_ok, zLnk12_ok, zLnk13_ok, zLnk14_ok, zLnk15_ok, zLnk16_ok, zLnk17_ok, zLnk18_ok, zLnk19_ok, zLnk20_ok, zLnk21_ok, zLnk22_ok, zLnk23_ok, zLnk24_ok, zLnk25_ok, zLnk26_ok, zLnk27_ok, zLnk28_ok, zLnk29_ok, zLnk30_ok, zLnk31_ok, zLnk32_ok, zLnk33_ok, zLnk34_ok, zLnk35_ok, trivial⟩
theorem zAll.at {α : Type} {P : α → Prop} {v : α} : ∀ {L : List α} {i : Nat}, zAll P L → L[i]? = some v → P v
  | [], _, _, h => by cases h
  | x :: r, 0, h, e => by
    have e : some x = some v := e
    cases e
    exact h.1
  | x :: r, i + 1, h, e => zAll.at (L := r) (i := i) h.2 e
theorem zlook {α : Type} {k : Nat} {v : α} : ∀ {L : List (Nat × α)}, L.lookup k = some v → (k, v) ∈ L
  | [], h => by cases h
  | (j, x) :: r, e => by
    rw [List.lookup_cons] at e
    by_cases q : k = j
    · subst q
      rw [show (k == k) = true from beq_self_eq_true k] at e
      have e : some x = some v := e
      cases e
      exact List.mem_cons.mpr (Or.inl rfl)
    · rw [show (k == j) = false from beq_eq_false_iff_ne.mpr q] at e
      exact List.mem_cons.mpr (Or.inr (zlook e))
def zlnF (K : Nat) : Option zLe := match zLnk[K / 1024]? with
  | some b => b.lookup K
  | none => none
theorem zlnF_ok {K : Nat} {e : zLe} (h : zlnF K = some e) : zlnE (K, e) = true := by
  unfold zlnF at h
  split at h
  · rename_i b hb
    have z := zAll.at zLnk_ok hb
    rw [List.all_eq_true] at z
    exact z _ (zlook h)
  · cases h
theorem zik_le {ins : Instr} : (zik ins).1 ≤ 9 := by
  cases ins <;> exact Nat.le_of_ble_eq_true rfl
def zlq (c : Nat) (name : String) (q : Nat × gE) : Bool := match (if Nat.beq (zik q.2.1).1 0 = true then none else zlnF (q.2.2.2.2.2.2 * 16 + (zik q.2.1).1)) with
  | some e => Nat.beq e.1 c && Nat.beq e.2.1 (zik q.2.1).2 && Nat.beq e.2.2.1 q.2.2.2.1 && Nat.beq e.2.2.2 q.2.2.2.2.1
  | none => zlkH zlw (cC c) name q.1 q.2.1 q.2.2.2.1 q.2.2.2.2.1 q.2.2.2.2.2.1 q.2.2.2.2.2.2
theorem zlq_ok {c : Nat} {name : String} {q : Nat × gE} (h : zlq c name q = true) : zlkH zlw (cC c) name q.1 q.2.1 q.2.2.2.1 q.2.2.2.2.1 q.2.2.2.2.2.1 q.2.2.2.2.2.2 = true := by
  unfold zlq at h
  split at h
  · rename_i e he
    by_cases hk : Nat.beq (zik q.2.1).1 0 = true
    · rw [if_pos hk] at he
      cases he
    · rw [if_neg hk] at he
      have z := zlnF_ok he
      rw [Bool.and_eq_true, Bool.and_eq_true, Bool.and_eq_true] at h
      obtain ⟨⟨⟨h1, h3⟩, h4⟩, h5⟩ := h
      have h1 := Nat.eq_of_beq_eq_true h1
      have h3 := Nat.eq_of_beq_eq_true h3
      have h4 := Nat.eq_of_beq_eq_true h4
      have h5 := Nat.eq_of_beq_eq_true h5
      have k9 := zik_le (ins := q.2.1)
      unfold zlnE at z
      have z : zlkH zlw (cC e.1) "" 0 (zki ((q.2.2.2.2.2.2 * 16 + (zik q.2.1).1) % 16) e.2.1) e.2.2.1 e.2.2.2 0 ((q.2.2.2.2.2.2 * 16 + (zik q.2.1).1) / 16) = true := z
      have k0 : (zik q.2.1).1 ≠ 0 := fun x => hk (by rw [x]; rfl)
      rw [show (q.2.2.2.2.2.2 * 16 + (zik q.2.1).1) % 16 = (zik q.2.1).1 by omega, show (q.2.2.2.2.2.2 * 16 + (zik q.2.1).1) / 16 = q.2.2.2.2.2.2 by omega, h1, h3, h4, h5, zki_ik k0] at z
      exact zlkH_nm k0 z
  · exact h
def zmeth (y c pc : Nat) (t : List (Nat × gE)) : Bool := decide ((mt y).1.cls = cC c) && zwalk (mt y).2.1 (fun q => zlen q.2.1 q.2.2.1 && zlq c (mt y).1.name q) t ((mt y).2.1.data.toList.drop pc) pc
theorem zmeth_ok {y c pc : Nat} {t : List (Nat × gE)} (h : zmeth y c pc t = true) : t.all (zchk y) = true := by
  unfold zmeth at h
  rw [Bool.and_eq_true, decide_eq_true_eq] at h
  have z := zwalk_ok t pc _ rfl h.2
  rw [List.all_eq_true]
  intro q hq
  have y1 := z q hq
  have y2 := y1.2
  rw [Bool.and_eq_true] at y2
  have y3 := zlq_ok y2.2
  rw [← h.1, zlkH_eq, zlkF_eq] at y3
  unfold zchk
  rw [Bool.and_eq_true, Bool.and_eq_true]
  exact ⟨⟨decide_eq_true y1.1, y2.1⟩, y3⟩
