/-- what the tables must say of an instruction as it is resolved -/
def zlk (y pc : Nat) (ins : Instr) (A B : Nat) (V : Int) (PL : Nat) : Bool := match ins with
  | .getfield i => if A = 30 then decide (B < 2) && decide (lw_tbl[PL]? = some (.fieldLink (mt y).1.cls i "java/lang/String" (zsf B).1 (zsf B).2.1)) else decide (A < 13) && decide (B < cN A) && decide ((cT A B).1 = cR A) && decide (lw_tbl[PL]? = some (.fieldLink (mt y).1.cls i (cR A) (cT A B).2.1 (cT A B).2.2.1))
  | .putfield i => decide (A < 13) && decide (B < cN A) && decide ((cT A B).1 = cR A) && decide (lw_tbl[PL]? = some (.fieldLink (mt y).1.cls i (cR A) (cT A B).2.1 (cT A B).2.2.1)) && (decide ((cT A B).2.2.2 = false) || (decide ((mt y).1.name = "<init>") && decide ((mt y).1.cls = cR A)))
  | .getstatic i => decide (A < 5) && (if B = 0 then decide (lw_tbl[PL]? = some (.fieldLink (mt y).1.cls i (zstat A).1 (zstat A).2.1 (zstat A).2.2.1)) else decide (lw_tbl[PL]? = some (.fieldLinkNest (mt y).1.cls i (zstat A).1 (zstat A).2.1 (zstat A).2.2.1 "TrackVotes")))
  | .ldc i => if A = 0 then decide (lw_tbl[PL]? = some (.constant (mt y).1.cls i (Int32.ofInt V))) else decide (((mt y).1.cls = "TrackVotes$Trigger" ∧ i = 9) ∨ ((mt y).1.cls = "TrackVotes" ∧ i = 324))
  | .ldc_w i => if A = 0 then decide (lw_tbl[PL]? = some (.constant (mt y).1.cls i (Int32.ofInt V))) else decide (((mt y).1.cls = "TrackVotes$Trigger" ∧ i = 9) ∨ ((mt y).1.cls = "TrackVotes" ∧ i = 324))
  | .ldc2_w i => decide (lw_tbl[PL]? = some (.constantLong (mt y).1.cls i (Int64.ofInt V)))
  | .new i => decide (A < 13) && decide (lw_tbl[PL]? = some (.classLink (mt y).1.cls i (cR A)))
  | .newarray t => decide ((A = 20 ∧ t = .int) ∨ (A = 21 ∧ t = .byte) ∨ (A = 22 ∧ t = .boolean) ∨ (A = 23 ∧ t = .long))
  | .anewarray i => (decide (A = 24) && decide (lw_tbl[PL]? = some (.classLink (mt y).1.cls i "TrackVotes$State"))) || (decide (A = 25) && decide (lw_tbl[PL]? = some (.classLink (mt y).1.cls i "TrackVotes$Track")))
  | .checkcast i => decide (lw_tbl[PL]? = some (.classLink (mt y).1.cls i "[I"))
  | .invokevirtual i => if B = 7 then decide (lw_tbl[PL]? = some (.methodLink (mt y).1.cls i ⟨"[I", "clone", "()Ljava/lang/Object;"⟩)) else if B = 0 then decide (A < 350) && decide ((mt A).2.2.2.2.2.2.2.1 < 100000) && decide (lw_tbl[PL]? = some (.methodLink (mt y).1.cls i (mt A).1)) else true
  | .invokestatic i => if B = 6 then decide (lw_tbl[PL]? = some (.methodLink (mt y).1.cls i arraycopyName)) else if B = 1 then decide (A < 350) && decide ((mt A).2.2.2.2.2.2.2.1 = 100000) && decide (lw_tbl[PL]? = some (.methodLink (mt y).1.cls i (mt A).1)) else if B = 2 then decide (A < 350) && decide ((mt A).2.2.2.2.2.2.2.1 = 100000) && decide (lw_tbl[PL]? = some (.methodLinkNest (mt y).1.cls i (mt A).1 "TrackVotes")) else true
  | .invokespecial i => if B = 5 then decide (lw_tbl[PL]? = some (.methodLink (mt y).1.cls i objectInit)) else if B = 3 then decide (A < 350) && decide ((mt A).2.2.2.2.2.2.2.1 = 100001) && decide (lw_tbl[PL]? = some (.methodLink (mt y).1.cls i (mt A).1)) else if B = 4 then decide (A < 350) && decide ((mt A).2.2.2.2.2.2.2.1 = 100001) && decide (lw_tbl[PL]? = some (.methodLinkNest (mt y).1.cls i (mt A).1 "TrackVotes")) else true
  | .if_icmp _ off => decide ((pc : Int) + off = (A : Int))
  | .ifCond _ off => decide ((pc : Int) + off = (A : Int))
  | .goto off => decide ((pc : Int) + off = (A : Int))
  | .ifnull off => decide ((pc : Int) + off = (A : Int))
  | .ifnonnull off => decide ((pc : Int) + off = (A : Int))
  | .lookupswitch dflt ps => (ps.toList.zip (ps.toList.drop 1)).all (fun (a, next) => a.1 < next.1) && decide (0 ≤ (pc : Int) + dflt) && ps.toList.all (fun q => decide (0 ≤ (pc : Int) + q.2))
  | .tableswitch dflt lo hi offs => decide (0 ≤ (pc : Int) + dflt) && offs.toList.all (fun q => decide (0 ≤ (pc : Int) + q)) && decide (hi - lo + 1 = (offs.size : Int))
  | _ => true
def zlen (ins : Instr) (n : Nat) : Bool := match ins with
  | .lookupswitch _ _ => true
  | .tableswitch _ _ _ _ => true
  | .bipush _ => n == 2
  | .ldc _ => n == 2
  | .newarray _ => n == 2
  | .iload _ => n == 2
  | .lload _ => n == 2
  | .aload _ => n == 2
  | .istore _ => n == 2
  | .lstore _ => n == 2
  | .astore _ => n == 2
  | .sipush _ => n == 3
  | .iinc _ _ => n == 3
  | .ldc_w _ => n == 3
  | .ldc2_w _ => n == 3
  | .getfield _ => n == 3
  | .putfield _ => n == 3
  | .getstatic _ => n == 3
  | .invokevirtual _ => n == 3
  | .invokestatic _ => n == 3
  | .invokespecial _ => n == 3
  | .new _ => n == 3
  | .anewarray _ => n == 3
  | .checkcast _ => n == 3
  | .if_icmp _ _ => n == 3
  | .ifCond _ _ => n == 3
  | .goto _ => n == 3
  | .ifnull _ => n == 3
  | .ifnonnull _ => n == 3
  | _ => n == 1
theorem zixB_in {i : Int32} {n : Nat} (h : zixB i n = true) : vp_in i n := by
  unfold zixB at h
  rw [Bool.and_eq_true, decide_eq_true_eq, decide_eq_true_eq] at h
  exact vp_in_iff.mpr h
theorem zfi_n {t : FieldType} {v : Int32} (h : zfiB t v = true) : narrow t (.int v) = .int v ∧ fits t (.int v) = true ∧ zft t = 0 := by
  unfold zfiB at h
  split at h
  · exact ⟨rfl, rfl, rfl⟩
  · rw [Bool.or_eq_true, decide_eq_true_eq, decide_eq_true_eq] at h
    rcases h with rfl | rfl <;> exact ⟨rfl, rfl, rfl⟩
  · rw [decide_eq_true_eq] at h
    exact ⟨by rw [← h]; exact pk_nb v, by rw [← h]; exact pk_fb v, rfl⟩
  · rw [decide_eq_true_eq] at h
    exact ⟨by rw [← h]; exact pk_nc v, by rw [← h]; exact pk_fc v, rfl⟩
  · cases h
theorem z0 {z : Int32} (h : 0 ≤ z.toInt) : ¬ z < 0 := by
  rw [Int32.lt_iff_toInt_lt]
  have : (0 : Int32).toInt = 0 := by decide
  omega
theorem zfF {c A : Prop} [Decidable c] (h : if c then A else False) : c ∧ A := by
  by_cases hc : c
  · rw [if_pos hc] at h
    exact ⟨hc, h⟩
  · rw [if_neg hc] at h
    exact h.elim
theorem zFf {c A : Prop} [Decidable c] (h : if c then False else A) : ¬ c ∧ A := by
  by_cases hc : c
  · rw [if_pos hc] at h
    exact h.elim
  · rw [if_neg hc] at h
    exact ⟨hc, h⟩
theorem zi1_e {st : List Value} {k : Int32 → List Value → Prop} (h : zi1 False st k) : ∃ a r, st = .int a :: r ∧ k a r := by
  unfold zi1 at h
  split at h
  · exact ⟨_, _, rfl, h⟩
  · exact h.elim
theorem zi2_e {st : List Value} {k : Int32 → Int32 → List Value → Prop} (h : zi2 False st k) : ∃ a b r, st = .int b :: .int a :: r ∧ k a b r := by
  unfold zi2 at h
  split at h
  · exact ⟨_, _, _, rfl, h⟩
  · exact h.elim
theorem zl1_e {st : List Value} {k : Int64 → List Value → Prop} (h : zl1 False st k) : ∃ a r, st = .long a :: r ∧ k a r := by
  unfold zl1 at h
  split at h
  · exact ⟨_, _, rfl, h⟩
  · exact h.elim
theorem zl2_e {st : List Value} {k : Int64 → Int64 → List Value → Prop} (h : zl2 False st k) : ∃ a b r, st = .long b :: .long a :: r ∧ k a b r := by
  unfold zl2 at h
  split at h
  · exact ⟨_, _, _, rfl, h⟩
  · exact h.elim
theorem zae_e {st : List Value} {k : Nat → Int32 → List Value → Prop} (h : zae False st k) : ∃ a i r, st = .int i :: .ref a :: r ∧ k a i r := by
  unfold zae at h
  split at h
  · exact ⟨_, _, _, rfl, h⟩
  · exact h.elim
theorem zsi_e {st : List Value} {k : Nat → Int32 → Int32 → List Value → Prop} (h : zsi False st k) : ∃ a i v r, st = .int v :: .int i :: .ref a :: r ∧ k a i v r := by
  unfold zsi at h
  split at h
  · exact ⟨_, _, _, _, rfl, h⟩
  · exact h.elim
theorem zsl_e {st : List Value} {k : Nat → Int32 → Int64 → List Value → Prop} (h : zsl False st k) : ∃ a i v r, st = .long v :: .int i :: .ref a :: r ∧ k a i v r := by
  unfold zsl at h
  split at h
  · exact ⟨_, _, _, _, rfl, h⟩
  · exact h.elim
theorem zsp_e {st : List Value} {k : Nat → Int32 → Nat → List Value → Prop} (h : zsp False st k) : ∃ a i v r, st = .ref v :: .int i :: .ref a :: r ∧ k a i v r := by
  unfold zsp at h
  split at h
  · exact ⟨_, _, _, _, rfl, h⟩
  · exact h.elim
theorem zr0_e {st : List Value} {k : Nat → List Value → Prop} (h : zr0 False st k) : ∃ a r, st = .ref a :: r ∧ k a r := by
  unfold zr0 at h
  split at h
  · exact ⟨_, _, rfl, h⟩
  · exact h.elim
theorem zv1_e {st : List Value} {k : Value → List Value → Prop} (h : zv1 False st k) : ∃ a r, st = a :: r ∧ k a r := by
  unfold zv1 at h
  split at h
  · exact ⟨_, _, rfl, h⟩
  · exact h.elim
theorem zv2_e {st : List Value} {k : Value → Value → List Value → Prop} (h : zv2 False st k) : ∃ a b r, st = a :: b :: r ∧ k a b r := by
  unfold zv2 at h
  split at h
  · exact ⟨_, _, _, rfl, h⟩
  · exact h.elim
theorem zv3_e {st : List Value} {k : Value → Value → Value → List Value → Prop} (h : zv3 False st k) : ∃ a b g r, st = a :: b :: g :: r ∧ k a b g r := by
  unfold zv3 at h
  split at h
  · exact ⟨_, _, _, _, rfl, h⟩
  · exact h.elim
theorem zcp_e {st : List Value} {k : Int32 → Int32 → Nat → Int32 → Nat → List Value → Prop} (h : zcp False st k) : ∃ n dp b sp a r, st = .int n :: .int dp :: .ref b :: .int sp :: .ref a :: r ∧ k n dp b sp a r := by
  unfold zcp at h
  split at h
  · exact ⟨_, _, _, _, _, _, rfl, h⟩
  · exact h.elim
theorem zrn_e {st : List Value} {k : Nat → List Value → Prop} {n : List Value → Prop} (h : zrn False st k n) : (∃ a r, st = .ref a :: r ∧ k a r) ∨ ∃ r, st = .null :: r ∧ n r := by
  unfold zrn at h
  split at h
  · exact Or.inl ⟨_, _, rfl, h⟩
  · exact Or.inr ⟨_, rfl, h⟩
  · exact h.elim
theorem zpf_e {st : List Value} {ki : Nat → Int32 → List Value → Prop} {kl : Nat → Int64 → List Value → Prop} {kr : Nat → Nat → List Value → Prop} (h : zpf False st ki kl kr) : (∃ a v r, st = .int v :: .ref a :: r ∧ ki a v r) ∨ (∃ a v r, st = .long v :: .ref a :: r ∧ kl a v r) ∨ ∃ a v r, st = .ref v :: .ref a :: r ∧ kr a v r := by
  unfold zpf at h
  split at h
  · exact Or.inl ⟨_, _, _, rfl, h⟩
  · exact Or.inr (Or.inl ⟨_, _, _, rfl, h⟩)
  · exact Or.inr (Or.inr ⟨_, _, _, rfl, h⟩)
  · exact h.elim
theorem zli_e {o : Option Value} {k : Int32 → Prop} (h : zli False o k) : ∃ x, o = some (.int x) ∧ k x := by
  unfold zli at h
  split at h
  · exact ⟨_, rfl, h⟩
  · exact h.elim
theorem zll_e {o : Option Value} {k : Int64 → Prop} (h : zll False o k) : ∃ x, o = some (.long x) ∧ k x := by
  unfold zll at h
  split at h
  · exact ⟨_, rfl, h⟩
  · exact h.elim
theorem zla_e {o : Option Value} {k : Nat → Prop} {n : Prop} (h : zla False o k n) : (∃ x, o = some (.ref x) ∧ k x) ∨ (o = some .null ∧ n) := by
  unfold zla at h
  split at h
  · exact Or.inl ⟨_, rfl, h⟩
  · exact Or.inr ⟨rfl, h⟩
  · exact h.elim
theorem zrcv_e {as : List Value} {k : Nat → Prop} (h : zrcv False as k) : ∃ a r, as = .ref a :: r ∧ k a := by
  unfold zrcv at h
  split at h
  · exact ⟨_, _, rfl, h⟩
  · exact h.elim
theorem zret_e {t : Option FieldType} {k : FieldType → Prop} (h : zret False t k) : ∃ ty, t = some ty ∧ k ty := by
  unfold zret at h
  split at h
  · exact ⟨_, rfl, h⟩
  · exact h.elim
theorem zlsw_e {dflt : Int} {x : Int32} {k : Int → Prop} : ∀ {ps : List (Int × Int)}, zlsw ps dflt x k → k (Op.lookupswitch.offset ps dflt x.toInt) ∧ (Op.lookupswitch.offset ps dflt x.toInt = dflt ∨ ∃ q ∈ ps, q.2 = Op.lookupswitch.offset ps dflt x.toInt)
  | [], h => ⟨h, Or.inl rfl⟩
  | (m, o) :: r, h => by
    rw [Op.lookupswitch.offset_cons]
    unfold zlsw at h
    by_cases hx : x.toInt = m
    · rw [if_pos hx] at h
      rw [if_pos (by first | exact hx | exact hx.symm)]
      exact ⟨h, Or.inr ⟨(m, o), List.mem_cons_self, rfl⟩⟩
    · rw [if_neg hx] at h
      rw [if_neg (by first | exact hx | exact fun q => hx q.symm)]
      obtain ⟨h1, h2⟩ := zlsw_e h
      refine ⟨h1, ?_⟩
      rcases h2 with h2 | ⟨q, hq, h2⟩
      · exact Or.inl h2
      · exact Or.inr ⟨q, List.mem_cons_of_mem _ hq, h2⟩
theorem ztsw_e {x : Int32} {k : Int → Prop} : ∀ {offs : List Int} {lo : Int}, lo ≤ x.toInt → ztsw False offs lo x k → ∃ off, offs[(x.toInt - lo).toNat]? = some off ∧ off ∈ offs ∧ k off
  | [], lo, _, h => h.elim
  | o :: r, lo, hl, h => by
    unfold ztsw at h
    by_cases hx : x.toInt = lo
    · rw [if_pos hx] at h
      exact ⟨o, by rw [hx, Int.sub_self]; rfl, List.mem_cons_self, h⟩
    · rw [if_neg hx] at h
      obtain ⟨off, h1, h2, h3⟩ := ztsw_e (lo := lo + 1) (by omega) h
      refine ⟨off, ?_, List.mem_cons_of_mem _ h2, h3⟩
      rw [show (x.toInt - lo).toNat = (x.toInt - (lo + 1)).toNat + 1 by omega]
      exact h1
/-- what a method's row says, in words -/
theorem zmo_of {y n : Nat} (hy : y < 350) (hn : (mt y).2.2.2.2.2.2.2.1 = 100000 ∧ n = zna y ∨ (mt y).2.2.2.2.2.2.2.1 ≠ 100000 ∧ n + 1 = zna y) : zmo y n := by
  obtain ⟨h, h0⟩ := zmk y hy
  unfold zmB at h
  simp only [Bool.and_eq_true, decide_eq_true_eq] at h
  obtain ⟨⟨⟨⟨⟨⟨h1, h2⟩, h3⟩, h4⟩, h5⟩, h6⟩, h7⟩ := h
  refine ⟨zcode h1 (Or.inr h0), List.mem_of_getElem? h2, ⟨h3.1, h3.2, ?_⟩, h4⟩
  rcases hn with ⟨e, hn⟩ | ⟨e, hn⟩
  · rw [if_pos e] at h6
    simp only [Bool.and_eq_true, decide_eq_true_eq] at h6
    rw [hn]
    exact h6.2
  · rw [if_neg e] at h6
    simp only [Bool.and_eq_true, decide_eq_true_eq] at h6
    rw [show n = zna y - 1 by omega]
    exact h6.1.2
theorem zmV {y : Nat} (hy : y < 350) (hk : (mt y).2.2.2.2.2.2.2.1 < 100000) : Cond.instanceMethod (mt y).1 ∈ lw_tbl ∧ Cond.selects (mt y).1.cls (mt y).1 (mt y).1 ∈ lw_tbl ∧ 1 ≤ zna y := by
  obtain ⟨h, h0⟩ := zmk y hy
  unfold zmB at h
  simp only [Bool.and_eq_true, decide_eq_true_eq] at h
  obtain ⟨⟨⟨⟨⟨⟨h1, h2⟩, h3⟩, h4⟩, h5⟩, h6⟩, h7⟩ := h
  rw [if_neg (by omega)] at h6
  simp only [Bool.and_eq_true, decide_eq_true_eq] at h6
  obtain ⟨⟨⟨g1, g2⟩, g3⟩, g4⟩ := h6
  rw [if_neg (by omega)] at g4
  rw [decide_eq_true_eq] at g4
  exact ⟨List.mem_of_getElem? g1, List.mem_of_getElem? g4, g2⟩
theorem zmS {y : Nat} (hy : y < 350) (hk : (mt y).2.2.2.2.2.2.2.1 = 100000) : Cond.static (mt y).1 ∈ lw_tbl := by
  obtain ⟨h, h0⟩ := zmk y hy
  unfold zmB at h
  simp only [Bool.and_eq_true, decide_eq_true_eq] at h
  obtain ⟨⟨⟨⟨⟨⟨h1, h2⟩, h3⟩, h4⟩, h5⟩, h6⟩, h7⟩ := h
  rw [if_pos hk] at h6
  simp only [Bool.and_eq_true, decide_eq_true_eq] at h6
  exact List.mem_of_getElem? h6.1
theorem zmI {y : Nat} (hy : y < 350) (hk : (mt y).2.2.2.2.2.2.2.1 = 100001) : Cond.instanceMethod (mt y).1 ∈ lw_tbl ∧ (mt y).1.name = "<init>" ∧ (mt y).2.2.2.1 = none ∧ 1 ≤ zna y := by
  obtain ⟨h, h0⟩ := zmk y hy
  unfold zmB at h
  simp only [Bool.and_eq_true, decide_eq_true_eq] at h
  obtain ⟨⟨⟨⟨⟨⟨h1, h2⟩, h3⟩, h4⟩, h5⟩, h6⟩, h7⟩ := h
  rw [if_neg (by omega)] at h6
  simp only [Bool.and_eq_true, decide_eq_true_eq] at h6
  obtain ⟨⟨⟨g1, g2⟩, g3⟩, g4⟩ := h6
  rw [if_pos hk] at g4
  simp only [Bool.and_eq_true, decide_eq_true_eq] at g4
  exact ⟨List.mem_of_getElem? g1, g4.1, g4.2, g2⟩
theorem zmR {y k : Nat} {M : zM} (hy : y < 350) (h : (zci y < 13 ∧ (zK M k).1 = zci y) ∨ (zci y = 30 ∧ k = 4)) : zrec M k y := by
  obtain ⟨hh, h0⟩ := zmk y hy
  unfold zmB at hh
  simp only [Bool.and_eq_true, decide_eq_true_eq] at hh
  obtain ⟨⟨⟨⟨⟨⟨h1, h2⟩, h3⟩, h4⟩, h5⟩, h6⟩, h7⟩ := hh
  rcases h with ⟨e1, e2⟩ | ⟨e1, e2⟩
  · rw [if_pos e1, decide_eq_true_eq] at h7
    exact Or.inl ⟨by rw [e2]; exact e1, by rw [e2]; exact h7⟩
  · rw [if_neg (by show ¬ zci y < 13; omega), if_pos e1, decide_eq_true_eq] at h7
    exact Or.inr ⟨e2, h7⟩
theorem zmP {y : Nat} (hy : y < 350) : plainFor (mt y).1 = true := by
  obtain ⟨hh, h0⟩ := zmk y hy
  unfold zmB at hh
  simp only [Bool.and_eq_true, decide_eq_true_eq] at hh
  exact hh.1.1.2
/-- a call in the evaluator: what it gives to the call's row -/
theorem zcl_e {X : zX} {l : Launch} {inl : Nat → Bool} {f : zF Prop} {d kc ks y pc y' : Nat} {ls : List (Nat × Value)} {as st : List Value} {M : zM} {Q : Option Value → zM → Prop} (hf : ∀ d kc ks y pc ls st M Q, f d kc ks y pc ls st M Q → zGo X l d kc ks y pc ls st M Q) (hy : y' < 350) (h : zcl False (zCall X l) inl f d kc ks y pc ls as st M Q y') :
    (zdp y' d + 1 ≤ d ∧ (st.map fun v => v.category).sum ≤ 8) ∧ (kc - zac y' + zac y' = kc ∧ ks - zas y' + zas y' = ks) ∧ zCall X l (zdp y' d) (zac y') (zas y') y' as M (fun r M' => zGo X l d (kc - zac y') (ks - zas y') y (pc + 3) ls (r.toList ++ st) M' Q) := by
  obtain ⟨⟨h1, h2, h3, h4, h5⟩, h⟩ := zfF h
  refine ⟨⟨h1, h4⟩, ⟨by omega, by omega⟩, ?_⟩
  by_cases hi : inl y' = true
  · rw [if_pos hi] at h
    exact zintro (zmP hy) h5 ((hf _ _ _ _ _ _ _ _ _ h).mono (fun r M' q => hf _ _ _ _ _ _ _ _ _ q))
  · rw [if_neg hi] at h
    exact h.mono (fun r M' q => hf _ _ _ _ _ _ _ _ _ q)
