/-! ===== the evaluator over any kind of answer: what comes of a good one ===== -/
section ZT
variable {ρ : Type} {T : ρ → Prop} {bad : ρ}
theorem zi1_t {st : List Value} {k : Int32 → List Value → ρ} (hbad : ¬ T bad) (h : T (zi1 bad st k)) : ∃ a r, st = .int a :: r ∧ T (k a r) := by
  unfold zi1 at h
  split at h
  · exact ⟨_, _, rfl, h⟩
  · exact absurd h hbad
theorem zi2_t {st : List Value} {k : Int32 → Int32 → List Value → ρ} (hbad : ¬ T bad) (h : T (zi2 bad st k)) : ∃ a b r, st = .int b :: .int a :: r ∧ T (k a b r) := by
  unfold zi2 at h
  split at h
  · exact ⟨_, _, _, rfl, h⟩
  · exact absurd h hbad
theorem zl1_t {st : List Value} {k : Int64 → List Value → ρ} (hbad : ¬ T bad) (h : T (zl1 bad st k)) : ∃ a r, st = .long a :: r ∧ T (k a r) := by
  unfold zl1 at h
  split at h
  · exact ⟨_, _, rfl, h⟩
  · exact absurd h hbad
theorem zl2_t {st : List Value} {k : Int64 → Int64 → List Value → ρ} (hbad : ¬ T bad) (h : T (zl2 bad st k)) : ∃ a b r, st = .long b :: .long a :: r ∧ T (k a b r) := by
  unfold zl2 at h
  split at h
  · exact ⟨_, _, _, rfl, h⟩
  · exact absurd h hbad
theorem zae_t {st : List Value} {k : Nat → Int32 → List Value → ρ} (hbad : ¬ T bad) (h : T (zae bad st k)) : ∃ a i r, st = .int i :: .ref a :: r ∧ T (k a i r) := by
  unfold zae at h
  split at h
  · exact ⟨_, _, _, rfl, h⟩
  · exact absurd h hbad
theorem zsi_t {st : List Value} {k : Nat → Int32 → Int32 → List Value → ρ} (hbad : ¬ T bad) (h : T (zsi bad st k)) : ∃ a i v r, st = .int v :: .int i :: .ref a :: r ∧ T (k a i v r) := by
  unfold zsi at h
  split at h
  · exact ⟨_, _, _, _, rfl, h⟩
  · exact absurd h hbad
theorem zsl_t {st : List Value} {k : Nat → Int32 → Int64 → List Value → ρ} (hbad : ¬ T bad) (h : T (zsl bad st k)) : ∃ a i v r, st = .long v :: .int i :: .ref a :: r ∧ T (k a i v r) := by
  unfold zsl at h
  split at h
  · exact ⟨_, _, _, _, rfl, h⟩
  · exact absurd h hbad
theorem zsp_t {st : List Value} {k : Nat → Int32 → Nat → List Value → ρ} (hbad : ¬ T bad) (h : T (zsp bad st k)) : ∃ a i v r, st = .ref v :: .int i :: .ref a :: r ∧ T (k a i v r) := by
  unfold zsp at h
  split at h
  · exact ⟨_, _, _, _, rfl, h⟩
  · exact absurd h hbad
theorem zr0_t {st : List Value} {k : Nat → List Value → ρ} (hbad : ¬ T bad) (h : T (zr0 bad st k)) : ∃ a r, st = .ref a :: r ∧ T (k a r) := by
  unfold zr0 at h
  split at h
  · exact ⟨_, _, rfl, h⟩
  · exact absurd h hbad
theorem zv1_t {st : List Value} {k : Value → List Value → ρ} (hbad : ¬ T bad) (h : T (zv1 bad st k)) : ∃ a r, st = a :: r ∧ T (k a r) := by
  unfold zv1 at h
  split at h
  · exact ⟨_, _, rfl, h⟩
  · exact absurd h hbad
theorem zv2_t {st : List Value} {k : Value → Value → List Value → ρ} (hbad : ¬ T bad) (h : T (zv2 bad st k)) : ∃ a b r, st = a :: b :: r ∧ T (k a b r) := by
  unfold zv2 at h
  split at h
  · exact ⟨_, _, _, rfl, h⟩
  · exact absurd h hbad
theorem zv3_t {st : List Value} {k : Value → Value → Value → List Value → ρ} (hbad : ¬ T bad) (h : T (zv3 bad st k)) : ∃ a b g r, st = a :: b :: g :: r ∧ T (k a b g r) := by
  unfold zv3 at h
  split at h
  · exact ⟨_, _, _, _, rfl, h⟩
  · exact absurd h hbad
theorem zcp_t {st : List Value} {k : Int32 → Int32 → Nat → Int32 → Nat → List Value → ρ} (hbad : ¬ T bad) (h : T (zcp bad st k)) : ∃ n dp b sp a r, st = .int n :: .int dp :: .ref b :: .int sp :: .ref a :: r ∧ T (k n dp b sp a r) := by
  unfold zcp at h
  split at h
  · exact ⟨_, _, _, _, _, _, rfl, h⟩
  · exact absurd h hbad
theorem zrn_t {st : List Value} {k : Nat → List Value → ρ} {n : List Value → ρ} (hbad : ¬ T bad) (h : T (zrn bad st k n)) : (∃ a r, st = .ref a :: r ∧ T (k a r)) ∨ ∃ r, st = .null :: r ∧ T (n r) := by
  unfold zrn at h
  split at h
  · exact Or.inl ⟨_, _, rfl, h⟩
  · exact Or.inr ⟨_, rfl, h⟩
  · exact absurd h hbad
theorem zpf_t {st : List Value} {ki : Nat → Int32 → List Value → ρ} {kl : Nat → Int64 → List Value → ρ} {kr : Nat → Nat → List Value → ρ} (hbad : ¬ T bad) (h : T (zpf bad st ki kl kr)) : (∃ a v r, st = .int v :: .ref a :: r ∧ T (ki a v r)) ∨ (∃ a v r, st = .long v :: .ref a :: r ∧ T (kl a v r)) ∨ ∃ a v r, st = .ref v :: .ref a :: r ∧ T (kr a v r) := by
  unfold zpf at h
  split at h
  · exact Or.inl ⟨_, _, _, rfl, h⟩
  · exact Or.inr (Or.inl ⟨_, _, _, rfl, h⟩)
  · exact Or.inr (Or.inr ⟨_, _, _, rfl, h⟩)
  · exact absurd h hbad
theorem zli_t {o : Option Value} {k : Int32 → ρ} (hbad : ¬ T bad) (h : T (zli bad o k)) : ∃ x, o = some (.int x) ∧ T (k x) := by
  unfold zli at h
  split at h
  · exact ⟨_, rfl, h⟩
  · exact absurd h hbad
theorem zll_t {o : Option Value} {k : Int64 → ρ} (hbad : ¬ T bad) (h : T (zll bad o k)) : ∃ x, o = some (.long x) ∧ T (k x) := by
  unfold zll at h
  split at h
  · exact ⟨_, rfl, h⟩
  · exact absurd h hbad
theorem zla_t {o : Option Value} {k : Nat → ρ} {n : ρ} (hbad : ¬ T bad) (h : T (zla bad o k n)) : (∃ x, o = some (.ref x) ∧ T (k x)) ∨ (o = some .null ∧ T (n)) := by
  unfold zla at h
  split at h
  · exact Or.inl ⟨_, rfl, h⟩
  · exact Or.inr ⟨rfl, h⟩
  · exact absurd h hbad
theorem zrcv_t {as : List Value} {k : Nat → ρ} (hbad : ¬ T bad) (h : T (zrcv bad as k)) : ∃ a r, as = .ref a :: r ∧ T (k a) := by
  unfold zrcv at h
  split at h
  · exact ⟨_, _, rfl, h⟩
  · exact absurd h hbad
theorem zret_t {t : Option FieldType} {k : FieldType → ρ} (hbad : ¬ T bad) (h : T (zret bad t k)) : ∃ ty, t = some ty ∧ T (k ty) := by
  unfold zret at h
  split at h
  · exact ⟨_, rfl, h⟩
  · exact absurd h hbad
theorem zlsw_t {dflt : Int} {x : Int32} {k : Int → ρ} {K : Int → Prop} (hk : ∀ i, T (k i) → K i) : ∀ {ps : List (Int × Int)}, T (zlsw ps dflt x k) → zlsw ps dflt x K
  | [], h => hk _ h
  | (m, o) :: r, h => by
    unfold zlsw at h ⊢
    by_cases hx : x.toInt = m
    · rw [if_pos hx] at h ⊢
      exact hk _ h
    · rw [if_neg hx] at h ⊢
      exact zlsw_t hk h
theorem ztsw_t {x : Int32} {k : Int → ρ} {K : Int → Prop} (hbad : ¬ T bad) (hk : ∀ i, T (k i) → K i) : ∀ {offs : List Int} {lo : Int}, T (ztsw bad offs lo x k) → ztsw False offs lo x K
  | [], _, h => absurd h hbad
  | o :: r, lo, h => by
    unfold ztsw at h ⊢
    by_cases hx : x.toInt = lo
    · rw [if_pos hx] at h ⊢
      exact hk _ h
    · rw [if_neg hx] at h ⊢
      exact ztsw_t hbad hk h
theorem zfb_t {c : Prop} [Decidable c] {A : ρ} (hbad : ¬ T bad) (h : T (if c then A else bad)) : c ∧ T A := by
  by_cases hc : c
  · rw [if_pos hc] at h
    exact ⟨hc, h⟩
  · rw [if_neg hc] at h
    exact absurd h hbad
theorem zbf_t {c : Prop} [Decidable c] {A : ρ} (hbad : ¬ T bad) (h : T (if c then bad else A)) : ¬ c ∧ T A := by
  by_cases hc : c
  · rw [if_pos hc] at h
    exact absurd h hbad
  · rw [if_neg hc] at h
    exact ⟨hc, h⟩
theorem zbb_t {c A B : Prop} [Decidable c] {a b : ρ} (ha : T a → A) (hb : T b → B) (h : T (if c then a else b)) : if c then A else B := by
  by_cases hc : c
  · rw [if_pos hc] at h ⊢
    exact ha h
  · rw [if_neg hc] at h ⊢
    exact hb h
abbrev znc_t (bad : ρ) : Nat → Nat → Nat → Nat → List Value → zM → (Option Value → zM → ρ) → ρ := fun _ _ _ _ _ _ _ => bad
theorem zcl_t {X : zX} {l : Launch} {inl : Nat → Bool} {f : zF ρ} {g : zF Prop} {d kc ks y pc y' : Nat} {ls : List (Nat × Value)} {as st : List Value} {M : zM} {Qb : Option Value → zM → ρ} {Q : Option Value → zM → Prop} (hQ : ∀ r M', T (Qb r M') → Q r M') (hf : ∀ d kc ks y pc ls st M Qb Q, (∀ r M', T (Qb r M') → Q r M') → T (f d kc ks y pc ls st M Qb) → g d kc ks y pc ls st M Q) (hbad : ¬ T bad) (h : T (zcl bad (znc_t bad) inl f d kc ks y pc ls as st M Qb y')) : zcl False (zCall X l) inl g d kc ks y pc ls as st M Q y' := by
  unfold zcl at h ⊢
  obtain ⟨h1, h⟩ := zfb_t hbad h
  rw [if_pos h1]
  obtain ⟨h2, h⟩ := zfb_t hbad h
  rw [if_pos h2]
  exact hf _ _ _ _ _ _ _ _ _ _ (fun r M' q => hf _ _ _ _ _ _ _ _ _ _ hQ q) h
set_option maxHeartbeats 4000000 in
theorem zSt_t {X : zX} {l : Launch} {inl : Nat → Bool} {f : zF ρ} {g : zF Prop} {d kc ks y pc A B : Nat} {V : Int} {ins : Instr} {ls : List (Nat × Value)} {st : List Value} {M : zM} {Qb : Option Value → zM → ρ} {Q : Option Value → zM → Prop} (hQ : ∀ r M', T (Qb r M') → Q r M') (hf : ∀ d kc ks y pc ls st M Qb Q, (∀ r M', T (Qb r M') → Q r M') → T (f d kc ks y pc ls st M Qb) → g d kc ks y pc ls st M Q) (hbad : ¬ T bad) (h : T (zSt none bad (znc_t bad) inl f d kc ks y pc ls st M Qb ins A B V)) : zSt (some X.2.2.2.2.2) False (zCall X l) inl g d kc ks y pc ls st M Q ins A B V := by
  have hg : ∀ {d kc ks y pc ls st M}, T (f d kc ks y pc ls st M Qb) → g d kc ks y pc ls st M Q := fun {d kc ks y pc ls st M} q => hf d kc ks y pc ls st M Qb Q hQ q
  cases ins with
  | iconst v =>
    exact hg h
  | bipush v =>
    exact hg h
  | sipush v =>
    exact hg h
  | lconst v =>
    exact hg h
  | aconst_null =>
    exact hg h
  | goto off =>
    exact hg h
  | getstatic i =>
    exact hg h
  | ldc2_w i =>
    exact hg h
  | ldc i =>
    exact zbb_t hg hg h
  | ldc_w i =>
    exact zbb_t hg hg h
  | iadd =>
    obtain ⟨a, b, r, rfl, h⟩ := zi2_t hbad h
    exact hg h
  | isub =>
    obtain ⟨a, b, r, rfl, h⟩ := zi2_t hbad h
    exact hg h
  | imul =>
    obtain ⟨a, b, r, rfl, h⟩ := zi2_t hbad h
    exact hg h
  | iand =>
    obtain ⟨a, b, r, rfl, h⟩ := zi2_t hbad h
    exact hg h
  | ior =>
    obtain ⟨a, b, r, rfl, h⟩ := zi2_t hbad h
    exact hg h
  | ixor =>
    obtain ⟨a, b, r, rfl, h⟩ := zi2_t hbad h
    exact hg h
  | ishl =>
    obtain ⟨a, b, r, rfl, h⟩ := zi2_t hbad h
    exact hg h
  | ishr =>
    obtain ⟨a, b, r, rfl, h⟩ := zi2_t hbad h
    exact hg h
  | iushr =>
    obtain ⟨a, b, r, rfl, h⟩ := zi2_t hbad h
    exact hg h
  | ladd =>
    obtain ⟨a, b, r, rfl, h⟩ := zl2_t hbad h
    exact hg h
  | lsub =>
    obtain ⟨a, b, r, rfl, h⟩ := zl2_t hbad h
    exact hg h
  | lmul =>
    obtain ⟨a, b, r, rfl, h⟩ := zl2_t hbad h
    exact hg h
  | land =>
    obtain ⟨a, b, r, rfl, h⟩ := zl2_t hbad h
    exact hg h
  | lor =>
    obtain ⟨a, b, r, rfl, h⟩ := zl2_t hbad h
    exact hg h
  | lxor =>
    obtain ⟨a, b, r, rfl, h⟩ := zl2_t hbad h
    exact hg h
  | lcmp =>
    obtain ⟨a, b, r, rfl, h⟩ := zl2_t hbad h
    exact hg h
  | idiv =>
    obtain ⟨a, b, r, rfl, h⟩ := zi2_t hbad h
    obtain ⟨h1, h⟩ := zbf_t hbad h
    exact zFt h1 (hg h)
  | irem =>
    obtain ⟨a, b, r, rfl, h⟩ := zi2_t hbad h
    obtain ⟨h1, h⟩ := zbf_t hbad h
    exact zFt h1 (hg h)
  | ldiv =>
    obtain ⟨a, b, r, rfl, h⟩ := zl2_t hbad h
    obtain ⟨h1, h⟩ := zbf_t hbad h
    exact zFt h1 (hg h)
  | lrem =>
    obtain ⟨a, b, r, rfl, h⟩ := zl2_t hbad h
    obtain ⟨h1, h⟩ := zbf_t hbad h
    exact zFt h1 (hg h)
  | ineg =>
    obtain ⟨a, r, rfl, h⟩ := zi1_t hbad h
    exact hg h
  | i2l =>
    obtain ⟨a, r, rfl, h⟩ := zi1_t hbad h
    exact hg h
  | i2b =>
    obtain ⟨a, r, rfl, h⟩ := zi1_t hbad h
    exact hg h
  | i2c =>
    obtain ⟨a, r, rfl, h⟩ := zi1_t hbad h
    exact hg h
  | lneg =>
    obtain ⟨a, r, rfl, h⟩ := zl1_t hbad h
    exact hg h
  | l2i =>
    obtain ⟨a, r, rfl, h⟩ := zl1_t hbad h
    exact hg h
  | dup =>
    obtain ⟨a, r, rfl, h⟩ := zv1_t hbad h
    obtain ⟨h1, h⟩ := zfb_t hbad h
    exact zTt h1 (hg h)
  | pop =>
    obtain ⟨a, r, rfl, h⟩ := zv1_t hbad h
    obtain ⟨h1, h⟩ := zfb_t hbad h
    exact zTt h1 (hg h)
  | pop2 =>
    obtain ⟨a, r, rfl, h⟩ := zv1_t hbad h
    obtain ⟨h1, h⟩ := zfb_t hbad h
    exact zTt h1 (hg h)
  | dup2 =>
    obtain ⟨a, b, r, rfl, h⟩ := zv2_t hbad h
    obtain ⟨h1, h⟩ := zfb_t hbad h
    exact zTt h1 (hg h)
  | dup_x1 =>
    obtain ⟨a, b, r, rfl, h⟩ := zv2_t hbad h
    obtain ⟨h1, h⟩ := zfb_t hbad h
    exact zTt h1 (hg h)
  | dup_x2 =>
    obtain ⟨a, b, g0, r, rfl, h⟩ := zv3_t hbad h
    obtain ⟨h1, h⟩ := zfb_t hbad h
    exact zTt h1 (hg h)
  | iload i =>
    obtain ⟨x, h1, h⟩ := zli_t hbad h
    simp only [zSt, h1, zli]
    exact hg h
  | iload_n i =>
    obtain ⟨x, h1, h⟩ := zli_t hbad h
    simp only [zSt, h1, zli]
    exact hg h
  | lload i =>
    obtain ⟨x, h1, h⟩ := zll_t hbad h
    simp only [zSt, h1, zll]
    exact hg h
  | lload_n i =>
    obtain ⟨x, h1, h⟩ := zll_t hbad h
    simp only [zSt, h1, zll]
    exact hg h
  | istore i =>
    obtain ⟨x, r, rfl, h⟩ := zi1_t hbad h
    obtain ⟨h1, h⟩ := zfb_t hbad h
    exact zTt h1 (hg h)
  | istore_n i =>
    obtain ⟨x, r, rfl, h⟩ := zi1_t hbad h
    obtain ⟨h1, h⟩ := zfb_t hbad h
    exact zTt h1 (hg h)
  | lstore i =>
    obtain ⟨x, r, rfl, h⟩ := zl1_t hbad h
    obtain ⟨h1, h⟩ := zfb_t hbad h
    exact zTt h1 (hg h)
  | lstore_n i =>
    obtain ⟨x, r, rfl, h⟩ := zl1_t hbad h
    obtain ⟨h1, h⟩ := zfb_t hbad h
    exact zTt h1 (hg h)
  | aload i =>
    rcases zla_t hbad h with ⟨x, h1, h⟩ | ⟨h1, h⟩
    · simp only [zSt, h1, zla]
      exact hg h
    · simp only [zSt, h1, zla]
      exact hg h
  | aload_n i =>
    rcases zla_t hbad h with ⟨x, h1, h⟩ | ⟨h1, h⟩
    · simp only [zSt, h1, zla]
      exact hg h
    · simp only [zSt, h1, zla]
      exact hg h
  | astore i =>
    obtain ⟨h1, h⟩ := zfb_t hbad h
    rcases zrn_t hbad h with ⟨x, r, rfl, h⟩ | ⟨r, rfl, h⟩
    · exact zTt h1 (hg h)
    · exact zTt h1 (hg h)
  | astore_n i =>
    obtain ⟨h1, h⟩ := zfb_t hbad h
    rcases zrn_t hbad h with ⟨x, r, rfl, h⟩ | ⟨r, rfl, h⟩
    · exact zTt h1 (hg h)
    · exact zTt h1 (hg h)
  | iinc i v =>
    obtain ⟨h1, h⟩ := zfb_t hbad h
    obtain ⟨x, h2, h⟩ := zli_t hbad h
    refine zTt h1 ?_
    simp only [h2, zli]
    exact hg h
  | if_icmp cnd off =>
    cases cnd with
    | eq =>
      obtain ⟨a, b, r, rfl, h⟩ := zi2_t hbad h
      exact zbb_t hg hg h
    | ne =>
      obtain ⟨a, b, r, rfl, h⟩ := zi2_t hbad h
      exact zbb_t hg hg h
    | lt =>
      obtain ⟨a, b, r, rfl, h⟩ := zi2_t hbad h
      exact zbb_t hg hg h
    | ge =>
      obtain ⟨a, b, r, rfl, h⟩ := zi2_t hbad h
      exact zbb_t hg hg h
    | gt =>
      obtain ⟨a, b, r, rfl, h⟩ := zi2_t hbad h
      exact zbb_t hg hg h
    | le =>
      obtain ⟨a, b, r, rfl, h⟩ := zi2_t hbad h
      exact zbb_t hg hg h
  | ifCond cnd off =>
    cases cnd with
    | eq =>
      obtain ⟨a, r, rfl, h⟩ := zi1_t hbad h
      exact zbb_t hg hg h
    | ne =>
      obtain ⟨a, r, rfl, h⟩ := zi1_t hbad h
      exact zbb_t hg hg h
    | lt =>
      obtain ⟨a, r, rfl, h⟩ := zi1_t hbad h
      exact zbb_t hg hg h
    | ge =>
      obtain ⟨a, r, rfl, h⟩ := zi1_t hbad h
      exact zbb_t hg hg h
    | gt =>
      obtain ⟨a, r, rfl, h⟩ := zi1_t hbad h
      exact zbb_t hg hg h
    | le =>
      obtain ⟨a, r, rfl, h⟩ := zi1_t hbad h
      exact zbb_t hg hg h
  | ifnull off =>
    rcases zrn_t hbad h with ⟨x, r, rfl, h⟩ | ⟨r, rfl, h⟩
    · exact hg h
    · exact hg h
  | ifnonnull off =>
    rcases zrn_t hbad h with ⟨x, r, rfl, h⟩ | ⟨r, rfl, h⟩
    · exact hg h
    · exact hg h
  | lookupswitch dflt ps =>
    obtain ⟨x, r, rfl, h⟩ := zi1_t hbad h
    exact zlsw_t (fun i q => hg q) h
  | tableswitch dflt lo hi offs =>
    obtain ⟨x, r, rfl, h⟩ := zi1_t hbad h
    exact zbb_t hg (fun q => ztsw_t hbad (fun i q => hg q) q) h
  | return_ =>
    obtain ⟨h1, h⟩ := zfb_t hbad h
    exact zTt h1 (hQ _ _ h)
  | ireturn =>
    obtain ⟨v, r, rfl, h⟩ := zi1_t hbad h
    obtain ⟨h0, h⟩ := zfb_t hbad h
    obtain ⟨t, h1, h⟩ := zret_t hbad h
    obtain ⟨h2, h⟩ := zfb_t hbad h
    refine zTt h0 ?_
    simp only [h1, zret]
    exact zTt h2 (hQ _ _ h)
  | lreturn =>
    obtain ⟨v, r, rfl, h⟩ := zl1_t hbad h
    obtain ⟨h1, h⟩ := zfb_t hbad h
    exact zTt h1 (hQ _ _ h)
  | areturn =>
    obtain ⟨h1, h⟩ := zfb_t hbad h
    refine zTt h1 ?_
    rcases zrn_t hbad h with ⟨x, r, rfl, h⟩ | ⟨r, rfl, h⟩
    · obtain ⟨h2, h⟩ := zfb_t hbad h
      exact zTt h2 (hQ _ _ h)
    · obtain ⟨h2, h⟩ := zfb_t hbad h
      exact zTt h2 (hQ _ _ h)
  | getfield i =>
    obtain ⟨k, r, rfl, h⟩ := zr0_t hbad h
    exact zbb_t (fun q => by obtain ⟨h1, q⟩ := zfb_t hbad q; exact zTt h1 (hg q)) (fun q => by obtain ⟨h1, q⟩ := zfb_t hbad q; exact zTt h1 (hg q)) h
  | putfield i =>
    rcases zpf_t hbad h with ⟨k, v, r, rfl, h⟩ | ⟨k, v, r, rfl, h⟩ | ⟨k, v, r, rfl, h⟩
    · obtain ⟨h1, h⟩ := zfb_t hbad h
      exact zTt h1 (hg h)
    · obtain ⟨h1, h⟩ := zfb_t hbad h
      exact zTt h1 (hg h)
    · obtain ⟨h1, h⟩ := zfb_t hbad h
      exact zTt h1 (hg h)
  | iaload =>
    obtain ⟨k, i, r, rfl, h⟩ := zae_t hbad h
    exact zbb_t (fun q => absurd q hbad) (fun q => by obtain ⟨h1, q⟩ := zfb_t hbad q; exact zTt h1 (hg q)) h
  | arraylength =>
    obtain ⟨k, r, rfl, h⟩ := zr0_t hbad h
    exact zbb_t (fun q => absurd q hbad) (fun q => by obtain ⟨h1, q⟩ := zfb_t hbad q; exact zTt h1 (hg q)) h
  | baload =>
    obtain ⟨k, i, r, rfl, h⟩ := zae_t hbad h
    obtain ⟨h1, h⟩ := zfb_t hbad h
    exact zTt h1 (hg h)
  | laload =>
    obtain ⟨k, i, r, rfl, h⟩ := zae_t hbad h
    obtain ⟨h1, h⟩ := zfb_t hbad h
    exact zTt h1 (hg h)
  | aaload =>
    obtain ⟨k, i, r, rfl, h⟩ := zae_t hbad h
    obtain ⟨h1, h⟩ := zfb_t hbad h
    exact zTt h1 (hg h)
  | iastore =>
    obtain ⟨k, i, v, r, rfl, h⟩ := zsi_t hbad h
    obtain ⟨h1, h⟩ := zfb_t hbad h
    exact zTt h1 (hg h)
  | bastore =>
    obtain ⟨k, i, v, r, rfl, h⟩ := zsi_t hbad h
    obtain ⟨h1, h⟩ := zfb_t hbad h
    exact zTt h1 (zbb_t hg (fun q => by obtain ⟨h2, q⟩ := zfb_t hbad q; exact zTt h2 (hg q)) h)
  | lastore =>
    obtain ⟨k, i, v, r, rfl, h⟩ := zsl_t hbad h
    obtain ⟨h1, h⟩ := zfb_t hbad h
    exact zTt h1 (hg h)
  | aastore =>
    obtain ⟨k, i, v, r, rfl, h⟩ := zsp_t hbad h
    obtain ⟨h1, h⟩ := zfb_t hbad h
    exact zTt h1 (hg h)
  | checkcast i =>
    obtain ⟨k, r, rfl, h⟩ := zr0_t hbad h
    obtain ⟨h1, h⟩ := zfb_t hbad h
    exact zTt h1 (hg h)
  | new i =>
    obtain ⟨h1, h⟩ := zfb_t hbad h
    exact zTt h1 (hg h)
  | newarray t =>
    obtain ⟨v, r, rfl, h⟩ := zi1_t hbad h
    obtain ⟨h1, h⟩ := zfb_t hbad h
    exact zTt h1 (hg h)
  | anewarray i =>
    obtain ⟨v, r, rfl, h⟩ := zi1_t hbad h
    obtain ⟨h1, h⟩ := zfb_t hbad h
    exact zTt h1 (hg h)
  | invokevirtual i =>
    refine zbb_t (fun q => ?_) (fun q => ?_) h
    · obtain ⟨k, r, rfl, q⟩ := zr0_t hbad q
      obtain ⟨h1, q⟩ := zfb_t hbad q
      exact zTt h1 (hg q)
    · obtain ⟨h1, q⟩ := zfb_t hbad q
      refine zTt h1 ?_
      obtain ⟨k, r, e, q⟩ := zrcv_t hbad q
      obtain ⟨h2, q⟩ := zfb_t hbad q
      rw [e] at q ⊢
      exact zTt h2 (zcl_t hQ hf hbad q)
  | invokespecial i =>
    refine zbb_t (fun q => ?_) (fun q => ?_) h
    · obtain ⟨k, r, rfl, q⟩ := zr0_t hbad q
      obtain ⟨h1, q⟩ := zfb_t hbad q
      exact zTt h1 (hg q)
    · obtain ⟨h1, q⟩ := zfb_t hbad q
      refine zTt h1 ?_
      obtain ⟨k, r, e, q⟩ := zrcv_t hbad q
      rw [e] at q ⊢
      exact zcl_t hQ hf hbad q
  | invokestatic i =>
    refine zbb_t (fun q => ?_) (fun q => ?_) h
    · obtain ⟨v, dp, b, sp, a, r, rfl, q⟩ := zcp_t hbad q
      obtain ⟨h1, q⟩ := zfb_t hbad q
      exact zTt h1 (hg q)
    · obtain ⟨h1, q⟩ := zfb_t hbad q
      exact zTt h1 (zcl_t hQ hf hbad q)
  | _ => exact absurd h hbad
theorem zS_t {X : zX} {l : Launch} {inl : Nat → Bool} {f : zF ρ} {g : zF Prop} {d kc ks y pc : Nat} {ls : List (Nat × Value)} {st : List Value} {M : zM} {Qb : Option Value → zM → ρ} {Q : Option Value → zM → Prop} (hQ : ∀ r M', T (Qb r M') → Q r M') (hf : ∀ d kc ks y pc ls st M Qb Q, (∀ r M', T (Qb r M') → Q r M') → T (f d kc ks y pc ls st M Qb) → g d kc ks y pc ls st M Q) (hbad : ¬ T bad) (h : T (zS none bad (znc_t bad) inl f d kc ks y pc ls st M Qb)) : zS (some X.2.2.2.2.2) False (zCall X l) inl g d kc ks y pc ls st M Q := by
  unfold zS at h ⊢
  cases e : zT y pc with
  | none => rw [e] at h; exact absurd h hbad
  | some q => rw [e] at h; exact zSt_t hQ hf hbad h
end ZT
/-- the evaluator whose answer is what comes out -/
def zGO : Nat → zF (Option (Option Value × zM))
  | 0 => fun _ _ _ _ _ _ _ _ _ => none
  | n + 1 => fun d kc ks y pc ls st M Q => zS none none (znc_t none) (fun _ => true) (zGO n) d kc ks y pc ls st M Q
theorem zGO_ok {X : zX} {l : Launch} {e : Option Value × zM} : ∀ (n d kc ks y pc : Nat) (ls : List (Nat × Value)) (st : List Value) (M : zM) (Qb : Option Value → zM → Option (Option Value × zM)) (Q : Option Value → zM → Prop), (∀ r M', Qb r M' = some e → Q r M') → zGO n d kc ks y pc ls st M Qb = some e → zGo X l d kc ks y pc ls st M Q
  | 0, d, kc, ks, y, pc, ls, st, M, Qb, Q, hQ, h => by cases h
  | n + 1, d, kc, ks, y, pc, ls, st, M, Qb, Q, hQ, h => by
    have h : zS none none (znc_t none) (fun _ => true) (zGO n) d kc ks y pc ls st M Qb = some e := h
    exact zS_ok (X := X) (l := l) (inl := fun _ => true) (fun d kc ks y pc ls st M Q q => q) (zS_t (X := X) (l := l) (T := fun o => o = some e) (bad := none) hQ (g := fun d kc ks y pc ls st M Q => zGo X l d kc ks y pc ls st M Q) (fun d kc ks y pc ls st M Qb Q hQ q => zGO_ok n d kc ks y pc ls st M Qb Q hQ q) (by intro q; cases q) h)
/-- a whole call, and what comes out of it -/
def zOut (n y : Nat) (as : List Value) (M : zM) : Option (Option Value × zM) := if y < 350 ∧ zwd as ≤ (mt y).2.2.1 then zGO n (zdp y 30) (zac y) (zas y) y 0 (lv_args 0 as) [] M (fun r M' => some (r, M')) else none
theorem zOut_ok {X : zX} {l : Launch} {n y : Nat} {as : List Value} {M : zM} {e : Option Value × zM} (h : zOut n y as M = some e) : zCall X l (zdp y 30) (zac y) (zas y) y as M (fun r M' => r = e.1 ∧ M' = e.2) := by
  unfold zOut at h
  by_cases hc : y < 350 ∧ zwd as ≤ (mt y).2.2.1
  · rw [if_pos hc] at h
    exact zintro (zmP hc.1) hc.2 (zGO_ok n _ _ _ _ _ _ _ _ _ _ (fun r M' q => by cases q; exact ⟨rfl, rfl⟩) h)
  · rw [if_neg hc] at h
    cases h
