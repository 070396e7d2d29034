theorem zi1_b {st : List Value} {k : Int32 → List Value → Bool} (h : zi1 false st k = true) : ∃ a r, st = .int a :: r ∧ k a r = true := by
  unfold zi1 at h
  split at h
  · exact ⟨_, _, rfl, h⟩
  · cases h
theorem zi2_b {st : List Value} {k : Int32 → Int32 → List Value → Bool} (h : zi2 false st k = true) : ∃ a b r, st = .int b :: .int a :: r ∧ k a b r = true := by
  unfold zi2 at h
  split at h
  · exact ⟨_, _, _, rfl, h⟩
  · cases h
theorem zl1_b {st : List Value} {k : Int64 → List Value → Bool} (h : zl1 false st k = true) : ∃ a r, st = .long a :: r ∧ k a r = true := by
  unfold zl1 at h
  split at h
  · exact ⟨_, _, rfl, h⟩
  · cases h
theorem zl2_b {st : List Value} {k : Int64 → Int64 → List Value → Bool} (h : zl2 false st k = true) : ∃ a b r, st = .long b :: .long a :: r ∧ k a b r = true := by
  unfold zl2 at h
  split at h
  · exact ⟨_, _, _, rfl, h⟩
  · cases h
theorem zae_b {st : List Value} {k : Nat → Int32 → List Value → Bool} (h : zae false st k = true) : ∃ a i r, st = .int i :: .ref a :: r ∧ k a i r = true := by
  unfold zae at h
  split at h
  · exact ⟨_, _, _, rfl, h⟩
  · cases h
theorem zsi_b {st : List Value} {k : Nat → Int32 → Int32 → List Value → Bool} (h : zsi false st k = true) : ∃ a i v r, st = .int v :: .int i :: .ref a :: r ∧ k a i v r = true := by
  unfold zsi at h
  split at h
  · exact ⟨_, _, _, _, rfl, h⟩
  · cases h
theorem zsl_b {st : List Value} {k : Nat → Int32 → Int64 → List Value → Bool} (h : zsl false st k = true) : ∃ a i v r, st = .long v :: .int i :: .ref a :: r ∧ k a i v r = true := by
  unfold zsl at h
  split at h
  · exact ⟨_, _, _, _, rfl, h⟩
  · cases h
theorem zsp_b {st : List Value} {k : Nat → Int32 → Nat → List Value → Bool} (h : zsp false st k = true) : ∃ a i v r, st = .ref v :: .int i :: .ref a :: r ∧ k a i v r = true := by
  unfold zsp at h
  split at h
  · exact ⟨_, _, _, _, rfl, h⟩
  · cases h
theorem zr0_b {st : List Value} {k : Nat → List Value → Bool} (h : zr0 false st k = true) : ∃ a r, st = .ref a :: r ∧ k a r = true := by
  unfold zr0 at h
  split at h
  · exact ⟨_, _, rfl, h⟩
  · cases h
theorem zv1_b {st : List Value} {k : Value → List Value → Bool} (h : zv1 false st k = true) : ∃ a r, st = a :: r ∧ k a r = true := by
  unfold zv1 at h
  split at h
  · exact ⟨_, _, rfl, h⟩
  · cases h
theorem zv2_b {st : List Value} {k : Value → Value → List Value → Bool} (h : zv2 false st k = true) : ∃ a b r, st = a :: b :: r ∧ k a b r = true := by
  unfold zv2 at h
  split at h
  · exact ⟨_, _, _, rfl, h⟩
  · cases h
theorem zv3_b {st : List Value} {k : Value → Value → Value → List Value → Bool} (h : zv3 false st k = true) : ∃ a b g r, st = a :: b :: g :: r ∧ k a b g r = true := by
  unfold zv3 at h
  split at h
  · exact ⟨_, _, _, _, rfl, h⟩
  · cases h
theorem zcp_b {st : List Value} {k : Int32 → Int32 → Nat → Int32 → Nat → List Value → Bool} (h : zcp false st k = true) : ∃ n dp b sp a r, st = .int n :: .int dp :: .ref b :: .int sp :: .ref a :: r ∧ k n dp b sp a r = true := by
  unfold zcp at h
  split at h
  · exact ⟨_, _, _, _, _, _, rfl, h⟩
  · cases h
theorem zrn_b {st : List Value} {k : Nat → List Value → Bool} {n : List Value → Bool} (h : zrn false st k n = true) : (∃ a r, st = .ref a :: r ∧ k a r = true) ∨ ∃ r, st = .null :: r ∧ n r = true := by
  unfold zrn at h
  split at h
  · exact Or.inl ⟨_, _, rfl, h⟩
  · exact Or.inr ⟨_, rfl, h⟩
  · cases h
theorem zpf_b {st : List Value} {ki : Nat → Int32 → List Value → Bool} {kl : Nat → Int64 → List Value → Bool} {kr : Nat → Nat → List Value → Bool} (h : zpf false st ki kl kr = true) : (∃ a v r, st = .int v :: .ref a :: r ∧ ki a v r = true) ∨ (∃ a v r, st = .long v :: .ref a :: r ∧ kl a v r = true) ∨ ∃ a v r, st = .ref v :: .ref a :: r ∧ kr a v r = true := by
  unfold zpf at h
  split at h
  · exact Or.inl ⟨_, _, _, rfl, h⟩
  · exact Or.inr (Or.inl ⟨_, _, _, rfl, h⟩)
  · exact Or.inr (Or.inr ⟨_, _, _, rfl, h⟩)
  · cases h
theorem zli_b {o : Option Value} {k : Int32 → Bool} (h : zli false o k = true) : ∃ x, o = some (.int x) ∧ k x = true := by
  unfold zli at h
  split at h
  · exact ⟨_, rfl, h⟩
  · cases h
theorem zll_b {o : Option Value} {k : Int64 → Bool} (h : zll false o k = true) : ∃ x, o = some (.long x) ∧ k x = true := by
  unfold zll at h
  split at h
  · exact ⟨_, rfl, h⟩
  · cases h
theorem zla_b {o : Option Value} {k : Nat → Bool} {n : Bool} (h : zla false o k n = true) : (∃ x, o = some (.ref x) ∧ k x = true) ∨ (o = some .null ∧ n = true) := by
  unfold zla at h
  split at h
  · exact Or.inl ⟨_, rfl, h⟩
  · exact Or.inr ⟨rfl, h⟩
  · cases h
theorem zrcv_b {as : List Value} {k : Nat → Bool} (h : zrcv false as k = true) : ∃ a r, as = .ref a :: r ∧ k a = true := by
  unfold zrcv at h
  split at h
  · exact ⟨_, _, rfl, h⟩
  · cases h
theorem zret_b {t : Option FieldType} {k : FieldType → Bool} (h : zret false t k = true) : ∃ ty, t = some ty ∧ k ty = true := by
  unfold zret at h
  split at h
  · exact ⟨_, rfl, h⟩
  · cases h
theorem zlsw_b {dflt : Int} {x : Int32} {k : Int → Bool} {K : Int → Prop} (hk : ∀ i, k i = true → K i) : ∀ {ps : List (Int × Int)}, zlsw ps dflt x k = true → zlsw ps dflt x K
  | [], h => hk _ h
  | (m, o) :: r, h => by
    unfold zlsw at h ⊢
    by_cases hx : x.toInt = m
    · rw [if_pos hx] at h ⊢
      exact hk _ h
    · rw [if_neg hx] at h ⊢
      exact zlsw_b hk h
theorem ztsw_b {x : Int32} {k : Int → Bool} {K : Int → Prop} (hk : ∀ i, k i = true → K i) : ∀ {offs : List Int} {lo : Int}, ztsw false offs lo x k = true → ztsw False offs lo x K
  | [], _, h => by cases h
  | o :: r, lo, h => by
    unfold ztsw at h ⊢
    by_cases hx : x.toInt = lo
    · rw [if_pos hx] at h ⊢
      exact hk _ h
    · rw [if_neg hx] at h ⊢
      exact ztsw_b hk h
theorem zfb {c : Prop} [Decidable c] {A : Bool} (h : (if c then A else false) = true) : c ∧ A = true := by
  by_cases hc : c
  · rw [if_pos hc] at h
    exact ⟨hc, h⟩
  · rw [if_neg hc] at h
    cases h
theorem zbf {c : Prop} [Decidable c] {A : Bool} (h : (if c then false else A) = true) : ¬ c ∧ A = true := by
  by_cases hc : c
  · rw [if_pos hc] at h
    cases h
  · rw [if_neg hc] at h
    exact ⟨hc, h⟩
theorem zTt {c A B : Prop} [Decidable c] (hc : c) (h : A) : if c then A else B := by rw [if_pos hc]; exact h
theorem zFt {c A B : Prop} [Decidable c] (hc : ¬ c) (h : B) : if c then A else B := by rw [if_neg hc]; exact h
theorem zbb {c A B : Prop} [Decidable c] {a b : Bool} (ha : a = true → A) (hb : b = true → B) (h : (if c then a else b) = true) : if c then A else B := by
  by_cases hc : c
  · rw [if_pos hc] at h ⊢
    exact ha h
  · rw [if_neg hc] at h ⊢
    exact hb h
abbrev znc : Nat → Nat → Nat → Nat → List Value → zM → (Option Value → zM → Bool) → Bool := fun _ _ _ _ _ _ _ => false
theorem zcl_b {X : zX} {l : Launch} {inl : Nat → Bool} {f : zF Bool} {g : zF Prop} {d kc ks y pc y' : Nat} {ls : List (Nat × Value)} {as st : List Value} {M : zM} {Qb : Option Value → zM → Bool} {Q : Option Value → zM → Prop} (hQ : ∀ r M', Qb r M' = true → Q r M') (hf : ∀ d kc ks y pc ls st M Qb Q, (∀ r M', Qb r M' = true → Q r M') → f d kc ks y pc ls st M Qb = true → g d kc ks y pc ls st M Q) (h : zcl false znc inl f d kc ks y pc ls as st M Qb y' = true) : zcl False (zCall X l) inl g d kc ks y pc ls as st M Q y' := by
  unfold zcl at h ⊢
  obtain ⟨h1, h⟩ := zfb h
  rw [if_pos h1]
  obtain ⟨h2, h⟩ := zfb h
  rw [if_pos h2]
  exact hf _ _ _ _ _ _ _ _ _ _ (fun r M' q => hf _ _ _ _ _ _ _ _ _ _ hQ q) h
set_option maxHeartbeats 4000000 in
theorem zSt_b {X : zX} {l : Launch} {inl : Nat → Bool} {f : zF Bool} {g : zF Prop} {d kc ks y pc A B : Nat} {V : Int} {ins : Instr} {ls : List (Nat × Value)} {st : List Value} {M : zM} {Qb : Option Value → zM → Bool} {Q : Option Value → zM → Prop} (hQ : ∀ r M', Qb r M' = true → Q r M') (hf : ∀ d kc ks y pc ls st M Qb Q, (∀ r M', Qb r M' = true → Q r M') → f d kc ks y pc ls st M Qb = true → g d kc ks y pc ls st M Q) (h : zSt none false znc inl f d kc ks y pc ls st M Qb ins A B V = true) : zSt (some X.2.2.2.2.2) False (zCall X l) inl g d kc ks y pc ls st M Q ins A B V := by
  have hg : ∀ {d kc ks y pc ls st M}, f d kc ks y pc ls st M Qb = true → g d kc ks y pc ls st M Q := fun {d kc ks y pc ls st M} q => hf d kc ks y pc ls st M Qb Q hQ q
  cases ins with
  | iconst v =>
    exact hg h
  | bipush v =>
    exact hg h
  | sipush v =>
    exact hg h
  | lconst v =>
    exact hg h
  | aconst_null =>
    exact hg h
  | goto off =>
    exact hg h
  | getstatic i =>
    exact hg h
  | ldc2_w i =>
    exact hg h
  | ldc i =>
    exact zbb hg hg h
  | ldc_w i =>
    exact zbb hg hg h
  | iadd =>
    obtain ⟨a, b, r, rfl, h⟩ := zi2_b h
    exact hg h
  | isub =>
    obtain ⟨a, b, r, rfl, h⟩ := zi2_b h
    exact hg h
  | imul =>
    obtain ⟨a, b, r, rfl, h⟩ := zi2_b h
    exact hg h
  | iand =>
    obtain ⟨a, b, r, rfl, h⟩ := zi2_b h
    exact hg h
  | ior =>
    obtain ⟨a, b, r, rfl, h⟩ := zi2_b h
    exact hg h
  | ixor =>
    obtain ⟨a, b, r, rfl, h⟩ := zi2_b h
    exact hg h
  | ishl =>
    obtain ⟨a, b, r, rfl, h⟩ := zi2_b h
    exact hg h
  | ishr =>
    obtain ⟨a, b, r, rfl, h⟩ := zi2_b h
    exact hg h
  | iushr =>
    obtain ⟨a, b, r, rfl, h⟩ := zi2_b h
    exact hg h
  | ladd =>
    obtain ⟨a, b, r, rfl, h⟩ := zl2_b h
    exact hg h
  | lsub =>
    obtain ⟨a, b, r, rfl, h⟩ := zl2_b h
    exact hg h
  | lmul =>
    obtain ⟨a, b, r, rfl, h⟩ := zl2_b h
    exact hg h
  | land =>
    obtain ⟨a, b, r, rfl, h⟩ := zl2_b h
    exact hg h
  | lor =>
    obtain ⟨a, b, r, rfl, h⟩ := zl2_b h
    exact hg h
  | lxor =>
    obtain ⟨a, b, r, rfl, h⟩ := zl2_b h
    exact hg h
  | lcmp =>
    obtain ⟨a, b, r, rfl, h⟩ := zl2_b h
    exact hg h
  | idiv =>
    obtain ⟨a, b, r, rfl, h⟩ := zi2_b h
    obtain ⟨h1, h⟩ := zbf h
    exact zFt h1 (hg h)
  | irem =>
    obtain ⟨a, b, r, rfl, h⟩ := zi2_b h
    obtain ⟨h1, h⟩ := zbf h
    exact zFt h1 (hg h)
  | ldiv =>
    obtain ⟨a, b, r, rfl, h⟩ := zl2_b h
    obtain ⟨h1, h⟩ := zbf h
    exact zFt h1 (hg h)
  | lrem =>
    obtain ⟨a, b, r, rfl, h⟩ := zl2_b h
    obtain ⟨h1, h⟩ := zbf h
    exact zFt h1 (hg h)
  | ineg =>
    obtain ⟨a, r, rfl, h⟩ := zi1_b h
    exact hg h
  | i2l =>
    obtain ⟨a, r, rfl, h⟩ := zi1_b h
    exact hg h
  | i2b =>
    obtain ⟨a, r, rfl, h⟩ := zi1_b h
    exact hg h
  | i2c =>
    obtain ⟨a, r, rfl, h⟩ := zi1_b h
    exact hg h
  | lneg =>
    obtain ⟨a, r, rfl, h⟩ := zl1_b h
    exact hg h
  | l2i =>
    obtain ⟨a, r, rfl, h⟩ := zl1_b h
    exact hg h
  | dup =>
    obtain ⟨a, r, rfl, h⟩ := zv1_b h
    obtain ⟨h1, h⟩ := zfb h
    exact zTt h1 (hg h)
  | pop =>
    obtain ⟨a, r, rfl, h⟩ := zv1_b h
    obtain ⟨h1, h⟩ := zfb h
    exact zTt h1 (hg h)
  | pop2 =>
    obtain ⟨a, r, rfl, h⟩ := zv1_b h
    obtain ⟨h1, h⟩ := zfb h
    exact zTt h1 (hg h)
  | dup2 =>
    obtain ⟨a, b, r, rfl, h⟩ := zv2_b h
    obtain ⟨h1, h⟩ := zfb h
    exact zTt h1 (hg h)
  | dup_x1 =>
    obtain ⟨a, b, r, rfl, h⟩ := zv2_b h
    obtain ⟨h1, h⟩ := zfb h
    exact zTt h1 (hg h)
  | dup_x2 =>
    obtain ⟨a, b, g0, r, rfl, h⟩ := zv3_b h
    obtain ⟨h1, h⟩ := zfb h
    exact zTt h1 (hg h)
  | iload i =>
    obtain ⟨x, h1, h⟩ := zli_b h
    simp only [zSt, h1, zli]
    exact hg h
  | iload_n i =>
    obtain ⟨x, h1, h⟩ := zli_b h
    simp only [zSt, h1, zli]
    exact hg h
  | lload i =>
    obtain ⟨x, h1, h⟩ := zll_b h
    simp only [zSt, h1, zll]
    exact hg h
  | lload_n i =>
    obtain ⟨x, h1, h⟩ := zll_b h
    simp only [zSt, h1, zll]
    exact hg h
  | istore i =>
    obtain ⟨x, r, rfl, h⟩ := zi1_b h
    obtain ⟨h1, h⟩ := zfb h
    exact zTt h1 (hg h)
  | istore_n i =>
    obtain ⟨x, r, rfl, h⟩ := zi1_b h
    obtain ⟨h1, h⟩ := zfb h
    exact zTt h1 (hg h)
  | lstore i =>
    obtain ⟨x, r, rfl, h⟩ := zl1_b h
    obtain ⟨h1, h⟩ := zfb h
    exact zTt h1 (hg h)
  | lstore_n i =>
    obtain ⟨x, r, rfl, h⟩ := zl1_b h
    obtain ⟨h1, h⟩ := zfb h
    exact zTt h1 (hg h)
  | aload i =>
    rcases zla_b h with ⟨x, h1, h⟩ | ⟨h1, h⟩
    · simp only [zSt, h1, zla]
      exact hg h
    · simp only [zSt, h1, zla]
      exact hg h
  | aload_n i =>
    rcases zla_b h with ⟨x, h1, h⟩ | ⟨h1, h⟩
    · simp only [zSt, h1, zla]
      exact hg h
    · simp only [zSt, h1, zla]
      exact hg h
  | astore i =>
    obtain ⟨h1, h⟩ := zfb h
    rcases zrn_b h with ⟨x, r, rfl, h⟩ | ⟨r, rfl, h⟩
    · exact zTt h1 (hg h)
    · exact zTt h1 (hg h)
  | astore_n i =>
    obtain ⟨h1, h⟩ := zfb h
    rcases zrn_b h with ⟨x, r, rfl, h⟩ | ⟨r, rfl, h⟩
    · exact zTt h1 (hg h)
    · exact zTt h1 (hg h)
  | iinc i v =>
    obtain ⟨h1, h⟩ := zfb h
    obtain ⟨x, h2, h⟩ := zli_b h
    refine zTt h1 ?_
    simp only [h2, zli]
    exact hg h
  | if_icmp cnd off =>
    cases cnd with
    | eq =>
      obtain ⟨a, b, r, rfl, h⟩ := zi2_b h
      exact zbb hg hg h
    | ne =>
      obtain ⟨a, b, r, rfl, h⟩ := zi2_b h
      exact zbb hg hg h
    | lt =>
      obtain ⟨a, b, r, rfl, h⟩ := zi2_b h
      exact zbb hg hg h
    | ge =>
      obtain ⟨a, b, r, rfl, h⟩ := zi2_b h
      exact zbb hg hg h
    | gt =>
      obtain ⟨a, b, r, rfl, h⟩ := zi2_b h
      exact zbb hg hg h
    | le =>
      obtain ⟨a, b, r, rfl, h⟩ := zi2_b h
      exact zbb hg hg h
  | ifCond cnd off =>
    cases cnd with
    | eq =>
      obtain ⟨a, r, rfl, h⟩ := zi1_b h
      exact zbb hg hg h
    | ne =>
      obtain ⟨a, r, rfl, h⟩ := zi1_b h
      exact zbb hg hg h
    | lt =>
      obtain ⟨a, r, rfl, h⟩ := zi1_b h
      exact zbb hg hg h
    | ge =>
      obtain ⟨a, r, rfl, h⟩ := zi1_b h
      exact zbb hg hg h
    | gt =>
      obtain ⟨a, r, rfl, h⟩ := zi1_b h
      exact zbb hg hg h
    | le =>
      obtain ⟨a, r, rfl, h⟩ := zi1_b h
      exact zbb hg hg h
  | ifnull off =>
    rcases zrn_b h with ⟨x, r, rfl, h⟩ | ⟨r, rfl, h⟩
    · exact hg h
    · exact hg h
  | ifnonnull off =>
    rcases zrn_b h with ⟨x, r, rfl, h⟩ | ⟨r, rfl, h⟩
    · exact hg h
    · exact hg h
  | lookupswitch dflt ps =>
    obtain ⟨x, r, rfl, h⟩ := zi1_b h
    exact zlsw_b (fun i q => hg q) h
  | tableswitch dflt lo hi offs =>
    obtain ⟨x, r, rfl, h⟩ := zi1_b h
    exact zbb hg (fun q => ztsw_b (fun i q => hg q) q) h
  | return_ =>
    obtain ⟨h1, h⟩ := zfb h
    exact zTt h1 (hQ _ _ h)
  | ireturn =>
    obtain ⟨v, r, rfl, h⟩ := zi1_b h
    obtain ⟨h0, h⟩ := zfb h
    obtain ⟨t, h1, h⟩ := zret_b h
    obtain ⟨h2, h⟩ := zfb h
    refine zTt h0 ?_
    simp only [h1, zret]
    exact zTt h2 (hQ _ _ h)
  | lreturn =>
    obtain ⟨v, r, rfl, h⟩ := zl1_b h
    obtain ⟨h1, h⟩ := zfb h
    exact zTt h1 (hQ _ _ h)
  | areturn =>
    obtain ⟨h1, h⟩ := zfb h
    refine zTt h1 ?_
    rcases zrn_b h with ⟨x, r, rfl, h⟩ | ⟨r, rfl, h⟩
    · obtain ⟨h2, h⟩ := zfb h
      exact zTt h2 (hQ _ _ h)
    · obtain ⟨h2, h⟩ := zfb h
      exact zTt h2 (hQ _ _ h)
  | getfield i =>
    obtain ⟨k, r, rfl, h⟩ := zr0_b h
    exact zbb (fun q => by obtain ⟨h1, q⟩ := zfb q; exact zTt h1 (hg q)) (fun q => by obtain ⟨h1, q⟩ := zfb q; exact zTt h1 (hg q)) h
  | putfield i =>
    rcases zpf_b h with ⟨k, v, r, rfl, h⟩ | ⟨k, v, r, rfl, h⟩ | ⟨k, v, r, rfl, h⟩
    · obtain ⟨h1, h⟩ := zfb h
      exact zTt h1 (hg h)
    · obtain ⟨h1, h⟩ := zfb h
      exact zTt h1 (hg h)
    · obtain ⟨h1, h⟩ := zfb h
      exact zTt h1 (hg h)
  | iaload =>
    obtain ⟨k, i, r, rfl, h⟩ := zae_b h
    exact zbb (fun q => by cases q) (fun q => by obtain ⟨h1, q⟩ := zfb q; exact zTt h1 (hg q)) h
  | arraylength =>
    obtain ⟨k, r, rfl, h⟩ := zr0_b h
    exact zbb (fun q => by cases q) (fun q => by obtain ⟨h1, q⟩ := zfb q; exact zTt h1 (hg q)) h
  | baload =>
    obtain ⟨k, i, r, rfl, h⟩ := zae_b h
    obtain ⟨h1, h⟩ := zfb h
    exact zTt h1 (hg h)
  | laload =>
    obtain ⟨k, i, r, rfl, h⟩ := zae_b h
    obtain ⟨h1, h⟩ := zfb h
    exact zTt h1 (hg h)
  | aaload =>
    obtain ⟨k, i, r, rfl, h⟩ := zae_b h
    obtain ⟨h1, h⟩ := zfb h
    exact zTt h1 (hg h)
  | iastore =>
    obtain ⟨k, i, v, r, rfl, h⟩ := zsi_b h
    obtain ⟨h1, h⟩ := zfb h
    exact zTt h1 (hg h)
  | bastore =>
    obtain ⟨k, i, v, r, rfl, h⟩ := zsi_b h
    obtain ⟨h1, h⟩ := zfb h
    exact zTt h1 (zbb hg (fun q => by obtain ⟨h2, q⟩ := zfb q; exact zTt h2 (hg q)) h)
  | lastore =>
    obtain ⟨k, i, v, r, rfl, h⟩ := zsl_b h
    obtain ⟨h1, h⟩ := zfb h
    exact zTt h1 (hg h)
  | aastore =>
    obtain ⟨k, i, v, r, rfl, h⟩ := zsp_b h
    obtain ⟨h1, h⟩ := zfb h
    exact zTt h1 (hg h)
  | checkcast i =>
    obtain ⟨k, r, rfl, h⟩ := zr0_b h
    obtain ⟨h1, h⟩ := zfb h
    exact zTt h1 (hg h)
  | new i =>
    obtain ⟨h1, h⟩ := zfb h
    exact zTt h1 (hg h)
  | newarray t =>
    obtain ⟨v, r, rfl, h⟩ := zi1_b h
    obtain ⟨h1, h⟩ := zfb h
    exact zTt h1 (hg h)
  | anewarray i =>
    obtain ⟨v, r, rfl, h⟩ := zi1_b h
    obtain ⟨h1, h⟩ := zfb h
    exact zTt h1 (hg h)
  | invokevirtual i =>
    refine zbb (fun q => ?_) (fun q => ?_) h
    · obtain ⟨k, r, rfl, q⟩ := zr0_b q
      obtain ⟨h1, q⟩ := zfb q
      exact zTt h1 (hg q)
    · obtain ⟨h1, q⟩ := zfb q
      refine zTt h1 ?_
      obtain ⟨k, r, e, q⟩ := zrcv_b q
      obtain ⟨h2, q⟩ := zfb q
      rw [e] at q ⊢
      exact zTt h2 (zcl_b hQ hf q)
  | invokespecial i =>
    refine zbb (fun q => ?_) (fun q => ?_) h
    · obtain ⟨k, r, rfl, q⟩ := zr0_b q
      obtain ⟨h1, q⟩ := zfb q
      exact zTt h1 (hg q)
    · obtain ⟨h1, q⟩ := zfb q
      refine zTt h1 ?_
      obtain ⟨k, r, e, q⟩ := zrcv_b q
      rw [e] at q ⊢
      exact zcl_b hQ hf q
  | invokestatic i =>
    refine zbb (fun q => ?_) (fun q => ?_) h
    · obtain ⟨v, dp, b, sp, a, r, rfl, q⟩ := zcp_b q
      obtain ⟨h1, q⟩ := zfb q
      exact zTt h1 (hg q)
    · obtain ⟨h1, q⟩ := zfb q
      exact zTt h1 (zcl_b hQ hf q)
  | _ => exact absurd h (by show ¬ (false = true); exact Bool.false_ne_true)
