set_option maxHeartbeats 4000000 in
/-- the evaluator's step is the machine's -/
theorem zSt_ok {X : zX} {l : Launch} {inl : Nat → Bool} {f : zF Prop} {d kc ks y pc n A B PL : Nat} {V : Int} {ins : Instr} {ls : List (Nat × Value)} {st : List Value} {M : zM} {Q : Option Value → zM → Prop} (hf : ∀ d kc ks y pc ls st M Q, f d kc ks y pc ls st M Q → zGo X l d kc ks y pc ls st M Q) (hd : zdc y pc ins n) (hn : zlen ins n = true) (hk : zlk y pc ins A B V PL = true) (h : zSt (some X.2.2.2.2.2) False (zCall X l) inl f d kc ks y pc ls st M Q ins A B V) : zGo X l d kc ks y pc ls st M Q := by
  have hg : ∀ {d kc ks y pc ls st M Q}, f d kc ks y pc ls st M Q → zGo X l d kc ks y pc ls st M Q := fun {d kc ks y pc ls st M Q} q => hf d kc ks y pc ls st M Q q
  cases ins with
  | iconst v =>
    obtain rfl : n = 1 := by simpa [zlen] using hn
    exact zg_iconst hd (hg h)
  | bipush v =>
    obtain rfl : n = 2 := by simpa [zlen] using hn
    exact zg_bipush hd (hg h)
  | sipush v =>
    obtain rfl : n = 3 := by simpa [zlen] using hn
    exact zg_sipush hd (hg h)
  | lconst v =>
    obtain rfl : n = 1 := by simpa [zlen] using hn
    exact zg_lconst hd (hg h)
  | aconst_null =>
    obtain rfl : n = 1 := by simpa [zlen] using hn
    exact zg_null hd (hg h)
  | iadd =>
    obtain rfl : n = 1 := by simpa [zlen] using hn
    obtain ⟨a, b, r, rfl, h⟩ := zi2_e h
    exact zg_iadd hd (hg h)
  | isub =>
    obtain rfl : n = 1 := by simpa [zlen] using hn
    obtain ⟨a, b, r, rfl, h⟩ := zi2_e h
    exact zg_isub hd (hg h)
  | imul =>
    obtain rfl : n = 1 := by simpa [zlen] using hn
    obtain ⟨a, b, r, rfl, h⟩ := zi2_e h
    exact zg_imul hd (hg h)
  | iand =>
    obtain rfl : n = 1 := by simpa [zlen] using hn
    obtain ⟨a, b, r, rfl, h⟩ := zi2_e h
    exact zg_iand hd (hg h)
  | ior =>
    obtain rfl : n = 1 := by simpa [zlen] using hn
    obtain ⟨a, b, r, rfl, h⟩ := zi2_e h
    exact zg_ior hd (hg h)
  | ixor =>
    obtain rfl : n = 1 := by simpa [zlen] using hn
    obtain ⟨a, b, r, rfl, h⟩ := zi2_e h
    exact zg_ixor hd (hg h)
  | ishl =>
    obtain rfl : n = 1 := by simpa [zlen] using hn
    obtain ⟨a, b, r, rfl, h⟩ := zi2_e h
    exact zg_ishl hd (hg h)
  | ishr =>
    obtain rfl : n = 1 := by simpa [zlen] using hn
    obtain ⟨a, b, r, rfl, h⟩ := zi2_e h
    exact zg_ishr hd (hg h)
  | iushr =>
    obtain rfl : n = 1 := by simpa [zlen] using hn
    obtain ⟨a, b, r, rfl, h⟩ := zi2_e h
    exact zg_iushr hd (hg h)
  | ladd =>
    obtain rfl : n = 1 := by simpa [zlen] using hn
    obtain ⟨a, b, r, rfl, h⟩ := zl2_e h
    exact zg_ladd hd (hg h)
  | lsub =>
    obtain rfl : n = 1 := by simpa [zlen] using hn
    obtain ⟨a, b, r, rfl, h⟩ := zl2_e h
    exact zg_lsub hd (hg h)
  | lmul =>
    obtain rfl : n = 1 := by simpa [zlen] using hn
    obtain ⟨a, b, r, rfl, h⟩ := zl2_e h
    exact zg_lmul hd (hg h)
  | land =>
    obtain rfl : n = 1 := by simpa [zlen] using hn
    obtain ⟨a, b, r, rfl, h⟩ := zl2_e h
    exact zg_land hd (hg h)
  | lor =>
    obtain rfl : n = 1 := by simpa [zlen] using hn
    obtain ⟨a, b, r, rfl, h⟩ := zl2_e h
    exact zg_lor hd (hg h)
  | lxor =>
    obtain rfl : n = 1 := by simpa [zlen] using hn
    obtain ⟨a, b, r, rfl, h⟩ := zl2_e h
    exact zg_lxor hd (hg h)
  | lcmp =>
    obtain rfl : n = 1 := by simpa [zlen] using hn
    obtain ⟨a, b, r, rfl, h⟩ := zl2_e h
    exact zg_lcmp hd (hg h)
  | idiv =>
    obtain rfl : n = 1 := by simpa [zlen] using hn
    obtain ⟨a, b, r, rfl, h⟩ := zi2_e h
    obtain ⟨h1, h⟩ := zFf h
    exact zg_idiv hd h1 (hg h)
  | irem =>
    obtain rfl : n = 1 := by simpa [zlen] using hn
    obtain ⟨a, b, r, rfl, h⟩ := zi2_e h
    obtain ⟨h1, h⟩ := zFf h
    exact zg_irem hd h1 (hg h)
  | ldiv =>
    obtain rfl : n = 1 := by simpa [zlen] using hn
    obtain ⟨a, b, r, rfl, h⟩ := zl2_e h
    obtain ⟨h1, h⟩ := zFf h
    exact zg_ldiv hd h1 (hg h)
  | lrem =>
    obtain rfl : n = 1 := by simpa [zlen] using hn
    obtain ⟨a, b, r, rfl, h⟩ := zl2_e h
    obtain ⟨h1, h⟩ := zFf h
    exact zg_lrem hd h1 (hg h)
  | ineg =>
    obtain rfl : n = 1 := by simpa [zlen] using hn
    obtain ⟨a, r, rfl, h⟩ := zi1_e h
    exact zg_ineg hd (hg h)
  | i2l =>
    obtain rfl : n = 1 := by simpa [zlen] using hn
    obtain ⟨a, r, rfl, h⟩ := zi1_e h
    exact zg_i2l hd (hg h)
  | i2b =>
    obtain rfl : n = 1 := by simpa [zlen] using hn
    obtain ⟨a, r, rfl, h⟩ := zi1_e h
    exact zg_i2b hd (hg h)
  | i2c =>
    obtain rfl : n = 1 := by simpa [zlen] using hn
    obtain ⟨a, r, rfl, h⟩ := zi1_e h
    exact zg_i2c hd (hg h)
  | lneg =>
    obtain rfl : n = 1 := by simpa [zlen] using hn
    obtain ⟨a, r, rfl, h⟩ := zl1_e h
    exact zg_lneg hd (hg h)
  | l2i =>
    obtain rfl : n = 1 := by simpa [zlen] using hn
    obtain ⟨a, r, rfl, h⟩ := zl1_e h
    exact zg_l2i hd (hg h)
  | dup =>
    obtain rfl : n = 1 := by simpa [zlen] using hn
    obtain ⟨a, r, rfl, h⟩ := zv1_e h
    obtain ⟨h1, h⟩ := zfF h
    exact zg_dup hd h1 (hg h)
  | pop =>
    obtain rfl : n = 1 := by simpa [zlen] using hn
    obtain ⟨a, r, rfl, h⟩ := zv1_e h
    obtain ⟨h1, h⟩ := zfF h
    exact zg_pop hd h1 (hg h)
  | pop2 =>
    obtain rfl : n = 1 := by simpa [zlen] using hn
    obtain ⟨a, r, rfl, h⟩ := zv1_e h
    obtain ⟨h1, h⟩ := zfF h
    exact zg_pop2 hd h1 (hg h)
  | dup2 =>
    obtain rfl : n = 1 := by simpa [zlen] using hn
    obtain ⟨a, b, r, rfl, h⟩ := zv2_e h
    obtain ⟨⟨h1, h2⟩, h⟩ := zfF h
    exact zg_dup2 hd h1 h2 (hg h)
  | dup_x1 =>
    obtain rfl : n = 1 := by simpa [zlen] using hn
    obtain ⟨a, b, r, rfl, h⟩ := zv2_e h
    obtain ⟨⟨h1, h2⟩, h⟩ := zfF h
    exact zg_dup_x1 hd h1 h2 (hg h)
  | dup_x2 =>
    obtain rfl : n = 1 := by simpa [zlen] using hn
    obtain ⟨a, b, g, r, rfl, h⟩ := zv3_e h
    obtain ⟨⟨h1, h2, h3⟩, h⟩ := zfF h
    exact zg_dup_x2 hd h1 h2 h3 (hg h)
  | iload i =>
    obtain rfl : n = 2 := by simpa [zlen] using hn
    obtain ⟨x, h1, h⟩ := zli_e h
    exact zg_iload hd h1 (hg h)
  | iload_n i =>
    obtain rfl : n = 1 := by simpa [zlen] using hn
    obtain ⟨x, h1, h⟩ := zli_e h
    exact zg_iload_n hd rfl h1 (hg h)
  | lload i =>
    obtain rfl : n = 2 := by simpa [zlen] using hn
    obtain ⟨x, h1, h⟩ := zll_e h
    exact zg_lload hd h1 (hg h)
  | lload_n i =>
    obtain rfl : n = 1 := by simpa [zlen] using hn
    obtain ⟨x, h1, h⟩ := zll_e h
    exact zg_lload_n hd rfl h1 (hg h)
  | istore i =>
    obtain rfl : n = 2 := by simpa [zlen] using hn
    obtain ⟨x, r, rfl, h⟩ := zi1_e h
    obtain ⟨h1, h⟩ := zfF h
    exact zg_istore hd h1 (hg h)
  | istore_n i =>
    obtain rfl : n = 1 := by simpa [zlen] using hn
    obtain ⟨x, r, rfl, h⟩ := zi1_e h
    obtain ⟨h1, h⟩ := zfF h
    exact zg_istore_n hd rfl h1 (hg h)
  | lstore i =>
    obtain rfl : n = 2 := by simpa [zlen] using hn
    obtain ⟨x, r, rfl, h⟩ := zl1_e h
    obtain ⟨h1, h⟩ := zfF h
    exact zg_lstore hd h1 (hg h)
  | lstore_n i =>
    obtain rfl : n = 1 := by simpa [zlen] using hn
    obtain ⟨x, r, rfl, h⟩ := zl1_e h
    obtain ⟨h1, h⟩ := zfF h
    exact zg_lstore_n hd rfl h1 (hg h)
  | aload i =>
    obtain rfl : n = 2 := by simpa [zlen] using hn
    rcases zla_e h with ⟨x, h1, h⟩ | ⟨h1, h⟩
    · exact zg_aload hd h1 (hg h)
    · exact zg_aloadN hd h1 (hg h)
  | aload_n i =>
    obtain rfl : n = 1 := by simpa [zlen] using hn
    rcases zla_e h with ⟨x, h1, h⟩ | ⟨h1, h⟩
    · exact zg_aload_n hd rfl h1 (hg h)
    · exact zg_aload_nN hd rfl h1 (hg h)
  | astore i =>
    obtain rfl : n = 2 := by simpa [zlen] using hn
    obtain ⟨h1, h⟩ := zfF h
    rcases zrn_e h with ⟨x, r, rfl, h⟩ | ⟨r, rfl, h⟩
    · exact zg_astore hd h1 (hg h)
    · exact zg_astoreN hd h1 (hg h)
  | astore_n i =>
    obtain rfl : n = 1 := by simpa [zlen] using hn
    obtain ⟨h1, h⟩ := zfF h
    rcases zrn_e h with ⟨x, r, rfl, h⟩ | ⟨r, rfl, h⟩
    · exact zg_astore_n hd rfl h1 (hg h)
    · exact zg_astore_nN hd rfl h1 (hg h)
  | iinc i v =>
    obtain rfl : n = 3 := by simpa [zlen] using hn
    obtain ⟨h1, h⟩ := zfF h
    obtain ⟨x, h2, h⟩ := zli_e h
    exact zg_iinc hd h2 h1 (hg h)
  | if_icmp cnd off =>
    obtain rfl : n = 3 := by simpa [zlen] using hn
    have hk2 : (pc : Int) + off = (A : Int) := of_decide_eq_true hk
    cases cnd with
    | eq =>
      obtain ⟨a, b, r, rfl, h⟩ := zi2_e h
      refine zg_icmp_eq hd hk2 ?_
      have h : (if a = b then _ else _ : Prop) := h
      by_cases hc : a = b
      · rw [if_pos hc] at h ⊢
        exact hg h
      · rw [if_neg hc] at h ⊢
        exact hg h
    | ne =>
      obtain ⟨a, b, r, rfl, h⟩ := zi2_e h
      refine zg_icmp_ne hd hk2 ?_
      have h : (if a = b then _ else _ : Prop) := h
      by_cases hc : a = b
      · rw [if_pos hc] at h ⊢
        exact hg h
      · rw [if_neg hc] at h ⊢
        exact hg h
    | lt =>
      obtain ⟨a, b, r, rfl, h⟩ := zi2_e h
      refine zg_icmp_lt hd hk2 ?_
      have h : (if a < b then _ else _ : Prop) := h
      by_cases hc : a < b
      · rw [if_pos hc] at h ⊢
        exact hg h
      · rw [if_neg hc] at h ⊢
        exact hg h
    | ge =>
      obtain ⟨a, b, r, rfl, h⟩ := zi2_e h
      refine zg_icmp_ge hd hk2 ?_
      have h : (if b ≤ a then _ else _ : Prop) := h
      by_cases hc : b ≤ a
      · rw [if_pos hc] at h ⊢
        exact hg h
      · rw [if_neg hc] at h ⊢
        exact hg h
    | gt =>
      obtain ⟨a, b, r, rfl, h⟩ := zi2_e h
      refine zg_icmp_gt hd hk2 ?_
      have h : (if b < a then _ else _ : Prop) := h
      by_cases hc : b < a
      · rw [if_pos hc] at h ⊢
        exact hg h
      · rw [if_neg hc] at h ⊢
        exact hg h
    | le =>
      obtain ⟨a, b, r, rfl, h⟩ := zi2_e h
      refine zg_icmp_le hd hk2 ?_
      have h : (if a ≤ b then _ else _ : Prop) := h
      by_cases hc : a ≤ b
      · rw [if_pos hc] at h ⊢
        exact hg h
      · rw [if_neg hc] at h ⊢
        exact hg h
  | ifCond cnd off =>
    obtain rfl : n = 3 := by simpa [zlen] using hn
    have hk2 : (pc : Int) + off = (A : Int) := of_decide_eq_true hk
    cases cnd with
    | eq =>
      obtain ⟨a, r, rfl, h⟩ := zi1_e h
      refine zg_if_eq hd hk2 ?_
      have h : (if a = 0 then _ else _ : Prop) := h
      by_cases hc : a = 0
      · rw [if_pos hc] at h ⊢
        exact hg h
      · rw [if_neg hc] at h ⊢
        exact hg h
    | ne =>
      obtain ⟨a, r, rfl, h⟩ := zi1_e h
      refine zg_if_ne hd hk2 ?_
      have h : (if a = 0 then _ else _ : Prop) := h
      by_cases hc : a = 0
      · rw [if_pos hc] at h ⊢
        exact hg h
      · rw [if_neg hc] at h ⊢
        exact hg h
    | lt =>
      obtain ⟨a, r, rfl, h⟩ := zi1_e h
      refine zg_if_lt hd hk2 ?_
      have h : (if a < 0 then _ else _ : Prop) := h
      by_cases hc : a < 0
      · rw [if_pos hc] at h ⊢
        exact hg h
      · rw [if_neg hc] at h ⊢
        exact hg h
    | ge =>
      obtain ⟨a, r, rfl, h⟩ := zi1_e h
      refine zg_if_ge hd hk2 ?_
      have h : (if 0 ≤ a then _ else _ : Prop) := h
      by_cases hc : 0 ≤ a
      · rw [if_pos hc] at h ⊢
        exact hg h
      · rw [if_neg hc] at h ⊢
        exact hg h
    | gt =>
      obtain ⟨a, r, rfl, h⟩ := zi1_e h
      refine zg_if_gt hd hk2 ?_
      have h : (if 0 < a then _ else _ : Prop) := h
      by_cases hc : 0 < a
      · rw [if_pos hc] at h ⊢
        exact hg h
      · rw [if_neg hc] at h ⊢
        exact hg h
    | le =>
      obtain ⟨a, r, rfl, h⟩ := zi1_e h
      refine zg_if_le hd hk2 ?_
      have h : (if a ≤ 0 then _ else _ : Prop) := h
      by_cases hc : a ≤ 0
      · rw [if_pos hc] at h ⊢
        exact hg h
      · rw [if_neg hc] at h ⊢
        exact hg h
  | goto off =>
    obtain rfl : n = 3 := by simpa [zlen] using hn
    exact zg_goto hd (of_decide_eq_true hk) (hg h)
  | ifnull off =>
    obtain rfl : n = 3 := by simpa [zlen] using hn
    rcases zrn_e h with ⟨x, r, rfl, h⟩ | ⟨r, rfl, h⟩
    · exact zg_ifnull hd (hg h)
    · exact zg_ifnullN hd (of_decide_eq_true hk) (hg h)
  | ifnonnull off =>
    obtain rfl : n = 3 := by simpa [zlen] using hn
    rcases zrn_e h with ⟨x, r, rfl, h⟩ | ⟨r, rfl, h⟩
    · exact zg_ifnonnull hd (of_decide_eq_true hk) (hg h)
    · exact zg_ifnonnullN hd (hg h)
  | lookupswitch dflt ps =>
    obtain ⟨x, r, rfl, h⟩ := zi1_e h
    have hk : ((ps.toList.zip (ps.toList.drop 1)).all (fun (a, next) => a.1 < next.1) && decide (0 ≤ (pc : Int) + dflt) && ps.toList.all (fun q => decide (0 ≤ (pc : Int) + q.2))) = true := hk
    rw [Bool.and_eq_true, Bool.and_eq_true, decide_eq_true_eq] at hk
    obtain ⟨⟨k1, k2⟩, k3⟩ := hk
    obtain ⟨h1, h2⟩ := zlsw_e h
    refine zg_lookup hd k1 ?_ (hg h1)
    have : 0 ≤ (pc : Int) + Op.lookupswitch.offset ps.toList dflt x.toInt := by
      rcases h2 with h2 | ⟨q, hq, h2⟩
      · rw [h2]; exact k2
      · rw [← h2]; exact of_decide_eq_true (List.all_eq_true.mp k3 q hq)
    omega
  | tableswitch dflt lo hi offs =>
    obtain ⟨x, r, rfl, h⟩ := zi1_e h
    have hk : (decide (0 ≤ (pc : Int) + dflt) && offs.toList.all (fun q => decide (0 ≤ (pc : Int) + q)) && decide (hi - lo + 1 = (offs.size : Int))) = true := hk
    rw [Bool.and_eq_true, Bool.and_eq_true, decide_eq_true_eq] at hk
    obtain ⟨⟨k1, k2⟩, k3⟩ := hk
    have h : (if x.toInt < lo ∨ hi < x.toInt then _ else _ : Prop) := h
    by_cases hx : x.toInt < lo ∨ hi < x.toInt
    · rw [if_pos hx] at h
      exact zg_tableOut hd hx (by omega) (hg h)
    · rw [if_neg hx] at h
      obtain ⟨off, h1, h2, h⟩ := ztsw_e (by omega) h
      have h3 : 0 ≤ (pc : Int) + off := of_decide_eq_true (List.all_eq_true.mp k2 off h2)
      exact zg_tableIn hd (by omega) (by omega) (by rw [← Array.getElem?_toList]; exact h1) (by omega) (hg h)
  | return_ =>
    obtain rfl : n = 1 := by simpa [zlen] using hn
    obtain ⟨⟨h1, rfl⟩, hh⟩ := zfF h
    exact zg_vret hd h1 hh
  | ireturn =>
    obtain rfl : n = 1 := by simpa [zlen] using hn
    obtain ⟨v, r, rfl, h⟩ := zi1_e h
    obtain ⟨rfl, h⟩ := zfF h
    obtain ⟨t, h1, h⟩ := zret_e h
    obtain ⟨h2, h⟩ := zfF h
    exact zg_iret hd h1 (zfi_n h2).1 h
  | lreturn =>
    obtain rfl : n = 1 := by simpa [zlen] using hn
    obtain ⟨v, r, rfl, h⟩ := zl1_e h
    obtain ⟨⟨rfl, h1⟩, hh⟩ := zfF h
    exact zg_lret hd h1 hh
  | areturn =>
    obtain rfl : n = 1 := by simpa [zlen] using hn
    obtain ⟨h1, h⟩ := zfF h
    have hr : ∃ rt, (mt y).2.2.2.1 = some rt ∧ ((∃ n, rt = .object n) ∨ ∃ t, rt = .array t) := by
      unfold zretr at h1
      split at h1
      · rename_i n e
        exact ⟨_, e, Or.inl ⟨n, rfl⟩⟩
      · rename_i n e
        exact ⟨_, e, Or.inr ⟨n, rfl⟩⟩
      · cases h1
    obtain ⟨rt, r1, r2⟩ := hr
    rcases zrn_e h with ⟨x, r, rfl, h⟩ | ⟨r, rfl, h⟩
    · obtain ⟨rfl, h⟩ := zfF h
      exact zg_aret (v := some x) hd r1 r2 h
    · obtain ⟨rfl, h⟩ := zfF h
      exact zg_aret (v := none) hd r1 r2 h
  | getfield i =>
    obtain rfl : n = 3 := by simpa [zlen] using hn
    obtain ⟨k, r, rfl, h⟩ := zr0_e h
    by_cases hA : A = 30
    · have hk : (if A = 30 then _ else _ : Bool) = true := hk
      rw [if_pos hA, Bool.and_eq_true, decide_eq_true_eq, decide_eq_true_eq] at hk
      have h : (if A = 30 then _ else _ : Prop) := h
      rw [if_pos hA] at h
      obtain ⟨rfl, h⟩ := zfF h
      exact zg_getS hd hk.1 (List.mem_of_getElem? hk.2) (hg h)
    · have hk : (if A = 30 then _ else _ : Bool) = true := hk
      rw [if_neg hA, Bool.and_eq_true, Bool.and_eq_true, Bool.and_eq_true, decide_eq_true_eq, decide_eq_true_eq, decide_eq_true_eq, decide_eq_true_eq] at hk
      have h : (if A = 30 then _ else _ : Prop) := h
      rw [if_neg hA] at h
      obtain ⟨h1, h⟩ := zfF h
      exact zg_getfield zWcl hd (List.mem_of_getElem? hk.2) hk.1.1.1 hk.1.1.2 hk.1.2 h1 (hg h)
  | putfield i =>
    obtain rfl : n = 3 := by simpa [zlen] using hn
    have hk : (decide (A < 13) && decide (B < cN A) && decide ((cT A B).1 = cR A) && decide (lw_tbl[PL]? = some (.fieldLink (mt y).1.cls i (cR A) (cT A B).2.1 (cT A B).2.2.1)) && (decide ((cT A B).2.2.2 = false) || (decide ((mt y).1.name = "<init>") && decide ((mt y).1.cls = cR A)))) = true := hk
    simp only [Bool.and_eq_true, Bool.or_eq_true, decide_eq_true_eq] at hk
    obtain ⟨⟨⟨⟨k1, k2⟩, k3⟩, k4⟩, k5⟩ := hk
    have k4 := List.mem_of_getElem? k4
    rcases zpf_e h with ⟨k, v, r, rfl, h⟩ | ⟨k, v, r, rfl, h⟩ | ⟨k, v, r, rfl, h⟩
    · obtain ⟨⟨h1, h2⟩, h⟩ := zfF h
      obtain ⟨g1, g2, g3⟩ := zfi_n h2
      exact zg_putI zWcl hd k4 k1 k2 k3 k5 h1 g3 g1 g2 (hg h)
    · obtain ⟨⟨h1, h2⟩, h⟩ := zfF h
      exact zg_putJ zWcl hd k4 k1 k2 k3 k5 h1 h2 (hg h)
    · obtain ⟨⟨h1, h2⟩, h⟩ := zfF h
      exact zg_putP zWcl hd k4 k1 k2 k3 k5 h1 h2 (hg h)
  | getstatic i =>
    obtain rfl : n = 3 := by simpa [zlen] using hn
    have hk : (decide (A < 5) && (if B = 0 then decide (lw_tbl[PL]? = some (.fieldLink (mt y).1.cls i (zstat A).1 (zstat A).2.1 (zstat A).2.2.1)) else decide (lw_tbl[PL]? = some (.fieldLinkNest (mt y).1.cls i (zstat A).1 (zstat A).2.1 (zstat A).2.2.1 "TrackVotes")))) = true := hk
    rw [Bool.and_eq_true, decide_eq_true_eq] at hk
    refine zg_getstatic hd hk.1 ?_ (hg h)
    by_cases hB : B = 0
    · rw [if_pos hB, decide_eq_true_eq] at hk
      exact Or.inl (List.mem_of_getElem? hk.2)
    · rw [if_neg hB, decide_eq_true_eq] at hk
      exact Or.inr ⟨_, List.mem_of_getElem? hk.2⟩
  | ldc i =>
    obtain rfl : n = 2 := by simpa [zlen] using hn
    by_cases hA : A = 0
    · have hk : (if A = 0 then _ else _ : Bool) = true := hk
      rw [if_pos hA, decide_eq_true_eq] at hk
      have h : (if A = 0 then _ else _ : Prop) := h
      rw [if_pos hA] at h
      exact zg_ldc hd (List.mem_of_getElem? hk) (hg h)
    · have hk : (if A = 0 then _ else _ : Bool) = true := hk
      rw [if_neg hA, decide_eq_true_eq] at hk
      have h : (if A = 0 then _ else _ : Prop) := h
      rw [if_neg hA] at h
      exact zg_ldcS hd hk (hg h)
  | ldc_w i =>
    obtain rfl : n = 3 := by simpa [zlen] using hn
    by_cases hA : A = 0
    · have hk : (if A = 0 then _ else _ : Bool) = true := hk
      rw [if_pos hA, decide_eq_true_eq] at hk
      have h : (if A = 0 then _ else _ : Prop) := h
      rw [if_pos hA] at h
      exact zg_ldc_w hd (List.mem_of_getElem? hk) (hg h)
    · have hk : (if A = 0 then _ else _ : Bool) = true := hk
      rw [if_neg hA, decide_eq_true_eq] at hk
      have h : (if A = 0 then _ else _ : Prop) := h
      rw [if_neg hA] at h
      exact zg_ldcwS hd hk (hg h)
  | ldc2_w i =>
    obtain rfl : n = 3 := by simpa [zlen] using hn
    exact zg_ldc2 hd (List.mem_of_getElem? (of_decide_eq_true hk)) (hg h)
  | iaload =>
    obtain rfl : n = 1 := by simpa [zlen] using hn
    obtain ⟨k, i, r, rfl, h⟩ := zae_e h
    have h : (if k = 0 then _ else _ : Prop) := h
    by_cases h0 : k = 0
    · subst h0
      rw [if_pos rfl] at h
      obtain ⟨h2, h⟩ := zfF (show (if zixB i X.2.2.2.2.2.1 = true then _ else False) from h)
      exact zg_scload hd (zixB_in h2) (hg h)
    rw [if_neg h0] at h
    obtain ⟨⟨h1, h2⟩, h⟩ := zfF h
    exact zg_iaload hd h1 (zixB_in h2) (hg h)
  | baload =>
    obtain rfl : n = 1 := by simpa [zlen] using hn
    obtain ⟨k, i, r, rfl, h⟩ := zae_e h
    obtain ⟨⟨h1, h2⟩, h⟩ := zfF h
    exact zg_baload hd h1 (zixB_in h2) (hg h)
  | laload =>
    obtain rfl : n = 1 := by simpa [zlen] using hn
    obtain ⟨k, i, r, rfl, h⟩ := zae_e h
    obtain ⟨⟨h1, h2⟩, h⟩ := zfF h
    exact zg_laload hd h1 (zixB_in h2) (hg h)
  | aaload =>
    obtain rfl : n = 1 := by simpa [zlen] using hn
    obtain ⟨k, i, r, rfl, h⟩ := zae_e h
    obtain ⟨⟨h1, h2⟩, h⟩ := zfF h
    exact zg_aaload hd h1 (zixB_in h2) (hg h)
  | iastore =>
    obtain rfl : n = 1 := by simpa [zlen] using hn
    obtain ⟨k, i, v, r, rfl, h⟩ := zsi_e h
    obtain ⟨⟨h0, h1, h2⟩, h⟩ := zfF h
    exact zg_iastore hd h0 h1 (zixB_in h2) (hg h)
  | bastore =>
    obtain rfl : n = 1 := by simpa [zlen] using hn
    obtain ⟨k, i, v, r, rfl, h⟩ := zsi_e h
    obtain ⟨⟨h0, h2⟩, h⟩ := zfF h
    by_cases h1 : (zK M k).1 = 21
    · rw [if_pos h1] at h
      exact zg_bastore hd h0 h1 (zixB_in h2) (hg h)
    · rw [if_neg h1] at h
      obtain ⟨h3, h⟩ := zfF h
      exact zg_zastore hd h0 h3 (zixB_in h2) (hg h)
  | lastore =>
    obtain rfl : n = 1 := by simpa [zlen] using hn
    obtain ⟨k, i, v, r, rfl, h⟩ := zsl_e h
    obtain ⟨⟨h1, h2⟩, h⟩ := zfF h
    exact zg_lastore hd h1 (zixB_in h2) (hg h)
  | aastore =>
    obtain rfl : n = 1 := by simpa [zlen] using hn
    obtain ⟨k, i, v, r, rfl, h⟩ := zsp_e h
    obtain ⟨⟨h1, h2⟩, h⟩ := zfF h
    rcases h1 with ⟨e1, e2⟩ | ⟨e1, e2⟩
    · exact zg_aastore hd (Or.inl ⟨e1, rfl⟩) e2 (zixB_in h2) (hg h)
    · exact zg_aastore hd (Or.inr ⟨e1, rfl⟩) e2 (zixB_in h2) (hg h)
  | arraylength =>
    obtain rfl : n = 1 := by simpa [zlen] using hn
    obtain ⟨k, r, rfl, h⟩ := zr0_e h
    have h : (if k = 0 then _ else _ : Prop) := h
    by_cases h0 : k = 0
    · subst h0
      rw [if_pos rfl] at h
      exact zg_sclen hd (hg h)
    rw [if_neg h0] at h
    obtain ⟨h1, h⟩ := zfF h
    exact zg_alen hd h1 (hg h)
  | new i =>
    obtain rfl : n = 3 := by simpa [zlen] using hn
    obtain ⟨⟨h1, h2⟩, h⟩ := zfF h
    have hk : (decide (A < 13) && decide (lw_tbl[PL]? = some (.classLink (mt y).1.cls i (cR A)))) = true := hk
    rw [Bool.and_eq_true, decide_eq_true_eq, decide_eq_true_eq] at hk
    have h3 := zg_new zWcl hd hk.1 (List.mem_of_getElem? hk.2) (zinst A hk.1) (zinit A hk.1) (zfd A hk.1) (hg h)
    rw [show kc - 1 + 1 = kc by omega, show ks - cN A + cN A = ks by omega] at h3
    exact h3
  | newarray t =>
    obtain rfl : n = 2 := by simpa [zlen] using hn
    obtain ⟨v, r, rfl, h⟩ := zi1_e h
    obtain ⟨⟨h1, h2, h3⟩, h⟩ := zfF h
    have hk := of_decide_eq_true (p := (A = 20 ∧ t = .int) ∨ (A = 21 ∧ t = .byte) ∨ (A = 22 ∧ t = .boolean) ∨ (A = 23 ∧ t = .long)) hk
    have h4 := zixB_in h3
    have hl : Cond.arrayClass (newarray.typeOf t) ∈ lw_tbl := by
      rcases hk with ⟨-, rfl⟩ | ⟨-, rfl⟩ | ⟨-, rfl⟩ | ⟨-, rfl⟩
      · exact zar_int
      · exact zar_byte
      · exact zar_boolean
      · exact zar_long
    have h5 := zg_newarray hd hk hl (fun q => h4 (Or.inl q)) (Nat.le_of_lt (zvlt h4)) (hg h)
    rw [show kc - 1 + 1 = kc by omega, show ks - v.toNatClampNeg + v.toNatClampNeg = ks by omega] at h5
    exact h5
  | anewarray i =>
    obtain rfl : n = 3 := by simpa [zlen] using hn
    obtain ⟨v, r, rfl, h⟩ := zi1_e h
    obtain ⟨⟨h1, h2, h3⟩, h⟩ := zfF h
    have hk : ((decide (A = 24) && decide (lw_tbl[PL]? = some (.classLink (mt y).1.cls i "TrackVotes$State"))) || (decide (A = 25) && decide (lw_tbl[PL]? = some (.classLink (mt y).1.cls i "TrackVotes$Track")))) = true := hk
    simp only [Bool.and_eq_true, Bool.or_eq_true, decide_eq_true_eq] at hk
    have h4 := zixB_in h3
    have key : ∃ C, ((A = 24 ∧ C = "TrackVotes$State") ∨ (A = 25 ∧ C = "TrackVotes$Track")) ∧ Cond.classLink (mt y).1.cls i C ∈ lw_tbl := by
      rcases hk with ⟨e1, e2⟩ | ⟨e1, e2⟩
      · exact ⟨_, Or.inl ⟨e1, rfl⟩, List.mem_of_getElem? e2⟩
      · exact ⟨_, Or.inr ⟨e1, rfl⟩, List.mem_of_getElem? e2⟩
    obtain ⟨C, g1, g2⟩ := key
    have h5 := zg_anewarray hd g1 g2 (fun q => h4 (Or.inl q)) (Nat.le_of_lt (zvlt h4)) (hg h)
    rw [show kc - 1 + 1 = kc by omega, show ks - v.toNatClampNeg + v.toNatClampNeg = ks by omega] at h5
    exact h5
  | checkcast i =>
    obtain rfl : n = 3 := by simpa [zlen] using hn
    obtain ⟨k, r, rfl, h⟩ := zr0_e h
    obtain ⟨⟨h1, h2⟩, h⟩ := zfF h
    exact zg_cast hd (List.mem_of_getElem? (of_decide_eq_true hk)) h1 h2 (hg h)
  | invokevirtual i =>
    obtain rfl : n = 3 := by simpa [zlen] using hn
    have hk : (if B = 7 then decide (lw_tbl[PL]? = some (.methodLink (mt y).1.cls i ⟨"[I", "clone", "()Ljava/lang/Object;"⟩)) else if B = 0 then decide (A < 350) && decide ((mt A).2.2.2.2.2.2.2.1 < 100000) && decide (lw_tbl[PL]? = some (.methodLink (mt y).1.cls i (mt A).1)) else true : Bool) = true := hk
    by_cases h7 : B = 7
    · rw [if_pos h7, decide_eq_true_eq] at hk
      have h : (if B = 7 then _ else _ : Prop) := h
      rw [if_pos h7] at h
      obtain ⟨k, r, rfl, h⟩ := zr0_e h
      obtain ⟨⟨rfl, h1, h2, h3, h4⟩, hh⟩ := zfF h
      have h5 := zg_clone hd (List.mem_of_getElem? hk) zcl1 zcl2 zcl3 zcl4 zcl5 h3 h4 (hg hh)
      rw [show kc - 1 + 1 = kc by omega, show ks - 9 + 9 = ks by omega] at h5
      exact h5
    · rw [if_neg h7] at hk
      have h : (if B = 7 then _ else _ : Prop) := h
      rw [if_neg h7] at h
      obtain ⟨⟨h0, h1⟩, h⟩ := zfF h
      rw [if_pos h0, Bool.and_eq_true, Bool.and_eq_true, decide_eq_true_eq, decide_eq_true_eq, decide_eq_true_eq] at hk
      obtain ⟨⟨k1, k2⟩, k3⟩ := hk
      obtain ⟨k, as, e1, h⟩ := zrcv_e h
      obtain ⟨h2, h⟩ := zfF h
      obtain ⟨⟨c1, c2⟩, ⟨c3, c4⟩, c5⟩ := zcl_e hf k1 h
      obtain ⟨v1, v2, v3⟩ := zmV k1 k2
      rw [e1] at c5
      have hlen : as.length + 1 = zna A := by
        have := congrArg List.length e1
        rw [List.length_reverse, List.length_take] at this
        simp at this
        omega
      have h5 := zg_callV hd (zmo_of k1 (Or.inr ⟨by omega, hlen⟩)) (List.mem_of_getElem? k3) v1 v2 (zmR k1 h2) c2 c1 c5
      rw [c3, c4] at h5
      have e2 : as.reverse ++ Value.ref k :: st.drop (zna A) = st := by
        have e3 : st.take (zna A) = as.reverse ++ [.ref k] := by
          rw [← List.reverse_reverse (st.take (zna A)), e1, List.reverse_cons]
        have e4 := List.take_append_drop (zna A) st
        rw [e3, List.append_assoc] at e4
        exact e4
      rw [e2] at h5
      exact h5
  | invokestatic i =>
    obtain rfl : n = 3 := by simpa [zlen] using hn
    have hk : (if B = 6 then decide (lw_tbl[PL]? = some (.methodLink (mt y).1.cls i arraycopyName)) else if B = 1 then decide (A < 350) && decide ((mt A).2.2.2.2.2.2.2.1 = 100000) && decide (lw_tbl[PL]? = some (.methodLink (mt y).1.cls i (mt A).1)) else if B = 2 then decide (A < 350) && decide ((mt A).2.2.2.2.2.2.2.1 = 100000) && decide (lw_tbl[PL]? = some (.methodLinkNest (mt y).1.cls i (mt A).1 "TrackVotes")) else true : Bool) = true := hk
    by_cases h6 : B = 6
    · rw [if_pos h6, decide_eq_true_eq] at hk
      have h : (if B = 6 then _ else _ : Prop) := h
      rw [if_pos h6] at h
      obtain ⟨v, dp, b, sp, a, r, rfl, h⟩ := zcp_e h
      obtain ⟨⟨h1, h2, h3, h4, h5, h7, h8, h9, h10, h11, h12, h13⟩, h⟩ := zfF h
      have n1 := znn sp (z0 h7)
      have n2 := znn dp (z0 h8)
      have n3 := znn v (z0 h9)
      exact zg_copy hd (List.mem_of_getElem? hk) zac1 zac2 zac3 ⟨h1, h2⟩ h3 ⟨h4, h5⟩ (z0 h7) (z0 h8) (z0 h9) (by omega) (by omega) h12 h13 (hg h)
    · rw [if_neg h6] at hk
      have h : (if B = 6 then _ else _ : Prop) := h
      rw [if_neg h6] at h
      obtain ⟨⟨h0, h1⟩, h⟩ := zfF h
      have e2 : ((st.take (zna A)).reverse).reverse ++ st.drop (zna A) = st := by rw [List.reverse_reverse]; exact List.take_append_drop _ _
      have hlen : ((st.take (zna A)).reverse).length = zna A := by rw [List.length_reverse, List.length_take]; omega
      rcases h0 with h0 | h0
      · rw [if_pos h0, Bool.and_eq_true, Bool.and_eq_true, decide_eq_true_eq, decide_eq_true_eq, decide_eq_true_eq] at hk
        obtain ⟨⟨k1, k2⟩, k3⟩ := hk
        obtain ⟨⟨c1, c2⟩, ⟨c3, c4⟩, c5⟩ := zcl_e hf k1 h
        have h5 := zg_callS hd (zmo_of k1 (Or.inl ⟨k2, hlen⟩)) (List.mem_of_getElem? k3) (zmS k1 k2) c2 c1 c5
        rw [c3, c4, e2] at h5
        exact h5
      · rw [if_neg (by omega), if_pos h0, Bool.and_eq_true, Bool.and_eq_true, decide_eq_true_eq, decide_eq_true_eq, decide_eq_true_eq] at hk
        obtain ⟨⟨k1, k2⟩, k3⟩ := hk
        obtain ⟨⟨c1, c2⟩, ⟨c3, c4⟩, c5⟩ := zcl_e hf k1 h
        have h5 := zg_callSN hd (zmo_of k1 (Or.inl ⟨k2, hlen⟩)) (List.mem_of_getElem? k3) (zmS k1 k2) c2 c1 c5
        rw [c3, c4, e2] at h5
        exact h5
  | invokespecial i =>
    obtain rfl : n = 3 := by simpa [zlen] using hn
    have hk : (if B = 5 then decide (lw_tbl[PL]? = some (.methodLink (mt y).1.cls i objectInit)) else if B = 3 then decide (A < 350) && decide ((mt A).2.2.2.2.2.2.2.1 = 100001) && decide (lw_tbl[PL]? = some (.methodLink (mt y).1.cls i (mt A).1)) else if B = 4 then decide (A < 350) && decide ((mt A).2.2.2.2.2.2.2.1 = 100001) && decide (lw_tbl[PL]? = some (.methodLinkNest (mt y).1.cls i (mt A).1 "TrackVotes")) else true : Bool) = true := hk
    by_cases h6 : B = 5
    · rw [if_pos h6, decide_eq_true_eq] at hk
      have h : (if B = 5 then _ else _ : Prop) := h
      rw [if_pos h6] at h
      obtain ⟨k, r, rfl, h⟩ := zr0_e h
      obtain ⟨⟨h1, h2⟩, h⟩ := zfF h
      exact zg_objInit hd (List.mem_of_getElem? hk) zoi1 zoi2 h1 h2 (hg h)
    · rw [if_neg h6] at hk
      have h : (if B = 5 then _ else _ : Prop) := h
      rw [if_neg h6] at h
      obtain ⟨⟨h0, h1⟩, h⟩ := zfF h
      obtain ⟨k, as, e1, h⟩ := zrcv_e h
      have hlen : as.length + 1 = zna A := by
        have := congrArg List.length e1
        rw [List.length_reverse, List.length_take] at this
        simp at this
        omega
      have e2 : as.reverse ++ Value.ref k :: st.drop (zna A) = st := by
        have e3 : st.take (zna A) = as.reverse ++ [.ref k] := by
          rw [← List.reverse_reverse (st.take (zna A)), e1, List.reverse_cons]
        have e4 := List.take_append_drop (zna A) st
        rw [e3, List.append_assoc] at e4
        exact e4
      rcases h0 with h0 | h0
      · rw [if_pos h0, Bool.and_eq_true, Bool.and_eq_true, decide_eq_true_eq, decide_eq_true_eq, decide_eq_true_eq] at hk
        obtain ⟨⟨k1, k2⟩, k3⟩ := hk
        obtain ⟨⟨c1, c2⟩, ⟨c3, c4⟩, c5⟩ := zcl_e hf k1 h
        obtain ⟨v1, v2, v3, v4⟩ := zmI k1 k2
        rw [e1] at c5
        have h5 := zg_callI hd (zmo_of k1 (Or.inr ⟨by omega, hlen⟩)) (List.mem_of_getElem? k3) v1 v2 v3 c2 c1 c5
        rw [c3, c4, e2] at h5
        exact h5
      · rw [if_neg (by omega), if_pos h0, Bool.and_eq_true, Bool.and_eq_true, decide_eq_true_eq, decide_eq_true_eq, decide_eq_true_eq] at hk
        obtain ⟨⟨k1, k2⟩, k3⟩ := hk
        obtain ⟨⟨c1, c2⟩, ⟨c3, c4⟩, c5⟩ := zcl_e hf k1 h
        obtain ⟨v1, v2, v3, v4⟩ := zmI k1 k2
        rw [e1] at c5
        have h5 := zg_callIN hd (zmo_of k1 (Or.inr ⟨by omega, hlen⟩)) (List.mem_of_getElem? k3) v1 v2 v3 c2 c1 c5
        rw [c3, c4, e2] at h5
        exact h5
  | _ => exact (show False from h).elim
