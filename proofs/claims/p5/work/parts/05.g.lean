def TBL : List (List (Nat × gE)) := TB0 ++ (TB1 ++ (TB2 ++ (TB3 ++ (TB4 ++ (TB5 ++ (TB6 ++ (TB7 ++ (TB8 ++ (TB9)))))))))
theorem zTBL : zall 0 TBL := zall_app zTB0 (zall_app zTB1 (zall_app zTB2 (zall_app zTB3 (zall_app zTB4 (zall_app zTB5 (zall_app zTB6 (zall_app zTB7 (zall_app zTB8 (zTB9)))))))))
/-- the instruction at a place of a method -/
def zT (y pc : Nat) : Option gE := (TBL.getD y []).lookup pc
theorem zlookup {α : Type} : ∀ {t : List (Nat × α)} {k : Nat} {e : α}, t.lookup k = some e → (k, e) ∈ t
  | [], _, _, h => by cases h
  | (j, w) :: r, k, e, h => by
    by_cases q : k = j
    · subst q
      simp at h
      subst h
      exact List.mem_cons_self
    · have e2 : (k == j) = false := by simpa using q
      simp only [List.lookup, e2] at h
      exact List.mem_cons_of_mem _ (zlookup h)
theorem zT_ok {y pc : Nat} {e : gE} (h : zT y pc = some e) : zdc y pc e.1 e.2.1 ∧ zlen e.1 e.2.1 = true ∧ zlk y pc e.1 e.2.2.1 e.2.2.2.1 e.2.2.2.2.1 e.2.2.2.2.2 = true := by
  unfold zT at h
  have hm := zlookup h
  cases ht : TBL[y]? with
  | none =>
    rw [List.getD_eq_getElem?_getD, ht] at hm
    exact absurd hm (by simp)
  | some t =>
    rw [List.getD_eq_getElem?_getD, ht] at hm
    have h1 := List.all_eq_true.mp (zall_at zTBL ht) _ hm
    rw [Nat.zero_add] at h1
    unfold zchk at h1
    rw [Bool.and_eq_true, Bool.and_eq_true, decide_eq_true_eq] at h1
    exact ⟨h1.1.1, h1.1.2, h1.2⟩
/-- one instruction, wherever it stands -/
def zS {ρ : Type} (sc : Option (Nat × (Nat → Int32))) (bad : ρ) (call : Nat → Nat → Nat → Nat → List Value → zM → (Option Value → zM → ρ) → ρ) (inl : Nat → Bool) (f : zF ρ) : zF ρ := fun d kc ks y pc ls st M Q => match zT y pc with
  | some (ins, _, A, B, V, _) => zSt sc bad call inl f d kc ks y pc ls st M Q ins A B V
  | none => bad
/-- n instructions at most, up to a place where it stops -/
def zG (X : zX) (l : Launch) (inl : Nat → Bool) (stp : Nat → Nat → Bool) : Nat → zF Prop
  | 0 => fun d kc ks y pc ls st M Q => zGo X l d kc ks y pc ls st M Q
  | n + 1 => fun d kc ks y pc ls st M Q => if stp y pc = true then zGo X l d kc ks y pc ls st M Q else zS (some X.2.2.2.2.2) False (zCall X l) inl (zG X l inl stp n) d kc ks y pc ls st M Q
theorem zS_ok {X : zX} {l : Launch} {inl : Nat → Bool} {f : zF Prop} {d kc ks y pc : Nat} {ls : List (Nat × Value)} {st : List Value} {M : zM} {Q : Option Value → zM → Prop} (hf : ∀ d kc ks y pc ls st M Q, f d kc ks y pc ls st M Q → zGo X l d kc ks y pc ls st M Q) (h : zS (some X.2.2.2.2.2) False (zCall X l) inl f d kc ks y pc ls st M Q) : zGo X l d kc ks y pc ls st M Q := by
  unfold zS at h
  split at h
  · rename_i ins n A B V PL e
    obtain ⟨h1, h2, h3⟩ := zT_ok e
    exact zSt_ok hf h1 h2 h3 h
  · exact h.elim
theorem zG_ok {X : zX} {l : Launch} {inl : Nat → Bool} {stp : Nat → Nat → Bool} : ∀ (n d kc ks y pc : Nat) (ls : List (Nat × Value)) (st : List Value) (M : zM) (Q : Option Value → zM → Prop), zG X l inl stp n d kc ks y pc ls st M Q → zGo X l d kc ks y pc ls st M Q
  | 0, d, kc, ks, y, pc, ls, st, M, Q, h => h
  | n + 1, d, kc, ks, y, pc, ls, st, M, Q, h => by
    unfold zG at h
    by_cases hs : stp y pc = true
    · rw [if_pos hs] at h
      exact h
    · rw [if_neg hs] at h
      exact zS_ok (fun d kc ks y pc ls st M Q q => zG_ok n d kc ks y pc ls st M Q q) h
/-- a walk: its first instruction whatever 'stp' says -/
theorem zgo {X : zX} {l : Launch} (inl : Nat → Bool) (stp : Nat → Nat → Bool) (n : Nat) {d kc ks y pc : Nat} {ls : List (Nat × Value)} {st : List Value} {M : zM} {Q : Option Value → zM → Prop} (h : zS (some X.2.2.2.2.2) False (zCall X l) inl (zG X l inl stp n) d kc ks y pc ls st M Q) : zGo X l d kc ks y pc ls st M Q := zS_ok (fun d kc ks y pc ls st M Q q => zG_ok n d kc ks y pc ls st M Q q) h
/-- the evaluator over Bool: runs calls whole -/
def zGB : Nat → zF Bool
  | 0 => fun _ _ _ _ _ _ _ _ _ => false
  | n + 1 => fun d kc ks y pc ls st M Q => zS none false znc (fun _ => true) (zGB n) d kc ks y pc ls st M Q
theorem zS_b {X : zX} {l : Launch} {inl : Nat → Bool} {f : zF Bool} {g : zF Prop} {d kc ks y pc : Nat} {ls : List (Nat × Value)} {st : List Value} {M : zM} {Qb : Option Value → zM → Bool} {Q : Option Value → zM → Prop} (hQ : ∀ r M', Qb r M' = true → Q r M') (hf : ∀ d kc ks y pc ls st M Qb Q, (∀ r M', Qb r M' = true → Q r M') → f d kc ks y pc ls st M Qb = true → g d kc ks y pc ls st M Q) (h : zS none false znc inl f d kc ks y pc ls st M Qb = true) : zS (some X.2.2.2.2.2) False (zCall X l) inl g d kc ks y pc ls st M Q := by
  unfold zS at h ⊢
  cases e : zT y pc with
  | none => rw [e] at h; cases h
  | some q => rw [e] at h; exact zSt_b hQ hf h
theorem zGB_ok {X : zX} {l : Launch} : ∀ (n d kc ks y pc : Nat) (ls : List (Nat × Value)) (st : List Value) (M : zM) (Qb : Option Value → zM → Bool) (Q : Option Value → zM → Prop), (∀ r M', Qb r M' = true → Q r M') → zGB n d kc ks y pc ls st M Qb = true → zGo X l d kc ks y pc ls st M Q
  | 0, d, kc, ks, y, pc, ls, st, M, Qb, Q, hQ, h => by cases h
  | n + 1, d, kc, ks, y, pc, ls, st, M, Qb, Q, hQ, h => by
    have h : zS none false znc (fun _ => true) (zGB n) d kc ks y pc ls st M Qb = true := h
    exact zS_ok (X := X) (l := l) (inl := fun _ => true) (fun d kc ks y pc ls st M Q q => q) (zS_b (X := X) (l := l) hQ (g := fun d kc ks y pc ls st M Q => zGo X l d kc ks y pc ls st M Q) (fun d kc ks y pc ls st M Qb Q hQ q => zGB_ok n d kc ks y pc ls st M Qb Q hQ q) h)
/-- a whole call, run -/
def zRun (n y : Nat) (as : List Value) (M : zM) (Q : Option Value → zM → Bool) : Bool := decide (y < 350) && decide (zwd as ≤ (mt y).2.2.1) && zGB n (zdp y 30) (zac y) (zas y) y 0 (lv_args 0 as) [] M Q
theorem zRun_ok {X : zX} {l : Launch} {n y : Nat} {as : List Value} {M : zM} {Qb : Option Value → zM → Bool} (h : zRun n y as M Qb = true) : zCall X l (zdp y 30) (zac y) (zas y) y as M (fun r M' => Qb r M' = true) := by
  unfold zRun at h
  rw [Bool.and_eq_true, Bool.and_eq_true, decide_eq_true_eq, decide_eq_true_eq] at h
  exact zintro (zmP h.1.1) h.1.2 (zGB_ok n _ _ _ _ _ _ _ _ Qb _ (fun _ _ q => q) h.2)
