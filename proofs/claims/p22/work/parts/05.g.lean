def TBL : List (List (Nat × gE)) := TB0 ++ (TB1 ++ (TB2 ++ (TB3 ++ (TB4 ++ (TB5 ++ (TB6 ++ (TB7 ++ (TB8 ++ (TB9)))))))))
theorem zTBL : zall 0 TBL := zall_app zTB0 (zall_app zTB1 (zall_app zTB2 (zall_app zTB3 (zall_app zTB4 (zall_app zTB5 (zall_app zTB6 (zall_app zTB7 (zall_app zTB8 (zTB9)))))))))
/-- the instruction at a place of a method -/
def zT (y pc : Nat) : Option gE := (TBL.getD y []).lookup pc
theorem zlookup {α : Type} : ∀ {t : List (Nat × α)} {k : Nat} {e : α}, t.lookup k = some e → (k, e) ∈ t
  | [], _, _, h => by cases h
  | (j, w) :: r, k, e, h => by
    by_cases q : k = j
    · subst q
      simp at h
      subst h
      exact List.mem_cons_self
    · have e2 : (k == j) = false := by simpa using q
      simp only [List.lookup, e2] at h
      exact List.mem_cons_of_mem _ (zlookup h)
theorem zT_ok {y pc : Nat} {e : gE} (h : zT y pc = some e) : zdc y pc e.1 e.2.1 ∧ zlen e.1 e.2.1 = true ∧ zlk y pc e.1 e.2.2.1 e.2.2.2.1 e.2.2.2.2.1 e.2.2.2.2.2 = true := by
  unfold zT at h
  have hm := zlookup h
  cases ht : TBL[y]? with
  | none =>
    rw [List.getD_eq_getElem?_getD, ht] at hm
    exact absurd hm (by simp)
  | some t =>
    rw [List.getD_eq_getElem?_getD, ht] at hm
    have h1 := List.all_eq_true.mp (zall_at zTBL ht) _ hm
    rw [Nat.zero_add] at h1
    unfold zchk at h1
    rw [Bool.and_eq_true, Bool.and_eq_true, decide_eq_true_eq] at h1
    exact ⟨h1.1.1, h1.1.2, h1.2⟩
/-- one instruction, wherever it stands -/
def zS {ρ : Type} (sc : Option (Nat × (Nat → Int32))) (bad : ρ) (call : Nat → Nat → Nat → Nat → List Value → zM → (Option Value → zM → ρ) → ρ) (inl : Nat → Bool) (f : zF ρ) : zF ρ := fun d kc ks y pc ls st M Q => match zT y pc with
  | some (ins, _, A, B, V, _) => zSt sc bad call inl f d kc ks y pc ls st M Q ins A B V
  | none => bad
theorem zS_ok {X : zX} {l : Launch} {inl : Nat → Bool} {f : zF Prop} {d kc ks y pc : Nat} {ls : List (Nat × Value)} {st : List Value} {M : zM} {Q : Option Value → zM → Prop} (hf : ∀ d kc ks y pc ls st M Q, f d kc ks y pc ls st M Q → zGo X l d kc ks y pc ls st M Q) (h : zS (some X.2.2.2.2.2) False (zCall X l) inl f d kc ks y pc ls st M Q) : zGo X l d kc ks y pc ls st M Q := by
  unfold zS at h
  split at h
  · rename_i ins n A B V PL e
    obtain ⟨h1, h2, h3⟩ := zT_ok e
    exact zSt_ok hf h1 h2 h3 h
  · exact h.elim
