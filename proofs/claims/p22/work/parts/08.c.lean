/-! ===== methods that call themselves: run at a given depth ===== -/
section ZD
variable {X : zX} {l : Launch} {d kc ks y pc n PL : Nat} {V : Int} {ls : List (Nat × Value)} {st : List Value} {M : zM} {Q : Option Value → zM → Prop}
theorem zs_cl9 {y' m c L : Nat} {as : List Value} {Qc : Option Value → zM → Prop} (mf : zmf y' m c 99 L) (hd : 1 ≤ d ∧ zwd st ≤ 8 ∧ zwd as ≤ L) (hcall : zCall X l (d - 1) 0 0 y' as M Qc) (hn : ∀ r M', Qc r M' → zGo X l d kc ks y (pc + 3) ls (r.toList ++ st) M' Q) : zcl False (zCall X l) (fun _ => false) (zGo X l) d kc ks y pc ls as st M Q y' := by
  obtain ⟨m1, m2, m3, m4, m5, m6⟩ := mf
  unfold zcl
  have hz : zdp y' d = d - 1 := by
    unfold zdp
    rw [m3, if_pos rfl]
  rw [hz, m4, m5, m6]
  refine zpT ⟨by omega, Nat.zero_le _, Nat.zero_le _, hd.2.1, hd.2.2⟩ (zpF (fun q => by cases q) (hcall.mono hn))
theorem zs_invV9 {i y' m c L k : Nat} {as' stk : List Value} {Qc : Option Value → zM → Prop} (ht : zT y pc = some (.invokevirtual i, n, y', 0, V, PL)) (mf : zmf y' m c 99 L) (hs : stk = (.ref k :: as').reverse ++ st) (hl : (Value.ref k :: as').length = m) (hk : (c < 13 ∧ (zK M k).1 = c) ∨ (c = 30 ∧ k = 4)) (hd : 1 ≤ d ∧ zwd st ≤ 8 ∧ zwd (.ref k :: as') ≤ L) (hcall : zCall X l (d - 1) 0 0 y' (.ref k :: as') M Qc) (hn : ∀ r M', Qc r M' → zGo X l d kc ks y (pc + 3) ls (r.toList ++ st) M' Q) : zGo X l d kc ks y pc ls stk M Q := by
  subst hs
  obtain ⟨r1, r2, r3⟩ := zrev (st := st) hl
  refine zst ht (zpT ⟨rfl, by rw [mf.1]; exact r1⟩ ?_)
  rw [mf.1, r2, r3]
  exact zpT (by rw [mf.2.1]; exact hk) (zs_cl9 mf hd hcall hn)
end ZD
