/-! ===== the frame rule ===== -/
/-- the memory without some of its cells -/
def zhide (S : Nat → Bool) (M : zM) : zM := (zN M, (fun k => if S k = true then (99, 0) else zK M k), zI M, zJ M, zP M)
/-- some cells out of the first memory, the others out of the second -/
def zjoin (S : Nat → Bool) (M Mr : zM) : zM := (zN Mr, (fun k => if S k = true then zK M k else zK Mr k), (fun k => if S k = true then zI M k else zI Mr k), (fun k => if S k = true then zJ M k else zJ Mr k), fun k => if S k = true then zP M k else zP Mr k)
section ZFRAME
variable {X : zX} {l : Launch} {d kc ks y : Nat} {M : zM} {S : Nat → Bool}
theorem zhK {k : Nat} (h : S k = false) : zK (zhide S M) k = zK M k := if_neg (by rw [h]; decide)
theorem zhK1 {k : Nat} (h : S k = true) : zK (zhide S M) k = (99, 0) := if_pos h
theorem zRel.hide {H : Heap} (h : zRel X M H) (hS : ∀ k, S k = true → 6 ≤ k ∧ k < zN M) : zRel X (zhide S M) H := by
  obtain ⟨h1, h2, h3, h4, h5, h7, h8⟩ := h
  refine ⟨h1, h2, fun k hk hb => ?_, fun k j => ?_, h5, fun k hk => ?_, fun k hk => ?_⟩
  · cases hs : S k with
    | true => rw [zhK1 hs] at hb; exact absurd hb (by decide)
    | false =>
      rw [zhK hs] at hb
      rw [zE_congr (zhK hs) rfl rfl rfl]
      exact h3 k hk hb
  · cases hs : S k with
    | true => rw [zhK1 hs]; exact ⟨fun q => (by cases q), fun q => (by cases q)⟩
    | false => rw [zhK hs]; exact h4 k j
  · cases hs : S k with
    | true => exact absurd (hS k hs).1 (by omega)
    | false => rw [zhK hs]; exact h7 k hk
  · cases hs : S k with
    | true => exact (hS k hs).2
    | false => rw [zhK hs] at hk; exact h8 k hk
theorem zjK {Mr : zM} {k : Nat} (h : S k = false) : zK (zjoin S M Mr) k = zK Mr k ∧ zI (zjoin S M Mr) k = zI Mr k ∧ zJ (zjoin S M Mr) k = zJ Mr k ∧ zP (zjoin S M Mr) k = zP Mr k := by
  have hn : ¬ S k = true := by rw [h]; decide
  exact ⟨if_neg hn, if_neg hn, if_neg hn, if_neg hn⟩
theorem zjK1 {Mr : zM} {k : Nat} (h : S k = true) : zK (zjoin S M Mr) k = zK M k ∧ zI (zjoin S M Mr) k = zI M k ∧ zJ (zjoin S M Mr) k = zJ M k ∧ zP (zjoin S M Mr) k = zP M k := ⟨if_pos h, if_pos h, if_pos h, if_pos h⟩
/-- a call that needs a part of the memory alone leaves the rest -/
theorem zframe {as : List Value} {Q Q' : Option Value → zM → Prop} (S : Nat → Bool) (hS : ∀ k, S k = true → 6 ≤ k ∧ k < zN M) (h : zCall X l d kc ks y as (zhide S M) Q) (hQ : ∀ r Mr, zExt (zhide S M) Mr → Q r Mr → Q' r (zjoin S M Mr)) : zCall X l d kc ks y as M Q' := by
  intro p e ha hc hk s m args below hf happ hP hK
  obtain ⟨t, o, h1, h2, h3, ⟨r, Mr, hv, hq, hR, hE, hH⟩, hF⟩ := h p e ha hc hk s m args below hf happ ⟨hP.1, hP.2.1.hide hS, hP.2.2⟩ hK
  refine ⟨t, o, h1, h2, h3, ⟨r, zjoin S M Mr, hv, hQ r Mr hE hq, ?_, ?_, ?_⟩, hF⟩
  · obtain ⟨g1, g2, g3, g4, g5, g7, g8⟩ := hR
    obtain ⟨k1, k2, k3, k4, k5, k7, k8⟩ := hP.2.1
    refine ⟨g1, g2, fun k hk hb => ?_, fun k j => ?_, g5, fun k hk => ?_, fun k hk => ?_⟩
    · cases hs : S k with
      | true =>
        obtain ⟨e1, e2, e3, e4⟩ := zjK1 (M := M) (Mr := Mr) hs
        rw [e1] at hb
        rw [zE_congr e1 e2 e3 e4]
        exact (k3 k hk hb).kept (hH k hk (hS k hs).2 (by rw [zhK1 hs]; decide))
      | false =>
        obtain ⟨e1, e2, e3, e4⟩ := zjK (M := M) (Mr := Mr) hs
        rw [e1] at hb
        rw [zE_congr e1 e2 e3 e4]
        exact g3 k hk hb
    · cases hs : S k with
      | true =>
        obtain ⟨e1, e2, e3, e4⟩ := zjK1 (M := M) (Mr := Mr) hs
        rw [e1, e2]
        exact k4 k j
      | false =>
        obtain ⟨e1, e2, e3, e4⟩ := zjK (M := M) (Mr := Mr) hs
        rw [e1, e2]
        exact g4 k j
    · cases hs : S k with
      | true => exact absurd (hS k hs).1 (by omega)
      | false =>
        obtain ⟨e1, e2, e3, e4⟩ := zjK (M := M) (Mr := Mr) hs
        rw [e1, e2]
        exact g7 k hk
    · cases hs : S k with
      | true => exact Nat.lt_of_lt_of_le (hS k hs).2 hE.1
      | false =>
        rw [(zjK (M := M) (Mr := Mr) hs).1] at hk
        exact g8 k hk
  · refine ⟨hE.1, fun k hk => ?_, fun k q1 q2 => ?_⟩
    · cases hs : S k with
      | true => exact (zjK1 hs).1
      | false => rw [(zjK hs).1, hE.2.1 k hk, zhK hs]
    · cases hs : S k with
      | true => exact absurd (hS k hs).2 (by omega)
      | false => rw [(zjK hs).1]; exact hE.2.2 k q1 q2
  · intro k q1 q2 q3
    refine hH k q1 q2 ?_
    cases hs : S k with
    | true => rw [zhK1 hs]; decide
    | false => rw [zhK hs]; exact q3
end ZFRAME
