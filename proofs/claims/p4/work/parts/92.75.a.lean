theorem pRd.v {g : Nat → Int} {p e q : Nat} {lo hi sep x y : Int} (h : pRd g p lo hi sep = some (q, x)) (hn : pN g p = some (e, y)) : x = y := by
  unfold pRd at h
  rw [hn] at h
  have h : (if lo ≤ y ∧ y ≤ hi ∧ g e = sep then some (e + 1, y) else none) = some (q, x) := h
  split at h
  · have z := congrArg Prod.snd (Option.some.inj h)
    exact z.symm
  · cases h
