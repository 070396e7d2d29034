def zchk (y : Nat) (q : Nat × gE) : Bool := decide (decode (mt y).2.1 q.1 = .ok (q.2.1, q.2.2.1)) && zlen q.2.1 q.2.2.1 && zlk y q.1 q.2.1 q.2.2.2.1 q.2.2.2.2.1 q.2.2.2.2.2.1 q.2.2.2.2.2.2
def zall (b : Nat) : List (List (Nat × gE)) → Prop
  | [] => True
  | t :: r => t.all (zchk b) = true ∧ zall (b + 1) r
theorem zall_at : ∀ {L : List (List (Nat × gE))} {b i : Nat} {t : List (Nat × gE)}, zall b L → L[i]? = some t → t.all (zchk (b + i)) = true
  | [], _, i, t, _, h => by simp at h
  | t0 :: r, b, 0, t, h, e => by
    cases e
    exact h.1
  | t0 :: r, b, i + 1, t, h, e => by
    have := zall_at (b := b + 1) (i := i) h.2 e
    rw [show b + (i + 1) = b + 1 + i by omega]
    exact this
theorem zall_app : ∀ {L1 L2 : List (List (Nat × gE))} {b : Nat}, zall b L1 → zall (b + L1.length) L2 → zall b (L1 ++ L2)
  | [], _, _, _, h => h
  | t :: r, L2, b, h1, h2 => ⟨h1.1, zall_app (b := b + 1) h1.2 (by rw [show b + 1 + r.length = b + (t :: r).length by simp; omega]; exact h2)⟩
theorem zall2 {α : Type} {a b : List α} {p : α → Bool} (h1 : a.all p = true) (h2 : b.all p = true) : (a ++ b).all p = true := by rw [List.all_append, h1, h2]; rfl
