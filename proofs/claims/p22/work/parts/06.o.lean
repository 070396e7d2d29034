theorem mt350 : mt 350 = (x, code, maxLocals, ret, 1, 999999, 0, 100000, 0, 99, 99, 358, 25602) := by
  unfold mt
  rw [show mN[350]? = some (999999, 1, 0, 100000, 0, 99, 99, 358, 25602) from rfl]
  rfl
/-- the law's walk over the memory gives its walk over the machine -/
theorem zwhole {p : Program} {e : Env} {s : State} {m : MethodId} {below : List Frame} {meth : Method} {c : Code} (l : Launch) {b L : Nat} {xs : Nat → Int32} (C0 : lw_At p s m meth c b L xs)
    (h : ∀ X : zX, X.2.2.2.2.2 = (L, xs) → zGo X l 100 358 25602 350 0 [(0, .ref 0)] [] zM0 (fun r _ => r = some (.int 1))) : W p l e room_1 s m #[Value.ref b] below meth c s.heap [] 0 0 (lw_Z below #[Value.ref b] s) (entryFrame m ([Value.ref b] : List Value).toArray maxLocals) := by
  obtain ⟨X, h1, h2, h3, hK, hR⟩ := zbegin C0
  obtain ⟨hx, hb, hr, hml, hown, hts, hX, hbl, hlocks, hgv⟩ := C0
  have hl := lv_entry ([.ref b]) (n := maxLocals) (show 1 ≤ maxLocals by decide)
  rw [lg_entry_eq]
  generalize (lg_sl ([.ref b]) ++ List.replicate (maxLocals - (lg_sl ([.ref b])).length) Slot.unset).toArray = ls at hl ⊢
  have ha : zad X 0 = b := by rw [← h2]; exact if_pos (by omega)
  have hW := h X h3 p e room_1 s m #[Value.ref b] below meth c s.heap [] 0 0 (lw_Z below #[Value.ref b] s) ls
  refine hW ⟨⟨hx, by rw [mt350]; exact hb, by rw [mt350]; exact hml, by rw [mt350]; exact hown, fun w hw => hts w (List.mem_filter.mp hw).1, hK, by decide, by decide, fun q => ?_⟩, ⟨by decide, by decide⟩, ?_, hR, fun q hq => (by cases hq), zM0, ⟨Nat.le_refl _, fun _ _ => rfl, fun k h1 h2 => absurd h1 (by omega)⟩, fun _ _ _ _ => rfl, ?_⟩
  · rw [mt350] at q
    exact absurd q (by decide)
  · rw [mt350]
    show lv_has ls maxLocals [(0, .ref (zad X 0))]
    rw [ha]
    exact hl
  · intro r M' H' locs' cells' slots' pc' lsA' hQ hR' hE' hH' hL' hc' hs' hret
    subst hQ
    rw [mt350] at hret
    refine va_forget (fun q hq => by rw [← h1]; exact hL' q hq) ?_
    refine W.widen (k := 600000) (n := 7302250) hc' hs' ?_
    exact lw_ret hx hb hr hlocks hret.1
