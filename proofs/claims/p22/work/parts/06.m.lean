/-! ===== memories that hold the same ===== -/
theorem zarrV {cA n : Nat} {f g : Nat → Value} (h : ∀ j, j < n → f j = g j) : arrV cA n f = arrV cA n g := by
  unfold arrV
  congr 1
  refine Array.ext_getElem? fun j => ?_
  by_cases hj : j < n
  · rw [Array.getElem?_ofFn, Array.getElem?_ofFn, dif_pos hj, dif_pos hj, h j hj]
  · rw [Array.getElem?_eq_none (by simp; omega), Array.getElem?_eq_none (by simp; omega)]
theorem zsim_at {X : zX} {M M' : zM} {H : Heap} {k a : Nat} (hK : zK M k = zK M' k)
    (h : if (zK M k).1 < 20 then ∀ j, j < cN (zK M k).1 → zfv M k (cY (zK M k).1 j) j = zfv M' k (cY (zK M k).1 j) j else if (zK M k).1 < 23 then ∀ j, j < (zK M k).2 → zI M k j = zI M' k j else if (zK M k).1 = 23 then ∀ j, j < (zK M k).2 → zJ M k j = zJ M' k j else ∀ j, j < (zK M k).2 → zP M k j = zP M' k j)
    (ha : va_at X.1 cls (a, zE X M k) H) : va_at X.1 cls (a, zE X M' k) H := by
  by_cases h1 : (zK M k).1 < 20
  · rw [if_pos h1] at h
    rw [zE_obj rfl h1] at ha
    rw [zE_obj (M := M') (c := (zK M k).1) (by rw [hK]) h1]
    rw [← List.map_congr_left (fun j hj => congrArg (zcv X) (h j (List.mem_range.mp hj)))]
    exact ha
  · rw [if_neg h1] at h
    by_cases h2 : (zK M k).1 < 23
    · rw [if_pos h2] at h
      rw [zE_int rfl (by omega) h2] at ha
      rw [zE_int (M := M') (c := (zK M k).1) (by rw [hK]) (by omega) h2, ← hK]
      refine Eq.trans ha ?_
      rw [vp_cell_i, vp_cell_i]
      exact congrArg some (zarrV fun j hj => by rw [h j hj])
    · rw [if_neg h2] at h
      by_cases h3 : (zK M k).1 = 23
      · rw [if_pos h3] at h
        rw [zE_long h3] at ha
        rw [zE_long (M := M') (by rw [← hK]; exact h3), ← hK]
        refine Eq.trans ha ?_
        rw [vp_cell_l, vp_cell_l]
        exact congrArg some (zarrV fun j hj => by rw [h j hj])
      · rw [if_neg h3] at h
        rw [zE_ref rfl (by omega)] at ha
        rw [zE_ref (M := M') (c := (zK M k).1) (by rw [hK]) (by omega), ← hK]
        refine Eq.trans ha ?_
        rw [vp_cell_q, vp_cell_q]
        exact congrArg some (zarrV fun j hj => by rw [h j hj])
/-- a cell that holds the same; where lz says so its rows are the same anyway -/
def zsimA (lz : Nat → Bool) (M M' : zM) (k : Nat) : Bool := decide (zK M k = zK M' k) && (lz k ||
  (if (zK M k).1 < 20 then (List.range (cN (zK M k).1)).all fun j => decide (zfv M k (cY (zK M k).1 j) j = zfv M' k (cY (zK M k).1 j) j)
   else if (zK M k).1 < 23 then (List.range (zK M k).2).all fun j => decide (zI M k j = zI M' k j)
   else if (zK M k).1 = 23 then (List.range (zK M k).2).all fun j => decide (zJ M k j = zJ M' k j)
   else (List.range (zK M k).2).all fun j => decide (zP M k j = zP M' k j)))
def zgm (lz : Nat → Bool) (M : zM) : Prop := 6 ≤ zN M ∧ (∀ k, (zK M k).1 = 21 ∨ (zK M k).1 = 22 → k < 6 ∨ lz k = true) ∧ (∀ k, k < 6 → zK M k = zK zM0 k ∧ zI M k = zI zM0 k) ∧ ∀ k, (zK M k).1 < 30 → k < zN M
def zsim (lz : Nat → Bool) (M M' : zM) : Prop := zN M = zN M' ∧ (∀ k, 6 ≤ k → k < zN M → zsimA lz M M' k = true) ∧ (∀ k, lz k = true → 6 ≤ k ∧ 20 ≤ (zK M' k).1 ∧ (zK M' k).1 < 24 ∧ zI M k = zI M' k ∧ zJ M k = zJ M' k) ∧ zgm lz M'
theorem zRel.sim {X : zX} {lz : Nat → Bool} {M M' : zM} {H : Heap} (h : zRel X M H) (hs : zsim lz M M') : zRel X M' H := by
  obtain ⟨h1, h2, h3, h4, h5, h7, h8⟩ := h
  obtain ⟨hN, hs, hl, g1, g2, g3, g4⟩ := hs
  have hat : ∀ k, 6 ≤ k → (zK M' k).1 < 30 → zK M k = zK M' k ∧ (lz k ||
  (if (zK M k).1 < 20 then (List.range (cN (zK M k).1)).all fun j => decide (zfv M k (cY (zK M k).1 j) j = zfv M' k (cY (zK M k).1 j) j)
   else if (zK M k).1 < 23 then (List.range (zK M k).2).all fun j => decide (zI M k j = zI M' k j)
   else if (zK M k).1 = 23 then (List.range (zK M k).2).all fun j => decide (zJ M k j = zJ M' k j)
   else (List.range (zK M k).2).all fun j => decide (zP M k j = zP M' k j))) = true := by
    intro k hk hb
    have hc := hs k hk (by rw [hN]; exact g4 k hb)
    unfold zsimA at hc
    rw [Bool.and_eq_true, decide_eq_true_eq] at hc
    exact hc
  refine ⟨g1, by rw [h2, hN], fun k hk hb => ?_, fun k j => ?_, h5, g3, g4⟩
  · obtain ⟨hc1, hc⟩ := hat k hk hb
    refine zsim_at hc1 ?_ (h3 k hk (by rw [hc1]; exact hb))
    rw [Bool.or_eq_true] at hc
    rcases hc with hc | hc
    · obtain ⟨-, l1, l2, l3, l4⟩ := hl k hc
      rw [← hc1] at l1 l2
      rw [if_neg (by omega)]
      by_cases e2 : (zK M k).1 < 23
      · rw [if_pos e2]
        exact fun j _ => congrFun l3 j
      · rw [if_neg e2, if_pos (by omega)]
        exact fun j _ => congrFun l4 j
    · by_cases e1 : (zK M k).1 < 20
      · rw [if_pos e1] at hc ⊢
        exact fun j hj => of_decide_eq_true (List.all_eq_true.mp hc j (List.mem_range.mpr hj))
      · rw [if_neg e1] at hc ⊢
        by_cases e2 : (zK M k).1 < 23
        · rw [if_pos e2] at hc ⊢
          exact fun j hj => of_decide_eq_true (List.all_eq_true.mp hc j (List.mem_range.mpr hj))
        · rw [if_neg e2] at hc ⊢
          by_cases e3 : (zK M k).1 = 23
          · rw [if_pos e3] at hc ⊢
            exact fun j hj => of_decide_eq_true (List.all_eq_true.mp hc j (List.mem_range.mpr hj))
          · rw [if_neg e3] at hc ⊢
            exact fun j hj => of_decide_eq_true (List.all_eq_true.mp hc j (List.mem_range.mpr hj))
  · have key : (zK M' k).1 = 21 ∨ (zK M' k).1 = 22 → zK M' k = zK M k ∧ zI M' k = zI M k := by
      intro hq
      rcases g2 k hq with q | q
      · exact ⟨(g3 k q).1.trans (h7 k q).1.symm, (g3 k q).2.trans (h7 k q).2.symm⟩
      · obtain ⟨l0, -, -, l3, -⟩ := hl k q
        exact ⟨(hat k l0 (by rcases hq with hq | hq <;> rw [hq] <;> decide)).1.symm, l3.symm⟩
    refine ⟨fun hq => ?_, fun hq => ?_⟩
    · obtain ⟨e1, e2⟩ := key (Or.inl hq)
      rw [e1] at hq
      rw [e2]
      exact (h4 k j).1 hq
    · obtain ⟨e1, e2⟩ := key (Or.inr hq)
      rw [e1] at hq
      rw [e2]
      exact (h4 k j).2 hq
theorem zsim_K {X : zX} {lz : Nat → Bool} {M M' : zM} {H : Heap} (h : zRel X M H) (hs : zsim lz M M') : zN M' = zN M ∧ ∀ k, k < zN M → zK M' k = zK M k := by
  refine ⟨hs.1.symm, fun k hk => ?_⟩
  by_cases h6 : k < 6
  · rw [(hs.2.2.2.2.2.1 k h6).1, (h.2.2.2.2.2.1 k h6).1]
  · have hc := hs.2.1 k (by omega) hk
    unfold zsimA at hc
    rw [Bool.and_eq_true, decide_eq_true_eq] at hc
    exact hc.1.symm
theorem zGo.sim {X : zX} {l : Launch} {lz : Nat → Bool} {d kc ks y pc : Nat} {ls : List (Nat × Value)} {st : List Value} {M M' : zM} {Q : Option Value → zM → Prop} (hs : zsim lz M M') (h : zGo X l d kc ks y pc ls st M' Q) : zGo X l d kc ks y pc ls st M Q := by
  intro p e R s m args below meth c H locs cells slots Qw lsA C
  have hK := zsim_K C.2.2.2.1 hs
  refine h p e R s m args below meth c H locs cells slots Qw lsA ⟨C.1, C.2.1, C.2.2.1, C.2.2.2.1.sim hs, C.2.2.2.2.1, ?_⟩
  obtain ⟨Me, f1, f2, f3⟩ := C.2.2.2.2.2
  have e1 := f1.1
  exact ⟨Me, ⟨by rw [hK.1]; exact e1, fun k hk => by rw [hK.2 k (by omega)]; exact f1.2.1 k hk, fun k k1 k2 => by rw [hK.1] at k2; rw [hK.2 k k2]; exact f1.2.2 k k1 k2⟩, f2, f3⟩
