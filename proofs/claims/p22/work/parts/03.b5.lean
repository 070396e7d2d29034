/-! ===== rows that touch the memory ===== -/
theorem zRel.upd {X : zX} {M M' : zM} {H H1 : Heap} {k : Nat} (h : zRel X M H) (h6 : 6 ≤ k) (hn : zN M' = zN M) (hK : zK M' = zK M) (hI : ∀ k', k' ≠ k → zI M' k' = zI M k') (hJ : ∀ k', k' ≠ k → zJ M' k' = zJ M k') (hP : ∀ k', k' ≠ k → zP M' k' = zP M k') (hw : zWf M')
    (hz : H1.size = H.size) (oq : ∀ q : Nat, q ≠ zad X k → H1[q]? = H[q]?) (he : va_at X.1 cls (zad X k, zE X M' k) H1) : zRel X M' H1 := by
  obtain ⟨h1, h2, h3, h4, h5, h7, h8⟩ := h
  have hk6 : zad X k = X.2.1.size + (k - 6) := if_neg (by omega)
  refine ⟨by rw [hn]; exact h1, by rw [hz, hn]; exact h2, fun i hi hb => ?_, hw, fun q hq => ?_, fun k' hk' => ?_, fun k' hk' => ?_⟩
  · by_cases hik : i = k
    · subst hik
      exact he
    · rw [zE_congr (by rw [hK]) (hI _ hik) (hJ _ hik) (hP _ hik)]
      rw [hK] at hb
      exact (h3 i hi hb).kept (oq _ (fun q => hik (zad_inj hi h6 q)))
  · rw [oq q (by rw [hk6]; omega)]
    exact h5 q hq
  · rw [hK, hI k' (by omega)]
    exact h7 k' hk'
  · rw [hn]
    rw [hK] at hk'
    exact h8 k' hk'
theorem zRel.new {X : zX} {M M' : zM} {H H1 : Heap} {c : Nat × Nat} (h : zRel X M H) (hn : zN M' = zN M + 1) (hK : ∀ k', k' ≠ zN M → zK M' k' = zK M k') (hI : ∀ k', k' ≠ zN M → zI M' k' = zI M k') (hJ : ∀ k', k' ≠ zN M → zJ M' k' = zJ M k') (hP : ∀ k', k' ≠ zN M → zP M' k' = zP M k') (hw : ∀ j, ((zK M' (zN M)).1 = 21 → fits .byte (.int (zI M' (zN M) j)) = true) ∧ ((zK M' (zN M)).1 = 22 → fits .boolean (.int (zI M' (zN M) j)) = true))
    (hz : H1.size = H.size + 1) (oq : ∀ q : Nat, q < H.size → H1[q]? = H[q]?) (he : va_at X.1 cls (H.size, zE X M' (zN M)) H1) : zRel X M' H1 := by
  obtain ⟨h1, h2, h3, h4, h5, h7, h8⟩ := h
  refine ⟨by rw [hn]; omega, ?_, fun i hi hb => ?_, fun k j => ?_, fun q hq => ?_, fun k' hk' => ?_, fun k' hk' => ?_⟩
  · rw [hz, h2, hn]
    omega
  · by_cases hik : i = zN M
    · subst hik
      rw [show zad X (zN M) = H.size by rw [h2]; exact if_neg (by omega)]
      exact he
    · rw [zE_congr (hK _ hik) (hI _ hik) (hJ _ hik) (hP _ hik)]
      rw [hK _ hik] at hb
      have := h3 i hi hb
      exact this.kept (oq _ this.lt)
  · by_cases hk : k = zN M
    · subst hk
      exact hw j
    · rw [hI k hk, hK k hk]
      exact h4 k j
  · rw [oq q (by rw [h2]; omega)]
    exact h5 q hq
  · have hk : k' ≠ zN M := by omega
    rw [hI k' hk, hK k' hk]
    exact h7 k' hk'
  · rw [hn]
    by_cases hk : k' = zN M
    · omega
    · rw [hK k' hk] at hk'
      exact Nat.lt_succ_of_lt (h8 k' hk')
theorem zFin.put {X : zX} {l : Launch} {y k : Nat} {M M' : zM} {Q : Option Value → zM → Prop} {p : Program} {e : Env} {R : Room} {s : State} {m : MethodId} {args : Array Value} {below : List Frame} {meth : Method} {c : Code} {H H1 : Heap} {Qw : State → Prop} (h : zFin X l y M Q p e R s m args below meth c H Qw) (hn : zN M' = zN M) (hK : zK M' = zK M) (h6 : 6 ≤ k) (hk : (zK M k).1 < 30) (oq : ∀ q : Nat, q ≠ zad X k → H1[q]? = H[q]?) : zFin X l y M' Q p e R s m args below meth c H1 Qw := by
  obtain ⟨Me, hE, hH, fin⟩ := h
  refine ⟨Me, ⟨by rw [hn]; exact hE.1, fun k' hk' => by rw [hK]; exact hE.2.1 k' hk', fun k' h1 h2 => by rw [hK]; rw [hn] at h2; exact hE.2.2 k' h1 h2⟩, fun k' h1 h2 h3 => ?_, fin⟩
  rw [oq _ (fun q => ?_)]
  · exact hH k' h1 h2 h3
  · have e1 := zad_inj h1 h6 q
    subst e1
    have e2 := hE.2.1 k' h2
    rw [e2] at hk
    omega
theorem zFin.new {X : zX} {l : Launch} {y : Nat} {M M' : zM} {Q : Option Value → zM → Prop} {p : Program} {e : Env} {R : Room} {s : State} {m : MethodId} {args : Array Value} {below : List Frame} {meth : Method} {c : Code} {H H1 : Heap} {Qw : State → Prop} (h : zFin X l y M Q p e R s m args below meth c H Qw) (hn : zN M' = zN M + 1) (hK : ∀ k', k' ≠ zN M → zK M' k' = zK M k') (hk : (zK M' (zN M)).1 < 30) (hz : H.size = X.2.1.size + (zN M - 6)) (oq : ∀ q : Nat, q < H.size → H1[q]? = H[q]?) : zFin X l y M' Q p e R s m args below meth c H1 Qw := by
  obtain ⟨Me, hE, hH, fin⟩ := h
  have e1 := hE.1
  refine ⟨Me, ⟨by omega, fun k' hk' => by rw [hK k' (by omega)]; exact hE.2.1 k' hk', fun k' h1 h2 => ?_⟩, fun k' h1 h2 h3 => ?_, fin⟩
  · by_cases e2 : k' = zN M
    · rw [e2]; exact hk
    · rw [hK k' e2]
      exact hE.2.2 k' h1 (by omega)
  · rw [oq _ (by rw [hz, show zad X k' = X.2.1.size + (k' - 6) from if_neg (by omega)]; omega)]
    exact hH k' h1 h2 h3
theorem zRel.lt {X : zX} {M : zM} {H : Heap} {k : Nat} (h : zRel X M H) (h6 : 6 ≤ k) (hk : k < zN M) : zad X k < H.size := by
  rw [h.2.1, show zad X k = X.2.1.size + (k - 6) from if_neg (by omega)]
  omega
theorem zA_ad {X : zX} {k : Nat} (h6 : 6 ≤ k) : zA X (zad X k) := by
  rw [show zad X k = X.2.1.size + (k - 6) from if_neg (by omega)]
  exact Nat.le_add_right _ _
theorem zin {w : Cond} (h : w ∈ lw_tbl) (hg : goodWord w = true) : w ∈ zw := List.mem_filter.mpr ⟨h, hg⟩
theorem zlocs {X : zX} {k i : Nat} {locs : List Loc} (hL : ∀ q ∈ locs, zA X q.base) (h6 : 6 ≤ k) : ∀ q ∈ locs ++ [(⟨zad X k, i⟩ : Loc)], zA X q.base := by
  intro q hq
  rcases List.mem_append.mp hq with h | h
  · exact hL q h
  · rw [List.mem_singleton.mp h]
    exact zA_ad h6
theorem zcls_in (h : ∀ c, c < 13 → ∀ w ∈ u_ws (cR c) (cT c) (cN c), w ∈ lw_tbl) {c : Nat} (hc : c < 13) : ∀ w ∈ u_ws (cR c) (cT c) (cN c), w ∈ zw := by
  intro w hw
  refine zin (h c hc w hw) ?_
  obtain ⟨k, -, rfl⟩ := List.mem_map.mp hw
  unfold u_lay
  split <;> rfl
section ZMEM
variable {X : zX} {l : Launch} {d kc ks y pc : Nat} {ls : List (Nat × Value)} {st : List Value} {M : zM} {Q : Option Value → zM → Prop}
theorem zfs_at {c j : Nat} (hj : j < cN c) (f : Nat → Value) : ((List.range (cN c)).map f)[j]? = some (f j) := by
  rw [List.getElem?_map, List.getElem?_range hj]
  rfl
theorem zg_getfield (hW : ∀ c, c < 13 → ∀ w ∈ u_ws (cR c) (cT c) (cN c), w ∈ lw_tbl) {c j k i : Nat} (h : zdc y pc (.getfield i) 3) (hl : Cond.fieldLink (mt y).1.cls i (cR c) (cT c j).2.1 (cT c j).2.2.1 ∈ lw_tbl) (hc : c < 13) (hj : j < cN c) (hdl : (cT c j).1 = cR c) (hk : (zK M k).1 = c) (kk : zGo X l d kc ks y (pc + 3) ls (zfv M k (cY c j) j :: st) M Q) : zGo X l d kc ks y pc ls (.ref k :: st) M Q := by
  intro p e R s m args below meth cd H locs cells slots Qw lsA C
  obtain ⟨hx, hb, hml, hown, hts, hKn, -⟩ := id C.1
  have hR := C.2.2.2.1
  obtain ⟨h6, hkN⟩ := zlt20 hKn hR (by rw [hk]; omega)
  have hat := hR.2.2.1 k h6 (by omega)
  rw [zE_obj hk (by omega)] at hat
  exact va_get hx hb hts (zcls_in hW hc) hown hKn.1 (zP1 hat) 0 rfl (cls_at c hc) j hj (hts _ (zin hl rfl)) (fun x hx => by rw [hdl] at hx; exact hx) (zfs_at hj _) h (kk p e R s m args below meth cd H locs cells slots Qw lsA C)
theorem zput0 (hW : ∀ c, c < 13 → ∀ w ∈ u_ws (cR c) (cT c) (cN c), w ∈ lw_tbl) {c j k i : Nat} {v : Value} {M' : zM} (h : zdc y pc (.putfield i) 3) (hl : Cond.fieldLink (mt y).1.cls i (cR c) (cT c j).2.1 (cT c j).2.2.1 ∈ lw_tbl) (hc : c < 13) (hj : j < cN c) (hdl : (cT c j).1 = cR c) (hfin : (cT c j).2.2.2 = false ∨ ((mt y).1.name = "<init>" ∧ (mt y).1.cls = cR c)) (hk : (zK M k).1 = c)
    (hnr : narrow (cY c j) (zcv X v) = zcv X v) (hft : fits (cY c j) (zcv X v) = true) (hn : zN M' = zN M) (hK : zK M' = zK M) (hI : ∀ k', k' ≠ k → zI M' k' = zI M k') (hJ : ∀ k', k' ≠ k → zJ M' k' = zJ M k') (hP : ∀ k', k' ≠ k → zP M' k' = zP M k') (hw : zWf M → zWf M') (hv : ∀ i, i < cN c → zfv M' k (cY c i) i = if i = j then v else zfv M k (cY c i) i)
    (kk : zGo X l d kc ks y (pc + 3) ls st M' Q) : zGo X l d kc ks y pc ls (v :: .ref k :: st) M Q := by
  intro p e R s m args below meth cd H locs cells slots Qw lsA C
  obtain ⟨hx, hb, hml, hown, hts, hKn, -, -, hnm⟩ := id C.1
  have hR := C.2.2.2.1
  obtain ⟨h6, hkN⟩ := zlt20 hKn hR (by rw [hk]; omega)
  have hin := zcls_in hW hc
  have hap := va_apart (own := (mt y).1.cls) hts hin (cY c) (cty_ok c hc) (cnm_ok c hc) hKn.1 (cls_at c hc)
  have hat := hR.2.2.1 k h6 (by omega)
  rw [zE_obj hk (by omega)] at hat
  obtain ⟨r, h1, cell, q1, q2, q3, q4⟩ := hat
  have hr : r = (cR c, cT c, cN c) := Option.some.inj (h1.symm.trans (cls_at c hc))
  subst hr
  obtain ⟨hS, hfc, kC, hkC, hkind⟩ := hKn.1.1 c _ (cls_at c hc)
  obtain ⟨cf, kf, fi, f, hi, hsl⟩ := hS j hj
  have hst := (u_facts hfc hkC (u_lays hts hin hj) hi).1
  have hd := cty_ok c hc j hj
  have fin : ∀ H' : Heap, H'[zad X k]? = some (cell.setSlot f.slot (zcv X v)) → H'.size = H.size → (∀ q, q ≠ zad X k → H'[q]? = H[q]?) → W p l e R s m args below meth cd H' (locs ++ [⟨zad X k, f.slot⟩]) cells slots Qw (F0 m (pc + 3) lsA (st.map (zcv X))) := by
    intro H' e1 e2 e3
    refine kk p e R s m args below meth cd H' _ cells slots Qw lsA ⟨C.1, C.2.1, C.2.2.1, ?_, zlocs C.2.2.2.2.1 h6, C.2.2.2.2.2.put hn hK h6 (by omega) e3⟩
    refine hR.upd h6 hn hK hI hJ hP (hw hR.2.2.2.1) e2 e3 ?_
    rw [zE_obj (c := c) (show (zK M' k).1 = c by rw [hK]; exact hk) (by omega)]
    refine ⟨_, cls_at c hc, cell.setSlot f.slot (zcv X v), e1, q2, q3, fun a ha => ?_⟩
    rw [hsl, t_set q4 hap hj (zcv X v) a ha]
    show some (updV _ j (zcv X v) a) = some (vp_V _ a)
    unfold updV vp_V
    rw [List.getD_eq_getElem?_getD, List.getD_eq_getElem?_getD, zfs_at ha, zfs_at ha, hv a ha]
    by_cases haj : a = j
    · rw [if_pos haj, if_pos haj]
      rfl
    · rw [if_neg haj, if_neg haj]
  rcases hfin with hf | ⟨hf, ho⟩
  · by_cases hf2 : (cT c j).2.2.2 = true
    · rw [hf] at hf2
      cases hf2
    have hlay := hts _ (hin _ (u_in_lay hj))
    unfold u_lay at hlay
    rw [if_neg hf2] at hlay
    have h7 := u_store hfc hkC hkind hlay hi hd hnr hft
    exact W.putK hx hb (f := f) ⟨hown, hts _ (zin hl rfl), ⟨_, _, _, by rw [← hdl]; exact hi⟩, hst⟩ (by rw [q2]; exact h7) q1 q3 (by rw [hsl]; exact k2_hasslot (q4 j hj)) rfl rfl h fin
  · have hlay := hts _ (hin _ (u_in_lay hj))
    unfold u_lay at hlay
    by_cases hf2 : (cT c j).2.2.2 = true
    · rw [if_pos hf2] at hlay
      have hcf : m.cls = cf := by
        obtain ⟨_, _, c', _, _, _, -, -, hf', -, -, -, hown2, -⟩ := Cond.laysFinal_spec hlay
        have e1 : c' = cf := by have := hi.symm.trans hf'; simp at this; exact this.1.symm
        rw [hdl, ← ho] at hown2
        rw [← e1]; exact Option.some.inj (hown.symm.trans hown2)
      have h7 := u_fits hfc hkC hkind (Or.inr hlay) hi hd hnr hft
      exact W.putFinK hx hb hown (hts _ (zin hl rfl)) (by rw [← hdl]; exact hi) hst hcf (hnm hf) (by rw [q2]; exact h7) q1 q3 (by rw [hsl]; exact k2_hasslot (q4 j hj)) rfl rfl h fin
    · rw [if_neg hf2] at hlay
      have h7 := u_store hfc hkC hkind hlay hi hd hnr hft
      exact W.putK hx hb (f := f) ⟨hown, hts _ (zin hl rfl), ⟨_, _, _, by rw [← hdl]; exact hi⟩, hst⟩ (by rw [q2]; exact h7) q1 q3 (by rw [hsl]; exact k2_hasslot (q4 j hj)) rfl rfl h fin
end ZMEM
