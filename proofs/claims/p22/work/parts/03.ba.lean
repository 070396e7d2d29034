section ZMEM6
variable {X : zX} {l : Launch} {d kc ks y pc : Nat} {ls : List (Nat × Value)} {st : List Value} {M : zM} {Q : Option Value → zM → Prop}
theorem znn (z : Int32) (hz : ¬ z < 0) : z.toInt = (z.toNatClampNeg : Int) := by
  have hz0 : (0 : Int) ≤ z.toInt := by
    have := Int32.not_lt.mp hz
    simpa using Int32.le_iff_toInt_le.mp this
  show z.toInt = ((z.toInt.toNat : Nat) : Int)
  omega
theorem zcpy_in {α : Type} {P : α → Prop} {f g : Nat → α} {sp dp n : Nat} (hf : ∀ j, P (f j)) (hg : ∀ j, P (g j)) : ∀ j, P (va_cpy f g sp dp n j) := by
  intro j
  unfold va_cpy
  split
  · exact hf _
  · exact hg _
theorem zg_copy {k0 k1 i : Nat} {sp dp n : Int32} (h : zdc y pc (.invokestatic i) 3) (hl : Cond.methodLink (mt y).1.cls i arraycopyName ∈ lw_tbl) (hnat : Cond.native arraycopyName ∈ lw_tbl) (hstat : Cond.static arraycopyName ∈ lw_tbl) (hini : Cond.initialized "java/lang/System" ∈ lw_tbl)
    (h6 : 6 ≤ k0 ∧ 6 ≤ k1) (hk : (zK M k0).1 = (zK M k1).1) (hk1 : 20 ≤ (zK M k1).1 ∧ (zK M k1).1 < 23) (h1 : ¬ sp < 0) (h2 : ¬ dp < 0) (h3 : ¬ n < 0) (h4 : sp.toNatClampNeg + n.toNatClampNeg ≤ (zK M k0).2) (h5 : dp.toNatClampNeg + n.toNatClampNeg ≤ (zK M k1).2) (hcat : (st.map fun v => v.category).sum ≤ 8) (hd : 1 ≤ d)
    (kk : zGo X l d kc ks y (pc + 3) ls st (zsR M k1 (va_cpy (zI M k0) (zI M k1) sp.toNatClampNeg dp.toNatClampNeg n.toNatClampNeg)) Q) : zGo X l d kc ks y pc ls (.int n :: .int dp :: .ref k1 :: .int sp :: .ref k0 :: st) M Q := by
  intro p e R s m args below meth cd H locs cells slots Qw lsA C
  obtain ⟨hx, hbc, hml, hown, hts, hKn, hfr, hlo, -⟩ := id C.1
  have hR := C.2.2.2.1
  have hc2 := zcat (X := X) hKn hcat
  have ht0 := hR.2.2.1 k0 h6.1 (show (zK M k0).1 < 30 by omega)
  have ht1 := hR.2.2.1 k1 h6.2 (show (zK M k1).1 < 30 by omega)
  rw [zE_int hk (by omega) (by omega)] at ht0
  rw [zE_int rfl (by omega) (by omega)] at ht1
  have hc0 := zarr (n := 0) ht0 hR
  have hc1 := zarr (n := 0) ht1 hR
  have hArr : ∃ ty : FieldType, (ty = .int ∨ ty = .byte ∨ ty = .boolean) ∧ ArrOfT s (X.2.2.1 (zK M k1).1) ty ∧ ∀ j, fits ty (.int (zI M k0 j)) = true := by
    rcases (show (zK M k1).1 = 20 ∨ (zK M k1).1 = 21 ∨ (zK M k1).1 = 22 by omega) with q | q | q
    · exact ⟨.int, Or.inl rfl, by rw [q]; exact (hKn.1.2 0 _ rfl).1, fun j => rfl⟩
    · exact ⟨.byte, Or.inr (Or.inl rfl), by rw [q]; exact (hKn.1.2 1 _ rfl).1, fun j => (hR.2.2.2.1 k0 j).1 (hk.trans q)⟩
    · exact ⟨.boolean, Or.inr (Or.inr rfl), by rw [q]; exact (hKn.1.2 2 _ rfl).1, fun j => (hR.2.2.2.1 k0 j).2 (hk.trans q)⟩
  obtain ⟨ty, hty, hAr, hfit⟩ := hArr
  obtain ⟨-, kA, hkA, cm, hkk⟩ := hAr 0 (fun _ => .null)
  have hkA : s.vm.classes[X.2.2.1 (zK M k1).1]? = some kA := hkA
  intro T hT XS
  obtain ⟨vm', X', step⟩ := XS.arraycopy hx hown (hts _ (zin hl rfl)) (hts _ (zin hnat rfl)) (hts _ (zin hstat rfl)) (hts _ (zin hini rfl)) (src := zad X k0) (dst := zad X k1) (cs := vp_cell (X.2.2.1 (zK M k1).1) ((zK M k0).2, .inl (zI M k0))) (cd := vp_cell (X.2.2.1 (zK M k1).1) ((zK M k1).2, .inl (zI M k1))) (srcPos := sp) (destPos := dp) (n := n) (by rw [hT]; exact hc0) (by rw [hT]; exact hc1)
    (fun _ h => by cases h) (fun _ h => by cases h) (fun h => by cases h) (fun h => by cases h) hkA hkA hkk hkk (by rcases hty with rfl | rfl | rfl <;> rfl) h1 h2 h3
    (by rw [znn sp h1, znn n h3]; show ¬ _ > ((arrV _ _ (fun j => .int (zI M k0 j))).slots.size : Int); rw [arrV_size]; omega)
    (by rw [znn dp h2, znn n h3]; show ¬ _ > ((arrV _ _ (fun j => .int (zI M k1 j))).slots.size : Int); rw [arrV_size]; omega)
    (fun vm₁ _ a ha => by
      have e : (vp_cell (X.2.2.1 (zK M k1).1) ((zK M k0).2, .inl (zI M k0))).slots.getD (sp.toNatClampNeg + a) .null = .int (zI M k0 (sp.toNatClampNeg + a)) := by
        show (arrV _ _ (fun j => .int (zI M k0 j))).slots.getD _ _ = _
        rw [Array.getD_eq_getD_getElem?, arrV_read _ _ (by omega)]
        rfl
      rw [e]
      exact ⟨hfit _, trivial⟩)
    (g := F0 m pc lsA (.int n :: .int dp :: .ref (zad X k1) :: .int sp :: .ref (zad X k0) :: st.map (zcv X))) rfl (by show lsA.size = _; rw [C.2.2.1.1]; exact hml.symm) (rest := st.map (zcv X)) rfl (by rw [hbc]; exact h) (by omega) (by show 2 * 0 + _ + _ ≤ _; rw [show nativeFrameWords "java/lang/System" "arraycopy" 5 = 7 from rfl]; omega)
  have e1 : copied (vp_cell (X.2.2.1 (zK M k1).1) ((zK M k0).2, .inl (zI M k0))) (vp_cell (X.2.2.1 (zK M k1).1) ((zK M k1).2, .inl (zI M k1))) sp dp n = vp_cell (X.2.2.1 (zK M k1).1) ((zK M k1).2, .inl (va_cpy (zI M k0) (zI M k1) sp.toNatClampNeg dp.toNatClampNeg n.toNatClampNeg)) := va_copied (fun z => .int z) _ _ _ _ h4
  rw [e1] at X' step
  have hl2 : zad X k1 < H.size := (Array.getElem?_eq_some_iff.mp hc1).1
  have hRn : zRel X (zsR M k1 (va_cpy (zI M k0) (zI M k1) sp.toNatClampNeg dp.toNatClampNeg n.toNatClampNeg)) (H.setIfInBounds (zad X k1) (vp_cell (X.2.2.1 (zK M k1).1) ((zK M k1).2, .inl (va_cpy (zI M k0) (zI M k1) sp.toNatClampNeg dp.toNatClampNeg n.toNatClampNeg)))) := by
    refine hR.upd h6.2 rfl rfl (fun k' e => zr_ne e) (fun _ _ => rfl) (fun _ _ => rfl) (fun k j => ?_) (by simp) (fun q hq => by simp [Array.getElem?_setIfInBounds, Ne.symm hq]) ?_
    · by_cases e : k = k1
      · subst e
        rw [show zI (zsR M k (va_cpy (zI M k0) (zI M k) sp.toNatClampNeg dp.toNatClampNeg n.toNatClampNeg)) k = va_cpy (zI M k0) (zI M k) sp.toNatClampNeg dp.toNatClampNeg n.toNatClampNeg from zr_eq]
        refine ⟨fun q => ?_, fun q => ?_⟩
        · exact zcpy_in (P := fun z => fits .byte (.int z) = true) (fun j => (hR.2.2.2.1 k0 j).1 (hk.trans q)) (fun j => (hR.2.2.2.1 k j).1 q) j
        · exact zcpy_in (P := fun z => fits .boolean (.int z) = true) (fun j => (hR.2.2.2.1 k0 j).2 (hk.trans q)) (fun j => (hR.2.2.2.1 k j).2 q) j
      · rw [show zI (zsR M k1 (va_cpy (zI M k0) (zI M k1) sp.toNatClampNeg dp.toNatClampNeg n.toNatClampNeg)) k = zI M k from zr_ne e]
        exact hR.2.2.2.1 k j
    · rw [zE_int (M := zsR M k1 (va_cpy (zI M k0) (zI M k1) sp.toNatClampNeg dp.toNatClampNeg n.toNatClampNeg)) (c := (zK M k1).1) rfl hk1.1 hk1.2, show zI (zsR M k1 (va_cpy (zI M k0) (zI M k1) sp.toNatClampNeg dp.toNatClampNeg n.toNatClampNeg)) k1 = va_cpy (zI M k0) (zI M k1) sp.toNatClampNeg dp.toNatClampNeg n.toNatClampNeg from zr_eq]
      show (H.setIfInBounds (zad X k1) _)[zad X k1]? = some (vp_cell _ _)
      rw [Array.getElem?_setIfInBounds, if_pos rfl, if_pos hl2]
      rfl
  obtain ⟨t, a1, b1⟩ := kk p e R s m args below meth cd _ _ cells slots Qw lsA ⟨C.1, C.2.1, C.2.2.1, hRn, fun q hq => by
      rcases List.mem_append.mp hq with h | h
      · exact C.2.2.2.2.1 q h
      · obtain ⟨z, -, hz⟩ := List.mem_map.mp h
        rw [← hz]
        exact zA_ad h6.2, C.2.2.2.2.2.put rfl rfl h6.2 (show (zK M k1).1 < 30 by omega) (fun q hq => by simp [Array.getElem?_setIfInBounds, Ne.symm hq])⟩ _ (by rw [← hT]; rfl) X'
  exact ⟨t, step t a1, b1⟩
/-! calls -/
theorem zblind (as : List Value) : FrameBlind (zPc X as M) := fun a U g mk h => ⟨h.1, h.2.1, zKn.same (u := U) (U := U.calling g mk a) rfl h.2.2⟩
theorem zrun {kc' ks' : Nat} {p : Program} {e : Env} {R : Room} {s : State} {m : MethodId} {args : Array Value} {below : List Frame} {meth : Method} {c : Code} {H : Heap} {locs : List Loc} {cells slots : Nat} {Qw : State → Prop} {lsA : Array Slot} {st0 : List Value} {a : Array Value}
    (C : zCx X l d (kc + kc') (ks + ks') y ls M Q p e R s m args below meth c H locs cells slots Qw lsA)
    (hr : va_Run p l e R s m args below meth c H locs cells slots kc' ks' (F0 m pc lsA st0) (st.map (zcv X)) (zQc X M (fun r M' => zGo X l d kc ks y (pc + 3) ls (r.toList ++ st) M' Q) a) (zA X)) : W p l e R s m args below meth c H locs cells slots Qw (F0 m pc lsA st0) := by
  intro T hT XS
  obtain ⟨v, st₀, t, T', L, h0, X', hL, e1, e2, ⟨r, M', hv, hq, hR', hE', hH'⟩, stp⟩ := hr T hT XS
  have hv : v = r.map (zcv X) := by cases hv; rfl
  subst hv
  have hcs := C.2.1
  have hW := hq p e R s m args below meth c T'.heap (locs ++ L) (cells + kc') (slots + ks') Qw lsA ⟨C.1, ⟨by omega, by omega⟩, C.2.2.1, by rw [e1]; exact hR', fun q hq => by
    rcases List.mem_append.mp hq with h | h
    · exact C.2.2.2.2.1 q h
    · exact hL q h, ?_⟩
  rotate_left
  · obtain ⟨Me, f1, f2, f3⟩ := C.2.2.2.2.2
    refine ⟨Me, ⟨Nat.le_trans f1.1 hE'.1, fun k hk => (hE'.2.1 k (Nat.lt_of_lt_of_le hk f1.1)).trans (f1.2.1 k hk), fun k k1 k2 => ?_⟩, fun k k1 k2 k3 => ?_, f3⟩
    · rcases Nat.lt_or_ge k (zN M) with q | q
      · rw [hE'.2.1 k q]
        exact f1.2.2 k k1 q
      · exact hE'.2.2 k q k2
    · rw [e1, hH' k k1 (Nat.lt_of_lt_of_le k2 f1.1) (by rw [f1.2.1 k k2]; exact k3), h0]
      exact f2 k k1 k2 k3
  obtain ⟨t2, a1, b1⟩ := hW T' rfl X'
  refine ⟨t2, stp t2 ?_, b1⟩
  rw [List.map_append, show r.toList.map (zcv X) = (r.map (zcv X)).toList by cases r <;> rfl] at a1
  exact a1
theorem zgoodY (y : Nat) (hc : Cond.code (mt y).1 (mt y).2.1 (mt y).2.2.1 (mt y).2.2.2.1 ∈ lw_tbl) : GoodIn zw (zwsY y) := by
  intro w hw
  rcases List.mem_cons.mp hw with rfl | hw
  · exact ⟨zin hc rfl, good_of_word rfl⟩
  · exact ⟨hw, good_of_word (List.mem_filter.mp hw).2⟩
/-- what a call of the method y wants of the tables, but for its link -/
def zmo (y n : Nat) : Prop := Cond.code (mt y).1 (mt y).2.1 (mt y).2.2.1 (mt y).2.2.2.1 ∈ lw_tbl ∧ Cond.initialized (mt y).1.cls ∈ lw_tbl ∧ ((mt y).1.cls ≠ "java/lang/invoke/MethodHandle" ∧ (mt y).1.cls ≠ "java/lang/invoke/VarHandle" ∧ (parseMethodDescriptor (mt y).1.desc).map (fun d => d.parameters.length) = some n) ∧ (mt y).2.2.1 ≤ 45
theorem zcb {p : Program} {R : Room} {s : State} {args : Array Value} {y' kc' ks' n i d' : Nat} (hts : ∀ w ∈ zw, w.before args s = true) (hm : zmo y' n) (hl : Cond.methodLink (mt y).1.cls i (mt y').1 ∈ lw_tbl) (hd : d' + 1 ≤ d) (hfr : d ≤ R.frames) (hlo : 64 * d ≤ R.locals) : CallB R s args (mt y).1.cls i (mt y').1 (mt y').2.1 (mt y').2.2.1 (mt y').2.2.2.1 (zwsY y') (zrm d' kc' ks') kc' ks' n := by
  obtain ⟨h1, h2, h3, h4⟩ := hm
  exact callB_of n hts (zgoodY y' h1) rfl rfl rfl (hts _ (zin h2 rfl)) (hts _ (zin hl rfl)) h3 ⟨by show d' + 1 ≤ _; omega, by show 8 + (_ + 11) + 64 * d' ≤ _; omega⟩
theorem zcn {p : Program} {R : Room} {s : State} {args : Array Value} {y' kc' ks' n i d' : Nat} {ho : String} (hts : ∀ w ∈ zw, w.before args s = true) (hm : zmo y' n) (hl : va_Nw (Cond.methodLinkNest (mt y).1.cls i (mt y').1 ho) s) (hd : d' + 1 ≤ d) (hfr : d ≤ R.frames) (hlo : 64 * d ≤ R.locals) : va_CN R s args (mt y).1.cls i (mt y').1 ho (mt y').2.1 (mt y').2.2.1 (mt y').2.2.2.1 (zwsY y') (zrm d' kc' ks') kc' ks' n := by
  obtain ⟨h1, h2, h3, h4⟩ := hm
  exact va_cnB n hts (zgoodY y' h1) rfl rfl rfl hl (hts _ (zin h2 rfl)) h3 ⟨by show d' + 1 ≤ _; omega, by show 8 + (_ + 11) + 64 * d' ≤ _; omega⟩
/-- the receiver is of the class that the method is of -/
def zrec (M : zM) (k y' : Nat) : Prop := ((zK M k).1 < 13 ∧ (mt y').1.cls = cR (zK M k).1) ∨ (k = 4 ∧ (mt y').1.cls = "java/lang/String")
theorem zrecv {s : State} {H : Heap} {k y' : Nat} (hKn : zKn X s) (hR : zRel X M H) (h : zrec M k y') : ∃ cell : Cell, H[zad X k]? = some cell ∧ cell.vm.isStatics = false ∧ s.vm.findClass (mt y').1.cls = some cell.cls := by
  rcases h with ⟨h1, h2⟩ | ⟨rfl, h2⟩
  · obtain ⟨h6, hN⟩ := zlt20 hKn hR (k := k) (by omega)
    have hat := hR.2.2.1 k h6 (by omega)
    rw [zE_obj rfl (by omega)] at hat
    rw [h2]
    exact va_recv (q0 := 0) hKn.1 (zP1 hat) (cls_at _ h1) rfl
  · obtain ⟨cell, g1, g2, g3, g4⟩ := hKn.2.2.2.1
    rw [h2]
    refine ⟨cell, ?_, g2, g3⟩
    rw [show zad X 4 = X.2.2.2.1 4 from if_pos (by omega), hR.2.2.2.2.1 _ (Array.getElem?_eq_some_iff.mp g1).1]
    exact g1
theorem zstk {As : List Value} {k : Nat} : (As.reverse ++ .ref k :: st).map (zcv X) = (As.map (zcv X)).reverse ++ .ref (zad X k) :: st.map (zcv X) := by
  rw [List.map_append, List.map_reverse]
  rfl
theorem zg_callV {y' k i d' kc' ks' : Nat} {As : List Value} (h : zdc y pc (.invokevirtual i) 3) (hm : zmo y' As.length) (hl : Cond.methodLink (mt y).1.cls i (mt y').1 ∈ lw_tbl) (hin : Cond.instanceMethod (mt y').1 ∈ lw_tbl) (hse : Cond.selects (mt y').1.cls (mt y').1 (mt y').1 ∈ lw_tbl) (hrc : zrec M k y') (hcat : (st.map fun v => v.category).sum ≤ 8) (hd : d' + 1 ≤ d)
    (K : zCall X l d' kc' ks' y' (.ref k :: As) M (fun r M' => zGo X l d kc ks y (pc + 3) ls (r.toList ++ st) M' Q)) : zGo X l d (kc + kc') (ks + ks') y pc ls (As.reverse ++ .ref k :: st) M Q := by
  intro p e R s m args below meth cd H locs cells slots Qw lsA C
  obtain ⟨hx, hb, hml, hown, hts, hKn, hfr, hlo, -⟩ := id C.1
  have hR := C.2.2.2.1
  have hcs := C.2.1
  rw [zstk]
  exact zrun C (va_runV (As := As.map (zcv X)) (rest := st.map (zcv X)) ⟨hx, hb, hml, hown, hts⟩ K ⟨zcb (p := p) hts hm hl hd hfr hlo, hts _ (zin hin rfl), hts _ (zin hse rfl)⟩ ⟨zblind _, zrecv hKn hR hrc, fun U hU hW => ⟨rfl, by rw [hU]; exact hR, zKn.warm hW hKn⟩⟩ rfl (by simp) C.2.2.1.1 rfl (lv_room (zcat hKn hcat)) h ⟨by omega, by omega⟩)
theorem zg_callS {y' i d' kc' ks' : Nat} {As : List Value} (h : zdc y pc (.invokestatic i) 3) (hm : zmo y' As.length) (hl : Cond.methodLink (mt y).1.cls i (mt y').1 ∈ lw_tbl) (hin : Cond.static (mt y').1 ∈ lw_tbl) (hcat : (st.map fun v => v.category).sum ≤ 8) (hd : d' + 1 ≤ d)
    (K : zCall X l d' kc' ks' y' As M (fun r M' => zGo X l d kc ks y (pc + 3) ls (r.toList ++ st) M' Q)) : zGo X l d (kc + kc') (ks + ks') y pc ls (As.reverse ++ st) M Q := by
  intro p e R s m args below meth cd H locs cells slots Qw lsA C
  obtain ⟨hx, hb, hml, hown, hts, hKn, hfr, hlo, -⟩ := id C.1
  have hR := C.2.2.2.1
  have hcs := C.2.1
  rw [List.map_append, List.map_reverse]
  exact zrun C (va_runS (As := As.map (zcv X)) (rest := st.map (zcv X)) ⟨hx, hb, hml, hown, hts⟩ K ⟨zcb (p := p) hts hm hl hd hfr hlo, hts _ (zin hin rfl)⟩ ⟨zblind _, fun U hU hW => ⟨rfl, by rw [hU]; exact hR, zKn.warm hW hKn⟩⟩ rfl (by simp) C.2.2.1.1 rfl (lv_room (zcat hKn hcat)) h ⟨by omega, by omega⟩)
theorem zg_callSN {y' i d' kc' ks' : Nat} {As : List Value} {ho : String} (h : zdc y pc (.invokestatic i) 3) (hm : zmo y' As.length) (hl : Cond.methodLinkNest (mt y).1.cls i (mt y').1 ho ∈ lw_tbl) (hin : Cond.static (mt y').1 ∈ lw_tbl) (hcat : (st.map fun v => v.category).sum ≤ 8) (hd : d' + 1 ≤ d)
    (K : zCall X l d' kc' ks' y' As M (fun r M' => zGo X l d kc ks y (pc + 3) ls (r.toList ++ st) M' Q)) : zGo X l d (kc + kc') (ks + ks') y pc ls (As.reverse ++ st) M Q := by
  intro p e R s m args below meth cd H locs cells slots Qw lsA C
  obtain ⟨hx, hb, hml, hown, hts, hKn, hfr, hlo, -⟩ := id C.1
  have hR := C.2.2.2.1
  have hcs := C.2.1
  rw [List.map_append, List.map_reverse]
  exact zrun C (va_runSN (As := As.map (zcv X)) (rest := st.map (zcv X)) ⟨hx, hb, hml, hown, hts⟩ K ⟨zcn (p := p) hts hm (hKn.2.2.2.2.2.2.2.2.1 _ hl rfl) hd hfr hlo, hts _ (zin hin rfl), trivial⟩ ⟨zblind _, fun U hU hW => ⟨rfl, by rw [hU]; exact hR, zKn.warm hW hKn⟩⟩ rfl (by simp) C.2.2.1.1 rfl (lv_room (zcat hKn hcat)) h ⟨by omega, by omega⟩)
theorem zg_callI {y' k i d' kc' ks' : Nat} {As : List Value} (h : zdc y pc (.invokespecial i) 3) (hm : zmo y' As.length) (hl : Cond.methodLink (mt y).1.cls i (mt y').1 ∈ lw_tbl) (hin : Cond.instanceMethod (mt y').1 ∈ lw_tbl) (hnm : (mt y').1.name = "<init>") (hre : (mt y').2.2.2.1 = none) (hcat : (st.map fun v => v.category).sum ≤ 8) (hd : d' + 1 ≤ d)
    (K : zCall X l d' kc' ks' y' (.ref k :: As) M (fun r M' => zGo X l d kc ks y (pc + 3) ls (r.toList ++ st) M' Q)) : zGo X l d (kc + kc') (ks + ks') y pc ls (As.reverse ++ .ref k :: st) M Q := by
  intro p e R s m args below meth cd H locs cells slots Qw lsA C
  obtain ⟨hx, hb, hml, hown, hts, hKn, hfr, hlo, -⟩ := id C.1
  have hR := C.2.2.2.1
  have hcs := C.2.1
  rw [zstk]
  have cb := zcb (p := p) (y := y) (kc' := kc') (ks' := ks') hts hm hl hd hfr hlo
  rw [hre] at cb
  exact zrun C (va_runI (As := As.map (zcv X)) (rest := st.map (zcv X)) ⟨hx, hb, hml, hown, hts⟩ K ⟨cb, hnm, hts _ (zin hin rfl)⟩ ⟨zblind _, fun U hU hW => ⟨rfl, by rw [hU]; exact hR, zKn.warm hW hKn⟩⟩ rfl (by simp) C.2.2.1.1 rfl (lv_room (zcat hKn hcat)) h ⟨by omega, by omega⟩)
theorem zg_callIN {y' k i d' kc' ks' : Nat} {As : List Value} {ho : String} (h : zdc y pc (.invokespecial i) 3) (hm : zmo y' As.length) (hl : Cond.methodLinkNest (mt y).1.cls i (mt y').1 ho ∈ lw_tbl) (hin : Cond.instanceMethod (mt y').1 ∈ lw_tbl) (hnm : (mt y').1.name = "<init>") (hre : (mt y').2.2.2.1 = none) (hcat : (st.map fun v => v.category).sum ≤ 8) (hd : d' + 1 ≤ d)
    (K : zCall X l d' kc' ks' y' (.ref k :: As) M (fun r M' => zGo X l d kc ks y (pc + 3) ls (r.toList ++ st) M' Q)) : zGo X l d (kc + kc') (ks + ks') y pc ls (As.reverse ++ .ref k :: st) M Q := by
  intro p e R s m args below meth cd H locs cells slots Qw lsA C
  obtain ⟨hx, hb, hml, hown, hts, hKn, hfr, hlo, -⟩ := id C.1
  have hR := C.2.2.2.1
  have hcs := C.2.1
  rw [zstk]
  have cb := zcn (p := p) (y := y) (kc' := kc') (ks' := ks') hts hm (hKn.2.2.2.2.2.2.2.2.1 _ hl rfl) hd hfr hlo
  rw [hre] at cb
  exact zrun C (va_runIN (As := As.map (zcv X)) (rest := st.map (zcv X)) ⟨hx, hb, hml, hown, hts⟩ K ⟨cb, hnm, hts _ (zin hin rfl)⟩ ⟨zblind _, fun U hU hW => ⟨rfl, by rw [hU]; exact hR, zKn.warm hW hKn⟩⟩ rfl (by simp) C.2.2.1.1 rfl (lv_room (zcat hKn hcat)) h ⟨by omega, by omega⟩)
end ZMEM6
