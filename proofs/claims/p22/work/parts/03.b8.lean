section ZMEM4
variable {X : zX} {l : Launch} {d kc ks y pc : Nat} {ls : List (Nat × Value)} {st : List Value} {M : zM} {Q : Option Value → zM → Prop}
theorem zsz {H : Heap} (hR : zRel X M H) : zad X (zN M) = H.size := by
  rw [hR.2.1]
  exact if_neg (by have := hR.1; omega)
theorem zdef (t : FieldType) : defaultValue t = (if zft t = 0 then .int 0 else if zft t = 1 then .long 0 else .null) ∨ t = .float ∨ t = .double := by cases t <;> first | exact Or.inl rfl | exact Or.inr (Or.inl rfl) | exact Or.inr (Or.inr rfl)
theorem zg_new (hW : ∀ c, c < 13 → ∀ w ∈ u_ws (cR c) (cT c) (cN c), w ∈ lw_tbl) {c i : Nat} (h : zdc y pc (.new i) 3) (hc : c < 13) (hl : Cond.classLink (mt y).1.cls i (cR c) ∈ lw_tbl) (hi : Cond.instantiable (cR c) (cN c) ∈ lw_tbl) (hn : Cond.initialized (cR c) ∈ lw_tbl) (hfd : ∀ j, j < cN c → cY c j ≠ .float ∧ cY c j ≠ .double)
    (kk : zGo X l d kc ks y (pc + 3) ls (.ref (zN M) :: st) (zal M (c, 0)) Q) : zGo X l d (kc + 1) (ks + cN c) y pc ls st M Q := by
  intro p e R s m args below meth cd H locs cells slots Qw lsA C
  obtain ⟨hx, hb, hml, hown, hts, hKn, -⟩ := id C.1
  have hR := C.2.2.2.1
  have hKc := hKn.1.1 c _ (cls_at c hc)
  have hcs := C.2.1
  refine W.newcK hx hb hown (hts _ (zin hl rfl)) (hts _ (zin hi rfl)) (hts _ (zin hn rfl)) rfl h (by omega) (by omega) hKc.2.1 rfl fun H1 kC hkC e1 e2 e3 => ?_
  have hs := zsz hR
  have hW2 := kk p e R s m args below meth cd H1 locs (cells + 1) (slots + cN c) Qw lsA ⟨C.1, ⟨by omega, by omega⟩, C.2.2.1, ?_, C.2.2.2.2.1, C.2.2.2.2.2.new rfl (fun k' h => if_neg h) (by show (if zN M = M.1 then _ else _ : Nat × Nat).1 < 30; rw [if_pos rfl]; show c < 30; omega) hR.2.1 e3⟩
  · rw [List.map_cons, show zcv X (.ref (zN M)) = .ref (zad X (zN M)) from rfl, hs] at hW2
    exact hW2
  · refine hR.new (c := (0, 0)) rfl (fun k' h => if_neg h) (fun k' h => zr_ne h) (fun k' h => zr_ne h) (fun k' h => zr_ne h) (fun j => by rw [show zI (zal M _) (zN M) = fun _ => 0 from zr_eq]; exact ⟨fun _ => rfl, fun _ => rfl⟩) e2 e3 ?_
    rw [zE_obj (c := c) (show (zK (zal M (c, 0)) (zN M)).1 = c by show (if zN M = M.1 then (c, 0) else _).1 = c; rw [if_pos rfl]) (by omega)]
    refine ⟨_, cls_at c hc, (u_born (cY c) hts (zcls_in hW hc) hKc hkC e1 (cty_ok c hc)).to fun j hj => ?_⟩
    unfold vp_V
    rw [List.getD_eq_getElem?_getD, zfs_at hj]
    show _ = zcv X (zfv (zal M (c, 0)) (zN M) (cY c j) j)
    unfold zfv
    rw [show zI (zal M (c, 0)) (zN M) = fun _ => 0 from zr_eq, show zJ (zal M (c, 0)) (zN M) = fun _ => 0 from zr_eq, show zP (zal M (c, 0)) (zN M) = fun _ => none from zr_eq]
    rcases zdef (cY c j) with q | q | q
    · rw [q]
      split
      · rfl
      · split <;> rfl
    · exact absurd q (hfd j hj).1
    · exact absurd q (hfd j hj).2
theorem zg_newarray {c : Nat} {at_ : ArrayType} {n : Int32} (h : zdc y pc (.newarray at_) 2) (hc : (c = 20 ∧ at_ = .int) ∨ (c = 21 ∧ at_ = .byte) ∨ (c = 22 ∧ at_ = .boolean) ∨ (c = 23 ∧ at_ = .long)) (hl : Cond.arrayClass (newarray.typeOf at_) ∈ lw_tbl) (hn : ¬ n < 0) (hb : n.toNatClampNeg ≤ 100000)
    (kk : zGo X l d kc ks y (pc + 2) ls (.ref (zN M) :: st) (zal M (c, n.toNatClampNeg)) Q) : zGo X l d (kc + 1) (ks + n.toNatClampNeg) y pc ls (.int n :: st) M Q := by
  intro p e R s m args below meth cd H locs cells slots Qw lsA C
  obtain ⟨hx, hbc, hml, hown, hts, hKn, -⟩ := id C.1
  have hR := C.2.2.2.1
  have hcs := C.2.1
  have hby : n.toNatClampNeg * componentBytes (newarray.typeOf at_) ≤ 536870912 := by
    have : componentBytes (newarray.typeOf at_) ≤ 8 := by cases at_ <;> decide
    calc n.toNatClampNeg * componentBytes (newarray.typeOf at_) ≤ 100000 * 8 := Nat.mul_le_mul hb this
      _ ≤ 536870912 := by decide
  refine va_newaK hx hbc (hts _ (zin hl rfl)) rfl h rfl hn rfl hby (by omega) (by omega) rfl fun H1 cA e1 e2 e3 hAr hNm => ?_
  have hs := zsz hR
  have hcA : cA = X.2.2.1 c := by
    rcases hc with ⟨rfl, rfl⟩ | ⟨rfl, rfl⟩ | ⟨rfl, rfl⟩ | ⟨rfl, rfl⟩
    · exact Option.some.inj (hNm.symm.trans (hKn.1.2 0 _ rfl).2)
    · exact Option.some.inj (hNm.symm.trans (hKn.1.2 1 _ rfl).2)
    · exact Option.some.inj (hNm.symm.trans (hKn.1.2 2 _ rfl).2)
    · exact Option.some.inj (hNm.symm.trans (hKn.1.2 3 _ rfl).2)
  subst hcA
  have hW2 := kk p e R s m args below meth cd H1 locs (cells + 1) (slots + n.toNatClampNeg) Qw lsA ⟨C.1, ⟨by omega, by omega⟩, C.2.2.1, ?_, C.2.2.2.2.1, C.2.2.2.2.2.new rfl (fun k' h => if_neg h) (by show (if zN M = M.1 then _ else _ : Nat × Nat).1 < 30; rw [if_pos rfl]; show c < 30; omega) hR.2.1 e3⟩
  · rw [List.map_cons, show zcv X (.ref (zN M)) = .ref (zad X (zN M)) from rfl, hs] at hW2
    exact hW2
  · refine hR.new (c := (0, 0)) rfl (fun k' h => if_neg h) (fun k' h => zr_ne h) (fun k' h => zr_ne h) (fun k' h => zr_ne h) (fun j => by rw [show zI (zal M _) (zN M) = fun _ => 0 from zr_eq]; exact ⟨fun _ => rfl, fun _ => rfl⟩) e2 e3 ?_
    have hk : zK (zal M (c, n.toNatClampNeg)) (zN M) = (c, n.toNatClampNeg) := if_pos rfl
    by_cases h23 : c = 23
    · subst h23
      rw [zE_long (show (zK (zal M (23, n.toNatClampNeg)) (zN M)).1 = 23 by rw [hk]), hk, show zJ (zal M (23, n.toNatClampNeg)) (zN M) = fun _ => 0 from zr_eq]
      have : at_ = .long := by rcases hc with ⟨q, -⟩ | ⟨q, -⟩ | ⟨q, -⟩ | ⟨-, q⟩ <;> first | exact q | cases q
      subst this
      show H1[H.size]? = some (vp_cell _ _)
      rw [vp_cell_l]
      exact e1
    · rw [zE_int (c := c) (show (zK (zal M (c, n.toNatClampNeg)) (zN M)).1 = c by rw [hk]) (by omega) (by omega), hk, show zI (zal M (c, n.toNatClampNeg)) (zN M) = fun _ => 0 from zr_eq]
      show H1[H.size]? = some (vp_cell _ _)
      rw [vp_cell_i]
      rcases hc with ⟨rfl, rfl⟩ | ⟨rfl, rfl⟩ | ⟨rfl, rfl⟩ | ⟨rfl, rfl⟩
      · exact e1
      · exact e1
      · exact e1
      · exact absurd rfl h23
theorem zg_anewarray {c i : Nat} {n : Int32} {C : String} (h : zdc y pc (.anewarray i) 3) (hc : (c = 24 ∧ C = "TrackVotes$State") ∨ (c = 25 ∧ C = "TrackVotes$Track")) (hl : Cond.classLink (mt y).1.cls i C ∈ lw_tbl) (hn : ¬ n < 0) (hb : n.toNatClampNeg ≤ 100000)
    (kk : zGo X l d kc ks y (pc + 3) ls (.ref (zN M) :: st) (zal M (c, n.toNatClampNeg)) Q) : zGo X l d (kc + 1) (ks + n.toNatClampNeg) y pc ls (.int n :: st) M Q := by
  intro p e R s m args below meth cd H locs cells slots Qw lsA Cx
  obtain ⟨hx, hbc, hml, hown, hts, hKn, -⟩ := id Cx.1
  have hR := Cx.2.2.2.1
  have hcs := Cx.2.1
  have hAO : va_AO C s := by
    rcases hc with ⟨-, rfl⟩ | ⟨-, rfl⟩
    · exact hKn.2.2.2.2.2.2.2.2.2.2.1.1
    · exact hKn.2.2.2.2.2.2.2.2.2.2.1.2
  refine W.anew hx hbc hown (hts _ (zin hl rfl)) (va_AO.use hAO) rfl h rfl hn (by omega) (by omega) (by omega) fun cA kA comp f1 f2 f3 f4 => ?_
  have hcA : cA = X.2.2.1 c := by
    rcases hc with ⟨rfl, rfl⟩ | ⟨rfl, rfl⟩
    · obtain ⟨_, _, _, _, _, g⟩ := (hKn.1.2 4 _ rfl).2
      exact Option.some.inj (f1.symm.trans g)
    · obtain ⟨_, _, _, _, _, g⟩ := (hKn.1.2 5 _ rfl).2
      exact Option.some.inj (f1.symm.trans g)
  subst hcA
  generalize hH1 : H.push ({ cls := X.2.2.1 c, slots := Array.replicate n.toNatClampNeg .null, vm := .none } : Cell) = H1
  have z1 : H1.size = H.size + 1 := by rw [← hH1, Array.size_push]
  have e1 : H1[H.size]? = some (arrV (X.2.2.1 c) n.toNatClampNeg (fun _ => .null)) := by rw [← hH1, Array.getElem?_push_size, ← arrV_new]
  have o1 : ∀ q : Nat, q < H.size → H1[q]? = H[q]? := fun q hq => by rw [← hH1, Array.getElem?_push, if_neg (Nat.ne_of_lt hq)]
  have hs := zsz hR
  have hW2 := kk p e R s m args below meth cd H1 locs (cells + 1) (slots + n.toNatClampNeg) Qw lsA ⟨Cx.1, ⟨by omega, by omega⟩, Cx.2.2.1, ?_, Cx.2.2.2.2.1, Cx.2.2.2.2.2.new rfl (fun k' h => if_neg h) (by show (if zN M = M.1 then _ else _ : Nat × Nat).1 < 30; rw [if_pos rfl]; show c < 30; omega) hR.2.1 o1⟩
  · rw [List.map_cons, show zcv X (.ref (zN M)) = .ref (zad X (zN M)) from rfl, hs] at hW2
    exact hW2
  · refine hR.new (c := (0, 0)) rfl (fun k' h => if_neg h) (fun k' h => zr_ne h) (fun k' h => zr_ne h) (fun k' h => zr_ne h) (fun j => by rw [show zI (zal M _) (zN M) = fun _ => 0 from zr_eq]; exact ⟨fun _ => rfl, fun _ => rfl⟩) z1 o1 ?_
    have hk : zK (zal M (c, n.toNatClampNeg)) (zN M) = (c, n.toNatClampNeg) := if_pos rfl
    rw [zE_ref (c := c) (show (zK (zal M (c, n.toNatClampNeg)) (zN M)).1 = c by rw [hk]) (by omega), hk, show zP (zal M (c, n.toNatClampNeg)) (zN M) = fun _ => none from zr_eq]
    show H1[H.size]? = some (vp_cell _ _)
    rw [vp_cell_q]
    exact e1
/-- a row of ints that is the first static array, cloned -/
theorem zg_clone {i : Nat} (h : zdc y pc (.invokevirtual i) 3) (hl : Cond.methodLink (mt y).1.cls i ⟨"[I", "clone", "()Ljava/lang/Object;"⟩ ∈ lw_tbl) (hsame : Cond.sameMethod "[I" "java/lang/Object" "clone" "()Ljava/lang/Object;" ∈ lw_tbl) (hnat : Cond.native ⟨"java/lang/Object", "clone", "()Ljava/lang/Object;"⟩ ∈ lw_tbl) (hinst : Cond.instanceMethod ⟨"java/lang/Object", "clone", "()Ljava/lang/Object;"⟩ ∈ lw_tbl)
    (hsel : Cond.selects "[I" ⟨"[I", "clone", "()Ljava/lang/Object;"⟩ ⟨"java/lang/Object", "clone", "()Ljava/lang/Object;"⟩ ∈ lw_tbl) (hcl : Cond.castable "[I" "java/lang/Cloneable" ∈ lw_tbl) (hcat : (st.map fun v => v.category).sum ≤ 8) (hd : 1 ≤ d)
    (kk : zGo X l d kc ks y (pc + 3) ls (.ref (zN M) :: st) (zsR (zal M (20, 9)) (zN M) (zI M 1)) Q) : zGo X l d (kc + 1) (ks + 9) y pc ls (.ref 1 :: st) M Q := by
  intro p e R s m args below meth cd H locs cells slots Qw lsA C
  obtain ⟨hx, hbc, hml, hown, hts, hKn, hfr, hlo, -⟩ := id C.1
  have hR := C.2.2.2.1
  have hcs := C.2.1
  obtain ⟨hlt, cell, g1, g2, g3, g4, g5, g6⟩ := hKn.2.2.2.2.2.2.2.2.2.2.2.2.1
  have g1' : H[zad X 1]? = some cell := by
    rw [show zad X 1 = X.2.2.2.1 1 from if_pos (by omega), hR.2.2.2.2.1 _ hlt]
    exact g1
  obtain ⟨c0, t0', f1, f2, f3⟩ := Cond.castable_spec (va_Nw.use (A := args) rfl (hKn.2.2.2.2.2.2.2.2.1 _ hcl rfl))
  have hnm : s.vm.findClass "[I" = some (X.2.2.1 20) := (hKn.1.2 0 _ rfl).2
  cases hnm.symm.trans f1
  obtain ⟨-, kS, hkS, compS, hkindS⟩ := (hKn.1.2 0 _ rfl).1 0 (fun _ => .null)
  have hcat2 : ((st.map (zcv X)).map fun v => v.category).sum ≤ 8 := by
    rw [List.map_map, show ((fun v : Value => v.category) ∘ zcv X) = fun v => v.category from funext fun v => zcv_cat hKn v]
    exact hcat
  intro T hT XS
  obtain ⟨-, kA, hkA, comp, hkind⟩ := State.isArrayOf_alike XS.warmed.alike ((hKn.1.2 0 _ rfl).1 0 (fun _ => .null))
  obtain ⟨vm', X', stp⟩ := XS.cloneArray hx hown (hts _ (zin hl rfl)) (hts _ (zin hsame rfl)) (hts _ (zin hnat rfl)) (hts _ (zin hinst rfl)) (hts _ (zin hsel rfl)) (a := zad X 1) (cell := cell) (by rw [hT]; exact g1') g3 g4 (by rw [g2]; exact hnm) f2 (by rw [g2]; exact f3)
    (fun j v hv => by
      rw [g2]
      have hk' : T.vm.classes[X.2.2.1 20]? = some kA := hkA
      have hj : j < 9 := by rw [← g5]; exact (Array.getElem?_eq_some_iff.mp hv).1
      have hv2 : v = .int (zI zM0 1 j) := Option.some.inj (hv.symm.trans (g6 j hj))
      subst hv2
      simp [State.fitsSlot, State.slotType?, hk', hkind, fits])
    (g := F0 m pc lsA (.ref (zad X 1) :: st.map (zcv X))) rfl (by show lsA.size = _; rw [C.2.2.1.1]; exact hml.symm) rfl (by rw [hbc]; exact h) (by omega) (by show 2 * 0 + _ + 14 ≤ _; omega) (by omega) (by rw [g5]; omega) (hloader := by rw [g2]; exact Vm.clonesLoader_of_array hkS hkindS)
  have hs := zsz hR
  have hcE : ({ cls := cell.cls, slots := cell.slots } : Cell) = vp_cell (X.2.2.1 20) (9, .inl (zI M 1)) := by
    rw [vp_cell_i, g2]
    unfold arrV
    congr 1
    refine Array.ext_getElem? fun j => ?_
    by_cases hj : j < 9
    · rw [g6 j hj, Array.getElem?_ofFn, dif_pos hj, (hR.2.2.2.2.2.1 1 (by omega)).2]
    · rw [Array.getElem?_eq_none (by omega), Array.getElem?_eq_none (by simp; omega)]
  rw [hcE] at X' stp
  rw [g5] at X'
  have o9 : ∀ q : Nat, q < H.size → (H.push (vp_cell (X.2.2.1 20) (9, .inl (zI M 1))))[q]? = H[q]? := fun q hq => by rw [Array.getElem?_push, if_neg (Nat.ne_of_lt hq)]
  have hk9 : zK (zsR (zal M (20, 9)) (zN M) (zI M 1)) (zN M) = (20, 9) := if_pos rfl
  have hRn : zRel X (zsR (zal M (20, 9)) (zN M) (zI M 1)) (H.push (vp_cell (X.2.2.1 20) (9, .inl (zI M 1)))) := by
    refine hR.new (c := (0, 0)) rfl (fun k' h => if_neg h) (fun k' h => (zr_ne h).trans (zr_ne h)) (fun k' h => zr_ne h) (fun k' h => zr_ne h) (fun j => by rw [hk9]; exact ⟨fun q => (by cases q), fun q => (by cases q)⟩) (by rw [Array.size_push]) o9 ?_
    rw [zE_int (M := zsR (zal M (20, 9)) (zN M) (zI M 1)) (c := 20) (by rw [hk9]) (by omega) (by omega), hk9, show zI (zsR (zal M (20, 9)) (zN M) (zI M 1)) (zN M) = zI M 1 from zr_eq]
    show (H.push _)[H.size]? = some (vp_cell _ _)
    rw [Array.getElem?_push_size]
  have hW2 := kk p e R s m args below meth cd _ locs (cells + 1) (slots + 9) Qw lsA ⟨C.1, ⟨by omega, by omega⟩, C.2.2.1, hRn, C.2.2.2.2.1, C.2.2.2.2.2.new rfl (fun k' h => if_neg h) (by rw [hk9]; decide) hR.2.1 o9⟩
  rw [List.map_cons, show zcv X (.ref (zN M)) = .ref (zad X (zN M)) from rfl, hs] at hW2
  obtain ⟨t, b1, b2⟩ := hW2 ((T.setVm vm').pushCell (vp_cell (X.2.2.1 20) (9, .inl (zI M 1)))) (by rw [← hT]; rfl) X'
  refine ⟨t, stp t ?_, b2⟩
  rw [hT]
  exact b1
end ZMEM4
