section ZMEM5
variable {X : zX} {l : Launch} {d kc ks y pc : Nat} {ls : List (Nat × Value)} {st : List Value} {M : zM} {Q : Option Value → zM → Prop}
theorem zcat {s : State} (hKn : zKn X s) {n : Nat} (hcat : (st.map fun v => v.category).sum ≤ n) : ((st.map (zcv X)).map fun v => v.category).sum ≤ n := by
  rw [List.map_map, show ((fun v : Value => v.category) ∘ zcv X) = fun v => v.category from funext fun v => zcv_cat hKn v]
  exact hcat
theorem zZ {p : Program} {e : Env} {R : Room} {s : State} {m : MethodId} {args : Array Value} {below : List Frame} {meth : Method} {c : Code} {H : Heap} {locs : List Loc} {cells slots : Nat} {Qw : State → Prop} {lsA : Array Slot} {st2 : List Value} {C n dd : String} {v : Value} {i : Nat} (hx : p.tables.exec = Jvm.exec) (hb : c.code = (mt y).2.1) (hown : s.vm.findClass (mt y).1.cls = some m.cls) (hR : zRel X M H) (hZ : va_Z C n dd v (zA X) s X.2.1) (hl : (Cond.fieldLink (mt y).1.cls i C n dd).before args s = true ∨ ∃ h, (Cond.fieldLinkNest (mt y).1.cls i C n dd h).before args s = true) (h : zdc y pc (.getstatic i) 3)
    (kk : W p l e R s m args below meth c H locs cells slots Qw (F0 m (pc + 3) lsA (v :: st2))) : W p l e R s m args below meth c H locs cells slots Qw (F0 m pc lsA st2) := by
  obtain ⟨cf, kf, fi, f, a, cell, h1, h2, h3, h4, h5, h6, h7, h8⟩ := hZ
  have h5' : H[a]? = some cell := by
    rw [hR.2.2.2.2.1 a (Array.getElem?_eq_some_iff.mp h5).1]
    exact h5
  rcases hl with hl | ⟨ho, hl⟩
  · exact W.gets hx hb hown hl h1 h2 h3 h4 h5' (fun e => by rw [e] at h6; cases h6) h7 rfl h kk
  · exact va_WgetsN hx hb hown hl h1 h2 h3 h4 h5' (fun e => by rw [e] at h6; cases h6) h7 rfl h kk
/-- the static fields that are read -/
def zstat : Nat → String × String × String × Value
  | 0 => ("TrackVotes", "FIRST_SETTING", "[I", .ref 1)
  | 1 => ("TrackVotes", "LEAST_SETTING", "[I", .ref 2)
  | 2 => ("TrackVotes", "MOST_SETTING", "[I", .ref 3)
  | 3 => ("java/lang/String", "COMPACT_STRINGS", "Z", .int 1)
  | _ => ("jdk/internal/util/Preconditions", "SIOOBE_FORMATTER", "Ljava/util/function/BiFunction;", .retAddr 0)
theorem zg_getstatic {a i : Nat} (h : zdc y pc (.getstatic i) 3) (ha : a < 5) (hl : Cond.fieldLink (mt y).1.cls i (zstat a).1 (zstat a).2.1 (zstat a).2.2.1 ∈ lw_tbl ∨ ∃ ho, Cond.fieldLinkNest (mt y).1.cls i (zstat a).1 (zstat a).2.1 (zstat a).2.2.1 ho ∈ lw_tbl) (kk : zGo X l d kc ks y (pc + 3) ls ((zstat a).2.2.2 :: st) M Q) : zGo X l d kc ks y pc ls st M Q := by
  intro p e R s m args below meth cd H locs cells slots Qw lsA C
  obtain ⟨hx, hb, hml, hown, hts, hKn, -⟩ := id C.1
  have hR := C.2.2.2.1
  have hW := kk p e R s m args below meth cd H locs cells slots Qw lsA C
  have hl2 : (Cond.fieldLink (mt y).1.cls i (zstat a).1 (zstat a).2.1 (zstat a).2.2.1).before args s = true ∨ ∃ ho, (Cond.fieldLinkNest (mt y).1.cls i (zstat a).1 (zstat a).2.1 (zstat a).2.2.1 ho).before args s = true := by
    rcases hl with hl | ⟨ho, hl⟩
    · exact Or.inl (hts _ (zin hl rfl))
    · exact Or.inr ⟨ho, va_Nw.use rfl (hKn.2.2.2.2.2.2.2.2.1 _ hl rfl)⟩
  obtain ⟨z1, z2, z3, z4, z5⟩ := hKn.2.2.2.2.2.2.1
  match a, ha with
  | 0, _ => exact zZ hx hb hown hR z1 hl2 h hW
  | 1, _ => exact zZ hx hb hown hR z2 hl2 h hW
  | 2, _ => exact zZ hx hb hown hR z3 hl2 h hW
  | 3, _ => exact zZ hx hb hown hR z4 hl2 h hW
  | 4, _ => exact zZ hx hb hown hR z5 hl2 h hW
def zsf : Nat → String × String × Value
  | 0 => ("value", "[B", .ref 5)
  | _ => ("coder", "B", .int 0)
theorem zg_getS {b i : Nat} (h : zdc y pc (.getfield i) 3) (hb2 : b < 2) (hl : Cond.fieldLink (mt y).1.cls i "java/lang/String" (zsf b).1 (zsf b).2.1 ∈ lw_tbl) (kk : zGo X l d kc ks y (pc + 3) ls ((zsf b).2.2 :: st) M Q) : zGo X l d kc ks y pc ls (.ref 4 :: st) M Q := by
  intro p e R s m args below meth cd H locs cells slots Qw lsA C
  obtain ⟨hx, hb, hml, hown, hts, hKn, -⟩ := id C.1
  have hR := C.2.2.2.1
  have hW := kk p e R s m args below meth cd H locs cells slots Qw lsA C
  have key : ∀ {n dd : String} {v : Value}, va_OF "java/lang/String" n dd v (X.2.2.2.1 4) (zA X) s X.2.1 → (Cond.fieldLink (mt y).1.cls i "java/lang/String" n dd).before args s = true → W p l e R s m args below meth cd H locs cells slots Qw (F0 m (pc + 3) lsA (v :: st.map (zcv X))) → W p l e R s m args below meth cd H locs cells slots Qw (F0 m pc lsA (.ref (X.2.2.2.1 4) :: st.map (zcv X))) := by
    intro n dd v hE hlk k2
    obtain ⟨cf, k, fi, f, cell, h1, h2, h3, h4, h5, h6⟩ := hE
    have h3' : H[X.2.2.2.1 4]? = some cell := by
      rw [hR.2.2.2.2.1 _ (Array.getElem?_eq_some_iff.mp h3).1]
      exact h3
    exact W.getf hx hb hown hlk h1 h2 h3' h4 h5 rfl rfl h k2
  match b, hb2 with
  | 0, _ => exact key hKn.2.2.2.2.2.1 (hts _ (zin hl rfl)) hW
  | 1, _ => exact key hKn.2.2.2.2.1 (hts _ (zin hl rfl)) hW
theorem zg_ldc {i : Nat} {v : Int32} (h : zdc y pc (.ldc i) 2) (hl : Cond.constant (mt y).1.cls i v ∈ lw_tbl) (kk : zGo X l d kc ks y (pc + 2) ls (.int v :: st) M Q) : zGo X l d kc ks y pc ls st M Q := fun p e R s m args below meth c H locs cells slots Qw lsA C => lv_ldc C.1.1 C.1.2.1 C.1.2.2.2.1 (C.1.2.2.2.2.1 _ (zin hl rfl)) h (kk p e R s m args below meth c H locs cells slots Qw lsA C)
theorem zg_ldc_w {i : Nat} {v : Int32} (h : zdc y pc (.ldc_w i) 3) (hl : Cond.constant (mt y).1.cls i v ∈ lw_tbl) (kk : zGo X l d kc ks y (pc + 3) ls (.int v :: st) M Q) : zGo X l d kc ks y pc ls st M Q := fun p e R s m args below meth c H locs cells slots Qw lsA C => lv_ldcw C.1.1 C.1.2.1 C.1.2.2.2.1 (C.1.2.2.2.2.1 _ (zin hl rfl)) h (kk p e R s m args below meth c H locs cells slots Qw lsA C)
theorem zg_ldc2 {i : Nat} {v : Int64} (h : zdc y pc (.ldc2_w i) 3) (hl : Cond.constantLong (mt y).1.cls i v ∈ lw_tbl) (kk : zGo X l d kc ks y (pc + 3) ls (.long v :: st) M Q) : zGo X l d kc ks y pc ls st M Q := fun p e R s m args below meth c H locs cells slots Qw lsA C => lv_ldc2 C.1.1 C.1.2.1 C.1.2.2.2.1 (C.1.2.2.2.2.1 _ (zin hl rfl)) h (kk p e R s m args below meth c H locs cells slots Qw lsA C)
theorem zg_ldcS {i : Nat} (h : zdc y pc (.ldc i) 2) (hy : ((mt y).1.cls = "TrackVotes$Trigger" ∧ i = 9) ∨ ((mt y).1.cls = "TrackVotes" ∧ i = 324)) (kk : zGo X l d kc ks y (pc + 2) ls (.ref 4 :: st) M Q) : zGo X l d kc ks y pc ls st M Q := by
  intro p e R s m args below meth cd H locs cells slots Qw lsA C
  obtain ⟨hx, hb, hml, hown, hts, hKn, -⟩ := id C.1
  have hW := kk p e R s m args below meth cd H locs cells slots Qw lsA C
  obtain ⟨r1, r2⟩ := hKn.2.2.2.2.2.2.2.1
  rcases hy with ⟨e1, rfl⟩ | ⟨e1, rfl⟩
  · rw [e1] at hown
    exact va_ldcS hx hb hown r1 h hW
  · rw [e1] at hown
    exact va_ldcS hx hb hown r2 h hW
theorem zldcwS {p : Program} {e : Env} {R : Room} {s : State} {m : MethodId} {args : Array Value} {below : List Frame} {meth : Method} {c : Code} {T : State} {locs : List Loc} {cells slots : Nat} (XS : Stand p l e R s m args below meth c T locs cells slots) (hexec : p.tables.exec = Jvm.exec) {own text : String} {index a : Nat} (hown : s.vm.findClass own = some m.cls) (hZ : vk_R own index text a s) {g : JFrame} (hg : g.method = m) (hdg : decode c.code g.pc = .ok (.ldc_w index, 3)) :
    ∀ target, Steps p.tables e below (T.setTop { g with pc := g.pc + 3, stack := .ref a :: g.stack }) target → Steps p.tables e below (T.setTop g) target := by
  obtain ⟨k, cf, i, a', hk, hcf, hcp, -, hr, hev'⟩ := Cond.stringRef_spec (args := #[]) hown hZ.1
  cases hZ.2.symm.trans hev'
  obtain ⟨k', hk', he⟩ := XS.warmed.alike.2.2 _ _ hk
  have hr' : k'.resolved[index]? = some (some (.string a)) := by
    rcases XS.warmed.entry hk hk' index with h | ⟨h, -⟩
    · rw [h]; exact hr
    · rw [hr] at h; cases h
  intro target hrest
  subst hg
  jvm_step XS.here [hexec, hdg, ldc_w.wp_string (e := e) (s := T) (f := g) XS.here.top hk' (by rw [he]; exact hcf) hcp hr']
  exact hrest
theorem zg_ldcwS {i : Nat} (h : zdc y pc (.ldc_w i) 3) (hy : ((mt y).1.cls = "TrackVotes$Trigger" ∧ i = 9) ∨ ((mt y).1.cls = "TrackVotes" ∧ i = 324)) (kk : zGo X l d kc ks y (pc + 3) ls (.ref 4 :: st) M Q) : zGo X l d kc ks y pc ls st M Q := by
  intro p e R s m args below meth cd H locs cells slots Qw lsA C
  obtain ⟨hx, hb, hml, hown, hts, hKn, -⟩ := id C.1
  have hW := kk p e R s m args below meth cd H locs cells slots Qw lsA C
  obtain ⟨r1, r2⟩ := hKn.2.2.2.2.2.2.2.1
  rcases hy with ⟨e1, rfl⟩ | ⟨e1, rfl⟩
  · rw [e1] at hown
    intro T hT XS
    obtain ⟨t, a1, b1⟩ := hW T hT XS
    exact ⟨t, zldcwS XS hx hown r1 (g := F0 m pc lsA (st.map (zcv X))) rfl (by rw [hb]; exact h) t a1, b1⟩
  · rw [e1] at hown
    intro T hT XS
    obtain ⟨t, a1, b1⟩ := hW T hT XS
    exact ⟨t, zldcwS XS hx hown r2 (g := F0 m pc lsA (st.map (zcv X))) rfl (by rw [hb]; exact h) t a1, b1⟩
theorem zg_cast {k i : Nat} (h : zdc y pc (.checkcast i) 3) (hl : Cond.classLink (mt y).1.cls i "[I" ∈ lw_tbl) (h6 : 6 ≤ k) (hk : (zK M k).1 = 20) (kk : zGo X l d kc ks y (pc + 3) ls (.ref k :: st) M Q) : zGo X l d kc ks y pc ls (.ref k :: st) M Q := by
  intro p e R s m args below meth cd H locs cells slots Qw lsA C
  obtain ⟨hx, hb, hml, hown, hts, hKn, -⟩ := id C.1
  have hR := C.2.2.2.1
  have hat := hR.2.2.1 k h6 (show (zK M k).1 < 30 by omega)
  rw [zE_int hk (by omega) (by omega)] at hat
  exact va_castA hx hb hown (hts _ (zin hl rfl)) (zP1 hat) 0 rfl (hKn.1.2 0 _ rfl).2 h (kk p e R s m args below meth cd H locs cells slots Qw lsA C)
theorem zg_objInit {k i : Nat} (h : zdc y pc (.invokespecial i) 3) (hl : Cond.methodLink (mt y).1.cls i objectInit ∈ lw_tbl) (hi : Cond.instanceMethod objectInit ∈ lw_tbl) (hc : Cond.code objectInit ⟨#[0xb1]⟩ 1 none ∈ lw_tbl) (hcat : (st.map fun v => v.category).sum ≤ 8) (hd : 1 ≤ d) (kk : zGo X l d kc ks y (pc + 3) ls st M Q) : zGo X l d kc ks y pc ls (.ref k :: st) M Q := by
  intro p e R s m args below meth cd H locs cells slots Qw lsA C
  obtain ⟨hx, hb, hml, hown, hts, hKn, hfr, hlo, -⟩ := id C.1
  have hc2 := zcat (X := X) hKn hcat
  exact W.objInit hx hb hown (hts _ (zin hl rfl)) (hts _ (zin hi rfl)) (hts _ (zin hc rfl)) rfl (by show lsA.size = _; rw [C.2.2.1.1]; exact hml.symm) rfl h (by omega) (by show 2 * 0 + _ + 12 ≤ _; omega) (kk p e R s m args below meth cd H locs cells slots Qw lsA C)
end ZMEM5
