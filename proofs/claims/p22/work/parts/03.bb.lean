/-- a method's contract out of its walk, of classes too in which some methods are the machine's own, but not this one -/
theorem zofW {l : Launch} {y : MethodName} {ws ws' : List Cond} {rm : Room} {Pc : Array Value → State → Prop} {Qc : Array Value → State → Outcome → State → Prop} {mc ms : Nat} {free : Addr → Prop} {cc : ByteArray} {maxL : Nat} {ret : Option FieldType}
    (hy : plainFor y = true) (hw : ws = Cond.code y cc maxL ret :: ws')
    (body : ∀ p e s m args below meth c s₁, BodyLoose p l y (headSpec ws rm) cc maxL ret e s m args below meth c s₁ → c.maxLocals = maxL → Pc args s →
      W p l e (headSpec ws rm).room s m args below meth c s.heap [] 0 0 (MQ below Qc args s mc ms free) (entryFrame m args maxL)) : Met l y ws rm Pc Qc mc ms free := by
  refine MetFree.of_bodyRF (code := cc) (maxLocals := maxL) (ret := ret) hy ?_ ?_
  · intro args s m h hn
    obtain ⟨meth, c, h1, h2, h3, h4, h5, h6, -, -⟩ := Cond.code_spec hn (atoms_spec (ws := ws) h _ (by rw [hw]; exact List.mem_cons_self))
    exact ⟨meth, c, h1, h2, h3, h4, h5, h6⟩
  · intro p e s m args below meth c s₁ B hml hP _ hst
    have hh0 : s₁.heap = s.heap := by rw [B.state]; rfl
    obtain ⟨t, a1, o, b1, b2, b3⟩ := body p e s m args below meth c s₁ B hml hP s₁ hh0 (Stand.of_body B)
    exact ⟨t, o, Steps.trans hst a1, b1, b2, ⟨b3.1, b3.2⟩⟩
section ZINTRO
variable {X : zX} {l : Launch} {d kc ks y : Nat} {M : zM} {Q : Option Value → zM → Prop}
theorem zargs_map {s : State} (hK : zKn X s) : ∀ (as : List Value) (i : Nat), lv_args i (as.map (zcv X)) = (lv_args i as).map fun q => (q.1, zcv X q.2)
  | [], _ => rfl
  | v :: vs, i => by
    show (i, zcv X v) :: lv_args (if (zcv X v).category = 2 then i + 2 else i + 1) (vs.map (zcv X)) = (i, zcv X v) :: (lv_args (if v.category = 2 then i + 2 else i + 1) vs).map _
    rw [zcv_cat hK, zargs_map hK vs]
/-- how many words arguments take -/
def zwd (as : List Value) : Nat := (as.map fun v => v.category).sum
theorem zsl_len {s : State} (hK : zKn X s) : ∀ as : List Value, (lg_sl (as.map (zcv X))).length = zwd as
  | [] => rfl
  | v :: vs => by
    have ih := zsl_len hK vs
    unfold lg_sl zwd at *
    rw [List.map_cons, List.flatMap_cons, List.length_append, ih, List.map_cons, List.sum_cons, zcv_cat hK]
    have := lv_cat v
    split <;> simp <;> omega
/-- a method's own walk gives its call -/
theorem zintro {as : List Value} (hp : plainFor (mt y).1 = true) (hw : zwd as ≤ (mt y).2.2.1) (h : zGo X l d kc ks y 0 (lv_args 0 as) [] M Q) : zCall X l d kc ks y as M Q := by
  refine zofW (cc := (mt y).2.1) (maxL := (mt y).2.2.1) (ret := (mt y).2.2.2.1) hp rfl ?_
  intro p e s m args below meth c s₁ B hml hv
  obtain ⟨rfl, hR, hK⟩ := hv
  have hx := B.exec
  have hb := B.bytes
  have hr := B.returns
  have hts := atoms_spec (ws := zwsY y) B.pre
  have hown : s.vm.findClass (mt y).1.cls = some m.cls := findClass_of_methodNamed B.named
  have hlocks := B.notSynchronized
  have hin : meth.name = (mt y).1.name := (name_of_methodNamed B.named B.method).1
  have hl := lv_entry (as.map (zcv X)) (n := (mt y).2.2.1) (by rw [zsl_len hK]; exact hw)
  rw [lg_entry_eq]
  rw [zargs_map hK] at hl
  refine h p e _ s m _ below meth c s.heap [] 0 0 _ _ ⟨⟨hx, hb, hml, hown, fun w hw => hts w (List.mem_cons_of_mem _ hw), hK, Nat.le_refl _, Nat.le_refl _, fun h => hin.trans h⟩, ⟨by show 0 + kc ≤ kc; omega, by show 0 + ks ≤ ks; omega⟩, hl, hR, fun q hq => (by cases hq), M, ⟨Nat.le_refl _, fun _ _ => rfl, fun k h1 h2 => absurd h1 (by omega)⟩, fun _ _ _ _ => rfl, ?_⟩
  intro r M' H' locs' cells' slots' pc' lsA' hQ hR' hE' hH' hL' hc' hs' hret
  refine W.widen (k := kc) (n := ks) hc' hs' ?_
  have hq : ∀ t : State, t.heap = H' → s.WarmedH t.vm → zQc X M Q ((as.map (zcv X)).toArray) s (.returned (r.map (zcv X))) t := fun t ht _ => ⟨r, M', rfl, hQ, by rw [ht]; exact hR', hE', by rw [ht]; exact hH'⟩
  match r, hret with
  | none, ⟨hd, hn⟩ => exact W.vret hx hb (hr.trans hn) hq hL' hd
  | some (.int v), ⟨hd, ty, hty, hn⟩ => exact W.zret hx hb (hr.trans hty) hn hq hL' hd
  | some (.long v), ⟨hd, hty⟩ => exact W.lret hx hb (hr.trans hty) hq hL' hd
  | some .null, ⟨hd, hv, rt, hrt, ho⟩ => exact W.aret hx hb (hr.trans hrt) ho (Or.inl rfl) hq hL' hd
  | some (.ref a), ⟨hd, hv, rt, hrt, ho⟩ => exact W.aret hx hb (hr.trans hrt) ho (Or.inr ⟨_, rfl⟩) hq hL' hd
  | some (.float a), ⟨hd, hv, _⟩ => exact absurd hv (by rintro (h | ⟨_, h⟩) <;> cases h)
  | some (.double a), ⟨hd, hv, _⟩ => exact absurd hv (by rintro (h | ⟨_, h⟩) <;> cases h)
  | some (.retAddr a), ⟨hd, hv, _⟩ => exact absurd hv (by rintro (h | ⟨_, h⟩) <;> cases h)
theorem zGo.mono {pc : Nat} {ls : List (Nat × Value)} {st : List Value} {Q' : Option Value → zM → Prop} (h : zGo X l d kc ks y pc ls st M Q) (hQ : ∀ r M', Q r M' → Q' r M') : zGo X l d kc ks y pc ls st M Q' :=
  fun p e R s m args below meth c H locs cells slots Qw lsA C => h p e R s m args below meth c H locs cells slots Qw lsA ⟨C.1, C.2.1, C.2.2.1, C.2.2.2.1, C.2.2.2.2.1, C.2.2.2.2.2.elim fun Me F => ⟨Me, F.1, F.2.1, fun r M' H' locs' cells' slots' pc' lsA' q => F.2.2 r M' H' locs' cells' slots' pc' lsA' (hQ r M' q)⟩⟩
theorem zCall.monoE {as : List Value} {Q' : Option Value → zM → Prop} (h : zCall X l d kc ks y as M Q) (hQ : ∀ r M', zExt M M' → Q r M' → Q' r M') : zCall X l d kc ks y as M Q' := by
  intro p e ha hc hk s m args below hf happ hP hK
  obtain ⟨t, o, h1, h2, h3, ⟨r, M', hv, hq, hR, hE, hH⟩, hF⟩ := h p e ha hc hk s m args below hf happ hP hK
  exact ⟨t, o, h1, h2, h3, ⟨r, M', hv, hQ r M' hE hq, hR, hE, hH⟩, hF⟩
theorem zCall.mono {as : List Value} {Q' : Option Value → zM → Prop} (h : zCall X l d kc ks y as M Q) (hQ : ∀ r M', Q r M' → Q' r M') : zCall X l d kc ks y as M Q' := h.monoE (fun r M' _ q => hQ r M' q)
/-- fewer locals -/
theorem zGo.locals {pc : Nat} {ls ls' : List (Nat × Value)} {st : List Value} (hl : ∀ q ∈ ls', q ∈ ls) (h : zGo X l d kc ks y pc ls' st M Q) : zGo X l d kc ks y pc ls st M Q :=
  fun p e R s m args below meth c H locs cells slots Qw lsA C => h p e R s m args below meth c H locs cells slots Qw lsA ⟨C.1, C.2.1, ⟨C.2.2.1.1, C.2.2.1.2.1, fun q hq => by
    obtain ⟨a, ha, rfl⟩ := List.mem_map.mp hq
    exact C.2.2.1.2.2 _ (List.mem_map.mpr ⟨a, hl a ha, rfl⟩)⟩, C.2.2.2⟩
end ZINTRO
