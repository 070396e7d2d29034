theorem oc0 {X : zX} {l : Launch} {M : zM} {a b c d e : Int32} (h : zBo M) : zCall X l 1 0 0 14 [.ref 6, .int a, .int b, .int c, .int d, .int e] M (fun r M' => (∃ v : Int32, r = some (.int v)) ∧ zBo M') := by
  exact h.callc (C14_6 h.skc h.ivc (fun M' v s I _ _ _ => ⟨⟨v, rfl⟩, s, I⟩))
theorem om0 {X : zX} {l : Launch} {M : zM} {a b c d e : Int32} (h : zBo M) : zCall X l 1 0 0 231 [.ref 336, .int a, .int b, .int c, .int d, .int e] M (fun r M' => (∃ v : Int32, r = some (.int v)) ∧ zBo M') := by
  exact h.callm (K231 h.skm h.ivm h.pR h.pC h.pF (fun M' v s I _ r c f => ⟨⟨v, rfl⟩, s, I, r, c, f⟩))
theorem oc1 {X : zX} {l : Launch} {M : zM} {a : Int32} (h : zBo M) : zCall X l 2 0 0 18 [.ref 6, .int a] M (fun r M' => (∃ v : Int32, r = some (.int v)) ∧ zBo M') := by
  exact h.callc (C18_6 h.skc h.ivc (fun M' v s I _ _ _ => ⟨⟨v, rfl⟩, s, I⟩))
theorem om1 {X : zX} {l : Launch} {M : zM} {a : Int32} (h : zBo M) : zCall X l 1 0 0 233 [.ref 336, .int a] M (fun r M' => (∃ v : Int32, r = some (.int v)) ∧ zBo M') := by
  exact h.callm (K233 h.skm h.ivm h.pR h.pC h.pF (fun M' v s I _ r c f => ⟨⟨v, rfl⟩, s, I, r, c, f⟩))
theorem oc2 {X : zX} {l : Launch} {M : zM} (h : zBo M) : zCall X l 7 0 0 22 [.ref 6] M (fun r M' => (∃ v : Int32, r = some (.int v)) ∧ zBo M') := by
  exact h.callc (C22_6 h.skc h.ivc (fun M' v s I _ _ _ => ⟨⟨v, rfl⟩, s, I⟩))
theorem om2 {X : zX} {l : Launch} {M : zM} (h : zBo M) : zCall X l 6 0 0 235 [.ref 336] M (fun r M' => (∃ v : Int32, r = some (.int v)) ∧ zBo M') := by
  exact h.callm (K235 h.skm h.ivm h.pR h.pC h.pF (fun M' v s I _ r c f => ⟨⟨v, rfl⟩, s, I, r, c, f⟩))
theorem oc3 {X : zX} {l : Launch} {M : zM} (h : zBo M) : zCall X l 99 0 0 62 [.ref 6] M (fun r M' => (∃ v : Int32, r = some (.int v)) ∧ zBo M') := by
  exact h.callc (C62_6 h.skc h.ivc (fun M' v s I _ _ _ => ⟨⟨v, rfl⟩, s, I⟩))
theorem om3 {X : zX} {l : Launch} {M : zM} (h : zBo M) : zCall X l 7 0 0 254 [.ref 336] M (fun r M' => (∃ v : Int32, r = some (.int v)) ∧ zBo M') := by
  exact h.callm (K254 h.skm h.ivm h.pR h.pC h.pF (fun M' v s I _ r c f => ⟨⟨v, rfl⟩, s, I, r, c, f⟩))
theorem oc4 {X : zX} {l : Launch} {M : zM} (h : zBo M) : zCall X l 6 0 0 82 [.ref 6] M (fun r M' => (∃ v : Int32, r = some (.int v)) ∧ zBo M') := by
  exact h.callc (C82_6 h.skc h.ivc (fun M' v s I _ _ _ => ⟨⟨v, rfl⟩, s, I⟩))
theorem om4 {X : zX} {l : Launch} {M : zM} (h : zBo M) : zCall X l 5 0 0 342 [.ref 336] M (fun r M' => (∃ v : Int32, r = some (.int v)) ∧ zBo M') := by
  exact h.callm (K342 h.skm h.ivm h.pR h.pC h.pF (fun M' v s I _ r c f => ⟨⟨v, rfl⟩, s, I, r, c, f⟩))
theorem oc5 {X : zX} {l : Launch} {M : zM} (h : zBo M) : zCall X l 0 0 0 97 [.ref 6] M (fun r M' => (∃ v : Int32, r = some (.int v)) ∧ zBo M') := by
  exact h.callc (C97_6 h.skc h.ivc (fun M' v s I _ _ _ => ⟨⟨v, rfl⟩, s, I⟩))
theorem om5 {X : zX} {l : Launch} {M : zM} (h : zBo M) : zCall X l 0 0 0 234 [.ref 336] M (fun r M' => (∃ v : Int32, r = some (.int v)) ∧ zBo M') := by
  exact h.callm (K234 h.skm h.ivm h.pR h.pC h.pF (fun M' v s I _ r c f => ⟨⟨v, rfl⟩, s, I, r, c, f⟩))
theorem oc6 {X : zX} {l : Launch} {M : zM} (h : zBo M) : zCall X l 0 0 0 98 [.ref 6] M (fun r M' => (∃ v : Int32, r = some (.int v)) ∧ zBo M') := by
  exact h.callc (C98_6 h.skc h.ivc (fun M' v s I _ _ _ => ⟨⟨v, rfl⟩, s, I⟩))
theorem om6 {X : zX} {l : Launch} {M : zM} (h : zBo M) : zCall X l 0 0 0 345 [.ref 336] M (fun r M' => (∃ v : Int32, r = some (.int v)) ∧ zBo M') := by
  exact h.callm (K345 h.skm h.ivm h.pR h.pC h.pF (fun M' v s I _ r c f => ⟨⟨v, rfl⟩, s, I, r, c, f⟩))
theorem oc7 {X : zX} {l : Launch} {M : zM} {a : Int32} (h : zBo M) : zCall X l 3 0 0 99 [.ref 6, .int a] M (fun r M' => (∃ v : Int32, r = some (.int v)) ∧ zBo M') := by
  exact h.callc (C99_6 h.skc h.ivc (fun M' v s I _ _ _ => ⟨⟨v, rfl⟩, s, I⟩))
theorem om7 {X : zX} {l : Launch} {M : zM} {a : Int32} (h : zBo M) : zCall X l 3 0 0 304 [.ref 336, .int a] M (fun r M' => (∃ v : Int32, r = some (.int v)) ∧ zBo M') := by
  exact h.callm (K304 h.skm h.ivm h.pR h.pC h.pF (fun M' v s I _ r c f => ⟨⟨v, rfl⟩, s, I, r, c, f⟩))
theorem oc8 {X : zX} {l : Launch} {M : zM} {a b : Int32} (h : zBo M) : zCall X l 3 0 0 102 [.ref 6, .int a, .int b] M (fun r M' => (∃ v : Int32, r = some (.int v)) ∧ zBo M') := by
  exact h.callc (C102_6 h.skc h.ivc (fun M' v s I _ _ _ => ⟨⟨v, rfl⟩, s, I⟩))
theorem om8 {X : zX} {l : Launch} {M : zM} {a b : Int32} (h : zBo M) : zCall X l 3 0 0 305 [.ref 336, .int a, .int b] M (fun r M' => (∃ v : Int32, r = some (.int v)) ∧ zBo M') := by
  exact h.callm (K305 h.skm h.ivm h.pR h.pC h.pF (fun M' v s I _ r c f => ⟨⟨v, rfl⟩, s, I, r, c, f⟩))
theorem oc9 {X : zX} {l : Launch} {M : zM} {a b : Int32} (h : zBo M) : zCall X l 6 0 0 104 [.ref 6, .int a, .int b] M (fun r M' => (∃ v : Int32, r = some (.int v)) ∧ zBo M') := by
  exact h.callc (C104_6 h.skc h.ivc (fun M' v s I _ _ _ => ⟨⟨v, rfl⟩, s, I⟩))
theorem om9 {X : zX} {l : Launch} {M : zM} {a b : Int32} (h : zBo M) : zCall X l 7 0 0 307 [.ref 336, .int a, .int b] M (fun r M' => (∃ v : Int32, r = some (.int v)) ∧ zBo M') := by
  exact h.callm (K307 h.skm h.ivm h.pR h.pC h.pF (fun M' v s I _ r c f => ⟨⟨v, rfl⟩, s, I, r, c, f⟩))
theorem oc10 {X : zX} {l : Launch} {M : zM} {a b : Int32} (h : zBo M) : zCall X l 6 0 0 143 [.ref 6, .int a, .int b] M (fun r M' => (∃ v : Int32, r = some (.int v)) ∧ zBo M') := by
  exact h.callc (C143_6 h.skc h.ivc (fun M' v s I _ _ _ => ⟨⟨v, rfl⟩, s, I⟩))
theorem om10 {X : zX} {l : Launch} {M : zM} {a b : Int32} (h : zBo M) : zCall X l 7 0 0 309 [.ref 336, .int a, .int b] M (fun r M' => (∃ v : Int32, r = some (.int v)) ∧ zBo M') := by
  exact h.callm (K309 h.skm h.ivm h.pR h.pC h.pF (fun M' v s I _ r c f => ⟨⟨v, rfl⟩, s, I, r, c, f⟩))
theorem oc11 {X : zX} {l : Launch} {M : zM} {a b c : Int32} (h : zBo M) : zCall X l 2 0 0 147 [.ref 6, .int a, .int b, .int c] M (fun r M' => (∃ v : Int32, r = some (.int v)) ∧ zBo M') := by
  exact h.callc (C147_6 h.skc h.ivc (fun M' v s I _ _ _ => ⟨⟨v, rfl⟩, s, I⟩))
theorem om11 {X : zX} {l : Launch} {M : zM} {a b c : Int32} (h : zBo M) : zCall X l 3 0 0 314 [.ref 336, .int a, .int b, .int c] M (fun r M' => (∃ v : Int32, r = some (.int v)) ∧ zBo M') := by
  exact h.callm (K314 h.skm h.ivm h.pR h.pC h.pF (fun M' v s I _ r c f => ⟨⟨v, rfl⟩, s, I, r, c, f⟩))
theorem oc12 {X : zX} {l : Launch} {M : zM} {a b c : Int32} (h : zBo M) : zCall X l 3 0 0 148 [.ref 6, .int a, .int b, .int c] M (fun r M' => (∃ v : Int32, r = some (.int v)) ∧ zBo M') := by
  exact h.callc (C148_6 h.skc h.ivc (fun M' v s I _ _ _ => ⟨⟨v, rfl⟩, s, I⟩))
theorem om12 {X : zX} {l : Launch} {M : zM} {a b c : Int32} (h : zBo M) : zCall X l 3 0 0 315 [.ref 336, .int a, .int b, .int c] M (fun r M' => (∃ v : Int32, r = some (.int v)) ∧ zBo M') := by
  exact h.callm (K315 h.skm h.ivm h.pR h.pC h.pF (fun M' v s I _ r c f => ⟨⟨v, rfl⟩, s, I, r, c, f⟩))
theorem oc13 {X : zX} {l : Launch} {M : zM} {a : Int32} (h : zBo M) : zCall X l 7 0 0 150 [.ref 6, .int a] M (fun r M' => (∃ v : Int32, r = some (.int v)) ∧ zBo M') := by
  exact h.callc (C150_6 h.skc h.ivc (fun M' v s I _ _ _ => ⟨⟨v, rfl⟩, s, I⟩))
theorem om13 {X : zX} {l : Launch} {M : zM} {a : Int32} (h : zBo M) : zCall X l 8 0 0 316 [.ref 336, .int a] M (fun r M' => (∃ v : Int32, r = some (.int v)) ∧ zBo M') := by
  exact h.callm (K316 h.skm h.ivm h.pR h.pC h.pF (fun M' v s I _ r c f => ⟨⟨v, rfl⟩, s, I, r, c, f⟩))
theorem oc14 {X : zX} {l : Launch} {M : zM} {a b : Int32} (h : zBo M) : zCall X l 6 0 0 169 [.ref 6, .int a, .int b] M (fun r M' => (∃ v : Int32, r = some (.int v)) ∧ zBo M') := by
  exact h.callc (C169_6 h.skc h.ivc (fun M' v s I _ _ _ => ⟨⟨v, rfl⟩, s, I⟩))
theorem om14 {X : zX} {l : Launch} {M : zM} {a b : Int32} (h : zBo M) : zCall X l 7 0 0 317 [.ref 336, .int a, .int b] M (fun r M' => (∃ v : Int32, r = some (.int v)) ∧ zBo M') := by
  exact h.callm (K317 h.skm h.ivm h.pR h.pC h.pF (fun M' v s I _ r c f => ⟨⟨v, rfl⟩, s, I, r, c, f⟩))
theorem oc15 {X : zX} {l : Launch} {M : zM} {a b : Int32} (h : zBo M) : zCall X l 6 0 0 172 [.ref 6, .int a, .int b] M (fun r M' => (∃ v : Int32, r = some (.int v)) ∧ zBo M') := by
  exact h.callc (C172_6 h.skc h.ivc (fun M' v s I _ _ _ => ⟨⟨v, rfl⟩, s, I⟩))
theorem om15 {X : zX} {l : Launch} {M : zM} {a b : Int32} (h : zBo M) : zCall X l 7 0 0 321 [.ref 336, .int a, .int b] M (fun r M' => (∃ v : Int32, r = some (.int v)) ∧ zBo M') := by
  exact h.callm (K321 h.skm h.ivm h.pR h.pC h.pF (fun M' v s I _ r c f => ⟨⟨v, rfl⟩, s, I, r, c, f⟩))
theorem oc16 {X : zX} {l : Launch} {M : zM} {a b : Int32} (h : zBo M) : zCall X l 6 0 0 173 [.ref 6, .int a, .int b] M (fun r M' => (∃ v : Int64, r = some (.long v)) ∧ zBo M') := by
  exact h.callc (C173_6 h.skc h.ivc (fun M' v s I _ _ _ => ⟨⟨v, rfl⟩, s, I⟩))
theorem om16 {X : zX} {l : Launch} {M : zM} {a b : Int32} (h : zBo M) : zCall X l 7 0 0 296 [.ref 336, .int a, .int b] M (fun r M' => (∃ v : Int64, r = some (.long v)) ∧ zBo M') := by
  exact h.callm (K296 h.skm h.ivm h.pR h.pC h.pF (fun M' v s I _ r c f => ⟨⟨v, rfl⟩, s, I, r, c, f⟩))
theorem oc17 {X : zX} {l : Launch} {M : zM} {a b : Int32} (h : zBo M) : zCall X l 6 0 0 177 [.ref 6, .int a, .int b] M (fun r M' => (∃ v : Int32, r = some (.int v)) ∧ zBo M') := by
  exact h.callc (C177_6 h.skc h.ivc (fun M' v s I _ _ _ => ⟨⟨v, rfl⟩, s, I⟩))
theorem om17 {X : zX} {l : Launch} {M : zM} {a b : Int32} (h : zBo M) : zCall X l 7 0 0 301 [.ref 336, .int a, .int b] M (fun r M' => (∃ v : Int32, r = some (.int v)) ∧ zBo M') := by
  exact h.callm (K301 h.skm h.ivm h.pR h.pC h.pF (fun M' v s I _ r c f => ⟨⟨v, rfl⟩, s, I, r, c, f⟩))
theorem oc18 {X : zX} {l : Launch} {M : zM} (h : zBo M) : zCall X l 99 0 0 180 [.ref 6] M (fun r M' => (∃ v : Int32, r = some (.int v)) ∧ zBo M') := by
  exact h.callc (C180_6 h.skc h.ivc (fun M' v s I _ _ _ => ⟨⟨v, rfl⟩, s, I⟩))
theorem om18 {X : zX} {l : Launch} {M : zM} (h : zBo M) : zCall X l 8 0 0 266 [.ref 336] M (fun r M' => (∃ v : Int32, r = some (.int v)) ∧ zBo M') := by
  exact h.callm (K266 h.skm h.ivm h.pR h.pC h.pF (fun M' v s I _ r c f => ⟨⟨v, rfl⟩, s, I, r, c, f⟩))
theorem oc19 {X : zX} {l : Launch} {M : zM} {a : Int32} (h : zBo M) : zCall X l 6 0 0 151 [.ref 6, .int a] M (fun r M' => (∃ v : Int32, r = some (.int v)) ∧ zBo M') := by
  exact h.callc (C151_6 h.skc h.ivc (fun M' v s I _ _ _ => ⟨⟨v, rfl⟩, s, I⟩))
theorem om19 {X : zX} {l : Launch} {M : zM} {a : Int32} (h : zBo M) : zCall X l 8 0 0 295 [.ref 336, .int a] M (fun r M' => (∃ v : Int32, r = some (.int v)) ∧ zBo M') := by
  exact h.callm (K295 h.skm h.ivm h.pR h.pC h.pF (fun M' v s I _ r c f => ⟨⟨v, rfl⟩, s, I, r, c, f⟩))
theorem oc20 {X : zX} {l : Launch} {M : zM} (h : zBo M) : zCall X l 6 0 0 187 [.ref 6] M (fun r M' => (∃ v : Int32, r = some (.int v)) ∧ zBo M') := by
  exact h.callc (C187_6 h.skc h.ivc (fun M' v s I _ _ _ => ⟨⟨v, rfl⟩, s, I⟩))
theorem om20 {X : zX} {l : Launch} {M : zM} (h : zBo M) : zCall X l 7 0 0 322 [.ref 336] M (fun r M' => (∃ v : Int32, r = some (.int v)) ∧ zBo M') := by
  exact h.callm (K322 h.skm h.ivm h.pR h.pF (fun M' v s I F f _ _ => ⟨⟨v, rfl⟩, s, I, h.pR.fr (F.eq rfl), h.pC.fr (F.eq rfl), f⟩))
theorem oc21 {X : zX} {l : Launch} {M : zM} {a b c d e : Int32} (h : zBo M) : zCall X l 7 0 0 188 [.ref 6, .int a, .int b, .int c, .int d, .int e] M (fun r M' => (∃ v : Int32, r = some (.int v)) ∧ zBo M') := by
  exact h.callc (C188_6 h.skc h.ivc (fun M' v s I _ _ _ => ⟨⟨v, rfl⟩, s, I⟩))
theorem om21 {X : zX} {l : Launch} {M : zM} {a b c d e : Int32} (h : zBo M) : zCall X l 9 0 0 323 [.ref 336, .int a, .int b, .int c, .int d, .int e] M (fun r M' => (∃ v : Int32, r = some (.int v)) ∧ zBo M') := by
  exact h.callm (K323 h.skm h.ivm h.pR h.pC h.pF (fun M' v s I _ r c f => ⟨⟨v, rfl⟩, s, I, r, c, f⟩))
theorem oc22 {X : zX} {l : Launch} {M : zM} {a b c : Int32} (h : zBo M) : zCall X l 7 0 0 193 [.ref 6, .int a, .int b, .int c] M (fun r M' => (∃ v : Int32, r = some (.int v)) ∧ zBo M') := by
  exact h.callc (C193_6 h.skc h.ivc (fun M' v s I _ _ _ => ⟨⟨v, rfl⟩, s, I⟩))
theorem om22 {X : zX} {l : Launch} {M : zM} {a b c : Int32} (h : zBo M) : zCall X l 9 0 0 326 [.ref 336, .int a, .int b, .int c] M (fun r M' => (∃ v : Int32, r = some (.int v)) ∧ zBo M') := by
  exact h.callm (K326 h.skm h.ivm h.pR h.pC h.pF (fun M' v s I _ r c f => ⟨⟨v, rfl⟩, s, I, r, c, f⟩))
theorem oc23 {X : zX} {l : Launch} {M : zM} {a : Int32} (h : zBo M) : zCall X l 6 0 0 194 [.ref 6, .int a] M (fun r M' => (∃ v : Int32, r = some (.int v)) ∧ zBo M') := by
  exact h.callc (C194_6 h.skc h.ivc (fun M' v s I _ _ _ => ⟨⟨v, rfl⟩, s, I⟩))
theorem om23 {X : zX} {l : Launch} {M : zM} {a : Int32} (h : zBo M) : zCall X l 7 0 0 327 [.ref 336, .int a] M (fun r M' => (∃ v : Int32, r = some (.int v)) ∧ zBo M') := by
  exact h.callm (K327 h.skm h.ivm h.pR h.pC h.pF (fun M' v s I _ r c f => ⟨⟨v, rfl⟩, s, I, r, c, f⟩))
theorem oc24 {X : zX} {l : Launch} {M : zM} {a : Int32} (h : zBo M) : zCall X l 6 0 0 196 [.ref 6, .int a] M (fun r M' => (∃ v : Int32, r = some (.int v)) ∧ zBo M') := by
  exact h.callc (C196_6 h.skc h.ivc (fun M' v s I _ _ _ => ⟨⟨v, rfl⟩, s, I⟩))
theorem om24 {X : zX} {l : Launch} {M : zM} {a : Int32} (h : zBo M) : zCall X l 6 0 0 328 [.ref 336, .int a] M (fun r M' => (∃ v : Int32, r = some (.int v)) ∧ zBo M') := by
  exact h.callm (K328 h.skm h.ivm h.pR h.pC h.pF (fun M' v s I _ r c f => ⟨⟨v, rfl⟩, s, I, r, c, f⟩))
theorem oc25 {X : zX} {l : Launch} {M : zM} {a b c : Int32} (h : zBo M) : zCall X l 4 0 0 89 [.ref 6, .int a, .int b, .int c] M (fun r M' => (∃ v : Int32, r = some (.int v)) ∧ zBo M') := by
  exact h.callc (C89_6 h.skc h.ivc (fun M' v s I _ _ _ => ⟨⟨v, rfl⟩, s, I⟩))
theorem om25 {X : zX} {l : Launch} {M : zM} {a b c : Int32} (h : zBo M) : zCall X l 2 0 0 331 [.ref 336, .int a, .int b, .int c] M (fun r M' => (∃ v : Int32, r = some (.int v)) ∧ zBo M') := by
  exact h.callm (K331 h.skm h.ivm h.pR h.pC h.pF (fun M' v s I _ r c f => ⟨⟨v, rfl⟩, s, I, r, c, f⟩))
theorem oc26 {X : zX} {l : Launch} {M : zM} {a : Int32} (h : zBo M) : zCall X l 4 0 0 90 [.ref 6, .int a] M (fun r M' => (∃ v : Int32, r = some (.int v)) ∧ zBo M') := by
  exact h.callc (C90_6 h.skc h.ivc (fun M' v s I _ _ _ => ⟨⟨v, rfl⟩, s, I⟩))
theorem om26 {X : zX} {l : Launch} {M : zM} {a : Int32} (h : zBo M) : zCall X l 3 0 0 332 [.ref 336, .int a] M (fun r M' => (∃ v : Int32, r = some (.int v)) ∧ zBo M') := by
  exact h.callm (K332 h.skm h.ivm h.pR h.pC h.pF (fun M' v s I _ r c f => ⟨⟨v, rfl⟩, s, I, r, c, f⟩))
theorem oc27 {X : zX} {l : Launch} {M : zM} {a : Int32} (h : zBo M) : zCall X l 4 0 0 94 [.ref 6, .int a] M (fun r M' => (∃ v : Int32, r = some (.int v)) ∧ zBo M') := by
  exact h.callc (C94_6 h.skc h.ivc (fun M' v s I _ _ _ => ⟨⟨v, rfl⟩, s, I⟩))
theorem om27 {X : zX} {l : Launch} {M : zM} {a : Int32} (h : zBo M) : zCall X l 2 0 0 333 [.ref 336, .int a] M (fun r M' => (∃ v : Int32, r = some (.int v)) ∧ zBo M') := by
  exact h.callm (K333 h.skm h.ivm h.pR h.pC h.pF (fun M' v s I _ r c f => ⟨⟨v, rfl⟩, s, I, r, c, f⟩))
theorem oc28 {X : zX} {l : Launch} {M : zM} {a : Int32} (h : zBo M) : zCall X l 4 0 0 95 [.ref 6, .int a] M (fun r M' => (∃ v : Int32, r = some (.int v)) ∧ zBo M') := by
  exact h.callc (C95_6 h.skc h.ivc (fun M' v s I _ _ _ => ⟨⟨v, rfl⟩, s, I⟩))
theorem om28 {X : zX} {l : Launch} {M : zM} {a : Int32} (h : zBo M) : zCall X l 2 0 0 334 [.ref 336, .int a] M (fun r M' => (∃ v : Int32, r = some (.int v)) ∧ zBo M') := by
  exact h.callm (K334 h.skm h.ivm h.pR h.pC h.pF (fun M' v s I _ r c f => ⟨⟨v, rfl⟩, s, I, r, c, f⟩))
theorem oc29 {X : zX} {l : Launch} {M : zM} {a b c : Int32} (h : zBo M) : zCall X l 6 0 0 200 [.ref 6, .int a, .int b, .int c] M (fun r M' => (∃ v : Int64, r = some (.long v)) ∧ zBo M') := by
  exact h.callc (C200_6 h.skc h.ivc (fun M' v s I _ _ _ => ⟨⟨v, rfl⟩, s, I⟩))
theorem om29 {X : zX} {l : Launch} {M : zM} {a b c : Int32} (h : zBo M) : zCall X l 7 0 0 300 [.ref 336, .int a, .int b, .int c] M (fun r M' => (∃ v : Int64, r = some (.long v)) ∧ zBo M') := by
  exact h.callm (K300 h.skm h.ivm h.pR h.pC h.pF (fun M' v s I _ r c f => ⟨⟨v, rfl⟩, s, I, r, c, f⟩))
theorem oc30 {X : zX} {l : Launch} {M : zM} {a b : Int32} (h : zBo M) : zCall X l 6 0 0 201 [.ref 6, .int a, .int b] M (fun r M' => (∃ v : Int32, r = some (.int v)) ∧ zBo M') := by
  exact h.callc (C201_6 h.skc h.ivc (fun M' v s I _ _ _ => ⟨⟨v, rfl⟩, s, I⟩))
theorem om30 {X : zX} {l : Launch} {M : zM} {a b : Int32} (h : zBo M) : zCall X l 7 0 0 336 [.ref 336, .int a, .int b] M (fun r M' => (∃ v : Int32, r = some (.int v)) ∧ zBo M') := by
  exact h.callm (K336 h.skm h.ivm h.pR h.pC h.pF (fun M' v s I _ r c f => ⟨⟨v, rfl⟩, s, I, r, c, f⟩))
theorem oc31 {X : zX} {l : Launch} {M : zM} {a : Int32} (h : zBo M) : zCall X l 6 0 0 203 [.ref 6, .int a] M (fun r M' => (∃ v : Int32, r = some (.int v)) ∧ zBo M') := by
  exact h.callc (C203_6 h.skc h.ivc (fun M' v s I _ _ _ => ⟨⟨v, rfl⟩, s, I⟩))
theorem om31 {X : zX} {l : Launch} {M : zM} {a : Int32} (h : zBo M) : zCall X l 7 0 0 338 [.ref 336, .int a] M (fun r M' => (∃ v : Int32, r = some (.int v)) ∧ zBo M') := by
  exact h.callm (K338 h.skm h.ivm h.pR h.pC h.pF (fun M' v s I _ r c f => ⟨⟨v, rfl⟩, s, I, r, c, f⟩))
theorem oc32 {X : zX} {l : Launch} {M : zM} {a b : Int32} (h : zBo M) : zCall X l 6 0 0 204 [.ref 6, .int a, .int b] M (fun r M' => (∃ v : Int32, r = some (.int v)) ∧ zBo M') := by
  exact h.callc (C204_6 h.skc h.ivc (fun M' v s I _ _ _ => ⟨⟨v, rfl⟩, s, I⟩))
theorem om32 {X : zX} {l : Launch} {M : zM} {a b : Int32} (h : zBo M) : zCall X l 7 0 0 339 [.ref 336, .int a, .int b] M (fun r M' => (∃ v : Int32, r = some (.int v)) ∧ zBo M') := by
  exact h.callm (K339 h.skm h.ivm h.pR h.pC h.pF (fun M' v s I _ r c f => ⟨⟨v, rfl⟩, s, I, r, c, f⟩))
theorem oc33 {X : zX} {l : Launch} {M : zM} {a b : Int32} (h : zBo M) : zCall X l 6 0 0 205 [.ref 6, .int a, .int b] M (fun r M' => (∃ v : Int32, r = some (.int v)) ∧ zBo M') := by
  exact h.callc (C205_6 h.skc h.ivc (fun M' v s I _ _ _ => ⟨⟨v, rfl⟩, s, I⟩))
theorem om33 {X : zX} {l : Launch} {M : zM} {a b : Int32} (h : zBo M) : zCall X l 7 0 0 340 [.ref 336, .int a, .int b] M (fun r M' => (∃ v : Int32, r = some (.int v)) ∧ zBo M') := by
  exact h.callm (K340 h.skm h.ivm h.pR h.pC h.pF (fun M' v s I _ r c f => ⟨⟨v, rfl⟩, s, I, r, c, f⟩))
theorem oc34 {X : zX} {l : Launch} {M : zM} {a b : Int32} (h : zBo M) : zCall X l 4 0 0 206 [.ref 6, .int a, .int b] M (fun r M' => (∃ v : Int32, r = some (.int v)) ∧ zBo M') := by
  exact h.callc (C206_6 h.skc h.ivc (fun M' v s I _ _ _ => ⟨⟨v, rfl⟩, s, I⟩))
theorem om34 {X : zX} {l : Launch} {M : zM} {a b : Int32} (h : zBo M) : zCall X l 2 0 0 335 [.ref 336, .int a, .int b] M (fun r M' => (∃ v : Int32, r = some (.int v)) ∧ zBo M') := by
  exact h.callm (K335 h.skm h.ivm h.pR h.pC h.pF (fun M' v s I _ r c f => ⟨⟨v, rfl⟩, s, I, r, c, f⟩))
theorem oc35 {X : zX} {l : Launch} {M : zM} {a b : Int32} (h : zBo M) : zCall X l 6 0 0 207 [.ref 6, .int a, .int b] M (fun r M' => (∃ v : Int32, r = some (.int v)) ∧ zBo M') := by
  exact h.callc (C207_6 h.skc h.ivc (fun M' v s I _ _ _ => ⟨⟨v, rfl⟩, s, I⟩))
theorem om35 {X : zX} {l : Launch} {M : zM} {a b : Int32} (h : zBo M) : zCall X l 7 0 0 302 [.ref 336, .int a, .int b] M (fun r M' => (∃ v : Int32, r = some (.int v)) ∧ zBo M') := by
  exact h.callm (K302 h.skm h.ivm h.pR h.pC h.pF (fun M' v s I _ r c f => ⟨⟨v, rfl⟩, s, I, r, c, f⟩))
theorem oc36 {X : zX} {l : Launch} {M : zM} {a b : Int32} (h : zBo M) : zCall X l 2 0 0 210 [.ref 6, .int a, .int b] M (fun r M' => (∃ v : Int32, r = some (.int v)) ∧ zBo M') := by
  exact h.callc (C210_6 h.skc h.ivc (fun M' v s I _ _ _ => ⟨⟨v, rfl⟩, s, I⟩))
theorem om36 {X : zX} {l : Launch} {M : zM} {a b : Int32} (h : zBo M) : zCall X l 1 0 0 341 [.ref 336, .int a, .int b] M (fun r M' => (∃ v : Int32, r = some (.int v)) ∧ zBo M') := by
  exact h.callm (K341 h.skm h.ivm h.pR h.pC h.pF (fun M' v s I _ r c f => ⟨⟨v, rfl⟩, s, I, r, c, f⟩))
theorem oc37 {X : zX} {l : Launch} {M : zM} (h : zBo M) : zCall X l 4 0 0 212 [.ref 6] M (fun r M' => (∃ v : Int32, r = some (.int v)) ∧ zBo M') := by
  exact h.callc (C212_6 h.skc h.ivc (fun M' v s I _ _ _ => ⟨⟨v, rfl⟩, s, I⟩))
theorem om37 {X : zX} {l : Launch} {M : zM} (h : zBo M) : zCall X l 1 0 0 225 [.ref 336] M (fun r M' => (∃ v : Int32, r = some (.int v)) ∧ zBo M') := by
  exact h.callm (K225 h.skm h.ivm h.pR h.pC h.pF (fun M' v s I _ r c f => ⟨⟨v, rfl⟩, s, I, r, c, f⟩))
theorem oc38 {X : zX} {l : Launch} {M : zM} {a : Int32} (h : zBo M) : zCall X l 4 0 0 214 [.ref 6, .int a] M (fun r M' => (∃ v : Int32, r = some (.int v) ∧ ((v.toInt = 1 ∧ 0 ≤ a.toInt ∧ a.toInt ≤ 1) ∨ (v.toInt = 0 ∧ (a.toInt < 0 ∨ 1 < a.toInt)))) ∧ zBo M') := by
  refine h.callc ?_
  by_cases q1 : 0 ≤ a.toInt ∧ a.toInt ≤ 1
  · exact Ckeepa h.skc h.ivc ⟨by omega, by omega⟩ (fun M' v s I _ _ _ => ⟨⟨v, rfl, by omega⟩, s, I⟩)
  · have g := zrg a
    by_cases q2 : a.toInt < 0
    · exact Ckeepb h.skc h.ivc ⟨by omega, by omega⟩ (fun M' v s I _ _ _ => ⟨⟨v, rfl, by omega⟩, s, I⟩)
    · exact Ckeepc h.skc h.ivc ⟨by omega, by omega⟩ (fun M' v s I _ _ _ => ⟨⟨v, rfl, by omega⟩, s, I⟩)
theorem om38 {X : zX} {l : Launch} {M : zM} {a : Int32} (h : zBo M) : zCall X l 1 0 0 227 [.ref 336, .int a] M (fun r M' => (∃ v : Int32, r = some (.int v) ∧ ((v.toInt = 1 ∧ 0 ≤ a.toInt ∧ a.toInt ≤ 1) ∨ (v.toInt = 0 ∧ (a.toInt < 0 ∨ 1 < a.toInt)))) ∧ zBo M') := by
  exact h.callm (K227x h.skm h.ivm h.pR h.pC h.pF (fun M' v s I _ r c f q _ _ => ⟨⟨v, rfl, q⟩, s, I, r, c, f⟩))
theorem oc39 {X : zX} {l : Launch} {M : zM} {a : Int32} (h : zBo M) : zCall X l 4 0 0 216 [.ref 6, .int a] M (fun r M' => (∃ v : Int32, r = some (.int v)) ∧ zBo M') := by
  exact h.callc (C216_6 h.skc h.ivc (fun M' v s I _ _ _ => ⟨⟨v, rfl⟩, s, I⟩))
theorem om39 {X : zX} {l : Launch} {M : zM} {a : Int32} (h : zBo M) : zCall X l 2 0 0 229 [.ref 336, .int a] M (fun r M' => (∃ v : Int32, r = some (.int v)) ∧ zBo M') := by
  exact h.callm (K229 h.skm h.ivm h.pR h.pC h.pF (fun M' v s I _ r c f _ _ => ⟨⟨v, rfl⟩, s, I, r, c, f⟩))
theorem oc40 {X : zX} {l : Launch} {M : zM} (h : zBo M) : zCall X l 3 0 0 219 [.ref 6] M (fun r M' => (∃ v : Int32, r = some (.int v)) ∧ zBo M') := by
  exact h.callc (C219_6 h.skc h.ivc (fun M' v s I _ _ _ => ⟨⟨v, rfl⟩, s, I⟩))
theorem om40 {X : zX} {l : Launch} {M : zM} (h : zBo M) : zCall X l 2 0 0 346 [.ref 336] M (fun r M' => (∃ v : Int32, r = some (.int v)) ∧ zBo M') := by
  exact h.callm (K346 h.skm h.ivm h.pR h.pC h.pF (fun M' v s I _ r c f => ⟨⟨v, rfl⟩, s, I, r, c, f⟩))
theorem oc41 {X : zX} {l : Launch} {M : zM} {a : Int32} (h : zBo M) : zCall X l 0 0 0 223 [.ref 6, .int a] M (fun r M' => (∃ v : Int32, r = some (.int v)) ∧ zBo M') := by
  exact h.callc (C223_6 h.skc h.ivc (fun M' v s I _ _ _ => ⟨⟨v, rfl⟩, s, I⟩))
theorem om41 {X : zX} {l : Launch} {M : zM} {a : Int32} (h : zBo M) : zCall X l 1 0 0 349 [.ref 336, .int a] M (fun r M' => (∃ v : Int32, r = some (.int v)) ∧ zBo M') := by
  exact h.callm (K349 h.skm h.ivm h.pR h.pC h.pF (fun M' v s I _ r c f => ⟨⟨v, rfl⟩, s, I, r, c, f⟩))
