theorem zlcge {a b : Int64} {ea eb : Int} (ha : a.toInt = ea) (hb : b.toInt = eb) (h : eb ≤ ea) : ¬ (lg_cmp a b).toInt < 0 := by
  by_cases q : ea = eb
  · rw [zlcE ha hb q]
    decide
  · rw [zlcG ha hb (by omega)]
    decide
theorem zlcle {a b : Int64} {ea eb : Int} (ha : a.toInt = ea) (hb : b.toInt = eb) (h : ea ≤ eb) : ¬ 0 < (lg_cmp a b).toInt := by
  by_cases q : ea = eb
  · rw [zlcE ha hb q]
    decide
  · rw [zlcL ha hb (by omega)]
    decide
theorem in_T {X : zX} {l : Launch} {M : zM} {v lo hi : Int64} {ev el eh : Int} (hv : v.toInt = ev) (hl : lo.toInt = el) (hh : hi.toInt = eh) (h1 : el ≤ ev) (h2 : ev ≤ eh) : zCall X l 0 0 0 228 [.long v, .long lo, .long hi] M (fun r M' => r = some (.int (1 : Int32)) ∧ M = M') := by
  refine zs_in (by decide) mf228 (Nat.le_of_ble_eq_true rfl) ?_
  show zGo X l 0 0 0 228 0 [(0, .long v), (2, .long lo), (4, .long hi)] [] M _
  refine zs_lload_n (pc := 0) t228_0 rfl ?_
  refine zs_lload_n (pc := 1) t228_1 rfl ?_
  refine zs_lcmp (pc := 2) t228_2 rfl ?_
  refine zs_if_ltF (pc := 3) t228_3 rfl (zlcge hv hl h1) ?_
  refine zs_lload_n (pc := 6) t228_6 rfl ?_
  refine zs_lload (pc := 7) t228_7 rfl ?_
  refine zs_lcmp (pc := 9) t228_9 rfl ?_
  refine zs_if_gtF (pc := 10) t228_10 rfl (zlcle hv hh h2) ?_
  refine zs_iconst (pc := 13) t228_13 (v := 1) (by decide) ?_
  refine zs_goto (pc := 14) t228_14 ?_
  exact zs_iret (pc := 18) t228_18 mr228 (by decide) ⟨rfl, rfl⟩
theorem in_F {X : zX} {l : Launch} {M : zM} {v lo hi : Int64} {ev el eh : Int} (hv : v.toInt = ev) (hl : lo.toInt = el) (hh : hi.toInt = eh) (h : ev < el ∨ eh < ev) : zCall X l 0 0 0 228 [.long v, .long lo, .long hi] M (fun r M' => r = some (.int (0 : Int32)) ∧ M = M') := by
  refine zs_in (by decide) mf228 (Nat.le_of_ble_eq_true rfl) ?_
  show zGo X l 0 0 0 228 0 [(0, .long v), (2, .long lo), (4, .long hi)] [] M _
  refine zs_lload_n (pc := 0) t228_0 rfl ?_
  refine zs_lload_n (pc := 1) t228_1 rfl ?_
  by_cases q : ev < el
  · refine zs_lcmp (pc := 2) t228_2 (c := -1) (zlcL hv hl q) ?_
    refine zs_if_ltT (pc := 3) t228_3 lin1 (by decide) ?_
    refine zs_iconst (pc := 17) t228_17 (v := 0) (by decide) ?_
    exact zs_iret (pc := 18) t228_18 mr228 (by decide) ⟨rfl, rfl⟩
  · refine zs_lcmp (pc := 2) t228_2 rfl ?_
    refine zs_if_ltF (pc := 3) t228_3 rfl (zlcge hv hl (by omega)) ?_
    refine zs_lload_n (pc := 6) t228_6 rfl ?_
    refine zs_lload (pc := 7) t228_7 rfl ?_
    refine zs_lcmp (pc := 9) t228_9 (c := 1) (zlcG hv hh (by omega)) ?_
    refine zs_if_gtT (pc := 10) t228_10 li1 (by decide) ?_
    refine zs_iconst (pc := 17) t228_17 (v := 0) (by decide) ?_
    exact zs_iret (pc := 18) t228_18 mr228 (by decide) ⟨rfl, rfl⟩
theorem mA {j : Nat} (h : j < 506) : mLo 337 j = aLo j ∧ mHi 337 j = aHi j := by
  show (if j < 506 then aLo j else _) = _ ∧ (if j < 506 then aHi j else _) = _
  rw [if_pos h, if_pos h]
  exact ⟨rfl, rfl⟩
theorem ibX {M : zM} {j : Nat} (h : zIv mLo mHi M) (h1 : 14 ≤ j) (h2 : j < 30) (h3 : j % 2 = 0) : 0 ≤ (zI M 337 j).toInt ∧ (zI M 337 j).toInt ≤ 999 := by
  have q := h 337 j
  rw [(mA (by omega)).1, (mA (by omega)).2, (aX h1 h2 h3).1, (aX h1 h2 h3).2] at q
  exact q
theorem ibL {M : zM} {j : Nat} (h : zIv mLo mHi M) (h1 : 30 ≤ j) (h2 : j < 270) (h3 : j % 4 = 2) : 0 ≤ (zI M 337 j).toInt ∧ (zI M 337 j).toInt ≤ 7 := by
  have q := h 337 j
  rw [(mA (by omega)).1, (mA (by omega)).2, (aL h1 h2 h3).1, (aL h1 h2 h3).2] at q
  exact q
theorem zIv.putA {M : zM} {j : Nat} {v : Int32} (h : zIv mLo mHi M) (hj : j < 506) (h1 : aLo j ≤ v.toInt ∧ v.toInt ≤ aHi j) : zIv mLo mHi (zsI M 337 j v) := h.put (by rw [(mA hj).1, (mA hj).2]; exact h1)
theorem zJo {M : zM} {k k' j : Nat} {v : Int64} (h : k' ≠ k) : zJ (zsJ M k j v) k' = zJ M k' := by
  show zr (zJ M) k (vp_updL (zJ M k) j v) k' = _
  funext x
  unfold zr
  rw [if_neg h]
def zflr (a b : Int64) : Int32 := if 0 ≤ a.toInt then (a / b).toInt32 else (-((-a + b - 1) / b)).toInt32
def zx (M : zM) (l : Nat) : Int32 := zI M 337 (14 + 2 * l)
def zbend (M : zM) (l k : Int32) : Int32 := zflr (k.toInt64 * (zx M l.toInt.toNat).toInt64 * (zx M l.toInt.toNat).toInt64) 10000
def zlift (M : zM) (l t k : Int32) : Int32 := zflr (t.toInt64 * (zx M l.toInt.toNat).toInt64) 100 + zbend M l k
theorem K228T {X : zX} {l : Launch} {M : zM} {Q : Option Value → zM → Prop} {v lo hi : Int64} {ev el eh : Int} (hv : v.toInt = ev) (hl : lo.toInt = el) (hh : hi.toInt = eh) (h : el ≤ ev ∧ ev ≤ eh) (hQ : Q (some (.int (1 : Int32))) M) : zCall X l 0 0 0 228 [.long v, .long lo, .long hi] M Q := (in_T hv hl hh h.1 h.2).mono (fun _ _ q => by rw [q.1, ← q.2]; exact hQ)
theorem K228F {X : zX} {l : Launch} {M : zM} {Q : Option Value → zM → Prop} {v lo hi : Int64} {ev el eh : Int} (hv : v.toInt = ev) (hl : lo.toInt = el) (hh : hi.toInt = eh) (h : ¬ (el ≤ ev ∧ ev ≤ eh)) (hQ : Q (some (.int (0 : Int32))) M) : zCall X l 0 0 0 228 [.long v, .long lo, .long hi] M Q := (in_F hv hl hh (by omega)).mono (fun _ _ q => by rw [q.1, ← q.2]; exact hQ)
/-! ===== rows are copied ===== -/
def zCp (M M' : zM) (a b n : Nat) : Prop := (∀ j, (j < 506 * b ∨ 506 * b + n ≤ j) → zI M' 337 j = zI M 337 j) ∧ ∀ p, p < n → zI M' 337 (506 * b + p) = zI M 337 (506 * a + p)
theorem zCp.nil {M : zM} {a b n : Nat} (hn : n = 0) : zCp M M a b n := ⟨fun _ _ => rfl, fun p h => absurd h (by omega)⟩
theorem zCp.step {M M' : zM} {a b n n' i j : Nat} (h : zCp M M' a b n) (hab : a ≠ b) (hn : n < 506) (hi : i = 506 * a + n) (hj : j = 506 * b + n) (hn' : n' = n + 1) : zCp M (zsI M' 337 j (zI M' 337 i)) a b n' := by
  subst hi
  subst hj
  subst hn'
  constructor
  · intro x hx
    rw [zIoj (by omega)]
    exact h.1 x (by omega)
  · intro p hp
    by_cases e : p = n
    · subst e
      rw [zIs]
      exact h.1 _ (by omega)
    · rw [zIoj (by omega)]
      exact h.2 p (by omega)
theorem zCp.bd {M M' : zM} {a b n i j : Nat} (h : zCp M M' a b n) (hk : zRk (zrow M a)) (hab : a ≠ b) (hn : n < 506) (hi : i = 506 * a + n) (hj : j = 506 * b + n) : j < 506 → aLo j ≤ (zI M' 337 i).toInt ∧ (zI M' 337 i).toInt ≤ aHi j := by
  subst hi
  intro hj'
  have e : j = n := by omega
  rw [h.1 _ (by omega), e]
  exact hk.1 n hn
theorem zIv.putB {M : zM} {j : Nat} {v : Int32} (h : zIv mLo mHi M) (h1 : j < 506 → aLo j ≤ v.toInt ∧ v.toInt ≤ aHi j) : zIv mLo mHi (zsI M 337 j v) := by
  by_cases hj : j < 506
  · exact h.putA hj (h1 hj)
  · refine h.put ?_
    show (if j < 506 then aLo j else -2147483648) ≤ v.toInt ∧ v.toInt ≤ (if j < 506 then aHi j else 2147483647)
    rw [if_neg hj, if_neg hj]
    exact zrg v
theorem zhp.cg {g g' : Nat → Int32} : ∀ k : Nat, (∀ i, i < k → g' i = g i) → zhp g' k = zhp g k
  | 0, _ => rfl
  | k + 1, e => by
    have h := zhp.cg k (fun i hi => e i (by omega))
    show (if (g' k).toInt < 20000 then zhp g' k + 1 else if (g' k).toInt = 20033 then zhp g' k else zhp g' k - 1) = (if (g k).toInt < 20000 then zhp g k + 1 else if (g k).toInt = 20033 then zhp g k else zhp g k - 1)
    rw [e k (by omega), h]
theorem zCd.cg {g g' : Nat → Int32} {n : Int} (h : zCd g n) (e : ∀ i : Nat, (i : Int) < n → g' i = g i) : zCd g' n := by
  intro k hk
  have h1 := h k hk
  rw [e k hk, zhp.cg k (fun i hi => e i (by omega))]
  exact h1
theorem zRg.cg {f g : Nat → Int32} (h : zRg f) (e : ∀ p, p < 506 → g p = f p) (h0 : (f 0).toInt ≤ 8) (h1 : (f 1).toInt ≤ 60) : zRg g := by
  constructor
  · intro a b hab hb
    rw [e 0 (by decide)] at hb
    rw [e _ (by omega), e _ (by omega)]
    exact h.1 a b hab hb
  · intro x hx
    rw [e 1 (by decide)] at hx
    rw [e _ (by omega), e 0 (by decide)]
    exact h.2 x hx
theorem zRk.cg {f g : Nat → Int32} (h : zRk f) (e : ∀ p, p < 506 → g p = f p) : zRk g := by
  have b0 : (f 0).toInt ≤ 8 := (h.1 0 (by decide)).2
  have b1 : (f 1).toInt ≤ 60 := (h.1 1 (by decide)).2
  have b4 : (f 4).toInt ≤ 200 := (h.1 4 (by decide)).2
  refine ⟨fun p hp => by rw [e p hp]; exact h.1 p hp, h.2.1.cg e b0 b1, ?_⟩
  rw [e 4 (by decide)]
  exact h.2.2.cg (fun i hi => e _ (by omega))
theorem zrb {M : zM} (hI : zIv mLo mHi M) (p : Nat) (hp : p < 506) : aLo p ≤ (zrow M 0 p).toInt ∧ (zrow M 0 p).toInt ≤ aHi p := by
  have q := hI 337 p
  rw [(mA hp).1, (mA hp).2] at q
  have e : zrow M 0 p = zI M 337 p := by unfold zrow; rw [show 506 * 0 + p = p by omega]
  rw [e]
  exact q
theorem zRk0 {M : zM} (hI : zIv mLo mHi M) (hR : zPR M) (hC : zPC M) : zRk (zrow M 0) := ⟨fun p hp => zrb hI p hp, hR.1, hC⟩
theorem zCp.b {M M' : zM} {a b : Nat} (h : zCp M M' a b 506) : ∀ p, p < 506 → zrow M' b p = zrow M a p := fun p hp => h.2 p hp
theorem zCp.o {M M' : zM} {a b r : Nat} (h : zCp M M' a b 506) (hr : r ≠ b) : ∀ p, p < 506 → zrow M' r p = zrow M r p := fun p hp => h.1 _ (by omega)
theorem zCp.k {M M' : zM} {a b r : Nat} (h : zCp M M' a b 506) (hk : zRk (zrow M a)) (hr : r = b ∨ zRk (zrow M r)) : zRk (zrow M' r) := by
  by_cases e : r = b
  · subst e
    exact hk.cg h.b
  · exact (hr.resolve_left e).cg (h.o e)
theorem zPR.cp {M M' : zM} {a b : Nat} (h : zPR M) (hI : zIv mLo mHi M) (hk : zRk (zrow M a)) (cp : zCp M M' a b 506) (e : zEq [(338, 338, none), (336, 336, some 1)] M M') : zPR M' := by
  refine ⟨?_, fun k hk' q => ?_, fun d q => ?_⟩
  · by_cases hb : 0 = b
    · subst hb
      exact (hk.cg cp.b).2.1
    · exact h.1.cg (cp.o hb) (zrb hI 0 (by decide)).2 (zrb hI 1 (by decide)).2
  · rw [e 338 k rfl] at q
    exact cp.k hk (Or.inr (h.2.1 k hk' q))
  · rw [e 336 1 rfl] at q
    exact cp.k hk (Or.inr (h.2.2 d q))
theorem zPC.cp {M M' : zM} {a b : Nat} (h : zPC M) (hI : zIv mLo mHi M) (hR : zPR M) (hk : zRk (zrow M a)) (cp : zCp M M' a b 506) : zPC M' := (cp.k hk (Or.inr (zRk0 hI hR h))).2.2
theorem zPA.cp {M M' : zM} {a b : Nat} (hk : zRk (zrow M a)) (cp : zCp M M' a b 506) (h : 11 = b ∨ zPA M) : zPA M' := cp.k hk h
/-- rows behind that of now stay -/
def zUp (M M' : zM) : Prop := ∀ j, 506 ≤ j → zI M' 337 j = zI M 337 j
theorem zUp.refl {M : zM} : zUp M M := fun _ _ => rfl
theorem zUp.trans {M M' M'' : zM} (h : zUp M M') (h' : zUp M' M'') : zUp M M'' := fun j q => (h' j q).trans (h j q)
theorem zUp.put {M M' : zM} {k j : Nat} {v : Int32} (h : zUp M M') (hj : k ≠ 337 ∨ j < 506) : zUp M (zsI M' k j v) := by
  intro i hi
  by_cases hk : k = 337
  · rw [zIoj (by omega)]
    exact h i hi
  · rw [zIo (fun q => hk q.symm)]
    exact h i hi
theorem zUp.fr {W : zW} {M M' : zM} (h : zFr W M M') (hd : zdis [(337, 337, none)] W = true) : zUp M M' := fun j _ => (h.eq hd) 337 j rfl
theorem zPA.up {M M' : zM} (h : zPA M) (e : zUp M M') : zPA M' := h.cg (fun p _ => e _ (by omega))
theorem zPR.less {M : zM} {v : Int32} (h : zPR M) (hv : v.toInt ≤ (zI M 336 1).toInt) : zPR (zsI M 336 1 v) := by
  refine ⟨h.1, fun k hk q => h.2.1 k hk q, fun d q => h.2.2 d ?_⟩
  rw [zIs] at q
  omega
theorem zPR.more {M : zM} {v : Int32} {n : Nat} (h : zPR M) (hn : (zI M 336 1).toInt = (n : Int)) (hv : v.toInt = (n : Int) + 1) (hk : zRk (zrow M (3 + n))) : zPR (zsI M 336 1 v) := by
  refine ⟨h.1, fun k hk q => h.2.1 k hk q, fun d q => ?_⟩
  rw [zIs] at q
  by_cases hd : (d : Int) < n
  · exact h.2.2 d (by omega)
  · have e : d = n := by omega
    subst e
    exact hk
theorem zPR.keep {M : zM} {v : Int32} {n : Nat} (h : zPR M) (hk : zRk (zrow M (1 + n))) : zPR (zsI M 338 n v) := by
  refine ⟨h.1, fun k hk2 q => ?_, fun d q => h.2.2 d q⟩
  by_cases e : k = n
  · subst e
    exact hk
  · rw [zIoj e] at q
    exact h.2.1 k hk2 q

/-! ===== cells, votes, tracks ===== -/
theorem zFr.J {W : zW} {M M' : zM} {k j : Nat} {v : Int64} (h : zFr W M M') : zFr W M (zsJ M' k j v) := fun k' j' q => h k' j' q
theorem zUp.J {M M' : zM} {k j : Nat} {v : Int64} (h : zUp M M') : zUp M (zsJ M' k j v) := fun j' q => h j' q
theorem zbend.fr {M M' : zM} (e : ∀ j, zI M' 337 j = zI M 337 j) {l k : Int32} : zbend M' l k = zbend M l k := by
  unfold zbend zx
  rw [e]
theorem zlift.fr {M M' : zM} (e : ∀ j, zI M' 337 j = zI M 337 j) {l t k : Int32} : zlift M' l t k = zlift M l t k := by
  unfold zlift zx
  rw [e, zbend.fr e]
def zcell (M : zM) (h : Nat) (t k : Int32) : Int32 := zflr (zI M 337 (31 + 4 * h) - zlift M (zI M 337 (30 + 4 * h)) t k).toInt64 (zI M 337 7).toInt64
theorem zcell.fr {M M' : zM} (e : ∀ j, zI M' 337 j = zI M 337 j) {h : Nat} {t k : Int32} : zcell M' h t k = zcell M h t k := by
  unfold zcell
  rw [e, e, e, zlift.fr e]
/-- the cells of the hits that are left are laid, up to n -/
def zLn (M Mn : zM) (t k : Int32) (n : Nat) : Prop := ∀ h : Nat, h < n → (zI M 343 h).toInt ≠ 0 → zI Mn 344 h = zcell M h t k
def zLy (M : zM) (t k : Int32) : Prop := ∀ h : Nat, (h : Int) < (zI M 337 1).toInt → (zI M 343 h).toInt ≠ 0 → zI M 344 h = zcell M h t k
theorem zLn.nil {M Mn : zM} {t k : Int32} {n : Nat} (hn : n = 0) : zLn M Mn t k n := fun h q => absurd q (by omega)
theorem zLn.put {M Mn : zM} {t k v : Int32} {n n' j : Nat} (h : zLn M Mn t k n) (hj : j = n) (hn : n' = n + 1) (hv : v = zcell M j t k) : zLn M (zsI Mn 344 j v) t k n' := by
  intro x hx q
  by_cases e : x = j
  · subst e
    rw [zIs]
    exact hv
  · rw [zIoj e]
    exact h x (by omega) q
theorem zLn.skip {M Mn : zM} {t k : Int32} {n n' j : Nat} (h : zLn M Mn t k n) (hj : j = n) (hn : n' = n + 1) (hz : (zI M 343 j).toInt = 0) : zLn M Mn t k n' := by
  intro x hx q
  by_cases e : x = j
  · subst e
    omega
  · exact h x (by omega) q
theorem zLn.all {M Mn : zM} {t k : Int32} {n : Nat} (h : zLn M Mn t k n) (hn : (zI M 337 1).toInt ≤ (n : Int)) (e : zEq [(337, 337, none), (343, 343, none)] M Mn) : zLy Mn t k := by
  intro x hx q
  rw [e 337 1 rfl] at hx
  rw [e 343 x rfl] at q
  rw [zcell.fr (fun j => e 337 j rfl)]
  exact h x (by omega) q
abbrev dL : zW := [(337, 337, none), (343, 344, none)]
theorem zLy.fr {M M' : zM} {t k : Int32} (h : zLy M t k) (e : zEq dL M M') : zLy M' t k := by
  intro x hx q
  rw [e 337 1 rfl] at hx
  rw [e 343 x rfl] at q
  rw [e 344 x rfl, zcell.fr (fun j => e 337 j rfl)]
  exact h x hx q
/-- two hits of unlike layers vote for a cell -/
def zVw (M : zM) (p : Int32) : Prop := ∃ h1 h2 : Nat, (h1 : Int) < (zI M 337 1).toInt ∧ (h2 : Int) < (zI M 337 1).toInt ∧ (zI M 343 h1).toInt ≠ 0 ∧ (zI M 343 h2).toInt ≠ 0 ∧ (zI M 337 (30 + 4 * h1)).toInt ≠ (zI M 337 (30 + 4 * h2)).toInt ∧ zI M 344 h1 = p ∧ zI M 344 h2 = p
def zVi (M : zM) (p s : Int32) : Prop := zVw M p ∨ s = 0 ∨ ∃ h : Nat, (h : Int) < (zI M 337 1).toInt ∧ (zI M 343 h).toInt ≠ 0 ∧ zI M 344 h = p ∧ s = (1 : Int32) <<< (zI M 337 (30 + 4 * h) &&& 31)
theorem zVi.add {M : zM} {p s a b : Int32} {n : Nat} (h : zVi M p s) (hn : (n : Int) < (zI M 337 1).toInt) (hl : (zI M 343 n).toInt ≠ 0) (hc : (zI M 344 n).toInt = p.toInt) (ha : (1 : Int32) <<< (zI M 337 (30 + 4 * n) &&& 31) = a) (hb : s ||| a = b) : zVi M p b := by
  have hc' : zI M 344 n = p := Int32.toInt_inj.mp hc
  subst ha
  subst hb
  rcases h with h | h | ⟨g, g1, g2, g3, g4⟩
  · exact Or.inl h
  · subst h
    exact Or.inr (Or.inr ⟨n, hn, hl, hc', (by simp)⟩)
  · by_cases e : (zI M 337 (30 + 4 * g)).toInt = (zI M 337 (30 + 4 * n)).toInt
    · have e2 := Int32.toInt_inj.mp e
      refine Or.inr (Or.inr ⟨n, hn, hl, hc', ?_⟩)
      rw [g4, e2]
      simp
    · exact Or.inl ⟨g, n, g1, hn, g2, hl, e, g3, hc'⟩
/-- the best cell so far has two such hits, if it has two votes -/
abbrev dB : zW := [(336, 336, some 18), (336, 336, some 19), (336, 336, some 20), (336, 336, some 21), (337, 337, none), (343, 343, none)]
def zPB (M : zM) : Prop := 2 ≤ (zI M 336 18).toInt → ∃ h1 h2 : Nat, (h1 : Int) < (zI M 337 1).toInt ∧ (h2 : Int) < (zI M 337 1).toInt ∧ (zI M 343 h1).toInt ≠ 0 ∧ (zI M 343 h2).toInt ≠ 0 ∧ (zI M 337 (30 + 4 * h1)).toInt ≠ (zI M 337 (30 + 4 * h2)).toInt ∧ zcell M h1 (zI M 336 20) (zI M 336 19) = zI M 336 21 ∧ zcell M h2 (zI M 336 20) (zI M 336 19) = zI M 336 21
theorem zPB.fr {M M' : zM} (h : zPB M) (e : zEq dB M M') : zPB M' := by
  intro q
  rw [e 336 18 rfl] at q
  obtain ⟨h1, h2, a1, a2, a3, a4, a5, a6, a7⟩ := h q
  have e7 : ∀ j, zI M' 337 j = zI M 337 j := fun j => e 337 j rfl
  refine ⟨h1, h2, ?_, ?_, ?_, ?_, ?_, ?_, ?_⟩
  · rw [e7]; exact a1
  · rw [e7]; exact a2
  · rw [e 343 h1 rfl]; exact a3
  · rw [e 343 h2 rfl]; exact a4
  · rw [e7, e7]; exact a5
  · rw [e 336 20 rfl, e 336 19 rfl, e 336 21 rfl, zcell.fr e7]; exact a6
  · rw [e 336 20 rfl, e 336 19 rfl, e 336 21 rfl, zcell.fr e7]; exact a7
theorem zPB.zero {M : zM} {v : Int32} (hv : v.toInt < 2) : zPB (zsI M 336 18 v) := by
  intro q
  rw [zIs] at q
  omega
theorem zPB.mk {M : zM} {v k t p : Int32} (hx : 2 ≤ v.toInt → zVw M p) (hL : zLy M t k) : zPB (zsI (zsI (zsI (zsI M 336 18 v) 336 19 k) 336 20 t) 336 21 p) := by
  intro q
  have e18 : zI (zsI (zsI (zsI (zsI M 336 18 v) 336 19 k) 336 20 t) 336 21 p) 336 18 = v := (zIoj (by decide)).trans ((zIoj (by decide)).trans ((zIoj (by decide)).trans zIs))
  have e19 : zI (zsI (zsI (zsI (zsI M 336 18 v) 336 19 k) 336 20 t) 336 21 p) 336 19 = k := (zIoj (by decide)).trans ((zIoj (by decide)).trans zIs)
  have e20 : zI (zsI (zsI (zsI (zsI M 336 18 v) 336 19 k) 336 20 t) 336 21 p) 336 20 = t := (zIoj (by decide)).trans zIs
  have e21 : zI (zsI (zsI (zsI (zsI M 336 18 v) 336 19 k) 336 20 t) 336 21 p) 336 21 = p := zIs
  have e7 : ∀ j, zI (zsI (zsI (zsI (zsI M 336 18 v) 336 19 k) 336 20 t) 336 21 p) 337 j = zI M 337 j := fun j => (zIo (by decide)).trans ((zIo (by decide)).trans ((zIo (by decide)).trans (zIo (by decide))))
  have e3 : ∀ j, zI (zsI (zsI (zsI (zsI M 336 18 v) 336 19 k) 336 20 t) 336 21 p) 343 j = zI M 343 j := fun j => (zIo (by decide)).trans ((zIo (by decide)).trans ((zIo (by decide)).trans (zIo (by decide))))
  rw [e18] at q
  obtain ⟨h1, h2, a1, a2, a3, a4, a5, a6, a7⟩ := hx q
  refine ⟨h1, h2, ?_, ?_, ?_, ?_, ?_, ?_, ?_⟩
  · rw [e7]; exact a1
  · rw [e7]; exact a2
  · rw [e3]; exact a3
  · rw [e3]; exact a4
  · rw [e7, e7]; exact a5
  · rw [e20, e19, e21, zcell.fr e7, ← hL h1 a1 a3]; exact a6
  · rw [e20, e19, e21, zcell.fr e7, ← hL h2 a2 a4]; exact a7
theorem zPT.zero {M : zM} {v : Int32} (hv : v.toInt ≤ 0) : zPT (zsI M 336 22 v) := by
  intro i hi
  rw [zIs] at hi
  omega
theorem zPT.put {M : zM} {j : Nat} {v : Int32} (h : zPT M) (hm : (zI M 337 0).toInt ≤ 8) (hj : 8 * (zI M 336 22).toInt ≤ (j : Int)) : zPT (zsI M 349 j v) := by
  intro i hi
  rw [zIo (by decide)] at hi
  obtain ⟨a, b, h1, h2, h3, h4⟩ := h i hi
  exact ⟨a, b, h1, by rw [zIo (by decide)]; exact h2, by rw [zIoj (by omega)]; exact h3, by rw [zIoj (by omega)]; exact h4⟩
theorem zPT.more {M : zM} {v : Int32} {n : Nat} (h : zPT M) (hn : (zI M 336 22).toInt = (n : Int)) (hv : v.toInt = (n : Int) + 1) (ht : zTk M n) : zPT (zsI M 336 22 v) := by
  intro i hi
  rw [zIs] at hi
  have tr : zTk M i := by
    by_cases e : (i : Int) < n
    · exact h i (by omega)
    · obtain rfl : i = n := by omega
      exact ht
  obtain ⟨a, b, h1, h2, h3, h4⟩ := tr
  exact ⟨a, b, h1, by rw [zIo (by decide)]; exact h2, by rw [zIo (by decide)]; exact h3, by rw [zIo (by decide)]; exact h4⟩
/-- a hit of two, ahead of layer l and behind -/
def zly (M : zM) (h : Nat) : Int := (zI M 337 (30 + 4 * h)).toInt
def zOu (M Mn : zM) (i : Nat) (l : Int) (h : Nat) : Prop := (zly M h < l → (zI Mn 349 (8 * i + (zly M h).toNat)).toInt ≠ -2) ∧ (l ≤ zly M h → (zI Mn 343 h).toInt ≠ 0)
def zIn (M : zM) (h : Nat) (l c b : Int) : Prop := zly M h = l → (h : Int) < c → b ≠ -2
theorem zOu.miss {M Mn : zM} {i j h : Nat} {l l' : Int} {v : Int32} (ho : zOu M Mn i l h) (hb : zly M h ≠ l) (h0 : 0 ≤ l ∧ 0 ≤ zly M h) (hj : (j : Int) = 8 * i + l) (hl : l' = l + 1) : zOu M (zsI Mn 349 j v) i l' h := by
  subst hl
  refine ⟨fun q => ?_, fun q => ?_⟩
  · rw [zIoj (by omega)]
    exact ho.1 (by omega)
  · rw [zIo (by decide)]
    exact ho.2 (by omega)
theorem zOu.take {M Mn : zM} {i j h b t : Nat} {l l' : Int} {v u z : Int32} (ho : zOu M Mn i l h) (hv : v.toInt ≠ -2) (hb : zly M b = l) (h0 : 0 ≤ l ∧ 0 ≤ zly M h) (hj : (j : Int) = 8 * i + l) (hl : l' = l + 1) : zOu M (zsI (zsI (zsI Mn 349 j v) 350 t u) 343 b z) i l' h := by
  subst hl
  refine ⟨fun q => ?_, fun q => ?_⟩
  · rw [zIo (by decide), zIo (by decide)]
    by_cases e : zly M h = l
    · rw [show 8 * i + (zly M h).toNat = j by omega, zIs]
      exact hv
    · rw [zIoj (by omega)]
      exact ho.1 (by omega)
  · have hne : h ≠ b := by
      intro e
      subst e
      omega
    rw [zIoj hne, zIo (by decide), zIo (by decide)]
    exact ho.2 (by omega)
theorem zTk.mk {M Mn : zM} {i h1 h2 : Nat} {l : Int} (o1 : zOu M Mn i l h1) (o2 : zOu M Mn i l h2) (hm : (zI Mn 337 0).toInt ≤ l) (b1 : zly M h1 < (zI Mn 337 0).toInt) (b2 : zly M h2 < (zI Mn 337 0).toInt) (hne : zly M h1 ≠ zly M h2) (p1 : 0 ≤ zly M h1) (p2 : 0 ≤ zly M h2) : zTk Mn i := by
  by_cases q : zly M h1 < zly M h2
  · exact ⟨(zly M h1).toNat, (zly M h2).toNat, by omega, by omega, o1.1 (by omega), o2.1 (by omega)⟩
  · exact ⟨(zly M h2).toNat, (zly M h1).toNat, by omega, by omega, o2.1 (by omega), o1.1 (by omega)⟩
theorem zTk.fr {M M' : zM} {i : Nat} (h : zTk M i) (e : zEq [(337, 337, none), (349, 349, none)] M M') : zTk M' i := by
  obtain ⟨a, b, h1, h2, h3, h4⟩ := h
  exact ⟨a, b, h1, by rw [e 337 0 rfl]; exact h2, by rw [e 349 _ rfl]; exact h3, by rw [e 349 _ rfl]; exact h4⟩

/-! ===== sums, vertices ===== -/
theorem zJs {M : zM} {k j : Nat} {v : Int64} : zJ (zsJ M k j v) k j = v := by
  show zr (zJ M) k (vp_updL (zJ M k) j v) k j = v
  unfold zr vp_updL
  rw [if_pos rfl, if_pos rfl]
theorem zJoj {M : zM} {k j j' : Nat} {v : Int64} (h : j' ≠ j) : zJ (zsJ M k j v) k j' = zJ M k j' := by
  show zr (zJ M) k (vp_updL (zJ M k) j v) k j' = _
  unfold zr vp_updL
  rw [if_pos rfl, if_neg h]
theorem zladd {a b : Int64} {ea eb : Int} (ha : a.toInt = ea) (hb : b.toInt = eb) (h1 : -9223372036854775808 ≤ ea + eb) (h2 : ea + eb ≤ 9223372036854775807) : (a + b).toInt = ea + eb := by
  rw [Int64.toInt_add, ha, hb]
  exact Int.bmod_eq_of_le (by omega) (by omega)
theorem zlsub {a b : Int64} {ea eb : Int} (ha : a.toInt = ea) (hb : b.toInt = eb) (h1 : -9223372036854775808 ≤ ea - eb) (h2 : ea - eb ≤ 9223372036854775807) : (a - b).toInt = ea - eb := by
  rw [Int64.toInt_sub, ha, hb]
  exact Int.bmod_eq_of_le (by omega) (by omega)
theorem zlmul {a b : Int64} {ea eb : Int} (ha : a.toInt = ea) (hb : b.toInt = eb) (h1 : -9223372036854775808 ≤ ea * eb) (h2 : ea * eb ≤ 9223372036854775807) : (a * b).toInt = ea * eb := by
  rw [Int64.toInt_mul, ha, hb]
  exact Int.bmod_eq_of_le (by omega) (by omega)
theorem zml2 {a b A B : Int} (a0 : 0 ≤ a) (a1 : a ≤ A) (b0 : 0 ≤ b) (b1 : b ≤ B) : 0 ≤ a * b ∧ a * b ≤ A * B := ⟨Int.mul_nonneg a0 b0, Int.mul_le_mul a1 b1 b0 (Int.le_trans a0 a1)⟩
theorem zDv {n sx sxx p q d : Int64} (hn : 0 ≤ n.toInt ∧ n.toInt ≤ 8) (hx : 0 ≤ sx.toInt ∧ sx.toInt ≤ 7992) (hxx : 0 ≤ sxx.toInt ∧ sxx.toInt ≤ 7984008) (hp : n * sxx = p) (hq : sx * sx = q) (hd : p - q = d) : d.toInt = n.toInt * sxx.toInt - sx.toInt * sx.toInt := by
  have b1 := zml2 hn.1 hn.2 hxx.1 hxx.2
  have b2 := zml2 hx.1 hx.2 hx.1 hx.2
  have e1 : p.toInt = n.toInt * sxx.toInt := by rw [← hp]; exact zlmul rfl rfl (by omega) (by omega)
  have e2 : q.toInt = sx.toInt * sx.toInt := by rw [← hq]; exact zlmul rfl rfl (by omega) (by omega)
  rw [← hd]
  exact zlsub e1 e2 (by omega) (by omega)
def zSu (M : zM) (i : Nat) (l n sx sxx : Int) : Prop := (0 ≤ n ∧ n ≤ l) ∧ (0 ≤ sx ∧ sx ≤ 999 * l) ∧ (0 ≤ sxx ∧ sxx ≤ 998001 * l) ∧ 0 ≤ n * sxx - sx * sx ∧ (∀ t : Int, (∀ a : Nat, (a : Int) < l → (zI M 337 (14 + 2 * a)).toInt < t) → n ≤ n * (t * t) - 2 * (sx * t) + sxx) ∧ (∀ a : Nat, (a : Int) < l → (zI M 349 (8 * i + a)).toInt ≠ -2 → 1 ≤ n) ∧ ∀ a b : Nat, a < b → (b : Int) < l → (zI M 349 (8 * i + a)).toInt ≠ -2 → (zI M 349 (8 * i + b)).toInt ≠ -2 → 1 ≤ n * sxx - sx * sx
theorem zSu.nil {M : zM} {i : Nat} {l n sx sxx : Int} (hl : l = 0) (hn : n = 0) (hx : sx = 0) (hxx : sxx = 0) : zSu M i l n sx sxx := by
  subst hl
  subst hn
  subst hx
  subst hxx
  refine ⟨by omega, by omega, by omega, by omega, fun t _ => by omega, fun a ha => absurd ha (by omega), fun a b _ hb => absurd hb (by omega)⟩
theorem zSu.skip {M : zM} {i k : Nat} {l l' n sx sxx : Int} (h : zSu M i l n sx sxx) (hk : l = (k : Int)) (hl : l' = l + 1) (hz : (zI M 349 (8 * i + k)).toInt = -2) : zSu M i l' n sx sxx := by
  subst hl
  obtain ⟨h1, h2, h3, h4, h5, h6, h7⟩ := h
  refine ⟨by omega, by omega, by omega, h4, fun t q => h5 t (fun a ha => q a (by omega)), fun a ha q => ?_, fun a b hab hb qa qb => ?_⟩
  · by_cases e : (a : Int) < l
    · exact h6 a e q
    · obtain rfl : a = k := by omega
      exact absurd hz q
  · by_cases e : (b : Int) < l
    · exact h7 a b hab e qa qb
    · obtain rfl : b = k := by omega
      exact absurd hz qb
theorem zSu.add {M : zM} {i k : Nat} {l l' n n' sx sx' sxx sxx' x : Int} (h : zSu M i l n sx sxx) (hk : l = (k : Int)) (hl : l' = l + 1) (hx : x = (zI M 337 (14 + 2 * k)).toInt) (hxb : 0 ≤ x ∧ x ≤ 999) (hr : ∀ a : Nat, (a : Int) < l → (zI M 337 (14 + 2 * a)).toInt < x) (hn : n' = n + 1) (hsx : sx' = sx + x) (hsxx : sxx' = sxx + x * x) : zSu M i l' n' sx' sxx' := by
  subst hl
  subst hn
  subst hsx
  subst hsxx
  obtain ⟨h1, h2, h3, h4, h5, h6, h7⟩ := h
  have hP := h5 x hr
  have bx := zml2 hxb.1 hxb.2 hxb.1 hxb.2
  have eD : (n + 1) * (sxx + x * x) - (sx + x) * (sx + x) = (n * sxx - sx * sx) + (n * (x * x) - 2 * (sx * x) + sxx) := by
    simp only [Int.add_mul, Int.mul_add, Int.one_mul]
    rw [Int.mul_comm x sx]
    omega
  refine ⟨by omega, by omega, by omega, by omega, fun t q => ?_, fun a ha q => by omega, fun a b hab hb qa qb => ?_⟩
  · have hp := h5 t (fun a ha => q a (by omega))
    have hxt := q k (by omega)
    have h1t : 1 ≤ (t - x) * (t - x) := by
      have q2 : 0 < t - x := by omega
      exact Int.mul_pos q2 q2
    have eT : (t - x) * (t - x) = t * t - 2 * (x * t) + x * x := by
      rw [Int.sub_mul, Int.mul_sub, Int.mul_sub, Int.mul_comm t x]
      omega
    have e3 : (n + 1) * (t * t) - 2 * ((sx + x) * t) + (sxx + x * x) = (n * (t * t) - 2 * (sx * t) + sxx) + (t * t - 2 * (x * t) + x * x) := by
      rw [Int.add_mul, Int.add_mul]
      omega
    omega
  · by_cases e : (b : Int) < l
    · have := h7 a b hab e qa qb
      omega
    · have := h6 a (by omega) qa
      omega
theorem zSu.pos {M : zM} {i : Nat} {l n sx sxx : Int} (h : zSu M i l n sx sxx) (ht : zTk M i) (hl : (zI M 337 0).toInt ≤ l) : 1 ≤ n * sxx - sx * sx := by
  obtain ⟨a, b, h1, h2, h3, h4⟩ := ht
  exact h.2.2.2.2.2.2 a b h1 (by omega) h3 h4
theorem zPR.up {M : zM} {k : Nat} (h : zPR M) (hk : (k : Int) < (zI M 337 0).toInt) (a : Nat) (ha : (a : Int) < (k : Int)) : (zI M 337 (14 + 2 * a)).toInt < (zI M 337 (14 + 2 * k)).toInt := by
  have z := h.1.1 a k (by omega) hk
  unfold zrow at z
  rw [show 506 * 0 + (14 + 2 * a) = 14 + 2 * a by omega, show 506 * 0 + (14 + 2 * k) = 14 + 2 * k by omega] at z
  exact z
def zDs (M : zM) (n : Int) : Prop := ∀ i : Nat, (i : Int) < n → 0 < (zJ M 351 i).toInt
theorem zDs.step {M : zM} {n l' : Int} {k k2 k3 k4 : Nat} {v v2 v3 v4 : Int64} (h : zDs M n) (hk : n = (k : Int)) (hl : l' = n + 1) (hv : 0 < v.toInt) : zDs (zsJ (zsJ (zsJ (zsJ M 351 k v) 352 k2 v2) 353 k3 v3) 354 k4 v4) l' := by
  intro i hi
  rw [zJo (by decide), zJo (by decide), zJo (by decide)]
  by_cases e : i = k
  · subst e
    rw [zJs]
    exact hv
  · rw [zJoj e]
    exact h i (by omega)
/-- byStart's entries are tracks -/
def zBs (M : zM) (n tr : Int) : Prop := ∀ q : Nat, (q : Int) < n → (zI M 358 q).toInt < tr
theorem zBs.put {M : zM} {n tr : Int} {j : Nat} {v : Int32} (h : zBs M n tr) (hv : v.toInt < tr) : zBs (zsI M 358 j v) n tr := by
  intro q hq
  by_cases e : q = j
  · subst e
    rw [zIs]
    exact hv
  · rw [zIoj e]
    exact h q hq
theorem zBs.more {M : zM} {n n' tr : Int} {k : Nat} (h : zBs M n tr) (hk : n = (k : Int)) (hn : n' = n + 1) (hv : (zI M 358 k).toInt < tr) : zBs M n' tr := by
  intro q hq
  by_cases e : (q : Int) < n
  · exact h q e
  · obtain rfl : q = k := by omega
    exact hv
def zVm (M : zM) (p : Int) : Prop := ∀ v : Nat, (v : Int) < (zI M 336 37).toInt → 1 ≤ (zI M 356 v).toInt ∧ (zI M 356 v).toInt ≤ p
theorem zVm.of {M M' : zM} {p p' : Int} {k : Nat} (h : zVm M p) (hp : p' = p + 1) (ev : ∀ v, v ≠ k → zI M' 356 v = zI M 356 v) (en : 1 ≤ (zI M' 356 k).toInt ∧ (zI M' 356 k).toInt ≤ p') (hc : ∀ v : Nat, (v : Int) < (zI M' 336 37).toInt → v ≠ k → (v : Int) < (zI M 336 37).toInt) : zVm M' p' := by
  intro v hv
  by_cases e : v = k
  · subst e
    exact en
  · rw [ev v e]
    have := h v (hc v hv e)
    omega
theorem zPV.of {M : zM} {p : Int} (h : zVm M p) : zPV M := fun v hv => (h v hv).1
theorem zPD.of {M : zM} {n : Int} (h : zDs M n) (hn : (zI M 336 22).toInt ≤ n) : zPD M := fun i hi => h i (by omega)

/-! ===== the greatest common divisor ===== -/
theorem zlneg0 {b v : Int64} (h : -b = v) : b.toInt = 0 ∨ v.toInt ≠ 0 := by
  by_cases hv : v.toInt = 0
  · left
    have e0 : v = 0 := Int64.toInt_inj.mp hv
    have e : b = -v := by rw [← h]; exact Int64.neg_neg.symm
    rw [e, e0]
    decide
  · exact Or.inr hv
theorem zlrem {x y v : Int64} (h : x - x / y * y = v) (hy : y.toInt ≠ 0) : v.toInt < max y.toInt (-y.toInt) ∧ -(max y.toInt (-y.toInt)) < v.toInt := by
  have hq : x / y = Int64.ofInt (x.toInt.tdiv y.toInt) := Int64.toInt_inj.mp (by rw [Int64.toInt_div, Int64.toInt_ofInt])
  have hm : x.toInt - x.toInt.tdiv y.toInt * y.toInt = x.toInt.tmod y.toInt := by
    have := Int.tmod_add_tdiv_mul x.toInt y.toInt
    omega
  have he : v = Int64.ofInt (x.toInt.tmod y.toInt) := by rw [← h, ← hm, hq, Int64.ofInt_sub, Int64.ofInt_mul, Int64.ofInt_toInt, Int64.ofInt_toInt]
  have h1 := Int.natAbs_tmod x.toInt y.toInt
  have h2 := Nat.mod_lt x.toInt.natAbs (show 0 < y.toInt.natAbs by omega)
  rw [← h1] at h2
  have g := zrg64 y
  have e : v.toInt = x.toInt.tmod y.toInt := by
    rw [he]
    exact Int64.toInt_ofInt_of_le (by omega) (by omega)
  omega

theorem ib336_1 {M : zM} (h : zIv mLo mHi M) : 0 ≤ (zI M 336 1).toInt ∧ (zI M 336 1).toInt ≤ 8 := h 336 1
theorem ib336_22 {M : zM} (h : zIv mLo mHi M) : 0 ≤ (zI M 336 22).toInt ∧ (zI M 336 22).toInt ≤ 20 := h 336 22
theorem ib336_3 {M : zM} (h : zIv mLo mHi M) : 0 ≤ (zI M 336 3).toInt ∧ (zI M 336 3).toInt ≤ 1 := h 336 3
theorem ib336_37 {M : zM} (h : zIv mLo mHi M) : 0 ≤ (zI M 336 37).toInt ∧ (zI M 336 37).toInt ≤ 20 := h 336 37
theorem ib336_39 {M : zM} (h : zIv mLo mHi M) : 0 ≤ (zI M 336 39).toInt ∧ (zI M 336 39).toInt ≤ 20000 := h 336 39
theorem ib336_47 {M : zM} (h : zIv mLo mHi M) : 0 ≤ (zI M 336 47).toInt ∧ (zI M 336 47).toInt ≤ 20 := h 336 47
theorem ib336_5 {M : zM} (h : zIv mLo mHi M) : 0 ≤ (zI M 336 5).toInt ∧ (zI M 336 5).toInt ≤ 500 := h 336 5
theorem ib336_50 {M : zM} (h : zIv mLo mHi M) : 0 ≤ (zI M 336 50).toInt ∧ (zI M 336 50).toInt ≤ 150 := h 336 50
theorem ib336_6 {M : zM} (h : zIv mLo mHi M) : 0 ≤ (zI M 336 6).toInt ∧ (zI M 336 6).toInt ≤ 500 := h 336 6
theorem ib336_7 {M : zM} (h : zIv mLo mHi M) : (-1) ≤ (zI M 336 7).toInt ∧ (zI M 336 7).toInt ≤ 500 := h 336 7
theorem ib338 {M : zM} (h : zIv mLo mHi M) (j : Nat) : 0 ≤ (zI M 338 j).toInt ∧ (zI M 338 j).toInt ≤ 1 := h 338 j
theorem ib339 {M : zM} (h : zIv mLo mHi M) (j : Nat) : (-128) ≤ (zI M 339 j).toInt ∧ (zI M 339 j).toInt ≤ 127 := h 339 j
theorem ib343 {M : zM} (h : zIv mLo mHi M) (j : Nat) : 0 ≤ (zI M 343 j).toInt ∧ (zI M 343 j).toInt ≤ 1 := h 343 j
theorem ib349 {M : zM} (h : zIv mLo mHi M) (j : Nat) : (-2) ≤ (zI M 349 j).toInt ∧ (zI M 349 j).toInt ≤ 59 := h 349 j
theorem ib358 {M : zM} (h : zIv mLo mHi M) (j : Nat) : 0 ≤ (zI M 358 j).toInt ∧ (zI M 358 j).toInt ≤ 19 := h 358 j
theorem ib363 {M : zM} (h : zIv mLo mHi M) (j : Nat) : (-128) ≤ (zI M 363 j).toInt ∧ (zI M 363 j).toInt ≤ 127 := h 363 j
theorem ibA0 {M : zM} (h : zIv mLo mHi M) : 0 ≤ (zI M 337 0).toInt ∧ (zI M 337 0).toInt ≤ 8 := by
  have q := h 337 0
  rw [(mA (show 0 < 506 by decide)).1, (mA (show 0 < 506 by decide)).2] at q
  exact q
theorem ibA1 {M : zM} (h : zIv mLo mHi M) : 0 ≤ (zI M 337 1).toInt ∧ (zI M 337 1).toInt ≤ 60 := by
  have q := h 337 1
  rw [(mA (show 1 < 506 by decide)).1, (mA (show 1 < 506 by decide)).2] at q
  exact q
theorem ibA10 {M : zM} (h : zIv mLo mHi M) : 0 ≤ (zI M 337 10).toInt ∧ (zI M 337 10).toInt ≤ 999 := by
  have q := h 337 10
  rw [(mA (show 10 < 506 by decide)).1, (mA (show 10 < 506 by decide)).2] at q
  exact q
theorem ibA11 {M : zM} (h : zIv mLo mHi M) : 0 ≤ (zI M 337 11).toInt ∧ (zI M 337 11).toInt ≤ 999 := by
  have q := h 337 11
  rw [(mA (show 11 < 506 by decide)).1, (mA (show 11 < 506 by decide)).2] at q
  exact q
theorem ibA12 {M : zM} (h : zIv mLo mHi M) : 1 ≤ (zI M 337 12).toInt ∧ (zI M 337 12).toInt ≤ 9999 := by
  have q := h 337 12
  rw [(mA (show 12 < 506 by decide)).1, (mA (show 12 < 506 by decide)).2] at q
  exact q
theorem ibA13 {M : zM} (h : zIv mLo mHi M) : 0 ≤ (zI M 337 13).toInt ∧ (zI M 337 13).toInt ≤ 9999 := by
  have q := h 337 13
  rw [(mA (show 13 < 506 by decide)).1, (mA (show 13 < 506 by decide)).2] at q
  exact q
theorem ibA2 {M : zM} (h : zIv mLo mHi M) : 0 ≤ (zI M 337 2).toInt ∧ (zI M 337 2).toInt ≤ 12 := by
  have q := h 337 2
  rw [(mA (show 2 < 506 by decide)).1, (mA (show 2 < 506 by decide)).2] at q
  exact q
theorem ibA5 {M : zM} (h : zIv mLo mHi M) : 0 ≤ (zI M 337 5).toInt ∧ (zI M 337 5).toInt ≤ 3 := by
  have q := h 337 5
  rw [(mA (show 5 < 506 by decide)).1, (mA (show 5 < 506 by decide)).2] at q
  exact q
theorem ibA6 {M : zM} (h : zIv mLo mHi M) : 0 ≤ (zI M 337 6).toInt ∧ (zI M 337 6).toInt ≤ 20 := by
  have q := h 337 6
  rw [(mA (show 6 < 506 by decide)).1, (mA (show 6 < 506 by decide)).2] at q
  exact q
theorem ibA7 {M : zM} (h : zIv mLo mHi M) : 1 ≤ (zI M 337 7).toInt ∧ (zI M 337 7).toInt ≤ 500 := by
  have q := h 337 7
  rw [(mA (show 7 < 506 by decide)).1, (mA (show 7 < 506 by decide)).2] at q
  exact q
theorem ibA8 {M : zM} (h : zIv mLo mHi M) : 2 ≤ (zI M 337 8).toInt ∧ (zI M 337 8).toInt ≤ 8 := by
  have q := h 337 8
  rw [(mA (show 8 < 506 by decide)).1, (mA (show 8 < 506 by decide)).2] at q
  exact q
theorem ibA9 {M : zM} (h : zIv mLo mHi M) : 0 ≤ (zI M 337 9).toInt ∧ (zI M 337 9).toInt ≤ 999 := by
  have q := h 337 9
  rw [(mA (show 9 < 506 by decide)).1, (mA (show 9 < 506 by decide)).2] at q
  exact q
