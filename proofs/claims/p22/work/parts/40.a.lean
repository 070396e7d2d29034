theorem mOut {k j : Nat} (h : k < 336 ∨ 363 < k) : mLo k j = -2147483648 ∧ mHi k j = 2147483647 := by
  have hb : ∀ c : Nat, 336 ≤ c → c ≤ 363 → Nat.beq k c = false := by
    intro c h1 h2
    cases hz : Nat.beq k c with
    | false => rfl
    | true => exact absurd (Nat.eq_of_beq_eq_true hz) (by omega)
  have e336 : Nat.beq k 336 = false := hb 336 (by decide) (by decide)
  have e337 : Nat.beq k 337 = false := hb 337 (by decide) (by decide)
  have e338 : Nat.beq k 338 = false := hb 338 (by decide) (by decide)
  have e339 : Nat.beq k 339 = false := hb 339 (by decide) (by decide)
  have e343 : Nat.beq k 343 = false := hb 343 (by decide) (by decide)
  have e349 : Nat.beq k 349 = false := hb 349 (by decide) (by decide)
  have e358 : Nat.beq k 358 = false := hb 358 (by decide) (by decide)
  have e363 : Nat.beq k 363 = false := hb 363 (by decide) (by decide)
  unfold mLo mHi
  rw [e336, e337, e338, e339, e343, e349, e358, e363]
  exact ⟨rfl, rfl⟩
theorem cOut {k j : Nat} (h : k < 6 ∨ 335 < k) : cLo k j = -2147483648 ∧ cHi k j = 2147483647 := by
  by_cases hk : 335 < k
  · unfold cLo cHi
    rw [Nat.ble_eq_true_of_le (show 336 ≤ k by omega)]
    exact ⟨rfl, rfl⟩
  · match k, (show k < 6 by omega) with
    | 0, _ => exact ⟨rfl, rfl⟩
    | 1, _ => exact ⟨rfl, rfl⟩
    | 2, _ => exact ⟨rfl, rfl⟩
    | 3, _ => exact ⟨rfl, rfl⟩
    | 4, _ => exact ⟨rfl, rfl⟩
    | 5, _ => exact ⟨rfl, rfl⟩
    | n + 6, q => exact absurd q (by omega)
theorem zSm_f {k : Nat} (h : zSm k = false) : k < 336 ∨ 363 < k := by
  by_cases q : 336 ≤ k ∧ k ≤ 363
  · unfold zSm at h
    rw [Nat.ble_eq_true_of_le q.1, Nat.ble_eq_true_of_le q.2] at h
    cases h
  · omega
theorem zSc_f {k : Nat} (h : zSc k = false) : k < 6 ∨ 335 < k := by
  by_cases q : 6 ≤ k ∧ k ≤ 335
  · unfold zSc at h
    rw [Nat.ble_eq_true_of_le q.1, Nat.ble_eq_true_of_le q.2] at h
    cases h
  · omega
theorem zinM {D : zW} {k j : Nat} (hs : zsub D [(336, 363, none)] = true) (h : zinW D k j = true) : zSm k = true ∧ zSc k = false := by
  have q := zsub_in hs h
  unfold zinW at q
  rw [List.any_eq_true] at q
  obtain ⟨p, hp, q⟩ := q
  rw [List.mem_singleton] at hp
  subst hp
  rw [Bool.and_eq_true, Bool.and_eq_true, Nat.ble_eq, Nat.ble_eq] at q
  have q1 : 336 ≤ k := q.1
  have q2 : k ≤ 363 := q.2.1
  refine ⟨?_, ?_⟩
  · unfold zSm
    rw [Nat.ble_eq_true_of_le q1, Nat.ble_eq_true_of_le q2]
    rfl
  · cases hz : zSc k with
    | false => rfl
    | true =>
      unfold zSc at hz
      rw [Bool.and_eq_true, Nat.ble_eq, Nat.ble_eq] at hz
      omega
/-- both halves are as they must be -/
def zBo (M : zM) : Prop := zN M = 364 ∧ M.2.1 = zMe.2.1 ∧ M.2.2.2.2 = zMe.2.2.2.2 ∧ zIv cLo cHi M ∧ zIv mLo mHi M ∧ zPR M ∧ zPC M ∧ zPF M
theorem zBo.skc {M : zM} (h : zBo M) : zSk zMc (zhide zSm M) := by
  refine ⟨?_, h.2.2.1⟩
  show (fun k => if zSm k = true then (99, 0) else zK M k) = (fun k => if zSm k = true then (99, 0) else zK zMe k)
  have e : zK M = zK zMe := h.2.1
  rw [e]
theorem zBo.skm {M : zM} (h : zBo M) : zSk zMm (zhide zSc M) := by
  refine ⟨?_, h.2.2.1⟩
  show (fun k => if zSc k = true then (99, 0) else zK M k) = (fun k => if zSc k = true then (99, 0) else zK zMe k)
  have e : zK M = zK zMe := h.2.1
  rw [e]
theorem zBo.ivc {M : zM} (h : zBo M) : zIv cLo cHi (zhide zSm M) := fun k j => h.2.2.2.1 k j
theorem zBo.ivm {M : zM} (h : zBo M) : zIv mLo mHi (zhide zSc M) := fun k j => h.2.2.2.2.1 k j
theorem zBo.pR {M : zM} (h : zBo M) : zPR (zhide zSc M) := h.2.2.2.2.2.1.fr (fun _ _ _ => rfl)
theorem zBo.pC {M : zM} (h : zBo M) : zPC (zhide zSc M) := h.2.2.2.2.2.2.1.fr (fun _ _ _ => rfl)
theorem zBo.pF {M : zM} (h : zBo M) : zPF (zhide zSc M) := h.2.2.2.2.2.2.2.fr (fun _ _ _ => rfl) rfl
theorem zkeK : zK zMe 6 = (11, 0) ∧ zK zMe 336 = (12, 0) := by decide +kernel
theorem zBo.kc {M : zM} (h : zBo M) : (zK M 6).1 = 11 := by
  have e : zK M = zK zMe := h.2.1
  rw [e, zkeK.1]
theorem zBo.km {M : zM} (h : zBo M) : (zK M 336).1 = 12 := by
  have e : zK M = zK zMe := h.2.1
  rw [e, zkeK.2]
theorem zjoK {S : Nat → Bool} {M Mr Mz : zM} (hM : M.2.1 = Mz.2.1) (hr : Mr.2.1 = (zhide S Mz).2.1) : (zjoin S M Mr).2.1 = Mz.2.1 := by
  funext k
  cases hs : S k with
  | true => exact (zjK1 (M := M) (Mr := Mr) hs).1.trans (congrFun hM k)
  | false =>
    refine (zjK (M := M) (Mr := Mr) hs).1.trans ?_
    exact (congrFun hr k).trans (zhK hs)
theorem zjoP {S : Nat → Bool} {M Mr Mz : zM} (hM : M.2.2.2.2 = Mz.2.2.2.2) (hr : Mr.2.2.2.2 = Mz.2.2.2.2) : (zjoin S M Mr).2.2.2.2 = Mz.2.2.2.2 := by
  funext k
  cases hs : S k with
  | true => exact (zjK1 (M := M) (Mr := Mr) hs).2.2.2.trans (congrFun hM k)
  | false => exact (zjK (M := M) (Mr := Mr) hs).2.2.2.trans (congrFun hr k)
/-- the fresh memory lies within the model's table -/
theorem aBig {p : Nat} (h : 14 ≤ p) : aLo p ≤ 0 ∧ 0 ≤ aHi p := by
  by_cases h1 : p < 30
  · by_cases h2 : p % 2 = 0
    · rw [(aX h h1 h2).1, (aX h h1 h2).2]; omega
    · rw [(aN (p := p) (by omega)).1, (aN (p := p) (by omega)).2]; omega
  · by_cases h3 : p < 270 ∧ p % 4 = 2
    · rw [(aL (by omega) h3.1 h3.2).1, (aL (by omega) h3.1 h3.2).2]; omega
    · rw [(aN (p := p) (by omega)).1, (aN (p := p) (by omega)).2]; omega
def zmbP (i : Nat) : Prop := ((List.range 364).all fun k => Nat.beq k 337 || (decide (mLo k (i + 64) ≤ 0) && decide (0 ≤ mHi k (i + 64)))) = true
noncomputable def zmi0 : Nat := Classical.epsilon (fun i => ¬ zmbP i)
theorem zmbP1 : zmbP zmi0 := by
  unfold zmbP
  decide +kernel
theorem zmbP2 (i : Nat) : zmbP i := by
  by_cases h : zmbP i
  · exact h
  · exact absurd zmbP1 (Classical.epsilon_spec (p := fun i => ¬ zmbP i) ⟨i, h⟩)
theorem zmb1 : ((List.range 364).all fun k => (List.range 64).all fun j => zlz k || (decide (mLo k j ≤ ((zIt k).getD j 0).toInt) && decide (((zIt k).getD j 0).toInt ≤ mHi k j))) = true := by decide +kernel
theorem zmb2 : ((List.range 364).all fun k => (List.range 64).all fun j => !zlz k || (decide (mLo k j ≤ 0) && decide (0 ≤ mHi k j))) = true := by decide +kernel
theorem zmb3 : ((List.range 364).all fun k => zlz k || decide ((zIt k).length ≤ 64)) = true := by decide +kernel
theorem zIv0m : zIv mLo mHi zMe := by
  intro k j
  by_cases hk : k < 364
  · have hbig : ¬ j < 64 → mLo k j ≤ 0 ∧ 0 ≤ mHi k j := by
      intro hj
      by_cases h7 : k = 337
      · subst h7
        by_cases hj2 : j < 506
        · rw [(mA hj2).1, (mA hj2).2]
          exact aBig (by omega)
        · have e1 : mLo 337 j = -2147483648 := by
            show (if j < 506 then aLo j else _) = _
            rw [if_neg hj2]
          have e2 : mHi 337 j = 2147483647 := by
            show (if j < 506 then aHi j else _) = _
            rw [if_neg hj2]
          rw [e1, e2]
          omega
      · have h := List.all_eq_true.mp (zmbP2 (j - 64)) k (List.mem_range.mpr hk)
        have hb : Nat.beq k 337 = false := by
          cases hz : Nat.beq k 337 with
          | false => rfl
          | true => exact absurd (Nat.eq_of_beq_eq_true hz) h7
        rw [hb, Bool.false_or, Bool.and_eq_true, decide_eq_true_eq, decide_eq_true_eq, show j - 64 + 64 = j by omega] at h
        exact h
    cases hz : zlz k with
    | true =>
      rw [zlz0 hz j, z0i]
      by_cases hj : j < 64
      · have h := List.all_eq_true.mp (List.all_eq_true.mp zmb2 k (List.mem_range.mpr hk)) j (List.mem_range.mpr hj)
        rw [hz, Bool.not_true, Bool.false_or, Bool.and_eq_true, decide_eq_true_eq, decide_eq_true_eq] at h
        exact h
      · exact hbig hj
    | false =>
      have e : zI zMe k j = (zIt k).getD j 0 := by
        show cond (zlz k) _ _ = _
        rw [hz]
        rfl
      rw [e]
      by_cases hj : j < 64
      · have h := List.all_eq_true.mp (List.all_eq_true.mp zmb1 k (List.mem_range.mpr hk)) j (List.mem_range.mpr hj)
        rw [hz, Bool.false_or, Bool.and_eq_true, decide_eq_true_eq, decide_eq_true_eq] at h
        exact h
      · have hl := List.all_eq_true.mp zmb3 k (List.mem_range.mpr hk)
        rw [hz, Bool.false_or, decide_eq_true_eq] at hl
        have e0 : (zIt k).getD j 0 = 0 := by
          rw [List.getD_eq_getElem?_getD, List.getElem?_eq_none (by omega)]
          rfl
        rw [e0, z0i]
        exact hbig hj
  · rw [(mOut (by omega)).1, (mOut (by omega)).2]
    exact zrg _
theorem zf0 : zI zMe 337 0 = 0 ∧ zI zMe 337 1 = 0 ∧ zI zMe 337 4 = 0 ∧ zI zMe 338 0 = 0 ∧ zI zMe 338 1 = 0 ∧ zI zMe 336 1 = 0 ∧ zI zMe 336 3 = 0 := by decide +kernel
theorem zBo0 : zBo zMe := by
  obtain ⟨f0, f1, f4, g0, g1, d0, t0⟩ := zf0
  have z0 : (0 : Int32).toInt = 0 := by decide
  refine ⟨rfl, rfl, rfl, fun k j => zIv0 k j, zIv0m, ⟨⟨fun a b _ hb => ?_, fun x hx => ?_⟩, fun k hk q => ?_, fun d hd => ?_⟩, fun k hk => ?_, fun q => ?_⟩
  · have e : zrow zMe 0 0 = 0 := f0
    rw [e, z0] at hb
    omega
  · have e : zrow zMe 0 1 = 0 := f1
    rw [e, z0] at hx
    omega
  · exfalso
    rcases (show k = 0 ∨ k = 1 by omega) with e | e
    · rw [e, g0, z0] at q
      exact q rfl
    · rw [e, g1, z0] at q
      exact q rfl
  · rw [d0, z0] at hd
    omega
  · have e : zrow zMe 0 4 = 0 := f4
    rw [e, z0] at hk
    omega
  · rw [t0, z0] at q
    exact absurd rfl q
