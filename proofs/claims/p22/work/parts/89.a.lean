/-- calls on one half: what is told holds in a memory that agrees with the new one there; the other half stands -/
theorem zBo.callcE {X : zX} {l : Launch} {d y : Nat} {as : List Value} {M : zM} {R : Option Value → zM → Prop} (h : zBo M) (hc : zCall X l d 0 0 y as (zhide zSm M) (fun r M' => R r M' ∧ zSk zMc M' ∧ zIv cLo cHi M')) : zCall X l d 0 0 y as M (fun r M' => (∃ N : zM, R r N ∧ (∀ k, zSm k = false → zI M' k = zI N k ∧ zJ M' k = zJ N k) ∧ ∀ k, zSm k = true → zI M' k = zI M k ∧ zJ M' k = zJ M k) ∧ zBo M') := by
  refine zframe (Q := fun r M' => (R r M' ∧ zSk zMc M' ∧ zIv cLo cHi M') ∧ zN M' = zN (zhide zSm M)) zSm (fun k hk => ⟨(zSm_r hk).1, by rw [h.1]; exact (zSm_r hk).2⟩) hc.same ?_
  intro r Mr _ hq
  obtain ⟨⟨hr, hs, hI⟩, hN⟩ := hq
  have eM : ∀ {D : zW}, zsub D [(336, 363, none)] = true → zEq D M (zjoin zSm M Mr) := fun hD k j q => congrFun (zjK1 (M := M) (Mr := Mr) (zinM hD q).1).2.1 j
  have eJ : zJ (zjoin zSm M Mr) 351 = zJ M 351 := (zjK1 (M := M) (Mr := Mr) (show zSm 351 = true by decide)).2.2.1
  refine ⟨⟨Mr, hr, fun k hk => ⟨(zjK (M := M) (Mr := Mr) hk).2.1, (zjK (M := M) (Mr := Mr) hk).2.2.1⟩, fun k hk => ⟨(zjK1 (M := M) (Mr := Mr) hk).2.1, (zjK1 (M := M) (Mr := Mr) hk).2.2.1⟩⟩, hN.trans h.1, zjoK h.2.1 hs.1, zjoP h.2.2.1 hs.2, fun k j => ?_, fun k j => ?_, h.2.2.2.2.2.1.fr (eM rfl), h.2.2.2.2.2.2.1.fr (eM rfl), h.2.2.2.2.2.2.2.fr (eM rfl) eJ⟩
  · cases hz : zSm k with
    | true => rw [congrFun (zjK1 (M := M) (Mr := Mr) hz).2.1 j]; exact h.2.2.2.1 k j
    | false => rw [congrFun (zjK (M := M) (Mr := Mr) hz).2.1 j]; exact hI k j
  · cases hz : zSm k with
    | true => rw [congrFun (zjK1 (M := M) (Mr := Mr) hz).2.1 j]; exact h.2.2.2.2.1 k j
    | false =>
      rw [(mOut (zSm_f hz)).1, (mOut (zSm_f hz)).2]
      exact zrg _
theorem zBo.callmE {X : zX} {l : Launch} {d y : Nat} {as : List Value} {M : zM} {R : Option Value → zM → Prop} (h : zBo M) (hc : zCall X l d 0 0 y as (zhide zSc M) (fun r M' => R r M' ∧ zSk zMm M' ∧ zIv mLo mHi M' ∧ zPR M' ∧ zPC M' ∧ zPF M')) : zCall X l d 0 0 y as M (fun r M' => (∃ N : zM, R r N ∧ (∀ k, zSc k = false → zI M' k = zI N k ∧ zJ M' k = zJ N k) ∧ ∀ k, zSc k = true → zI M' k = zI M k ∧ zJ M' k = zJ M k) ∧ zBo M') := by
  refine zframe (Q := fun r M' => (R r M' ∧ zSk zMm M' ∧ zIv mLo mHi M' ∧ zPR M' ∧ zPC M' ∧ zPF M') ∧ zN M' = zN (zhide zSc M)) zSc (fun k hk => ⟨(zSc_r hk).1, by rw [h.1]; exact (zSc_r hk).2⟩) hc.same ?_
  intro r Mr _ hq
  obtain ⟨⟨hr, hs, hI, hR, hC, hF⟩, hN⟩ := hq
  have eM : ∀ {D : zW}, zsub D [(336, 363, none)] = true → zEq D Mr (zjoin zSc M Mr) := fun hD k j q => congrFun (zjK (M := M) (Mr := Mr) (zinM hD q).2).2.1 j
  have eJ : zJ (zjoin zSc M Mr) 351 = zJ Mr 351 := (zjK (M := M) (Mr := Mr) (show zSc 351 = false by decide)).2.2.1
  refine ⟨⟨Mr, hr, fun k hk => ⟨(zjK (M := M) (Mr := Mr) hk).2.1, (zjK (M := M) (Mr := Mr) hk).2.2.1⟩, fun k hk => ⟨(zjK1 (M := M) (Mr := Mr) hk).2.1, (zjK1 (M := M) (Mr := Mr) hk).2.2.1⟩⟩, hN.trans h.1, zjoK h.2.1 hs.1, zjoP h.2.2.1 hs.2, fun k j => ?_, fun k j => ?_, hR.fr (eM rfl), hC.fr (eM rfl), hF.fr (eM rfl) eJ⟩
  · cases hz : zSc k with
    | true => rw [congrFun (zjK1 (M := M) (Mr := Mr) hz).2.1 j]; exact h.2.2.2.1 k j
    | false =>
      rw [(cOut (zSc_f hz)).1, (cOut (zSc_f hz)).2]
      exact zrg _
  · cases hz : zSc k with
    | true => rw [congrFun (zjK1 (M := M) (Mr := Mr) hz).2.1 j]; exact h.2.2.2.2.1 k j
    | false => rw [congrFun (zjK (M := M) (Mr := Mr) hz).2.1 j]; exact hI k j
