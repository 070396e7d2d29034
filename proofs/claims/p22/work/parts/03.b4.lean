/-! ===== the memory as the kit's world ===== -/
theorem zr_ne {α : Type} {f : Nat → Nat → α} {k k' : Nat} {r : Nat → α} (h : k' ≠ k) : zr f k r k' = f k' := if_neg h
theorem zr_eq {α : Type} {f : Nat → Nat → α} {k : Nat} {r : Nat → α} : zr f k r k = r := if_pos rfl
theorem zad_inj {X : zX} {k k' : Nat} (h6 : 6 ≤ k) (h6' : 6 ≤ k') (h : zad X k = zad X k') : k = k' := by
  unfold zad at h
  rw [if_neg (by omega), if_neg (by omega)] at h
  omega
theorem zP1 {X : zX} {a : Nat} {e : va_E} {H : Heap} (h : va_at X.1 cls (a, e) H) : va_P X.1 cls [(a, e)] H := by
  intro k q hq
  match k, hq with
  | 0, hq => cases hq; exact h
theorem zE_congr {X : zX} {M M' : zM} {k : Nat} (hK : zK M' k = zK M k) (hI : zI M' k = zI M k) (hJ : zJ M' k = zJ M k) (hP : zP M' k = zP M k) : zE X M' k = zE X M k := by
  unfold zE zfv
  rw [hK, hI, hJ, hP]
theorem zcv_rf (X : zX) (o : Option Nat) : zcv X (va_rf o) = va_rf (o.map (zad X)) := by cases o <;> rfl
theorem zE_obj {X : zX} {M : zM} {k c : Nat} (hk : (zK M k).1 = c) (hc : c < 20) : zE X M k = .inr (c, (List.range (cN c)).map (fun j => zcv X (zfv M k (cY c j) j))) := by
  unfold zE
  rw [if_pos (by rw [hk]; exact hc), hk]
theorem zE_int {X : zX} {M : zM} {k c : Nat} (hk : (zK M k).1 = c) (h1 : 20 ≤ c) (h2 : c < 23) : zE X M k = .inl (X.2.2.1 c, (zK M k).2, .inl (zI M k)) := by
  unfold zE
  rw [if_neg (by rw [hk]; omega), if_pos (by rw [hk]; exact h2), hk]
theorem zE_long {X : zX} {M : zM} {k : Nat} (hk : (zK M k).1 = 23) : zE X M k = .inl (X.2.2.1 23, (zK M k).2, .inr (.inl (zJ M k))) := by
  unfold zE
  rw [if_neg (by rw [hk]; decide), if_neg (by rw [hk]; decide), if_pos hk]
theorem zE_ref {X : zX} {M : zM} {k c : Nat} (hk : (zK M k).1 = c) (h1 : 23 < c) : zE X M k = .inl (X.2.2.1 c, (zK M k).2, .inr (.inr (.inr (.inr (fun j => (zP M k j).map (zad X)))))) := by
  unfold zE
  rw [if_neg (by rw [hk]; omega), if_neg (by rw [hk]; omega), if_neg (by rw [hk]; omega), hk]
theorem cls_at : ∀ c, c < 13 → cls[c]? = some (cR c, cT c, cN c) := by
  intro c hc
  match c, hc with
  | 0, _ => rfl
  | 1, _ => rfl
  | 2, _ => rfl
  | 3, _ => rfl
  | 4, _ => rfl
  | 5, _ => rfl
  | 6, _ => rfl
  | 7, _ => rfl
  | 8, _ => rfl
  | 9, _ => rfl
  | 10, _ => rfl
  | 11, _ => rfl
  | 12, _ => rfl
theorem cty_ok : ∀ c, c < 13 → ∀ k, k < cN c → parseFieldDescriptor (cT c k).2.2.1 = some (cY c k) := by decide +kernel
theorem cnm_ok : ∀ c, c < 13 → ∀ a, a < cN c → ∀ b, b < cN c → a ≠ b → (cT c a).2.1 ≠ (cT c b).2.1 := by decide +kernel
/-- what is known stays, as the tables warm -/
theorem zKn.warm {X : zX} {s U : State} (hW : s.WarmedH U.vm) (h : zKn X s) : zKn X U := by
  obtain ⟨h1, h2, h3, h4, h5, h6, ⟨z1, z2, z3, z4, z5⟩, ⟨r1, r2⟩, hn, hf, ⟨o1, o2⟩, hk, hF, hsc⟩ := h
  have ha := hW.alike
  refine ⟨va_K.moved ha h1, fun k h0 hk => va_T.moved ha (h2 k h0 hk), va_T.moved ha h3, va_O.moved ha h4, va_OF.moved ha h5, va_OF.moved ha h6, ⟨va_Z.moved ha z1, va_Z.moved ha z2, va_Z.moved ha z3, va_Z.moved ha z4, va_Z.moved ha z5⟩, ⟨vk_R.warm hW r1, vk_R.warm hW r2⟩, fun w hw hz => ?_, hf, ⟨va_AO.moved ha o1, va_AO.moved ha o2⟩, hk, hF, va_T.moved ha hsc⟩
  have h0 := hn w hw hz
  cases w with
  | fieldLinkNest a i b n d h => exact va_Nw.warmF hW h0
  | methodLinkNest a i x h => exact va_Nw.warmM hW h0
  | castable a b => exact va_Nw.warmC hW h0
  | _ => cases hz
theorem zKn.same {X : zX} {u U : State} (hv : U.vm = u.vm) (h : zKn X u) : zKn X U := by
  obtain ⟨h1, h2, h3, h4, h5, h6, ⟨z1, z2, z3, z4, z5⟩, ⟨r1, r2⟩, hn, hf, ⟨o1, o2⟩, hk, hF, hsc⟩ := h
  have ha : u.vm.Alike U.vm := by rw [hv]; exact Vm.Alike.refl _
  refine ⟨va_K.moved ha h1, fun k h0 hk => va_T.moved ha (h2 k h0 hk), va_T.moved ha h3, va_O.moved ha h4, va_OF.moved ha h5, va_OF.moved ha h6, ⟨va_Z.moved ha z1, va_Z.moved ha z2, va_Z.moved ha z3, va_Z.moved ha z4, va_Z.moved ha z5⟩, ⟨vk_R.same hv r1, vk_R.same hv r2⟩, fun w hw hz => ?_, hf, ⟨va_AO.moved ha o1, va_AO.moved ha o2⟩, hk, hF, va_T.moved ha hsc⟩
  have h0 := hn w hw hz
  cases w with
  | fieldLinkNest a i b n d h => exact va_Nw.same rfl hv.symm h0
  | methodLinkNest a i x h => exact va_Nw.same rfl hv.symm h0
  | castable a b => exact va_Nw.same rfl hv.symm h0
  | _ => cases hz
theorem zlt20 {X : zX} {s : State} {M : zM} {H : Heap} {k : Nat} (hK : zKn X s) (h : zRel X M H) (hk : (zK M k).1 < 20) : 6 ≤ k ∧ k < zN M := by
  obtain ⟨-, -, -, -, -, -, -, -, -, -, -, ⟨e1, e2, e3, e4⟩, -⟩ := hK
  obtain ⟨h1, h2, h3, h4, h5, h7, h8⟩ := h
  refine ⟨?_, h8 k (by omega)⟩
  rcases Nat.lt_or_ge k 6 with q | q
  · exfalso
    rw [(h7 k q).1] at hk
    by_cases h4 : k < 4
    · by_cases h0 : k = 0
      · subst h0; rw [e4.2] at hk; omega
      · rw [e1 k (by omega) h4] at hk; omega
    · rcases (show k = 4 ∨ k = 5 by omega) with rfl | rfl
      · rw [e2] at hk; omega
      · rw [e3] at hk; exact absurd hk (by decide)
  · exact q
