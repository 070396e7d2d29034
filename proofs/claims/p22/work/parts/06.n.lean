theorem zchoose {α : Type} [Inhabited α] {P : Nat → α → Prop} {n : Nat} (h : ∀ k, k < n → ∃ a, P k a) : ∃ f : Nat → α, ∀ k, k < n → P k (f k) := by
  have h2 : ∀ k, ∃ a, k < n → P k a := fun k => by
    by_cases hk : k < n
    · obtain ⟨a, ha⟩ := h k hk
      exact ⟨a, fun _ => ha⟩
    · exact ⟨default, fun q => absurd q hk⟩
  exact ⟨fun k => Classical.choose (h2 k), fun k hk => Classical.choose_spec (h2 k) hk⟩
/-- the three static arrays, the String: what the start says of them -/
def zstT (k : Nat) : Term := .static "TrackVotes" (if k = 1 then "FIRST_SETTING" else if k = 2 then "LEAST_SETTING" else "MOST_SETTING") "[I"
theorem znar_st : ∀ k, k < 4 → 1 ≤ k → Cond.arrayOf (zstT k) .int ∈ flatC (Jvm.Cond.and given_1 narrow_1) ∧ Cond.eq (.length (zstT k)) (.int (Int32.ofNat 9)) ∈ flatC (Jvm.Cond.and given_1 narrow_1) ∧ ∀ j, j < 9 → Cond.eq (.elem (zstT k) (.int (Int32.ofNat j))) (.int (zI zM0 k j)) ∈ flatC (Jvm.Cond.and given_1 narrow_1) := by decide +kernel
theorem znar_ex : Cond.exactly (zstT 1) "[I" ∈ flatC (Jvm.Cond.and given_1 narrow_1) := by decide +kernel
theorem znar_cs : Cond.eq (.static "java/lang/String" "COMPACT_STRINGS" "Z") (.int 1) ∈ flatC (Jvm.Cond.and given_1 narrow_1) := by decide +kernel
theorem znar_fm : Cond.isRef (.static "jdk/internal/util/Preconditions" "SIOOBE_FORMATTER" "Ljava/util/function/BiFunction;") ∈ flatC (Jvm.Cond.and given_1 narrow_1) := by decide +kernel
theorem znar_s1 : Cond.exactly (.string "TrackVotes$Trigger" 9) "java/lang/String" ∈ flatC (Jvm.Cond.and given_1 narrow_1) ∧ Cond.eq (.field (.string "TrackVotes$Trigger" 9) "java/lang/String" "coder" "B") (.int 0) ∈ flatC (Jvm.Cond.and given_1 narrow_1) ∧ Cond.arrayOf (.field (.string "TrackVotes$Trigger" 9) "java/lang/String" "value" "[B") .byte ∈ flatC (Jvm.Cond.and given_1 narrow_1) ∧ Cond.eq (.length (.field (.string "TrackVotes$Trigger" 9) "java/lang/String" "value" "[B")) (.int (Int32.ofNat 8)) ∈ flatC (Jvm.Cond.and given_1 narrow_1) ∧ Cond.eq (.string "TrackVotes$Trigger" 9) (.string "TrackVotes" 324) ∈ flatC (Jvm.Cond.and given_1 narrow_1) := by decide +kernel
theorem znar_s2 : ∀ j, j < 8 → Cond.eq (.elem (.field (.string "TrackVotes$Trigger" 9) "java/lang/String" "value" "[B") (.int (Int32.ofNat j))) (.int (zI zM0 5 j)) ∈ flatC (Jvm.Cond.and given_1 narrow_1) := by decide +kernel
theorem zwf0 : zWf zM0 := by
  intro k j
  have key : ((zK zM0 k).1 = 21 ∨ (zK zM0 k).1 = 22) → k = 5 := by
    intro h
    rcases Nat.lt_or_ge k 6 with q | q
    · exact (show ∀ k, k < 6 → ((zK zM0 k).1 = 21 ∨ (zK zM0 k).1 = 22) → k = 5 by decide) k q h
    · exfalso
      have e : zK zM0 k = (99, 0) := by
        show List.getD _ k _ = _
        rw [List.getD_eq_getElem?_getD, List.getElem?_eq_none (show List.length [((98 : Nat), (0 : Nat)), (20, 9), (20, 9), (20, 9), (30, 0), (21, 8)] ≤ k from q)]
        rfl
      rw [e] at h
      rcases h with h | h <;> cases h
  refine ⟨fun h => ?_, fun h => ?_⟩
  · obtain rfl := key (Or.inl h)
    rcases Nat.lt_or_ge j 8 with hj | hj
    · exact (show ∀ j, j < 8 → fits .byte (.int (zI zM0 5 j)) = true by decide +kernel) j hj
    · rw [show zI zM0 5 j = 0 from by
        show ([110, 104, 118, 103, 109, 108, 117, 111] : List Int32).getD j 0 = 0
        rw [List.getD_eq_getElem?_getD, List.getElem?_eq_none (show List.length ([110, 104, 118, 103, 109, 108, 117, 111] : List Int32) ≤ j from hj)]
        rfl]
      rfl
  · obtain rfl := key (Or.inr h)
    cases h
set_option maxHeartbeats 4000000 in
/-- the law's start: what is fixed, what is known, the memory -/
theorem zbegin {p : Program} {s : State} {m : MethodId} {meth : Method} {c : Code} {b L : Nat} {xs : Nat → Int32} (C0 : lw_At p s m meth c b L xs) : ∃ X : zX, X.2.1 = s.heap ∧ X.2.2.2.1 0 = b ∧ X.2.2.2.2.2 = (L, xs) ∧ zKn X s ∧ zRel X zM0 s.heap := by
  obtain ⟨hx, hb, hr, hml, hown, hts, hX, hbl, hlocks, hgv⟩ := C0
  have hs := flat_of_before _ hgv
  have hA : ∀ a : Nat, a < s.heap.size → ¬ (fun q : Nat => s.heap.size ≤ q) a := fun a h q => absurd q (Nat.not_le.mpr h)
  obtain ⟨dd, hdd⟩ : ∃ f : Nat → ClassId × (Nat → Nat), ∀ k, k < 13 → u_Kn s (cR k) (cT k) (cN k) (f k).1 (f k).2 := zchoose (α := ClassId × (Nat → Nat)) (P := fun k a => u_Kn s (cR k) (cT k) (cN k) a.1 a.2) fun k hk => by
    obtain ⟨cC, iS, h⟩ := u_known (C := cR k) (T := cT k) (N := cN k) (n := cN k) hts (zWcl k hk) (hts _ (zinst k hk))
    exact ⟨(cC, iS), h⟩
  have prim : ∀ (ty : FieldType), (Cond.arrayClass ty).before #[Value.ref b] s = true → ∃ cA, ArrOfT s cA ty ∧ s.vm.findClass ("[" ++ ty.toString) = some cA := by
    intro ty h
    obtain ⟨cA, kA, comp, h1, h2, h3⟩ := Cond.arrayClass_spec h
    exact ⟨cA, fun n z => ⟨fun k h => (by cases h), kA, h2, comp, h3⟩, h1⟩
  have objA : ∀ (C : String), (Cond.arrayOver (.object C)).before #[Value.ref b] s = true → ∃ cA, ArrOfT s cA (.object C) ∧ va_RA s cA (.object C) := by
    intro C h
    obtain ⟨comp, cA, kA, h1, h2, h3, h4, h5⟩ := Cond.arrayOver_spec h
    exact ⟨cA, fun n z => ⟨fun k h => (by cases h), kA, h3, comp, h4⟩, kA, comp, h3, h4, h1, h5⟩
  obtain ⟨a0, i1, i2⟩ := prim .int (hts _ zar_int)
  obtain ⟨a1, b1, b2⟩ := prim .byte (hts _ zar_byte)
  obtain ⟨a2, z1, z2⟩ := prim .boolean (hts _ zar_boolean)
  obtain ⟨a3, j1, j2⟩ := prim .long (hts _ zar_long)
  obtain ⟨a4, s1, s2⟩ := objA "TrackVotes$State" (hts _ zao1)
  obtain ⟨a5, t1, t2⟩ := objA "TrackVotes$Track" (hts _ zao2)
  have stat : ∀ k, k < 4 → 1 ≤ k → ∃ t : Nat, (zstT k).eval #[Value.ref b] s none [] s = some (.ref t) ∧ va_T .int t 9 (fun j => .int (zI zM0 k j)) (fun q : Nat => s.heap.size ≤ q) s s.heap := by
    intro k h4 h1
    obtain ⟨g1, g2, g3⟩ := znar_st k h4 h1
    exact va_Tof (by decide) (hs _ g1) (va_eqt (hs _ g2)) (fun j hj => va_eqt (hs _ (g3 j hj))) hA
  obtain ⟨x1, e1, T1⟩ := stat 1 (by decide) (by decide)
  obtain ⟨x2, e2, T2⟩ := stat 2 (by decide) (by decide)
  obtain ⟨x3, e3, T3⟩ := stat 3 (by decide) (by decide)
  obtain ⟨q1, q2, q3, q4, q5⟩ := znar_s1
  obtain ⟨adK, adV, hSt, hSe⟩ := vk_Sof (N := 1) (tm := fun _ => .string "TrackVotes$Trigger" 9) (len := [8]) (byt := [[110, 104, 118, 103, 109, 108, 117, 111]]) (A := fun q : Nat => s.heap.size ≤ q) (args := #[Value.ref b]) (s := s) (fun i hi => by rcases (show i = 0 by omega) with rfl; decide) (fun i hi => hs _ q1) (fun i hi => hs _ q2) (fun i hi => hs _ q3) (fun i hi => by rcases (show i = 0 by omega) with rfl; exact hs _ q4) (fun i hi j hj => by rcases (show i = 0 by omega) with rfl; exact hs _ (znar_s2 j hj)) (fun i j hi hj hij => absurd (show i = j by omega) hij) hA
  have eS := hSe 0 (by decide)
  obtain ⟨S1, S2, S3, S4⟩ := hSt.1 0 (by decide)
  have hfm : ∃ fm : Value, (fm = .null ∨ ∃ a, fm = .ref a) ∧ va_Z "jdk/internal/util/Preconditions" "SIOOBE_FORMATTER" "Ljava/util/function/BiFunction;" fm (fun q : Nat => s.heap.size ≤ q) s s.heap := by
    rcases va_Zqof (hts _ zls4) (hts _ zlt4) (hs _ znar_fm) hA with h | ⟨t, h⟩
    · exact ⟨_, Or.inl rfl, h⟩
    · exact ⟨_, Or.inr ⟨t, rfl⟩, h⟩
  obtain ⟨fm, f1, f2⟩ := hfm
  have hscr : va_T .int b L (fun j => .int (xs j)) (fun q : Nat => s.heap.size ≤ q) s s.heap := by
    obtain ⟨scr, g1, g2, g3, g4, g5⟩ := hX
    exact ⟨scr, g1, g2, g3, by rw [g4]; exact Nat.le_refl _, by rw [g4], g5, hA b hbl⟩
  refine ⟨((fun k => (dd k).1, fun k => (dd k).2), s.heap, (fun t => if t = 20 then a0 else if t = 21 then a1 else if t = 22 then a2 else if t = 23 then a3 else if t = 24 then a4 else a5), (fun k => if k = 0 then b else if k = 1 then x1 else if k = 2 then x2 else if k = 3 then x3 else if k = 4 then adK 0 else adV 0), fm, L, xs), rfl, rfl, rfl, ?_, ?_⟩
  · refine ⟨⟨fun cc q hq => ?_, fun k q hq => ?_⟩, fun k h1 h4 => ?_, S4, S1, S2, S3, ⟨va_Zof (hts _ zls0) (hts _ zlt0) e1 hA, va_Zof (hts _ zls1) (hts _ zlt1) e2 hA, va_Zof (hts _ zls2) (hts _ zlt2) e3 hA, va_Zof (hts _ zls3) (hts _ zlt3) (va_eqt (hs _ znar_cs)) hA, f2⟩, ⟨vk_R.of (hts _ zsr_9) eS, vk_R.of (hts _ zsr_324) (va_eqR (hs _ q5) eS)⟩, fun w hw hz => ?_, f1, ⟨va_AO.of (hts _ zao1), va_AO.of (hts _ zao2)⟩, ⟨fun k h1 h4 => ?_, rfl, rfl, rfl, rfl⟩, ?_, hscr⟩
    · have hc : cc < 13 := (List.getElem?_eq_some_iff.mp hq).1
      cases (cls_at cc hc).symm.trans hq
      exact hdd cc hc
    · match k, hq with
      | 0, hq => cases hq; exact ⟨i1, i2⟩
      | 1, hq => cases hq; exact ⟨b1, b2⟩
      | 2, hq => cases hq; exact ⟨z1, z2⟩
      | 3, hq => cases hq; exact ⟨j1, j2⟩
      | 4, hq => cases hq; exact ⟨s1, s2⟩
      | 5, hq => cases hq; exact ⟨t1, t2⟩
    · match k, h1, h4 with
      | 1, _, _ => exact T1
      | 2, _, _ => exact T2
      | 3, _, _ => exact T3
    · have h0 := hts w hw
      cases w with
      | fieldLinkNest a i b n d h => exact va_Nw.of rfl h0
      | methodLinkNest a i x h => exact va_Nw.of rfl h0
      | castable a b => exact va_Nw.of rfl h0
      | _ => cases hz
    · match k, h1, h4 with
      | 1, _, _ => rfl
      | 2, _, _ => rfl
      | 3, _, _ => rfl
    · obtain ⟨g1, g2, g3⟩ := znar_st 1 (by decide) (by decide)
      have hl := va_eqt (hs _ g2)
      obtain ⟨t, cell, ht, hat, hv⟩ := Term.length_spec hl
      have hsz : cell.slots.size < 2147483648 := by
        simp only [Term.eval, ht, hat, Option.bind_eq_bind, Option.bind_some] at hl
        by_cases hlt : cell.slots.size < 2147483648
        · exact hlt
        · simp [hlt] at hl
      have h9 : cell.slots.size = 9 := by
        have hv2 := (Value.int.inj hv).symm
        have h3 := congrArg Int32.toInt hv2
        rw [show cell.slots.size.toInt32 = nI cell.slots.size from rfl, nI_toInt (by omega), show Int32.ofNat 9 = nI 9 from rfl, nI_toInt (by decide)] at h3
        omega
      obtain ⟨hcell, hkn, hnst, -⟩ := State.arrayAt?_spec hat
      cases e1.symm.trans ht
      obtain ⟨a', c', cell', k', u1, u2, u3, u4, u5, u6, -⟩ := Cond.exactly_spec (hs _ znar_ex)
      cases e1.symm.trans u1
      cases hcell.symm.trans u3
      obtain ⟨cell2, w1, w2, w3, w4, w5, w6, w7⟩ := T1
      cases hcell.symm.trans w1
      refine ⟨(Array.getElem?_eq_some_iff.mp hcell).1, cell, hcell, ?_, w2.1, hkn, h9, w6⟩
      have := u2.symm.trans (show s.vm.findClass "[I" = some a0 from i2)
      cases this
      exact u6
  · refine ⟨Nat.le_refl _, rfl, fun k hk hb => ?_, zwf0, fun q _ => rfl, fun k _ => ⟨rfl, rfl⟩, fun k hk => ?_⟩
    · exfalso
      have e : zK zM0 k = (99, 0) := by
        show List.getD _ k _ = _
        rw [List.getD_eq_getElem?_getD, List.getElem?_eq_none (show List.length [((98 : Nat), (0 : Nat)), (20, 9), (20, 9), (20, 9), (30, 0), (21, 8)] ≤ k from hk)]
        rfl
      rw [e] at hb
      exact absurd hb (by decide)
    · show k < 6
      rcases Nat.lt_or_ge k 6 with q | q
      · exact q
      · exfalso
        have e : zK zM0 k = (99, 0) := by
          show List.getD _ k _ = _
          rw [List.getD_eq_getElem?_getD, List.getElem?_eq_none (show List.length [((98 : Nat), (0 : Nat)), (20, 9), (20, 9), (20, 9), (30, 0), (21, 8)] ≤ k from q)]
          rfl
        rw [e] at hk
        exact absurd hk (by decide)
