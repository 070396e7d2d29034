theorem zpcN : ((List.range 13).all fun a => plainName (cR a)) = true := by decide +kernel
def zJy : List Nat := [6, 7, 20, 21, 54, 72, 73, 74, 75, 76, 77, 113, 122, 134, 136, 140, 181, 182, 183, 184]
theorem zpfJ : zJy.all (fun y => plainFor (mt y).1) = true := by decide +kernel
def zmemb (y : Nat) : List Nat → Bool
  | [] => false
  | a :: r => Nat.beq y a || zmemb y r
theorem zmemb_ok {P : Nat → Bool} {y : Nat} : ∀ L : List Nat, L.all P = true → zmemb y L = true → P y = true
  | [], _, h => by cases h
  | a :: r, h1, h2 => by
    have h2 : (Nat.beq y a || zmemb y r) = true := h2
    rw [List.all_cons, Bool.and_eq_true] at h1
    rw [Bool.or_eq_true] at h2
    rcases h2 with h2 | h2
    · rw [Nat.eq_of_beq_eq_true h2]
      exact h1.1
    · exact zmemb_ok r h1.2 h2
def zmBg (m : gMI) (j : Bool) : Bool :=
  decide (m.2.2.2.2.2.1 < 999999) && decide (lw_tbl[m.2.2.2.2.2.2.2.2.1]? = some (Cond.initialized m.1.cls)) && decide (m.1.cls ≠ "java/lang/invoke/MethodHandle" ∧ m.1.cls ≠ "java/lang/invoke/VarHandle") && decide (m.2.2.1 ≤ 45) && (decide (m.2.2.2.2.2.2.2.2.2.1 < 13) || j) &&
  (if m.2.2.2.2.2.2.2.1 = 100000 then decide (lw_tbl[m.2.2.2.2.2.2.1]? = some (Cond.static m.1)) && decide ((parseMethodDescriptor m.1.desc).map (fun d => d.parameters.length) = some m.2.2.2.2.1)
   else decide (lw_tbl[m.2.2.2.2.2.2.1]? = some (Cond.instanceMethod m.1)) && decide (1 ≤ m.2.2.2.2.1) && decide ((parseMethodDescriptor m.1.desc).map (fun d => d.parameters.length) = some (m.2.2.2.2.1 - 1)) &&
    (if m.2.2.2.2.2.2.2.1 = 100001 then decide (m.1.name = "<init>") && decide (m.2.2.2.1 = none) else decide (lw_tbl[m.2.2.2.2.2.2.2.1]? = some (Cond.selects m.1.cls m.1 m.1)))) &&
  (if m.2.2.2.2.2.2.2.2.2.1 < 13 then decide (m.1.cls = cR m.2.2.2.2.2.2.2.2.2.1) else if m.2.2.2.2.2.2.2.2.2.1 = 30 then decide (m.1.cls = "java/lang/String") else true)
theorem zmBg_ok {m : gMI} {j : Bool} (hj : j = true → plainFor m.1 = true) (h : zmBg m j = true) : zmB m = true := by
  unfold zmBg at h
  unfold zmB
  rw [Bool.and_eq_true, Bool.and_eq_true, Bool.and_eq_true, Bool.and_eq_true, Bool.and_eq_true, Bool.and_eq_true] at h ⊢
  obtain ⟨⟨⟨⟨⟨⟨h1, h2⟩, h3⟩, h4⟩, h5⟩, h6⟩, h7⟩ := h
  refine ⟨⟨⟨⟨⟨⟨h1, h2⟩, h3⟩, h4⟩, ?_⟩, h6⟩, h7⟩
  by_cases q : m.2.2.2.2.2.2.2.2.2.1 < 13
  · rw [if_pos q, decide_eq_true_eq] at h7
    refine plainFor_of_name ?_
    rw [h7]
    exact List.all_eq_true.mp zpcN _ (List.mem_range.mpr q)
  · rw [decide_eq_false q, Bool.false_or] at h5
    exact hj h5
def zmBf (y : Nat) : Bool := zmBg (mt y) (zmemb y zJy)
theorem zmBf_ok {y : Nat} (h : zmBf y = true) : zmB (mt y) = true := by
  unfold zmBf at h
  exact zmBg_ok (m := mt y) (j := zmemb y zJy) (fun j => zmemb_ok (P := fun y => plainFor (mt y).1) (y := y) zJy zpfJ j) h
theorem zmk0 : ((List.range 25).all fun i => zmBf (0 + i) && decide ((mt (0 + i)).2.2.2.2.2.1 ≠ 0)) = true := by decide +kernel
theorem zmk25 : ((List.range 25).all fun i => zmBf (25 + i) && decide ((mt (25 + i)).2.2.2.2.2.1 ≠ 0)) = true := by decide +kernel
theorem zmk50 : ((List.range 25).all fun i => zmBf (50 + i) && decide ((mt (50 + i)).2.2.2.2.2.1 ≠ 0)) = true := by decide +kernel
theorem zmk75 : ((List.range 25).all fun i => zmBf (75 + i) && decide ((mt (75 + i)).2.2.2.2.2.1 ≠ 0)) = true := by decide +kernel
theorem zmk100 : ((List.range 25).all fun i => zmBf (100 + i) && decide ((mt (100 + i)).2.2.2.2.2.1 ≠ 0)) = true := by decide +kernel
theorem zmk125 : ((List.range 25).all fun i => zmBf (125 + i) && decide ((mt (125 + i)).2.2.2.2.2.1 ≠ 0)) = true := by decide +kernel
theorem zmk150 : ((List.range 25).all fun i => zmBf (150 + i) && decide ((mt (150 + i)).2.2.2.2.2.1 ≠ 0)) = true := by decide +kernel
theorem zmk175 : ((List.range 25).all fun i => zmBf (175 + i) && decide ((mt (175 + i)).2.2.2.2.2.1 ≠ 0)) = true := by decide +kernel
theorem zmk200 : ((List.range 25).all fun i => zmBf (200 + i) && decide ((mt (200 + i)).2.2.2.2.2.1 ≠ 0)) = true := by decide +kernel
theorem zmk225 : ((List.range 25).all fun i => zmBf (225 + i) && decide ((mt (225 + i)).2.2.2.2.2.1 ≠ 0)) = true := by decide +kernel
theorem zmk250 : ((List.range 25).all fun i => zmBf (250 + i) && decide ((mt (250 + i)).2.2.2.2.2.1 ≠ 0)) = true := by decide +kernel
theorem zmk275 : ((List.range 25).all fun i => zmBf (275 + i) && decide ((mt (275 + i)).2.2.2.2.2.1 ≠ 0)) = true := by decide +kernel
theorem zmk300 : ((List.range 25).all fun i => zmBf (300 + i) && decide ((mt (300 + i)).2.2.2.2.2.1 ≠ 0)) = true := by decide +kernel
theorem zmk325 : ((List.range 25).all fun i => zmBf (325 + i) && decide ((mt (325 + i)).2.2.2.2.2.1 ≠ 0)) = true := by decide +kernel
theorem zmk : ∀ y, y < 350 → zmB (mt y) = true ∧ (mt y).2.2.2.2.2.1 ≠ 0 := by
  intro y hy
  have key : ∀ (k n : Nat), ((List.range n).all fun i => zmBf (k + i) && decide ((mt (k + i)).2.2.2.2.2.1 ≠ 0)) = true → k ≤ y → y < k + n → zmB (mt y) = true ∧ (mt y).2.2.2.2.2.1 ≠ 0 := by
    intro k n h h1 h2
    have h3 := List.all_eq_true.mp h (y - k) (List.mem_range.mpr (by omega))
    rw [show k + (y - k) = y by omega, Bool.and_eq_true, decide_eq_true_eq] at h3
    exact ⟨zmBf_ok h3.1, h3.2⟩
  by_cases h0 : y < 25
  · exact key 0 25 zmk0 (by omega) (by omega)
  by_cases h25 : y < 50
  · exact key 25 25 zmk25 (by omega) (by omega)
  by_cases h50 : y < 75
  · exact key 50 25 zmk50 (by omega) (by omega)
  by_cases h75 : y < 100
  · exact key 75 25 zmk75 (by omega) (by omega)
  by_cases h100 : y < 125
  · exact key 100 25 zmk100 (by omega) (by omega)
  by_cases h125 : y < 150
  · exact key 125 25 zmk125 (by omega) (by omega)
  by_cases h150 : y < 175
  · exact key 150 25 zmk150 (by omega) (by omega)
  by_cases h175 : y < 200
  · exact key 175 25 zmk175 (by omega) (by omega)
  by_cases h200 : y < 225
  · exact key 200 25 zmk200 (by omega) (by omega)
  by_cases h225 : y < 250
  · exact key 225 25 zmk225 (by omega) (by omega)
  by_cases h250 : y < 275
  · exact key 250 25 zmk250 (by omega) (by omega)
  by_cases h275 : y < 300
  · exact key 275 25 zmk275 (by omega) (by omega)
  by_cases h300 : y < 325
  · exact key 300 25 zmk300 (by omega) (by omega)
  by_cases h325 : y < 350
  · exact key 325 25 zmk325 (by omega) (by omega)
  omega
