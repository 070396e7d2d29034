theorem oc0 {X : zX} {l : Launch} {M : zM} {a b c d e : Int32} {F : Nat → Int} {H : Nat → Nat → Int} {n : Int} {K : Nat → Nat → Int} {T : Nat → Int} {L : Int} {ee : zEw} {f : Nat → Int32} {B B' : Int} (h : zBo M) (zB : B + 200000 ≤ B') (zB0 : B ≤ 1500000000) (hC : zUc M (F, H, n, K, T, L, ee) f B) (hW : zWF F) : zCall X l 1 0 0 14 [.ref 6, .int a, .int b, .int c, .int d, .int e] M (fun r M' => ((∃ s f2, (∃ v : Int32, r = some (.int v) ∧ ((v.toInt = -1 ∧ 480 < L ∧ f2 = f ∧ s = (F, H, n, K, T, L, ee)) ∨ (v.toInt = L + 20 ∧ L ≤ 480 ∧ (∀ n : Nat, L = (n : Int) → zFd5 f f2 n a b c d e) ∧ s = (F, H, n, K, T, L + 20, ee)))) ∧ zUc M' s f2 B') ∧ ∀ k, zSm k = true → zI M' k = zI M k) ∧ zBo M') := by
  obtain ⟨hC, hK⟩ := hC
  have hC : zHc (zhide zSm M) (F, H, n, K, T, L, ee) f := hC
  have hK : zKc (zhide zSm M) F B := hK
  have f1 := hW.1
  have hl : (zI (zhide zSm M) 155 1).toInt = L := hC.2.1
  have hf : zI (zhide zSm M) 156 = f := hC.2.2.1
  refine h.ccU (F14 h.skc h.ivc (fun M' v s I Fr q x => ⟨?_, s, I⟩))
  have q : (v.toInt = -1 ∧ (zI M' 155 1).toInt = (zI (zhide zSm M) 155 1).toInt ∧ 480 < (zI (zhide zSm M) 155 1).toInt) ∨ (v.toInt = (zI M' 155 1).toInt ∧ (zI M' 155 1).toInt = (zI (zhide zSm M) 155 1).toInt + 20 ∧ (zI (zhide zSm M) 155 1).toInt ≤ 480) := q
  have x : (v.toInt = -1 ∧ zI M' 156 = zI (zhide zSm M) 156) ∨ (v.toInt ≠ -1 ∧ ∀ n : Nat, (zI (zhide zSm M) 155 1).toInt = (n : Int) → zFd5 (zI (zhide zSm M) 156) (zI M' 156) n a b c d e) := x
  have hb := ib155_1 h.ivc
  rw [hl] at q x hb
  rw [hf] at x
  by_cases z : v.toInt = -1
  · exact ⟨_, _, ⟨v, rfl, Or.inl ⟨z, by omega, (by rcases x with ⟨_, x⟩ | ⟨x, _⟩; exact x; exact absurd z x), rfl⟩⟩, hC.mkT (by omega) (Fr.eq rfl), hK.fr (by omega) (Fr.eq rfl)⟩
  · exact ⟨_, _, ⟨v, rfl, Or.inr ⟨by omega, by omega, (by rcases x with ⟨x, _⟩ | ⟨_, x⟩; exact absurd x z; exact x), rfl⟩⟩, hC.mkT (by omega) (Fr.eq rfl), hK.fr (by omega) (Fr.eq rfl)⟩
theorem om0 {X : zX} {l : Launch} {M : zM} {a b c d e : Int32} {F : Nat → Int} {H : Nat → Nat → Int} {n : Int} {K : Nat → Nat → Int} {T : Nat → Int} {L : Int} {ee : zEw} {f : Nat → Int32} (h : zBo M) (hM : zUm M (F, H, n, K, T, L, ee) f) (hW : zWF F) : zCall X l 1 0 0 231 [.ref 336, .int a, .int b, .int c, .int d, .int e] M (fun r M' => ((∃ s f2, (∃ v : Int32, r = some (.int v) ∧ ((v.toInt = -1 ∧ 480 < L ∧ f2 = f ∧ s = (F, H, n, K, T, L, ee)) ∨ (v.toInt = L + 20 ∧ L ≤ 480 ∧ (∀ n : Nat, L = (n : Int) → zFd5 f f2 n a b c d e) ∧ s = (F, H, n, K, T, L + 20, ee)))) ∧ zUm M' s f2) ∧ ∀ k, zSc k = true → zI M' k = zI M k) ∧ zBo M') := by
  obtain ⟨hM, hK⟩ := hM
  have hM : zHm (zhide zSc M) (F, H, n, K, T, L, ee) f := hM
  have hK : zKnB (zhide zSc M) F := hK
  have f1 := hW.1
  have hl : (zI (zhide zSc M) 336 5).toInt = L := hM.2.1
  have hf : zI (zhide zSc M) 339 = f := hM.2.2.1
  refine h.cmU (F231 h.skm h.ivm (fun M' v s I Fr J q x => ⟨?_, s, I, h.pR.fr (Fr.eq rfl), h.pC.fr (Fr.eq rfl), h.pF.fr (Fr.eq rfl) J⟩))
  have q : (v.toInt = -1 ∧ (zI M' 336 5).toInt = (zI (zhide zSc M) 336 5).toInt ∧ 480 < (zI (zhide zSc M) 336 5).toInt) ∨ (v.toInt = (zI M' 336 5).toInt ∧ (zI M' 336 5).toInt = (zI (zhide zSc M) 336 5).toInt + 20 ∧ (zI (zhide zSc M) 336 5).toInt ≤ 480) := q
  have x : (v.toInt = -1 ∧ zI M' 339 = zI (zhide zSc M) 339) ∨ (v.toInt ≠ -1 ∧ ∀ n : Nat, (zI (zhide zSc M) 336 5).toInt = (n : Int) → zFd5 (zI (zhide zSc M) 339) (zI M' 339) n a b c d e) := x
  have hb := ib336_5 h.ivm
  rw [hl] at q x hb
  rw [hf] at x
  by_cases z : v.toInt = -1
  · exact ⟨_, _, ⟨v, rfl, Or.inl ⟨z, by omega, (by rcases x with ⟨_, x⟩ | ⟨x, _⟩; exact x; exact absurd z x), rfl⟩⟩, hM.mkT (by omega) (Fr.eq rfl), hK.fr (Fr 336 3 rfl) (Fr 336 22 rfl) (Fr.eq rfl)⟩
  · exact ⟨_, _, ⟨v, rfl, Or.inr ⟨by omega, by omega, (by rcases x with ⟨x, _⟩ | ⟨_, x⟩; exact absurd x z; exact x), rfl⟩⟩, hM.mkT (by omega) (Fr.eq rfl), hK.fr (Fr 336 3 rfl) (Fr 336 22 rfl) (Fr.eq rfl)⟩
theorem oc1 {X : zX} {l : Launch} {M : zM} {a : Int32} {F : Nat → Int} {H : Nat → Nat → Int} {n : Int} {K : Nat → Nat → Int} {T : Nat → Int} {L : Int} {e : zEw} {f : Nat → Int32} {B B' : Int} (h : zBo M) (zB : B + 200000 ≤ B') (zB0 : B ≤ 1500000000) (hC : zUc M (F, H, n, K, T, L, e) f B) (hW : zWF F) : zCall X l 2 0 0 18 [.ref 6, .int a] M (fun r M' => ((∃ s f2, (∃ v : Int32, r = some (.int v) ∧ f2 = f ∧ ((v.toInt = a.toInt ∧ 0 ≤ a.toInt ∧ a.toInt ≤ L ∧ s = (F, H, n, K, T, a.toInt, e)) ∨ (v.toInt = -1 ∧ (a.toInt < 0 ∨ L < a.toInt) ∧ s = (F, H, n, K, T, L, e)))) ∧ zUc M' s f2 B') ∧ ∀ k, zSm k = true → zI M' k = zI M k) ∧ zBo M') := by
  obtain ⟨hC, hK⟩ := hC
  have hC : zHc (zhide zSm M) (F, H, n, K, T, L, e) f := hC
  have hK : zKc (zhide zSm M) F B := hK
  have f1 := hW.1
  have hl : (zI (zhide zSm M) 155 1).toInt = L := hC.2.1
  refine h.ccU (T18_6 h.skc h.ivc (fun M' v s I Fr q _ _ => ⟨?_, s, I⟩))
  have q : (v.toInt = a.toInt ∧ 0 ≤ a.toInt ∧ a.toInt ≤ (zI (zhide zSm M) 155 1).toInt ∧ (zI M' 155 1).toInt = a.toInt) ∨ (v.toInt = -1 ∧ (a.toInt < 0 ∨ (zI (zhide zSm M) 155 1).toInt < a.toInt) ∧ (zI M' 155 1).toInt = (zI (zhide zSm M) 155 1).toInt) := q
  rw [hl] at q
  rcases q with ⟨q1, q2, q3, q4⟩ | ⟨q1, q2, q4⟩
  · exact ⟨_, _, ⟨v, rfl, rfl, Or.inl ⟨q1, q2, q3, rfl⟩⟩, hC.mkL (hC.1.fr (Fr.eq rfl)) q4 (Fr.eq rfl), hK.fr (by omega) (Fr.eq rfl)⟩
  · exact ⟨_, _, ⟨v, rfl, rfl, Or.inr ⟨q1, q2, rfl⟩⟩, hC.mkL (hC.1.fr (Fr.eq rfl)) q4 (Fr.eq rfl), hK.fr (by omega) (Fr.eq rfl)⟩
theorem om1 {X : zX} {l : Launch} {M : zM} {a : Int32} {F : Nat → Int} {H : Nat → Nat → Int} {n : Int} {K : Nat → Nat → Int} {T : Nat → Int} {L : Int} {e : zEw} {f : Nat → Int32} (h : zBo M) (hM : zUm M (F, H, n, K, T, L, e) f) (hW : zWF F) : zCall X l 1 0 0 233 [.ref 336, .int a] M (fun r M' => ((∃ s f2, (∃ v : Int32, r = some (.int v) ∧ f2 = f ∧ ((v.toInt = a.toInt ∧ 0 ≤ a.toInt ∧ a.toInt ≤ L ∧ s = (F, H, n, K, T, a.toInt, e)) ∨ (v.toInt = -1 ∧ (a.toInt < 0 ∨ L < a.toInt) ∧ s = (F, H, n, K, T, L, e)))) ∧ zUm M' s f2) ∧ ∀ k, zSc k = true → zI M' k = zI M k) ∧ zBo M') := by
  obtain ⟨hM, hK⟩ := hM
  have hM : zHm (zhide zSc M) (F, H, n, K, T, L, e) f := hM
  have hK : zKnB (zhide zSc M) F := hK
  have f1 := hW.1
  have hl : (zI (zhide zSc M) 336 5).toInt = L := hM.2.1
  refine h.cmU (T233 h.skm h.ivm h.pR h.pC h.pF (fun M' v s I Fr J r c p q => ⟨?_, s, I, r, c, p⟩))
  have q : (v.toInt = a.toInt ∧ 0 ≤ a.toInt ∧ a.toInt ≤ (zI (zhide zSc M) 336 5).toInt ∧ (zI M' 336 5).toInt = a.toInt) ∨ (v.toInt = -1 ∧ (a.toInt < 0 ∨ (zI (zhide zSc M) 336 5).toInt < a.toInt) ∧ (zI M' 336 5).toInt = (zI (zhide zSc M) 336 5).toInt) := q
  rw [hl] at q
  rcases q with ⟨q1, q2, q3, q4⟩ | ⟨q1, q2, q4⟩
  · exact ⟨_, _, ⟨v, rfl, rfl, Or.inl ⟨q1, q2, q3, rfl⟩⟩, hM.mkL (hM.1.fr (fun j => Fr 337 j rfl) (Fr 336 1 rfl) (fun j => Fr 338 j rfl)) q4 (Fr.eq rfl), hK.fr (Fr 336 3 rfl) (Fr 336 22 rfl) (Fr.eq rfl)⟩
  · exact ⟨_, _, ⟨v, rfl, rfl, Or.inr ⟨q1, q2, rfl⟩⟩, hM.mkL (hM.1.fr (fun j => Fr 337 j rfl) (Fr 336 1 rfl) (fun j => Fr 338 j rfl)) q4 (Fr.eq rfl), hK.fr (Fr 336 3 rfl) (Fr 336 22 rfl) (Fr.eq rfl)⟩
theorem oc2 {X : zX} {l : Launch} {M : zM} {F : Nat → Int} {H : Nat → Nat → Int} {n : Int} {K : Nat → Nat → Int} {T : Nat → Int} {L : Int} {e : zEw} {f : Nat → Int32} {B B' : Int} (h : zBo M) (zB : B + 200000 ≤ B') (zB0 : B ≤ 1500000000) (hC : zUc M (F, H, n, K, T, L, e) f B) (hW : zWF F) : zCall X l 7 0 0 22 [.ref 6] M (fun r M' => ((∃ s f2, (∃ v : Int32, r = some (.int v) ∧ f2 = f ∧ ((v.toInt = -1 ∧ tR (zsy f L) L (0, F, 0) none ∧ s = (F, H, n, K, T, 0, e)) ∨ (0 ≤ v.toInt ∧ ∃ F2 : Nat → Int, tR (zsy f L) L (0, F, 0) (some (F2, v.toInt)) ∧ zWF F2 ∧ s = (F2, pushH F H, nP n, K, T, 0, e)))) ∧ zUc M' s f2 B') ∧ ∀ k, zSm k = true → zI M' k = zI M k) ∧ zBo M') := by
  obtain ⟨hC, hK⟩ := hC
  have hC : zHc (zhide zSm M) (F, H, n, K, T, L, e) f := hC
  have hK : zKc (zhide zSm M) F B := hK
  have f1 := hW.1
  have hl : (zI (zhide zSm M) 155 1).toInt = L := hC.2.1
  have hf : zI (zhide zSm M) 156 = f := hC.2.2.1
  refine h.ccU (S22 h.skc h.ivc hC.1.1 hC.1.2.1 hC.1.2.2 hW hC.ta (fun M' v s I Fr ql qf x => ⟨?_, s, I⟩))
  have qf : ((zI M' 164 0).toInt = 0 ∧ (zI M' 325 0).toInt = 0) ∨ (v.toInt = -1 ∧ (zI M' 164 0).toInt = (zI (zhide zSm M) 164 0).toInt ∧ (zI M' 325 0).toInt = (zI (zhide zSm M) 325 0).toInt) := qf
  rcases x with ⟨q1, q2, qs⟩ | ⟨q1, F2, q3, q4, qs⟩
  · have q2 : tR (zsy f L) L (0, F, 0) none := q2
    exact ⟨_, _, ⟨v, rfl, rfl, Or.inl ⟨q1, q2, rfl⟩⟩, hC.mkL qs ql (Fr.eq rfl), (by rcases qf with z | z; exact hK.fl (by omega) (by omega) (Fr.eq rfl); exact hK.sm (by omega) (by omega) (Fr.eq rfl))⟩
  · have q3 : tR (zsy f L) L (0, F, 0) (some (F2, v.toInt)) := q3
    have q4 : zWF F2 := q4
    exact ⟨_, _, ⟨v, rfl, rfl, Or.inr ⟨q1, F2, q3, q4, rfl⟩⟩, hC.mkL qs ql (Fr.eq rfl), (hK.fl (by omega) (by omega) (Fr.eq rfl))⟩
theorem om2 {X : zX} {l : Launch} {M : zM} {F : Nat → Int} {H : Nat → Nat → Int} {n : Int} {K : Nat → Nat → Int} {T : Nat → Int} {L : Int} {e : zEw} {f : Nat → Int32} (h : zBo M) (hM : zUm M (F, H, n, K, T, L, e) f) (hW : zWF F) : zCall X l 6 0 0 235 [.ref 336] M (fun r M' => ((∃ s f2, (∃ v : Int32, r = some (.int v) ∧ f2 = f ∧ ((v.toInt = -1 ∧ tR (zsy f L) L (0, F, 0) none ∧ s = (F, H, n, K, T, 0, e)) ∨ (0 ≤ v.toInt ∧ ∃ F2 : Nat → Int, tR (zsy f L) L (0, F, 0) (some (F2, v.toInt)) ∧ zWF F2 ∧ s = (F2, pushH F H, nP n, K, T, 0, e)))) ∧ zUm M' s f2) ∧ ∀ k, zSc k = true → zI M' k = zI M k) ∧ zBo M') := by
  obtain ⟨hM, hK⟩ := hM
  have hM : zHm (zhide zSc M) (F, H, n, K, T, L, e) f := hM
  have hK : zKnB (zhide zSc M) F := hK
  have f1 := hW.1
  have hl : (zI (zhide zSc M) 336 5).toInt = L := hM.2.1
  have hf : zI (zhide zSc M) 339 = f := hM.2.2.1
  refine h.cmU (R235 h.skm h.ivm h.pR h.pC h.pF hM.1.1 hM.1.2.1 hM.1.2.2 hW hM.tm (fun M' v s I Fr J r cc p ql qf x => ⟨?_, s, I, r, cc, p⟩))
  have qf : (zI M' 336 3).toInt = 0 ∨ (v.toInt = -1 ∧ (zI M' 336 3).toInt = (zI (zhide zSc M) 336 3).toInt) := qf
  rcases x with ⟨q1, q2, qs⟩ | ⟨q1, F2, q3, q4, qs⟩
  · have q2 : tR (zsy f L) L (0, F, 0) none := q2
    exact ⟨_, _, ⟨v, rfl, rfl, Or.inl ⟨q1, q2, rfl⟩⟩, hM.mkL qs ql (Fr.eq rfl), (by rcases qf with z | z; exact zKnB.fl (by omega); exact hK.sm (by omega) (Fr.eq rfl))⟩
  · have q3 : tR (zsy f L) L (0, F, 0) (some (F2, v.toInt)) := q3
    have q4 : zWF F2 := q4
    exact ⟨_, _, ⟨v, rfl, rfl, Or.inr ⟨q1, F2, q3, q4, rfl⟩⟩, hM.mkL qs ql (Fr.eq rfl), (zKnB.fl (by omega))⟩
theorem oc3 {X : zX} {l : Launch} {M : zM} {F : Nat → Int} {H : Nat → Nat → Int} {n : Int} {K : Nat → Nat → Int} {T : Nat → Int} {L : Int} {e : zEw} {f : Nat → Int32} {B B' : Int} (h : zBo M) (zB : B + 200000 ≤ B') (zB0 : B ≤ 1500000000) (hC : zUc M (F, H, n, K, T, L, e) f B) (hW : zWF F) : zCall X l 99 0 0 62 [.ref 6] M (fun r M' => ((∃ s f2, (∃ v : Int32, r = some (.int v) ∧ f2 = f ∧ (∃ q : Int, zTg5 f L v.toInt q) ∧ ((v.toInt = -1 ∧ s = (F, H, n, K, T, 0, e)) ∨ (0 ≤ v.toInt ∧ s = (pTr F f L, pushH F H, nP n, K, T, 0, e)))) ∧ zUc M' s f2 B') ∧ ∀ k, zSm k = true → zI M' k = zI M k) ∧ zBo M') := by
  obtain ⟨hC, hK⟩ := hC
  have hC : zHc (zhide zSm M) (F, H, n, K, T, L, e) f := hC
  have hK : zKc (zhide zSm M) F B := hK
  have f1 := hW.1
  have hl : (zI (zhide zSm M) 155 1).toInt = L := hC.2.1
  have hf : zI (zhide zSm M) 156 = f := hC.2.2.1
  refine h.ccU (S62 h.skc h.ivc hC.1.1 hC.1.2.1 hC.1.2.2 hW (fun M' v s I Fr ql qf qx x => ⟨?_, s, I⟩))
  have qf : (zI M' 164 0).toInt = (zI (zhide zSm M) 164 0).toInt ∧ (zI M' 325 0).toInt = (zI (zhide zSm M) 325 0).toInt := qf
  have qx : zTg5 (zI (zhide zSm M) 156) (zI (zhide zSm M) 155 1).toInt v.toInt (zI M' 6 11).toInt := qx
  have x : (v.toInt = -1 ∧ zSC M' F H n K T) ∨ (0 ≤ v.toInt ∧ zSC M' (pTr F (zI (zhide zSm M) 156) (zI (zhide zSm M) 155 1).toInt) (pushH F H) (nP n) K T) := x
  rw [hl, hf] at qx
  rw [hl, hf] at x
  rcases x with ⟨q1, q2⟩ | ⟨q1, q2⟩
  · exact ⟨_, _, ⟨v, rfl, rfl, ⟨_, qx⟩, Or.inl ⟨q1, rfl⟩⟩, hC.mkL q2 ql (Fr.eq rfl), (hK.sm (by omega) (by omega) (Fr.eq rfl))⟩
  · exact ⟨_, _, ⟨v, rfl, rfl, ⟨_, qx⟩, Or.inr ⟨q1, rfl⟩⟩, hC.mkL q2 ql (Fr.eq rfl), (hK.sm (by omega) (by omega) (Fr.eq rfl)).ag hW (fun j hj => pTr.o (by omega))⟩
theorem om3 {X : zX} {l : Launch} {M : zM} {F : Nat → Int} {H : Nat → Nat → Int} {n : Int} {K : Nat → Nat → Int} {T : Nat → Int} {L : Int} {e : zEw} {f : Nat → Int32} (h : zBo M) (hM : zUm M (F, H, n, K, T, L, e) f) (hW : zWF F) : zCall X l 7 0 0 254 [.ref 336] M (fun r M' => ((∃ s f2, (∃ v : Int32, r = some (.int v) ∧ f2 = f ∧ (∃ q : Int, zTg5 f L v.toInt q) ∧ ((v.toInt = -1 ∧ s = (F, H, n, K, T, 0, e)) ∨ (0 ≤ v.toInt ∧ s = (F, pushH F H, nP n, K, T, 0, e)))) ∧ zUm M' s f2) ∧ ∀ k, zSc k = true → zI M' k = zI M k) ∧ zBo M') := by
  obtain ⟨hM, hK⟩ := hM
  have hM : zHm (zhide zSc M) (F, H, n, K, T, L, e) f := hM
  have hK : zKnB (zhide zSc M) F := hK
  have f1 := hW.1
  have hl : (zI (zhide zSc M) 336 5).toInt = L := hM.2.1
  have hf : zI (zhide zSc M) 339 = f := hM.2.2.1
  refine h.cmU (R254 h.skm h.ivm h.pR h.pC h.pF hM.1.1 hM.1.2.1 hM.1.2.2 hW (fun M' v s I Fr J r cc p ql qf qx x => ⟨?_, s, I, r, cc, p⟩))
  have qf : (zI M' 336 3).toInt = 0 ∨ (zI M' 336 3).toInt = (zI (zhide zSc M) 336 3).toInt := qf
  have qx : zTg5 (zI (zhide zSc M) 339) (zI (zhide zSc M) 336 5).toInt v.toInt (zI M' 336 7).toInt := qx
  have x : (v.toInt = -1 ∧ zSM M' F H n K T) ∨ (0 ≤ v.toInt ∧ zSM M' F (pushH F H) (nP n) K T) := x
  rw [hl, hf] at qx
  rcases x with ⟨q1, q2⟩ | ⟨q1, q2⟩
  · exact ⟨_, _, ⟨v, rfl, rfl, ⟨_, qx⟩, Or.inl ⟨q1, rfl⟩⟩, hM.mkL q2 ql (Fr.eq rfl), (by rcases qf with z | z; exact zKnB.fl (by omega); exact hK.sm (by omega) (Fr.eq rfl))⟩
  · exact ⟨_, _, ⟨v, rfl, rfl, ⟨_, qx⟩, Or.inr ⟨q1, rfl⟩⟩, hM.mkL q2 ql (Fr.eq rfl), (by rcases qf with z | z; exact zKnB.fl (by omega); exact hK.sm (by omega) (Fr.eq rfl))⟩
theorem oc4 {X : zX} {l : Launch} {M : zM} {F : Nat → Int} {H : Nat → Nat → Int} {n : Int} {K : Nat → Nat → Int} {T : Nat → Int} {L : Int} {e : zEw} {f : Nat → Int32} {B B' : Int} (h : zBo M) (zB : B + 200000 ≤ B') (zB0 : B ≤ 1500000000) (hC : zUc M (F, H, n, K, T, L, e) f B) (hW : zWF F) : zCall X l 6 0 0 82 [.ref 6] M (fun r M' => ((∃ s f2, (∃ v : Int32, r = some (.int v) ∧ f2 = f ∧ ((v.toInt = -1 ∧ gR (aSt (zsy f L) L) (0, 0, aZ) none ∧ s = (F, H, n, K, T, 0, e)) ∨ (0 ≤ v.toInt ∧ ∃ (k : Nat) (A : Nat → aT) (F2 : Nat → Int) (H2 : Nat → Nat → Int) (n2 e2 : Int), gR (aSt (zsy f L) L) (0, 0, aZ) (some (k, A)) ∧ gR (dSt A k) (0, F, H, n) (v.toInt, e2, F2, H2, n2) ∧ s = (F2, H2, n2, K, T, 0, (e2, e.2))))) ∧ zUc M' s f2 B') ∧ ∀ k, zSm k = true → zI M' k = zI M k) ∧ zBo M') := by
  obtain ⟨hC, hK⟩ := hC
  have hC : zHc (zhide zSm M) (F, H, n, K, T, L, e) f := hC
  have hK : zKc (zhide zSm M) F B := hK
  have f1 := hW.1
  have hl : (zI (zhide zSm M) 155 1).toInt = L := hC.2.1
  have hf : zI (zhide zSm M) 156 = f := hC.2.2.1
  refine h.ccU (S82 h.skc h.ivc hC.1.1 hC.1.2.1 hC.1.2.2 hW hC.ta (fun M' v s I Fr ql qf x => ⟨?_, s, I⟩))
  have qf : ((zI M' 164 0).toInt = 0 ∧ (zI M' 325 0).toInt = 0) ∨ (v.toInt ≤ 0 ∧ (zI M' 164 0).toInt = (zI (zhide zSm M) 164 0).toInt ∧ (zI M' 325 0).toInt = (zI (zhide zSm M) 325 0).toInt) := qf
  have hen : (zI (zhide zSm M) 6 12).toInt = e.1 := hC.2.2.2.1
  rcases x with ⟨q1, q2, q3, q4⟩ | ⟨q1, k, A, F2, H2, n2, q2, q3, q4, q5⟩
  · exact ⟨_, _, ⟨v, rfl, rfl, Or.inl ⟨q1, q2, rfl⟩⟩, hC.mkE q3 ql (q4.trans hen) (Fr.eq rfl), (by rcases qf with z | z; exact hK.fl (by omega) (by omega) (Fr.eq rfl); exact hK.sm (by omega) (by omega) (Fr.eq rfl))⟩
  · exact ⟨_, _, ⟨v, rfl, rfl, Or.inr ⟨q1, k, A, F2, H2, n2, _, q2, q3, rfl⟩⟩, hC.mkE q5 ql rfl (Fr.eq rfl), (by rcases qf with z | z; exact hK.fl (by omega) (by omega) (Fr.eq rfl); obtain ⟨m, hm⟩ := q3; rw [(dSt.nil m hm).2 (by omega)]; exact hK.sm (by omega) (by omega) (Fr.eq rfl))⟩
theorem om4 {X : zX} {l : Launch} {M : zM} {F : Nat → Int} {H : Nat → Nat → Int} {n : Int} {K : Nat → Nat → Int} {T : Nat → Int} {L : Int} {e : zEw} {f : Nat → Int32} (h : zBo M) (hM : zUm M (F, H, n, K, T, L, e) f) (hW : zWF F) : zCall X l 5 0 0 342 [.ref 336] M (fun r M' => ((∃ s f2, (∃ v : Int32, r = some (.int v) ∧ f2 = f ∧ ((v.toInt = -1 ∧ gR (aSt (zsy f L) L) (0, 0, aZ) none ∧ s = (F, H, n, K, T, 0, e)) ∨ (0 ≤ v.toInt ∧ ∃ (k : Nat) (A : Nat → aT) (F2 : Nat → Int) (H2 : Nat → Nat → Int) (n2 e2 : Int), gR (aSt (zsy f L) L) (0, 0, aZ) (some (k, A)) ∧ gR (dSt A k) (0, F, H, n) (v.toInt, e2, F2, H2, n2) ∧ s = (F2, H2, n2, K, T, 0, (e2, e.2))))) ∧ zUm M' s f2) ∧ ∀ k, zSc k = true → zI M' k = zI M k) ∧ zBo M') := by
  obtain ⟨hM, hK⟩ := hM
  have hM : zHm (zhide zSc M) (F, H, n, K, T, L, e) f := hM
  have hK : zKnB (zhide zSc M) F := hK
  have f1 := hW.1
  have hl : (zI (zhide zSc M) 336 5).toInt = L := hM.2.1
  have hf : zI (zhide zSc M) 339 = f := hM.2.2.1
  refine h.cmU (R342 h.skm h.ivm h.pR h.pC h.pF hM.1.1 hM.1.2.1 hM.1.2.2 hW hM.tm (fun M' v s I Fr J r cc p ql qf x => ⟨?_, s, I, r, cc, p⟩))
  have qf : (zI M' 336 3).toInt = 0 ∨ (v.toInt ≤ 0 ∧ (zI M' 336 3).toInt = (zI (zhide zSc M) 336 3).toInt) := qf
  have hen : (zI (zhide zSc M) 336 48).toInt = e.1 := hM.2.2.2.1
  rcases x with ⟨q1, q2, q3, q4⟩ | ⟨q1, k, A, F2, H2, n2, q2, q3, q4, q5⟩
  · exact ⟨_, _, ⟨v, rfl, rfl, Or.inl ⟨q1, q2, rfl⟩⟩, hM.mkE q3 ql (q4.trans hen) (Fr.eq rfl), (by rcases qf with z | z; exact zKnB.fl (by omega); exact hK.sm (by omega) (Fr.eq rfl))⟩
  · exact ⟨_, _, ⟨v, rfl, rfl, Or.inr ⟨q1, k, A, F2, H2, n2, _, q2, q3, rfl⟩⟩, hM.mkE q5 ql rfl (Fr.eq rfl), (by rcases qf with z | z; exact zKnB.fl (by omega); obtain ⟨m, hm⟩ := q3; rw [(dSt.nil m hm).2 (by omega)]; exact hK.sm (by omega) (Fr.eq rfl))⟩
theorem oc5 {X : zX} {l : Launch} {M : zM} {F : Nat → Int} {H : Nat → Nat → Int} {n : Int} {K : Nat → Nat → Int} {T : Nat → Int} {L : Int} {e : zEw} {f : Nat → Int32} {B B' : Int} (h : zBo M) (zB : B + 200000 ≤ B') (zB0 : B ≤ 1500000000) (hC : zUc M (F, H, n, K, T, L, e) f B) (hW : zWF F) : zCall X l 0 0 0 97 [.ref 6] M (fun r M' => ((∃ s f2, (∃ v : Int32, r = some (.int v) ∧ f2 = f ∧ s = (F, H, n, K, T, L, e)) ∧ zUc M' s f2 B') ∧ ∀ k, zSm k = true → zI M' k = zI M k) ∧ zBo M') := by
  obtain ⟨hC, hK⟩ := hC
  have hC : zHc (zhide zSm M) (F, H, n, K, T, L, e) f := hC
  have hK : zKc (zhide zSm M) F B := hK
  have f1 := hW.1
  exact h.ccU (O97 h.skc h.ivc hC.1.1 hW (fun v _ => ⟨⟨_, _, ⟨v, rfl, rfl, rfl⟩, hC, hK.fr (by omega) (fun _ _ _ => rfl)⟩, h.skc, h.ivc⟩))
theorem om5 {X : zX} {l : Launch} {M : zM} {F : Nat → Int} {H : Nat → Nat → Int} {n : Int} {K : Nat → Nat → Int} {T : Nat → Int} {L : Int} {e : zEw} {f : Nat → Int32} (h : zBo M) (hM : zUm M (F, H, n, K, T, L, e) f) (hW : zWF F) : zCall X l 0 0 0 234 [.ref 336] M (fun r M' => ((∃ s f2, (∃ v : Int32, r = some (.int v) ∧ f2 = f ∧ s = (F, H, n, K, T, L, e)) ∧ zUm M' s f2) ∧ ∀ k, zSc k = true → zI M' k = zI M k) ∧ zBo M') := by
  obtain ⟨hM, hK⟩ := hM
  have hM : zHm (zhide zSc M) (F, H, n, K, T, L, e) f := hM
  have hK : zKnB (zhide zSc M) F := hK
  have f1 := hW.1
  exact h.cmU (O234 h.skm h.ivm hM.1.1 hW (fun v _ => ⟨⟨_, _, ⟨v, rfl, rfl, rfl⟩, hM, hK⟩, h.skm, h.ivm, h.pR, h.pC, h.pF⟩))
theorem oc6 {X : zX} {l : Launch} {M : zM} {F : Nat → Int} {H : Nat → Nat → Int} {n : Int} {K : Nat → Nat → Int} {T : Nat → Int} {L : Int} {e : zEw} {f : Nat → Int32} {B B' : Int} (h : zBo M) (zB : B + 200000 ≤ B') (zB0 : B ≤ 1500000000) (hC : zUc M (F, H, n, K, T, L, e) f B) (hW : zWF F) : zCall X l 0 0 0 98 [.ref 6] M (fun r M' => ((∃ s f2, (∃ v : Int32, r = some (.int v) ∧ f2 = f ∧ s = (F, H, n, K, T, L, e)) ∧ zUc M' s f2 B') ∧ ∀ k, zSm k = true → zI M' k = zI M k) ∧ zBo M') := by
  obtain ⟨hC, hK⟩ := hC
  have hC : zHc (zhide zSm M) (F, H, n, K, T, L, e) f := hC
  have hK : zKc (zhide zSm M) F B := hK
  have f1 := hW.1
  exact h.ccU (O98 h.skc h.ivc hC.1.1 hW (fun v _ => ⟨⟨_, _, ⟨v, rfl, rfl, rfl⟩, hC, hK.fr (by omega) (fun _ _ _ => rfl)⟩, h.skc, h.ivc⟩))
theorem om6 {X : zX} {l : Launch} {M : zM} {F : Nat → Int} {H : Nat → Nat → Int} {n : Int} {K : Nat → Nat → Int} {T : Nat → Int} {L : Int} {e : zEw} {f : Nat → Int32} (h : zBo M) (hM : zUm M (F, H, n, K, T, L, e) f) (hW : zWF F) : zCall X l 0 0 0 345 [.ref 336] M (fun r M' => ((∃ s f2, (∃ v : Int32, r = some (.int v) ∧ f2 = f ∧ s = (F, H, n, K, T, L, e)) ∧ zUm M' s f2) ∧ ∀ k, zSc k = true → zI M' k = zI M k) ∧ zBo M') := by
  obtain ⟨hM, hK⟩ := hM
  have hM : zHm (zhide zSc M) (F, H, n, K, T, L, e) f := hM
  have hK : zKnB (zhide zSc M) F := hK
  have f1 := hW.1
  exact h.cmU (O345 h.skm h.ivm hM.1.1 hW (fun v _ => ⟨⟨_, _, ⟨v, rfl, rfl, rfl⟩, hM, hK⟩, h.skm, h.ivm, h.pR, h.pC, h.pF⟩))
theorem oc7 {X : zX} {l : Launch} {M : zM} {a : Int32} {F : Nat → Int} {H : Nat → Nat → Int} {n : Int} {K : Nat → Nat → Int} {T : Nat → Int} {L : Int} {e : zEw} {f : Nat → Int32} {B B' : Int} (h : zBo M) (zB : B + 200000 ≤ B') (zB0 : B ≤ 1500000000) (hC : zUc M (F, H, n, K, T, L, e) f B) (hW : zWF F) : zCall X l 3 0 0 99 [.ref 6, .int a] M (fun r M' => ((∃ s f2, (∃ v : Int32, r = some (.int v) ∧ f2 = f ∧ s = (F, H, n, K, T, L, e)) ∧ zUc M' s f2 B') ∧ ∀ k, zSm k = true → zI M' k = zI M k) ∧ zBo M') := by
  obtain ⟨hC, hK⟩ := hC
  have hC : zHc (zhide zSm M) (F, H, n, K, T, L, e) f := hC
  have hK : zKc (zhide zSm M) F B := hK
  have f1 := hW.1
  exact h.ccU (O99 h.skc h.ivc hC.1.1 hW hC.1.2.1.1 (fun v _ => ⟨⟨_, _, ⟨v, rfl, rfl, rfl⟩, hC, hK.fr (by omega) (fun _ _ _ => rfl)⟩, h.skc, h.ivc⟩))
theorem om7 {X : zX} {l : Launch} {M : zM} {a : Int32} {F : Nat → Int} {H : Nat → Nat → Int} {n : Int} {K : Nat → Nat → Int} {T : Nat → Int} {L : Int} {e : zEw} {f : Nat → Int32} (h : zBo M) (hM : zUm M (F, H, n, K, T, L, e) f) (hW : zWF F) : zCall X l 3 0 0 304 [.ref 336, .int a] M (fun r M' => ((∃ s f2, (∃ v : Int32, r = some (.int v) ∧ f2 = f ∧ s = (F, H, n, K, T, L, e)) ∧ zUm M' s f2) ∧ ∀ k, zSc k = true → zI M' k = zI M k) ∧ zBo M') := by
  obtain ⟨hM, hK⟩ := hM
  have hM : zHm (zhide zSc M) (F, H, n, K, T, L, e) f := hM
  have hK : zKnB (zhide zSc M) F := hK
  have f1 := hW.1
  exact h.cmU (O304 h.skm h.ivm hM.1.1 hW hM.1.2.1.1 (fun v _ => ⟨⟨_, _, ⟨v, rfl, rfl, rfl⟩, hM, hK⟩, h.skm, h.ivm, h.pR, h.pC, h.pF⟩))
theorem oc8 {X : zX} {l : Launch} {M : zM} {a b : Int32} {F : Nat → Int} {H : Nat → Nat → Int} {n : Int} {K : Nat → Nat → Int} {T : Nat → Int} {L : Int} {e : zEw} {f : Nat → Int32} {B B' : Int} (h : zBo M) (zB : B + 200000 ≤ B') (zB0 : B ≤ 1500000000) (hC : zUc M (F, H, n, K, T, L, e) f B) (hW : zWF F) : zCall X l 3 0 0 102 [.ref 6, .int a, .int b] M (fun r M' => ((∃ s f2, (∃ v : Int32, r = some (.int v) ∧ f2 = f ∧ s = (F, H, n, K, T, L, e)) ∧ zUc M' s f2 B') ∧ ∀ k, zSm k = true → zI M' k = zI M k) ∧ zBo M') := by
  obtain ⟨hC, hK⟩ := hC
  have hC : zHc (zhide zSm M) (F, H, n, K, T, L, e) f := hC
  have hK : zKc (zhide zSm M) F B := hK
  have f1 := hW.1
  exact h.ccU (O102 h.skc h.ivc hC.1.1 hW (fun v _ => ⟨⟨_, _, ⟨v, rfl, rfl, rfl⟩, hC, hK.fr (by omega) (fun _ _ _ => rfl)⟩, h.skc, h.ivc⟩))
theorem om8 {X : zX} {l : Launch} {M : zM} {a b : Int32} {F : Nat → Int} {H : Nat → Nat → Int} {n : Int} {K : Nat → Nat → Int} {T : Nat → Int} {L : Int} {e : zEw} {f : Nat → Int32} (h : zBo M) (hM : zUm M (F, H, n, K, T, L, e) f) (hW : zWF F) : zCall X l 3 0 0 305 [.ref 336, .int a, .int b] M (fun r M' => ((∃ s f2, (∃ v : Int32, r = some (.int v) ∧ f2 = f ∧ s = (F, H, n, K, T, L, e)) ∧ zUm M' s f2) ∧ ∀ k, zSc k = true → zI M' k = zI M k) ∧ zBo M') := by
  obtain ⟨hM, hK⟩ := hM
  have hM : zHm (zhide zSc M) (F, H, n, K, T, L, e) f := hM
  have hK : zKnB (zhide zSc M) F := hK
  have f1 := hW.1
  exact h.cmU (O305 h.skm h.ivm hM.1.1 hW (fun v _ => ⟨⟨_, _, ⟨v, rfl, rfl, rfl⟩, hM, hK⟩, h.skm, h.ivm, h.pR, h.pC, h.pF⟩))
theorem oc9 {X : zX} {l : Launch} {M : zM} {a b : Int32} {F : Nat → Int} {H : Nat → Nat → Int} {n : Int} {K : Nat → Nat → Int} {T : Nat → Int} {L : Int} {e : zEw} {f : Nat → Int32} {B B' : Int} (h : zBo M) (zB : B + 200000 ≤ B') (zB0 : B ≤ 1500000000) (hC : zUc M (F, H, n, K, T, L, e) f B) (hW : zWF F) : zCall X l 6 0 0 104 [.ref 6, .int a, .int b] M (fun r M' => ((∃ s f2, (∃ v : Int32, r = some (.int v) ∧ f2 = f ∧ s = (F, H, n, K, T, L, e)) ∧ zUc M' s f2 B') ∧ ∀ k, zSm k = true → zI M' k = zI M k) ∧ zBo M') := by
  obtain ⟨hC, hK⟩ := hC
  have hC : zHc (zhide zSm M) (F, H, n, K, T, L, e) f := hC
  have hK : zKc (zhide zSm M) F B := hK
  have f1 := hW.1
  have hk4 := hK.2.2.2
  exact h.ccU (P104 h.skc h.ivc (by omega) (by omega) (by omega) (by omega) hC.1.1 hW hK.1 hK.2.1 hK.2.2.1 (fun M' v s I Fr p0 p1 p2 p3 k1 k2 k3 => ⟨⟨_, _, ⟨v, rfl, rfl, rfl⟩, hC.fr (Fr.eq rfl), hK.lk (by omega) k1 k2 k3 (by omega) (by omega) (by omega) (by omega)⟩, s, I⟩))
theorem om9 {X : zX} {l : Launch} {M : zM} {a b : Int32} {F : Nat → Int} {H : Nat → Nat → Int} {n : Int} {K : Nat → Nat → Int} {T : Nat → Int} {L : Int} {e : zEw} {f : Nat → Int32} (h : zBo M) (hM : zUm M (F, H, n, K, T, L, e) f) (hW : zWF F) : zCall X l 7 0 0 307 [.ref 336, .int a, .int b] M (fun r M' => ((∃ s f2, (∃ v : Int32, r = some (.int v) ∧ f2 = f ∧ s = (F, H, n, K, T, L, e)) ∧ zUm M' s f2) ∧ ∀ k, zSc k = true → zI M' k = zI M k) ∧ zBo M') := by
  obtain ⟨hM, hK⟩ := hM
  have hM : zHm (zhide zSc M) (F, H, n, K, T, L, e) f := hM
  have hK : zKnB (zhide zSc M) F := hK
  have f1 := hW.1
  exact h.cmU (Q307 h.skm h.ivm h.pR h.pC h.pF hM.1.1 hW hK (fun M' v s I Fr r c p k1 => ⟨⟨_, _, ⟨v, rfl, rfl, rfl⟩, hM.fr (Fr.eq rfl), k1⟩, s, I, r, c, p⟩))
theorem oc10 {X : zX} {l : Launch} {M : zM} {a b : Int32} {F : Nat → Int} {H : Nat → Nat → Int} {n : Int} {K : Nat → Nat → Int} {T : Nat → Int} {L : Int} {e : zEw} {f : Nat → Int32} {B B' : Int} (h : zBo M) (zB : B + 200000 ≤ B') (zB0 : B ≤ 1500000000) (hC : zUc M (F, H, n, K, T, L, e) f B) (hW : zWF F) : zCall X l 6 0 0 143 [.ref 6, .int a, .int b] M (fun r M' => ((∃ s f2, (∃ v : Int32, r = some (.int v) ∧ f2 = f ∧ s = (F, H, n, K, T, L, e)) ∧ zUc M' s f2 B') ∧ ∀ k, zSm k = true → zI M' k = zI M k) ∧ zBo M') := by
  obtain ⟨hC, hK⟩ := hC
  have hC : zHc (zhide zSm M) (F, H, n, K, T, L, e) f := hC
  have hK : zKc (zhide zSm M) F B := hK
  have f1 := hW.1
  have hk4 := hK.2.2.2
  exact h.ccU (P143 h.skc h.ivc (by omega) (by omega) (by omega) (by omega) hC.1.1 hW hK.1 hK.2.1 hK.2.2.1 (fun M' v s I Fr p0 p1 p2 p3 k1 k2 k3 => ⟨⟨_, _, ⟨v, rfl, rfl, rfl⟩, hC.fr (Fr.eq rfl), hK.lk (by omega) k1 k2 k3 (by omega) (by omega) (by omega) (by omega)⟩, s, I⟩))
theorem om10 {X : zX} {l : Launch} {M : zM} {a b : Int32} {F : Nat → Int} {H : Nat → Nat → Int} {n : Int} {K : Nat → Nat → Int} {T : Nat → Int} {L : Int} {e : zEw} {f : Nat → Int32} (h : zBo M) (hM : zUm M (F, H, n, K, T, L, e) f) (hW : zWF F) : zCall X l 7 0 0 309 [.ref 336, .int a, .int b] M (fun r M' => ((∃ s f2, (∃ v : Int32, r = some (.int v) ∧ f2 = f ∧ s = (F, H, n, K, T, L, e)) ∧ zUm M' s f2) ∧ ∀ k, zSc k = true → zI M' k = zI M k) ∧ zBo M') := by
  obtain ⟨hM, hK⟩ := hM
  have hM : zHm (zhide zSc M) (F, H, n, K, T, L, e) f := hM
  have hK : zKnB (zhide zSc M) F := hK
  have f1 := hW.1
  exact h.cmU (Q309 h.skm h.ivm h.pR h.pC h.pF hM.1.1 hW hK (fun M' v s I Fr r c p k1 => ⟨⟨_, _, ⟨v, rfl, rfl, rfl⟩, hM.fr (Fr.eq rfl), k1⟩, s, I, r, c, p⟩))
theorem oc11 {X : zX} {l : Launch} {M : zM} {a b c : Int32} {F : Nat → Int} {H : Nat → Nat → Int} {n : Int} {K : Nat → Nat → Int} {T : Nat → Int} {L : Int} {e : zEw} {f : Nat → Int32} {B B' : Int} (h : zBo M) (zB : B + 200000 ≤ B') (zB0 : B ≤ 1500000000) (hC : zUc M (F, H, n, K, T, L, e) f B) (hW : zWF F) : zCall X l 2 0 0 147 [.ref 6, .int a, .int b, .int c] M (fun r M' => ((∃ s f2, (∃ v : Int32, r = some (.int v) ∧ f2 = f ∧ s = (F, H, n, K, T, L, e)) ∧ zUc M' s f2 B') ∧ ∀ k, zSm k = true → zI M' k = zI M k) ∧ zBo M') := by
  obtain ⟨hC, hK⟩ := hC
  have hC : zHc (zhide zSm M) (F, H, n, K, T, L, e) f := hC
  have hK : zKc (zhide zSm M) F B := hK
  have f1 := hW.1
  exact h.ccU (O147 h.skc h.ivc hC.1.1 hW (fun v _ => ⟨⟨_, _, ⟨v, rfl, rfl, rfl⟩, hC, hK.fr (by omega) (fun _ _ _ => rfl)⟩, h.skc, h.ivc⟩))
theorem om11 {X : zX} {l : Launch} {M : zM} {a b c : Int32} {F : Nat → Int} {H : Nat → Nat → Int} {n : Int} {K : Nat → Nat → Int} {T : Nat → Int} {L : Int} {e : zEw} {f : Nat → Int32} (h : zBo M) (hM : zUm M (F, H, n, K, T, L, e) f) (hW : zWF F) : zCall X l 3 0 0 314 [.ref 336, .int a, .int b, .int c] M (fun r M' => ((∃ s f2, (∃ v : Int32, r = some (.int v) ∧ f2 = f ∧ s = (F, H, n, K, T, L, e)) ∧ zUm M' s f2) ∧ ∀ k, zSc k = true → zI M' k = zI M k) ∧ zBo M') := by
  obtain ⟨hM, hK⟩ := hM
  have hM : zHm (zhide zSc M) (F, H, n, K, T, L, e) f := hM
  have hK : zKnB (zhide zSc M) F := hK
  have f1 := hW.1
  exact h.cmU (O314 h.skm h.ivm hM.1.1 hW (fun v _ => ⟨⟨_, _, ⟨v, rfl, rfl, rfl⟩, hM, hK⟩, h.skm, h.ivm, h.pR, h.pC, h.pF⟩))
theorem oc12 {X : zX} {l : Launch} {M : zM} {a b c : Int32} {F : Nat → Int} {H : Nat → Nat → Int} {n : Int} {K : Nat → Nat → Int} {T : Nat → Int} {L : Int} {e : zEw} {f : Nat → Int32} {B B' : Int} (h : zBo M) (zB : B + 200000 ≤ B') (zB0 : B ≤ 1500000000) (hC : zUc M (F, H, n, K, T, L, e) f B) (hW : zWF F) : zCall X l 3 0 0 148 [.ref 6, .int a, .int b, .int c] M (fun r M' => ((∃ s f2, (∃ v : Int32, r = some (.int v) ∧ f2 = f ∧ s = (F, H, n, K, T, L, e)) ∧ zUc M' s f2 B') ∧ ∀ k, zSm k = true → zI M' k = zI M k) ∧ zBo M') := by
  obtain ⟨hC, hK⟩ := hC
  have hC : zHc (zhide zSm M) (F, H, n, K, T, L, e) f := hC
  have hK : zKc (zhide zSm M) F B := hK
  have f1 := hW.1
  exact h.ccU (O148 h.skc h.ivc hC.1.1 hW (fun v _ => ⟨⟨_, _, ⟨v, rfl, rfl, rfl⟩, hC, hK.fr (by omega) (fun _ _ _ => rfl)⟩, h.skc, h.ivc⟩))
theorem om12 {X : zX} {l : Launch} {M : zM} {a b c : Int32} {F : Nat → Int} {H : Nat → Nat → Int} {n : Int} {K : Nat → Nat → Int} {T : Nat → Int} {L : Int} {e : zEw} {f : Nat → Int32} (h : zBo M) (hM : zUm M (F, H, n, K, T, L, e) f) (hW : zWF F) : zCall X l 3 0 0 315 [.ref 336, .int a, .int b, .int c] M (fun r M' => ((∃ s f2, (∃ v : Int32, r = some (.int v) ∧ f2 = f ∧ s = (F, H, n, K, T, L, e)) ∧ zUm M' s f2) ∧ ∀ k, zSc k = true → zI M' k = zI M k) ∧ zBo M') := by
  obtain ⟨hM, hK⟩ := hM
  have hM : zHm (zhide zSc M) (F, H, n, K, T, L, e) f := hM
  have hK : zKnB (zhide zSc M) F := hK
  have f1 := hW.1
  exact h.cmU (O315 h.skm h.ivm hM.1.1 hW (fun v _ => ⟨⟨_, _, ⟨v, rfl, rfl, rfl⟩, hM, hK⟩, h.skm, h.ivm, h.pR, h.pC, h.pF⟩))
theorem oc13 {X : zX} {l : Launch} {M : zM} {a : Int32} {F : Nat → Int} {H : Nat → Nat → Int} {n : Int} {K : Nat → Nat → Int} {T : Nat → Int} {L : Int} {e : zEw} {f : Nat → Int32} {B B' : Int} (h : zBo M) (zB : B + 200000 ≤ B') (zB0 : B ≤ 1500000000) (hC : zUc M (F, H, n, K, T, L, e) f B) (hW : zWF F) : zCall X l 7 0 0 150 [.ref 6, .int a] M (fun r M' => ((∃ s f2, (∃ v : Int32, r = some (.int v) ∧ f2 = f ∧ s = (F, H, n, K, T, L, e)) ∧ zUc M' s f2 B') ∧ ∀ k, zSm k = true → zI M' k = zI M k) ∧ zBo M') := by
  obtain ⟨hC, hK⟩ := hC
  have hC : zHc (zhide zSm M) (F, H, n, K, T, L, e) f := hC
  have hK : zKc (zhide zSm M) F B := hK
  have f1 := hW.1
  have hk4 := hK.2.2.2
  exact h.ccU (P150 h.skc h.ivc (by omega) (by omega) (by omega) (by omega) hC.1.1 hW hK.1 hK.2.1 hK.2.2.1 (fun M' v s I Fr p0 p1 p2 p3 k1 k2 k3 => ⟨⟨_, _, ⟨v, rfl, rfl, rfl⟩, hC.fr (Fr.eq rfl), hK.lk (by omega) k1 k2 k3 (by omega) (by omega) (by omega) (by omega)⟩, s, I⟩))
theorem om13 {X : zX} {l : Launch} {M : zM} {a : Int32} {F : Nat → Int} {H : Nat → Nat → Int} {n : Int} {K : Nat → Nat → Int} {T : Nat → Int} {L : Int} {e : zEw} {f : Nat → Int32} (h : zBo M) (hM : zUm M (F, H, n, K, T, L, e) f) (hW : zWF F) : zCall X l 8 0 0 316 [.ref 336, .int a] M (fun r M' => ((∃ s f2, (∃ v : Int32, r = some (.int v) ∧ f2 = f ∧ s = (F, H, n, K, T, L, e)) ∧ zUm M' s f2) ∧ ∀ k, zSc k = true → zI M' k = zI M k) ∧ zBo M') := by
  obtain ⟨hM, hK⟩ := hM
  have hM : zHm (zhide zSc M) (F, H, n, K, T, L, e) f := hM
  have hK : zKnB (zhide zSc M) F := hK
  have f1 := hW.1
  exact h.cmU (Q316 h.skm h.ivm h.pR h.pC h.pF hM.1.1 hW hK (fun M' v s I Fr r c p k1 => ⟨⟨_, _, ⟨v, rfl, rfl, rfl⟩, hM.fr (Fr.eq rfl), k1⟩, s, I, r, c, p⟩))
theorem oc14 {X : zX} {l : Launch} {M : zM} {a b : Int32} {F : Nat → Int} {H : Nat → Nat → Int} {n : Int} {K : Nat → Nat → Int} {T : Nat → Int} {L : Int} {e : zEw} {f : Nat → Int32} {B B' : Int} (h : zBo M) (zB : B + 200000 ≤ B') (zB0 : B ≤ 1500000000) (hC : zUc M (F, H, n, K, T, L, e) f B) (hW : zWF F) : zCall X l 6 0 0 169 [.ref 6, .int a, .int b] M (fun r M' => ((∃ s f2, (∃ v : Int32, r = some (.int v) ∧ f2 = f ∧ s = (F, H, n, K, T, L, e)) ∧ zUc M' s f2 B') ∧ ∀ k, zSm k = true → zI M' k = zI M k) ∧ zBo M') := by
  obtain ⟨hC, hK⟩ := hC
  have hC : zHc (zhide zSm M) (F, H, n, K, T, L, e) f := hC
  have hK : zKc (zhide zSm M) F B := hK
  have f1 := hW.1
  have hk4 := hK.2.2.2
  exact h.ccU (P169 h.skc h.ivc (by omega) (by omega) (by omega) (by omega) hC.1.1 hW hK.1 hK.2.1 hK.2.2.1 (fun M' v s I Fr p0 p1 p2 p3 k1 k2 k3 => ⟨⟨_, _, ⟨v, rfl, rfl, rfl⟩, hC.fr (Fr.eq rfl), hK.lk (by omega) k1 k2 k3 (by omega) (by omega) (by omega) (by omega)⟩, s, I⟩))
theorem om14 {X : zX} {l : Launch} {M : zM} {a b : Int32} {F : Nat → Int} {H : Nat → Nat → Int} {n : Int} {K : Nat → Nat → Int} {T : Nat → Int} {L : Int} {e : zEw} {f : Nat → Int32} (h : zBo M) (hM : zUm M (F, H, n, K, T, L, e) f) (hW : zWF F) : zCall X l 7 0 0 317 [.ref 336, .int a, .int b] M (fun r M' => ((∃ s f2, (∃ v : Int32, r = some (.int v) ∧ f2 = f ∧ s = (F, H, n, K, T, L, e)) ∧ zUm M' s f2) ∧ ∀ k, zSc k = true → zI M' k = zI M k) ∧ zBo M') := by
  obtain ⟨hM, hK⟩ := hM
  have hM : zHm (zhide zSc M) (F, H, n, K, T, L, e) f := hM
  have hK : zKnB (zhide zSc M) F := hK
  have f1 := hW.1
  exact h.cmU (Q317 h.skm h.ivm h.pR h.pC h.pF hM.1.1 hW hK (fun M' v s I Fr r c p k1 => ⟨⟨_, _, ⟨v, rfl, rfl, rfl⟩, hM.fr (Fr.eq rfl), k1⟩, s, I, r, c, p⟩))
theorem oc15 {X : zX} {l : Launch} {M : zM} {a b : Int32} {F : Nat → Int} {H : Nat → Nat → Int} {n : Int} {K : Nat → Nat → Int} {T : Nat → Int} {L : Int} {e : zEw} {f : Nat → Int32} {B B' : Int} (h : zBo M) (zB : B + 200000 ≤ B') (zB0 : B ≤ 1500000000) (hC : zUc M (F, H, n, K, T, L, e) f B) (hW : zWF F) : zCall X l 6 0 0 172 [.ref 6, .int a, .int b] M (fun r M' => ((∃ s f2, (∃ v : Int32, r = some (.int v) ∧ f2 = f ∧ s = (F, H, n, K, T, L, e)) ∧ zUc M' s f2 B') ∧ ∀ k, zSm k = true → zI M' k = zI M k) ∧ zBo M') := by
  obtain ⟨hC, hK⟩ := hC
  have hC : zHc (zhide zSm M) (F, H, n, K, T, L, e) f := hC
  have hK : zKc (zhide zSm M) F B := hK
  have f1 := hW.1
  have hk4 := hK.2.2.2
  exact h.ccU (P172 h.skc h.ivc (by omega) (by omega) (by omega) (by omega) hC.1.1 hW hK.1 hK.2.1 hK.2.2.1 (fun M' v s I Fr p0 p1 p2 p3 k1 k2 k3 => ⟨⟨_, _, ⟨v, rfl, rfl, rfl⟩, hC.fr (Fr.eq rfl), hK.lk (by omega) k1 k2 k3 (by omega) (by omega) (by omega) (by omega)⟩, s, I⟩))
theorem om15 {X : zX} {l : Launch} {M : zM} {a b : Int32} {F : Nat → Int} {H : Nat → Nat → Int} {n : Int} {K : Nat → Nat → Int} {T : Nat → Int} {L : Int} {e : zEw} {f : Nat → Int32} (h : zBo M) (hM : zUm M (F, H, n, K, T, L, e) f) (hW : zWF F) : zCall X l 7 0 0 321 [.ref 336, .int a, .int b] M (fun r M' => ((∃ s f2, (∃ v : Int32, r = some (.int v) ∧ f2 = f ∧ s = (F, H, n, K, T, L, e)) ∧ zUm M' s f2) ∧ ∀ k, zSc k = true → zI M' k = zI M k) ∧ zBo M') := by
  obtain ⟨hM, hK⟩ := hM
  have hM : zHm (zhide zSc M) (F, H, n, K, T, L, e) f := hM
  have hK : zKnB (zhide zSc M) F := hK
  have f1 := hW.1
  exact h.cmU (Q321 h.skm h.ivm h.pR h.pC h.pF hM.1.1 hW hK (fun M' v s I Fr r c p k1 => ⟨⟨_, _, ⟨v, rfl, rfl, rfl⟩, hM.fr (Fr.eq rfl), k1⟩, s, I, r, c, p⟩))
theorem oc16 {X : zX} {l : Launch} {M : zM} {a b : Int32} {F : Nat → Int} {H : Nat → Nat → Int} {n : Int} {K : Nat → Nat → Int} {T : Nat → Int} {L : Int} {e : zEw} {f : Nat → Int32} {B B' : Int} (h : zBo M) (zB : B + 200000 ≤ B') (zB0 : B ≤ 1500000000) (hC : zUc M (F, H, n, K, T, L, e) f B) (hW : zWF F) : zCall X l 6 0 0 173 [.ref 6, .int a, .int b] M (fun r M' => ((∃ s f2, (∃ v : Int64, r = some (.long v) ∧ f2 = f ∧ s = (F, H, n, K, T, L, e)) ∧ zUc M' s f2 B') ∧ ∀ k, zSm k = true → zI M' k = zI M k) ∧ zBo M') := by
  obtain ⟨hC, hK⟩ := hC
  have hC : zHc (zhide zSm M) (F, H, n, K, T, L, e) f := hC
  have hK : zKc (zhide zSm M) F B := hK
  have f1 := hW.1
  have hk4 := hK.2.2.2
  exact h.ccU (P173 h.skc h.ivc (by omega) (by omega) (by omega) (by omega) hC.1.1 hW hK.1 hK.2.1 hK.2.2.1 (fun M' v s I Fr p0 p1 p2 p3 k1 k2 k3 => ⟨⟨_, _, ⟨v, rfl, rfl, rfl⟩, hC.fr (Fr.eq rfl), hK.lk (by omega) k1 k2 k3 (by omega) (by omega) (by omega) (by omega)⟩, s, I⟩))
theorem om16 {X : zX} {l : Launch} {M : zM} {a b : Int32} {F : Nat → Int} {H : Nat → Nat → Int} {n : Int} {K : Nat → Nat → Int} {T : Nat → Int} {L : Int} {e : zEw} {f : Nat → Int32} (h : zBo M) (hM : zUm M (F, H, n, K, T, L, e) f) (hW : zWF F) : zCall X l 7 0 0 296 [.ref 336, .int a, .int b] M (fun r M' => ((∃ s f2, (∃ v : Int64, r = some (.long v) ∧ f2 = f ∧ s = (F, H, n, K, T, L, e)) ∧ zUm M' s f2) ∧ ∀ k, zSc k = true → zI M' k = zI M k) ∧ zBo M') := by
  obtain ⟨hM, hK⟩ := hM
  have hM : zHm (zhide zSc M) (F, H, n, K, T, L, e) f := hM
  have hK : zKnB (zhide zSc M) F := hK
  have f1 := hW.1
  exact h.cmU (Q296 h.skm h.ivm h.pR h.pC h.pF hM.1.1 hW hK (fun M' v s I Fr r c p k1 => ⟨⟨_, _, ⟨v, rfl, rfl, rfl⟩, hM.fr (Fr.eq rfl), k1⟩, s, I, r, c, p⟩))
theorem oc17 {X : zX} {l : Launch} {M : zM} {a b : Int32} {F : Nat → Int} {H : Nat → Nat → Int} {n : Int} {K : Nat → Nat → Int} {T : Nat → Int} {L : Int} {e : zEw} {f : Nat → Int32} {B B' : Int} (h : zBo M) (zB : B + 200000 ≤ B') (zB0 : B ≤ 1500000000) (hC : zUc M (F, H, n, K, T, L, e) f B) (hW : zWF F) : zCall X l 6 0 0 177 [.ref 6, .int a, .int b] M (fun r M' => ((∃ s f2, (∃ v : Int32, r = some (.int v) ∧ f2 = f ∧ s = (F, H, n, K, T, L, e)) ∧ zUc M' s f2 B') ∧ ∀ k, zSm k = true → zI M' k = zI M k) ∧ zBo M') := by
  obtain ⟨hC, hK⟩ := hC
  have hC : zHc (zhide zSm M) (F, H, n, K, T, L, e) f := hC
  have hK : zKc (zhide zSm M) F B := hK
  have f1 := hW.1
  have hk4 := hK.2.2.2
  exact h.ccU (P177 h.skc h.ivc (by omega) (by omega) (by omega) (by omega) hC.1.1 hW hK.1 hK.2.1 hK.2.2.1 (fun M' v s I Fr p0 p1 p2 p3 k1 k2 k3 => ⟨⟨_, _, ⟨v, rfl, rfl, rfl⟩, hC.fr (Fr.eq rfl), hK.lk (by omega) k1 k2 k3 (by omega) (by omega) (by omega) (by omega)⟩, s, I⟩))
theorem om17 {X : zX} {l : Launch} {M : zM} {a b : Int32} {F : Nat → Int} {H : Nat → Nat → Int} {n : Int} {K : Nat → Nat → Int} {T : Nat → Int} {L : Int} {e : zEw} {f : Nat → Int32} (h : zBo M) (hM : zUm M (F, H, n, K, T, L, e) f) (hW : zWF F) : zCall X l 7 0 0 301 [.ref 336, .int a, .int b] M (fun r M' => ((∃ s f2, (∃ v : Int32, r = some (.int v) ∧ f2 = f ∧ s = (F, H, n, K, T, L, e)) ∧ zUm M' s f2) ∧ ∀ k, zSc k = true → zI M' k = zI M k) ∧ zBo M') := by
  obtain ⟨hM, hK⟩ := hM
  have hM : zHm (zhide zSc M) (F, H, n, K, T, L, e) f := hM
  have hK : zKnB (zhide zSc M) F := hK
  have f1 := hW.1
  exact h.cmU (Q301 h.skm h.ivm h.pR h.pC h.pF hM.1.1 hW hK (fun M' v s I Fr r c p k1 => ⟨⟨_, _, ⟨v, rfl, rfl, rfl⟩, hM.fr (Fr.eq rfl), k1⟩, s, I, r, c, p⟩))
theorem oc18 {X : zX} {l : Launch} {M : zM} {F : Nat → Int} {H : Nat → Nat → Int} {n : Int} {K : Nat → Nat → Int} {T : Nat → Int} {L : Int} {e : zEw} {f : Nat → Int32} {B B' : Int} (h : zBo M) (zB : B + 200000 ≤ B') (zB0 : B ≤ 1500000000) (hC : zUc M (F, H, n, K, T, L, e) f B) (hW : zWF F) : zCall X l 99 0 0 180 [.ref 6] M (fun r M' => ((∃ s f2, (∃ v : Int32, r = some (.int v) ∧ f2 = f ∧ s = (F, H, n, K, T, L, e)) ∧ zUc M' s f2 B') ∧ ∀ k, zSm k = true → zI M' k = zI M k) ∧ zBo M') := by
  obtain ⟨hC, hK⟩ := hC
  have hC : zHc (zhide zSm M) (F, H, n, K, T, L, e) f := hC
  have hK : zKc (zhide zSm M) F B := hK
  have f1 := hW.1
  have hk4 := hK.2.2.2
  exact h.ccU (P180 h.skc h.ivc (by omega) (by omega) (by omega) (by omega) hC.1.1 hW hK.1 hK.2.1 hK.2.2.1 (fun M' v s I Fr p0 p1 p2 p3 k1 k2 k3 p4 p5 => ⟨⟨_, _, ⟨v, rfl, rfl, rfl⟩, hC.fr (Fr.eq rfl), hK.lk (by omega) k1 k2 k3 (by omega) (by omega) (by omega) (by omega)⟩, s, I⟩))
theorem om18 {X : zX} {l : Launch} {M : zM} {F : Nat → Int} {H : Nat → Nat → Int} {n : Int} {K : Nat → Nat → Int} {T : Nat → Int} {L : Int} {e : zEw} {f : Nat → Int32} (h : zBo M) (hM : zUm M (F, H, n, K, T, L, e) f) (hW : zWF F) : zCall X l 8 0 0 266 [.ref 336] M (fun r M' => ((∃ s f2, (∃ v : Int32, r = some (.int v) ∧ f2 = f ∧ s = (F, H, n, K, T, L, e)) ∧ zUm M' s f2) ∧ ∀ k, zSc k = true → zI M' k = zI M k) ∧ zBo M') := by
  obtain ⟨hM, hK⟩ := hM
  have hM : zHm (zhide zSc M) (F, H, n, K, T, L, e) f := hM
  have hK : zKnB (zhide zSc M) F := hK
  have f1 := hW.1
  exact h.cmU (Q266 h.skm h.ivm h.pR h.pC h.pF hM.1.1 hW hK (fun M' v s I Fr r c p k1 => ⟨⟨_, _, ⟨v, rfl, rfl, rfl⟩, hM.fr (Fr.eq rfl), k1⟩, s, I, r, c, p⟩))
theorem oc19 {X : zX} {l : Launch} {M : zM} {a : Int32} {F : Nat → Int} {H : Nat → Nat → Int} {n : Int} {K : Nat → Nat → Int} {T : Nat → Int} {L : Int} {e : zEw} {f : Nat → Int32} {B B' : Int} (h : zBo M) (zB : B + 200000 ≤ B') (zB0 : B ≤ 1500000000) (hC : zUc M (F, H, n, K, T, L, e) f B) (hW : zWF F) : zCall X l 6 0 0 151 [.ref 6, .int a] M (fun r M' => ((∃ s f2, (∃ v : Int32, r = some (.int v) ∧ f2 = f ∧ s = (F, H, n, K, T, L, e)) ∧ zUc M' s f2 B') ∧ ∀ k, zSm k = true → zI M' k = zI M k) ∧ zBo M') := by
  obtain ⟨hC, hK⟩ := hC
  have hC : zHc (zhide zSm M) (F, H, n, K, T, L, e) f := hC
  have hK : zKc (zhide zSm M) F B := hK
  have f1 := hW.1
  have hk4 := hK.2.2.2
  exact h.ccU (P151 h.skc h.ivc (by omega) (by omega) (by omega) (by omega) hC.1.1 hW hK.1 hK.2.1 hK.2.2.1 (fun M' v s I Fr p0 p1 p2 p3 k1 k2 k3 => ⟨⟨_, _, ⟨v, rfl, rfl, rfl⟩, hC.fr (Fr.eq rfl), hK.lk (by omega) k1 k2 k3 (by omega) (by omega) (by omega) (by omega)⟩, s, I⟩))
theorem om19 {X : zX} {l : Launch} {M : zM} {a : Int32} {F : Nat → Int} {H : Nat → Nat → Int} {n : Int} {K : Nat → Nat → Int} {T : Nat → Int} {L : Int} {e : zEw} {f : Nat → Int32} (h : zBo M) (hM : zUm M (F, H, n, K, T, L, e) f) (hW : zWF F) : zCall X l 8 0 0 295 [.ref 336, .int a] M (fun r M' => ((∃ s f2, (∃ v : Int32, r = some (.int v) ∧ f2 = f ∧ s = (F, H, n, K, T, L, e)) ∧ zUm M' s f2) ∧ ∀ k, zSc k = true → zI M' k = zI M k) ∧ zBo M') := by
  obtain ⟨hM, hK⟩ := hM
  have hM : zHm (zhide zSc M) (F, H, n, K, T, L, e) f := hM
  have hK : zKnB (zhide zSc M) F := hK
  have f1 := hW.1
  exact h.cmU (Q295 h.skm h.ivm h.pR h.pC h.pF hM.1.1 hW hK (fun M' v s I Fr r c p k1 => ⟨⟨_, _, ⟨v, rfl, rfl, rfl⟩, hM.fr (Fr.eq rfl), k1⟩, s, I, r, c, p⟩))
theorem oc20 {X : zX} {l : Launch} {M : zM} {F : Nat → Int} {H : Nat → Nat → Int} {n : Int} {K : Nat → Nat → Int} {T : Nat → Int} {L : Int} {e : zEw} {f : Nat → Int32} {B B' : Int} (h : zBo M) (zB : B + 200000 ≤ B') (zB0 : B ≤ 1500000000) (hC : zUc M (F, H, n, K, T, L, e) f B) (hW : zWF F) : zCall X l 6 0 0 187 [.ref 6] M (fun r M' => ((∃ s f2, (∃ v : Int32, r = some (.int v) ∧ f2 = f ∧ pWk F (v.toInt) ∧ s = (F, H, n, K, T, L, e)) ∧ zUc M' s f2 B') ∧ ∀ k, zSm k = true → zI M' k = zI M k) ∧ zBo M') := by
  obtain ⟨hC, hK⟩ := hC
  have hC : zHc (zhide zSm M) (F, H, n, K, T, L, e) f := hC
  have hK : zKc (zhide zSm M) F B := hK
  have f1 := hW.1
  have hk4 := hK.2.2.2
  exact h.ccU (Z187 h.skc h.ivc (by omega) (by omega) (by omega) (by omega) hC.1.1 hW hK.1 hK.2.1 hK.2.2.1 (fun M' v s I Fr p0 p1 p2 p3 k1 k2 k3 q => ⟨⟨_, _, ⟨v, rfl, rfl, q, rfl⟩, hC.fr (Fr.eq rfl), hK.lk (by omega) k1 k2 k3 (by omega) (by omega) (by omega) (by omega)⟩, s, I⟩))
theorem om20 {X : zX} {l : Launch} {M : zM} {F : Nat → Int} {H : Nat → Nat → Int} {n : Int} {K : Nat → Nat → Int} {T : Nat → Int} {L : Int} {e : zEw} {f : Nat → Int32} (h : zBo M) (hM : zUm M (F, H, n, K, T, L, e) f) (hW : zWF F) : zCall X l 7 0 0 322 [.ref 336] M (fun r M' => ((∃ s f2, (∃ v : Int32, r = some (.int v) ∧ f2 = f ∧ pWk F (v.toInt) ∧ s = (F, H, n, K, T, L, e)) ∧ zUm M' s f2) ∧ ∀ k, zSc k = true → zI M' k = zI M k) ∧ zBo M') := by
  obtain ⟨hM, hK⟩ := hM
  have hM : zHm (zhide zSc M) (F, H, n, K, T, L, e) f := hM
  have hK : zKnB (zhide zSc M) F := hK
  have f1 := hW.1
  exact h.cmU (Y322 h.skm h.ivm h.pR h.pC h.pF hM.1.1 hW hK (fun M' v s I Fr r c p k1 q => ⟨⟨_, _, ⟨v, rfl, rfl, q, rfl⟩, hM.fr (Fr.eq rfl), k1⟩, s, I, r, c, p⟩))
theorem oc21 {X : zX} {l : Launch} {M : zM} {a b c d e : Int32} {F : Nat → Int} {H : Nat → Nat → Int} {n : Int} {K : Nat → Nat → Int} {T : Nat → Int} {L : Int} {ee : zEw} {f : Nat → Int32} {B B' : Int} (h : zBo M) (zB : B + 200000 ≤ B') (zB0 : B ≤ 1500000000) (hC : zUc M (F, H, n, K, T, L, ee) f B) (hW : zWF F) : zCall X l 7 0 0 188 [.ref 6, .int a, .int b, .int c, .int d, .int e] M (fun r M' => ((∃ s f2, (∃ v : Int32, r = some (.int v) ∧ f2 = f ∧ s = (F, H, n, K, T, L, ee)) ∧ zUc M' s f2 B') ∧ ∀ k, zSm k = true → zI M' k = zI M k) ∧ zBo M') := by
  obtain ⟨hC, hK⟩ := hC
  have hC : zHc (zhide zSm M) (F, H, n, K, T, L, ee) f := hC
  have hK : zKc (zhide zSm M) F B := hK
  have f1 := hW.1
  have hk4 := hK.2.2.2
  exact h.ccU (P188 h.skc h.ivc (by omega) (by omega) (by omega) (by omega) hC.1.1 hW hK.1 hK.2.1 hK.2.2.1 (fun M' v s I Fr p0 p1 p2 p3 k1 k2 k3 => ⟨⟨_, _, ⟨v, rfl, rfl, rfl⟩, hC.fr (Fr.eq rfl), hK.lk (by omega) k1 k2 k3 (by omega) (by omega) (by omega) (by omega)⟩, s, I⟩))
theorem om21 {X : zX} {l : Launch} {M : zM} {a b c d e : Int32} {F : Nat → Int} {H : Nat → Nat → Int} {n : Int} {K : Nat → Nat → Int} {T : Nat → Int} {L : Int} {ee : zEw} {f : Nat → Int32} (h : zBo M) (hM : zUm M (F, H, n, K, T, L, ee) f) (hW : zWF F) : zCall X l 9 0 0 323 [.ref 336, .int a, .int b, .int c, .int d, .int e] M (fun r M' => ((∃ s f2, (∃ v : Int32, r = some (.int v) ∧ f2 = f ∧ s = (F, H, n, K, T, L, ee)) ∧ zUm M' s f2) ∧ ∀ k, zSc k = true → zI M' k = zI M k) ∧ zBo M') := by
  obtain ⟨hM, hK⟩ := hM
  have hM : zHm (zhide zSc M) (F, H, n, K, T, L, ee) f := hM
  have hK : zKnB (zhide zSc M) F := hK
  have f1 := hW.1
  exact h.cmU (Q323 h.skm h.ivm h.pR h.pC h.pF hM.1.1 hW hK (fun M' v s I Fr r c p k1 => ⟨⟨_, _, ⟨v, rfl, rfl, rfl⟩, hM.fr (Fr.eq rfl), k1⟩, s, I, r, c, p⟩))
theorem oc22 {X : zX} {l : Launch} {M : zM} {a b c : Int32} {F : Nat → Int} {H : Nat → Nat → Int} {n : Int} {K : Nat → Nat → Int} {T : Nat → Int} {L : Int} {e : zEw} {f : Nat → Int32} {B B' : Int} (h : zBo M) (zB : B + 200000 ≤ B') (zB0 : B ≤ 1500000000) (hC : zUc M (F, H, n, K, T, L, e) f B) (hW : zWF F) : zCall X l 7 0 0 193 [.ref 6, .int a, .int b, .int c] M (fun r M' => ((∃ s f2, (∃ v : Int32, r = some (.int v) ∧ f2 = f ∧ s = (F, H, n, K, T, L, e)) ∧ zUc M' s f2 B') ∧ ∀ k, zSm k = true → zI M' k = zI M k) ∧ zBo M') := by
  obtain ⟨hC, hK⟩ := hC
  have hC : zHc (zhide zSm M) (F, H, n, K, T, L, e) f := hC
  have hK : zKc (zhide zSm M) F B := hK
  have f1 := hW.1
  have hk4 := hK.2.2.2
  exact h.ccU (P193 h.skc h.ivc (by omega) (by omega) (by omega) (by omega) hC.1.1 hW hK.1 hK.2.1 hK.2.2.1 (fun M' v s I Fr p0 p1 p2 p3 k1 k2 k3 => ⟨⟨_, _, ⟨v, rfl, rfl, rfl⟩, hC.fr (Fr.eq rfl), hK.lk (by omega) k1 k2 k3 (by omega) (by omega) (by omega) (by omega)⟩, s, I⟩))
theorem om22 {X : zX} {l : Launch} {M : zM} {a b c : Int32} {F : Nat → Int} {H : Nat → Nat → Int} {n : Int} {K : Nat → Nat → Int} {T : Nat → Int} {L : Int} {e : zEw} {f : Nat → Int32} (h : zBo M) (hM : zUm M (F, H, n, K, T, L, e) f) (hW : zWF F) : zCall X l 9 0 0 326 [.ref 336, .int a, .int b, .int c] M (fun r M' => ((∃ s f2, (∃ v : Int32, r = some (.int v) ∧ f2 = f ∧ s = (F, H, n, K, T, L, e)) ∧ zUm M' s f2) ∧ ∀ k, zSc k = true → zI M' k = zI M k) ∧ zBo M') := by
  obtain ⟨hM, hK⟩ := hM
  have hM : zHm (zhide zSc M) (F, H, n, K, T, L, e) f := hM
  have hK : zKnB (zhide zSc M) F := hK
  have f1 := hW.1
  exact h.cmU (Q326 h.skm h.ivm h.pR h.pC h.pF hM.1.1 hW hK (fun M' v s I Fr r c p k1 => ⟨⟨_, _, ⟨v, rfl, rfl, rfl⟩, hM.fr (Fr.eq rfl), k1⟩, s, I, r, c, p⟩))
theorem oc23 {X : zX} {l : Launch} {M : zM} {a : Int32} {F : Nat → Int} {H : Nat → Nat → Int} {n : Int} {K : Nat → Nat → Int} {T : Nat → Int} {L : Int} {e : zEw} {f : Nat → Int32} {B B' : Int} (h : zBo M) (zB : B + 200000 ≤ B') (zB0 : B ≤ 1500000000) (hC : zUc M (F, H, n, K, T, L, e) f B) (hW : zWF F) : zCall X l 6 0 0 194 [.ref 6, .int a] M (fun r M' => ((∃ s f2, (∃ v : Int32, r = some (.int v) ∧ f2 = f ∧ s = (F, H, n, K, T, L, e)) ∧ zUc M' s f2 B') ∧ ∀ k, zSm k = true → zI M' k = zI M k) ∧ zBo M') := by
  obtain ⟨hC, hK⟩ := hC
  have hC : zHc (zhide zSm M) (F, H, n, K, T, L, e) f := hC
  have hK : zKc (zhide zSm M) F B := hK
  have f1 := hW.1
  have hk4 := hK.2.2.2
  exact h.ccU (P194 h.skc h.ivc (by omega) (by omega) (by omega) (by omega) hC.1.1 hW hK.1 hK.2.1 hK.2.2.1 (fun M' v s I Fr p0 p1 p2 p3 k1 k2 k3 => ⟨⟨_, _, ⟨v, rfl, rfl, rfl⟩, hC.fr (Fr.eq rfl), hK.lk (by omega) k1 k2 k3 (by omega) (by omega) (by omega) (by omega)⟩, s, I⟩))
theorem om23 {X : zX} {l : Launch} {M : zM} {a : Int32} {F : Nat → Int} {H : Nat → Nat → Int} {n : Int} {K : Nat → Nat → Int} {T : Nat → Int} {L : Int} {e : zEw} {f : Nat → Int32} (h : zBo M) (hM : zUm M (F, H, n, K, T, L, e) f) (hW : zWF F) : zCall X l 7 0 0 327 [.ref 336, .int a] M (fun r M' => ((∃ s f2, (∃ v : Int32, r = some (.int v) ∧ f2 = f ∧ s = (F, H, n, K, T, L, e)) ∧ zUm M' s f2) ∧ ∀ k, zSc k = true → zI M' k = zI M k) ∧ zBo M') := by
  obtain ⟨hM, hK⟩ := hM
  have hM : zHm (zhide zSc M) (F, H, n, K, T, L, e) f := hM
  have hK : zKnB (zhide zSc M) F := hK
  have f1 := hW.1
  exact h.cmU (Q327 h.skm h.ivm h.pR h.pC h.pF hM.1.1 hW hK (fun M' v s I Fr r c p k1 => ⟨⟨_, _, ⟨v, rfl, rfl, rfl⟩, hM.fr (Fr.eq rfl), k1⟩, s, I, r, c, p⟩))
theorem oc24 {X : zX} {l : Launch} {M : zM} {a : Int32} {F : Nat → Int} {H : Nat → Nat → Int} {n : Int} {K : Nat → Nat → Int} {T : Nat → Int} {L : Int} {e : zEw} {f : Nat → Int32} {B B' : Int} (h : zBo M) (zB : B + 200000 ≤ B') (zB0 : B ≤ 1500000000) (hC : zUc M (F, H, n, K, T, L, e) f B) (hW : zWF F) : zCall X l 6 0 0 196 [.ref 6, .int a] M (fun r M' => ((∃ s f2, (∃ v : Int32, r = some (.int v) ∧ f2 = f ∧ s = (F, H, n, K, T, L, e)) ∧ zUc M' s f2 B') ∧ ∀ k, zSm k = true → zI M' k = zI M k) ∧ zBo M') := by
  obtain ⟨hC, hK⟩ := hC
  have hC : zHc (zhide zSm M) (F, H, n, K, T, L, e) f := hC
  have hK : zKc (zhide zSm M) F B := hK
  have f1 := hW.1
  have hk4 := hK.2.2.2
  exact h.ccU (P196 h.skc h.ivc (by omega) (by omega) (by omega) (by omega) hC.1.1 hW hK.1 hK.2.1 hK.2.2.1 (fun M' v s I Fr p0 p1 p2 p3 k1 k2 k3 => ⟨⟨_, _, ⟨v, rfl, rfl, rfl⟩, hC.fr (Fr.eq rfl), hK.lk (by omega) k1 k2 k3 (by omega) (by omega) (by omega) (by omega)⟩, s, I⟩))
theorem om24 {X : zX} {l : Launch} {M : zM} {a : Int32} {F : Nat → Int} {H : Nat → Nat → Int} {n : Int} {K : Nat → Nat → Int} {T : Nat → Int} {L : Int} {e : zEw} {f : Nat → Int32} (h : zBo M) (hM : zUm M (F, H, n, K, T, L, e) f) (hW : zWF F) : zCall X l 6 0 0 328 [.ref 336, .int a] M (fun r M' => ((∃ s f2, (∃ v : Int32, r = some (.int v) ∧ f2 = f ∧ s = (F, H, n, K, T, L, e)) ∧ zUm M' s f2) ∧ ∀ k, zSc k = true → zI M' k = zI M k) ∧ zBo M') := by
  obtain ⟨hM, hK⟩ := hM
  have hM : zHm (zhide zSc M) (F, H, n, K, T, L, e) f := hM
  have hK : zKnB (zhide zSc M) F := hK
  have f1 := hW.1
  exact h.cmU (Q328 h.skm h.ivm h.pR h.pC h.pF hM.1.1 hW hK (fun M' v s I Fr r c p k1 => ⟨⟨_, _, ⟨v, rfl, rfl, rfl⟩, hM.fr (Fr.eq rfl), k1⟩, s, I, r, c, p⟩))
theorem oc25 {X : zX} {l : Launch} {M : zM} {a b c : Int32} {F : Nat → Int} {H : Nat → Nat → Int} {n : Int} {K : Nat → Nat → Int} {T : Nat → Int} {L : Int} {e : zEw} {f : Nat → Int32} {B B' : Int} (h : zBo M) (zB : B + 200000 ≤ B') (zB0 : B ≤ 1500000000) (hC : zUc M (F, H, n, K, T, L, e) f B) (hW : zWF F) : zCall X l 4 0 0 89 [.ref 6, .int a, .int b, .int c] M (fun r M' => ((∃ s f2, (∃ v : Int32, r = some (.int v) ∧ f2 = f ∧ ((v.toInt = -1 ∧ (a.toInt < 0 ∨ F 0 ≤ a.toInt ∨ b.toInt < -9999 ∨ 9999 < b.toInt ∨ c.toInt < 0 ∨ 999 < c.toInt ∨ 60 ≤ F 1) ∧ s = (F, H, n, K, T, L, e)) ∨ ((0 ≤ a.toInt ∧ a.toInt < F 0 ∧ -9999 ≤ b.toInt ∧ b.toInt ≤ 9999 ∧ 0 ≤ c.toInt ∧ c.toInt ≤ 999 ∧ F 1 < 60) ∧ v.toInt = F 1 ∧ s = (pHit F a.toInt b.toInt c.toInt (-2), pushH F H, nP n, K, T, L, e)))) ∧ zUc M' s f2 B') ∧ ∀ k, zSm k = true → zI M' k = zI M k) ∧ zBo M') := by
  obtain ⟨hC, hK⟩ := hC
  have hC : zHc (zhide zSm M) (F, H, n, K, T, L, e) f := hC
  have hK : zKc (zhide zSm M) F B := hK
  have f1 := hW.1
  have hl : (zI (zhide zSm M) 155 1).toInt = L := hC.2.1
  have hf : zI (zhide zSm M) 156 = f := hC.2.2.1
  refine h.ccU (S89 h.skc h.ivc hC.1.1 hC.1.2.1 hC.1.2.2 hW (fun M' v s I Fr qf x => ⟨?_, s, I⟩))
  have qf : ((zI M' 164 0).toInt = 0 ∧ (zI M' 325 0).toInt = 0) ∨ (v.toInt = -1 ∧ (zI M' 164 0).toInt = (zI (zhide zSm M) 164 0).toInt ∧ (zI M' 325 0).toInt = (zI (zhide zSm M) 325 0).toInt) := qf
  rcases x with ⟨q1, q2, qs⟩ | ⟨q1, q2, qs⟩
  · have q2 : (a.toInt < 0 ∨ F 0 ≤ a.toInt ∨ b.toInt < -9999 ∨ 9999 < b.toInt ∨ c.toInt < 0 ∨ 999 < c.toInt ∨ 60 ≤ F 1) := q2
    exact ⟨_, _, ⟨v, rfl, rfl, Or.inl ⟨q1, q2, rfl⟩⟩, hC.mk qs (Fr.eq rfl), (by rcases qf with z | z; exact hK.fl (by omega) (by omega) (Fr.eq rfl); exact hK.sm (by omega) (by omega) (Fr.eq rfl))⟩
  · have q1 : (0 ≤ a.toInt ∧ a.toInt < F 0 ∧ -9999 ≤ b.toInt ∧ b.toInt ≤ 9999 ∧ 0 ≤ c.toInt ∧ c.toInt ≤ 999 ∧ F 1 < 60) := q1
    have q2 : v.toInt = F 1 := q2
    exact ⟨_, _, ⟨v, rfl, rfl, Or.inr ⟨q1, q2, rfl⟩⟩, hC.mk qs (Fr.eq rfl), (hK.fl (by omega) (by omega) (Fr.eq rfl))⟩
theorem om25 {X : zX} {l : Launch} {M : zM} {a b c : Int32} {F : Nat → Int} {H : Nat → Nat → Int} {n : Int} {K : Nat → Nat → Int} {T : Nat → Int} {L : Int} {e : zEw} {f : Nat → Int32} (h : zBo M) (hM : zUm M (F, H, n, K, T, L, e) f) (hW : zWF F) : zCall X l 2 0 0 331 [.ref 336, .int a, .int b, .int c] M (fun r M' => ((∃ s f2, (∃ v : Int32, r = some (.int v) ∧ f2 = f ∧ ((v.toInt = -1 ∧ (a.toInt < 0 ∨ F 0 ≤ a.toInt ∨ b.toInt < -9999 ∨ 9999 < b.toInt ∨ c.toInt < 0 ∨ 999 < c.toInt ∨ 60 ≤ F 1) ∧ s = (F, H, n, K, T, L, e)) ∨ ((0 ≤ a.toInt ∧ a.toInt < F 0 ∧ -9999 ≤ b.toInt ∧ b.toInt ≤ 9999 ∧ 0 ≤ c.toInt ∧ c.toInt ≤ 999 ∧ F 1 < 60) ∧ v.toInt = F 1 ∧ s = (pHit F a.toInt b.toInt c.toInt (-2), pushH F H, nP n, K, T, L, e)))) ∧ zUm M' s f2) ∧ ∀ k, zSc k = true → zI M' k = zI M k) ∧ zBo M') := by
  obtain ⟨hM, hK⟩ := hM
  have hM : zHm (zhide zSc M) (F, H, n, K, T, L, e) f := hM
  have hK : zKnB (zhide zSc M) F := hK
  have f1 := hW.1
  have hl : (zI (zhide zSc M) 336 5).toInt = L := hM.2.1
  have hf : zI (zhide zSc M) 339 = f := hM.2.2.1
  refine h.cmU (R331 h.skm h.ivm h.pR h.pC h.pF hM.1.1 hM.1.2.1 hM.1.2.2 hW (fun M' v s I Fr J r cc p qf x => ⟨?_, s, I, r, cc, p⟩))
  have qf : (zI M' 336 3).toInt = 0 ∨ (v.toInt = -1 ∧ (zI M' 336 3).toInt = (zI (zhide zSc M) 336 3).toInt) := qf
  rcases x with ⟨q1, q2, qs⟩ | ⟨q1, q2, qs⟩
  · have q2 : (a.toInt < 0 ∨ F 0 ≤ a.toInt ∨ b.toInt < -9999 ∨ 9999 < b.toInt ∨ c.toInt < 0 ∨ 999 < c.toInt ∨ 60 ≤ F 1) := q2
    exact ⟨_, _, ⟨v, rfl, rfl, Or.inl ⟨q1, q2, rfl⟩⟩, hM.mk qs (Fr.eq rfl), (by rcases qf with z | z; exact zKnB.fl (by omega); exact hK.sm (by omega) (Fr.eq rfl))⟩
  · have q1 : (0 ≤ a.toInt ∧ a.toInt < F 0 ∧ -9999 ≤ b.toInt ∧ b.toInt ≤ 9999 ∧ 0 ≤ c.toInt ∧ c.toInt ≤ 999 ∧ F 1 < 60) := q1
    have q2 : v.toInt = F 1 := q2
    exact ⟨_, _, ⟨v, rfl, rfl, Or.inr ⟨q1, q2, rfl⟩⟩, hM.mk qs (Fr.eq rfl), (zKnB.fl (by omega))⟩
theorem oc26 {X : zX} {l : Launch} {M : zM} {a : Int32} {F : Nat → Int} {H : Nat → Nat → Int} {n : Int} {K : Nat → Nat → Int} {T : Nat → Int} {L : Int} {e : zEw} {f : Nat → Int32} {B B' : Int} (h : zBo M) (zB : B + 200000 ≤ B') (zB0 : B ≤ 1500000000) (hC : zUc M (F, H, n, K, T, L, e) f B) (hW : zWF F) : zCall X l 4 0 0 90 [.ref 6, .int a] M (fun r M' => ((∃ s f2, (∃ v : Int32, r = some (.int v) ∧ f2 = f ∧ ((v.toInt = -1 ∧ (a.toInt < 0 ∨ F 1 ≤ a.toInt ∨ F (32 + 4 * a.toInt.toNat) < 0) ∧ s = (F, H, n, K, T, L, e)) ∨ (0 ≤ a.toInt ∧ a.toInt < F 1 ∧ 0 ≤ F (32 + 4 * a.toInt.toNat) ∧ v.toInt = pct (zctb (uS F (32 + 4 * a.toInt.toNat) (-1))) ((uS F (32 + 4 * a.toInt.toNat) (-1)) 1).toNat ∧ s = ((uS F (32 + 4 * a.toInt.toNat) (-1)), pushH F H, nP n, K, T, L, e)))) ∧ zUc M' s f2 B') ∧ ∀ k, zSm k = true → zI M' k = zI M k) ∧ zBo M') := by
  obtain ⟨hC, hK⟩ := hC
  have hC : zHc (zhide zSm M) (F, H, n, K, T, L, e) f := hC
  have hK : zKc (zhide zSm M) F B := hK
  have f1 := hW.1
  have hl : (zI (zhide zSm M) 155 1).toInt = L := hC.2.1
  have hf : zI (zhide zSm M) 156 = f := hC.2.2.1
  refine h.ccU (S90 h.skc h.ivc hC.1.1 hC.1.2.1 hC.1.2.2 hW (fun M' v s I Fr qf x => ⟨?_, s, I⟩))
  have qf : ((zI M' 164 0).toInt = 0 ∧ (zI M' 325 0).toInt = 0) ∨ (v.toInt = -1 ∧ (zI M' 164 0).toInt = (zI (zhide zSm M) 164 0).toInt ∧ (zI M' 325 0).toInt = (zI (zhide zSm M) 325 0).toInt) := qf
  rcases x with ⟨q1, q2, qs⟩ | ⟨q1, q2, q3, q4, qs⟩
  · have q2 : (a.toInt < 0 ∨ F 1 ≤ a.toInt ∨ F (32 + 4 * a.toInt.toNat) < 0) := q2
    exact ⟨_, _, ⟨v, rfl, rfl, Or.inl ⟨q1, q2, rfl⟩⟩, hC.mk qs (Fr.eq rfl), (by rcases qf with z | z; exact hK.fl (by omega) (by omega) (Fr.eq rfl); exact hK.sm (by omega) (by omega) (Fr.eq rfl))⟩
  · have q2 : a.toInt < F 1 := q2
    have q3 : 0 ≤ F (32 + 4 * a.toInt.toNat) := q3
    have q4 : v.toInt = pct (zctb (uS F (32 + 4 * a.toInt.toNat) (-1))) ((uS F (32 + 4 * a.toInt.toNat) (-1)) 1).toNat := q4
    have pn : 0 ≤ v.toInt := by rw [q4]; exact pct.nn _
    exact ⟨_, _, ⟨v, rfl, rfl, Or.inr ⟨q1, q2, q3, q4, rfl⟩⟩, hC.mk qs (Fr.eq rfl), (hK.fl (by omega) (by omega) (Fr.eq rfl))⟩
theorem om26 {X : zX} {l : Launch} {M : zM} {a : Int32} {F : Nat → Int} {H : Nat → Nat → Int} {n : Int} {K : Nat → Nat → Int} {T : Nat → Int} {L : Int} {e : zEw} {f : Nat → Int32} (h : zBo M) (hM : zUm M (F, H, n, K, T, L, e) f) (hW : zWF F) : zCall X l 3 0 0 332 [.ref 336, .int a] M (fun r M' => ((∃ s f2, (∃ v : Int32, r = some (.int v) ∧ f2 = f ∧ ((v.toInt = -1 ∧ (a.toInt < 0 ∨ F 1 ≤ a.toInt ∨ F (32 + 4 * a.toInt.toNat) < 0) ∧ s = (F, H, n, K, T, L, e)) ∨ (0 ≤ a.toInt ∧ a.toInt < F 1 ∧ 0 ≤ F (32 + 4 * a.toInt.toNat) ∧ v.toInt = pct (zctb (uS F (32 + 4 * a.toInt.toNat) (-1))) ((uS F (32 + 4 * a.toInt.toNat) (-1)) 1).toNat ∧ s = ((uS F (32 + 4 * a.toInt.toNat) (-1)), pushH F H, nP n, K, T, L, e)))) ∧ zUm M' s f2) ∧ ∀ k, zSc k = true → zI M' k = zI M k) ∧ zBo M') := by
  obtain ⟨hM, hK⟩ := hM
  have hM : zHm (zhide zSc M) (F, H, n, K, T, L, e) f := hM
  have hK : zKnB (zhide zSc M) F := hK
  have f1 := hW.1
  have hl : (zI (zhide zSc M) 336 5).toInt = L := hM.2.1
  have hf : zI (zhide zSc M) 339 = f := hM.2.2.1
  refine h.cmU (R332 h.skm h.ivm h.pR h.pC h.pF hM.1.1 hM.1.2.1 hM.1.2.2 hW (fun M' v s I Fr J r cc p qf x => ⟨?_, s, I, r, cc, p⟩))
  have qf : (zI M' 336 3).toInt = 0 ∨ (v.toInt = -1 ∧ (zI M' 336 3).toInt = (zI (zhide zSc M) 336 3).toInt) := qf
  rcases x with ⟨q1, q2, qs⟩ | ⟨q1, q2, q3, q4, qs⟩
  · have q2 : (a.toInt < 0 ∨ F 1 ≤ a.toInt ∨ F (32 + 4 * a.toInt.toNat) < 0) := q2
    exact ⟨_, _, ⟨v, rfl, rfl, Or.inl ⟨q1, q2, rfl⟩⟩, hM.mk qs (Fr.eq rfl), (by rcases qf with z | z; exact zKnB.fl (by omega); exact hK.sm (by omega) (Fr.eq rfl))⟩
  · have q2 : a.toInt < F 1 := q2
    have q3 : 0 ≤ F (32 + 4 * a.toInt.toNat) := q3
    have q4 : v.toInt = pct (zctb (uS F (32 + 4 * a.toInt.toNat) (-1))) ((uS F (32 + 4 * a.toInt.toNat) (-1)) 1).toNat := q4
    have pn : 0 ≤ v.toInt := by rw [q4]; exact pct.nn _
    exact ⟨_, _, ⟨v, rfl, rfl, Or.inr ⟨q1, q2, q3, q4, rfl⟩⟩, hM.mk qs (Fr.eq rfl), (zKnB.fl (by omega))⟩
theorem oc27 {X : zX} {l : Launch} {M : zM} {a : Int32} {F : Nat → Int} {H : Nat → Nat → Int} {n : Int} {K : Nat → Nat → Int} {T : Nat → Int} {L : Int} {e : zEw} {f : Nat → Int32} {B B' : Int} (h : zBo M) (zB : B + 200000 ≤ B') (zB0 : B ≤ 1500000000) (hC : zUc M (F, H, n, K, T, L, e) f B) (hW : zWF F) : zCall X l 4 0 0 94 [.ref 6, .int a] M (fun r M' => ((∃ s f2, (∃ v : Int32, r = some (.int v) ∧ f2 = f ∧ ((v.toInt = -1 ∧ (a.toInt < 0 ∨ F 0 ≤ a.toInt) ∧ s = (F, H, n, K, T, L, e)) ∨ (0 ≤ a.toInt ∧ a.toInt < F 0 ∧ v.toInt = 1 - F (15 + 2 * a.toInt.toNat) ∧ s = (uS F (15 + 2 * a.toInt.toNat) (1 - F (15 + 2 * a.toInt.toNat)), pushH F H, nP n, K, T, L, e)))) ∧ zUc M' s f2 B') ∧ ∀ k, zSm k = true → zI M' k = zI M k) ∧ zBo M') := by
  obtain ⟨hC, hK⟩ := hC
  have hC : zHc (zhide zSm M) (F, H, n, K, T, L, e) f := hC
  have hK : zKc (zhide zSm M) F B := hK
  have f1 := hW.1
  have hl : (zI (zhide zSm M) 155 1).toInt = L := hC.2.1
  have hf : zI (zhide zSm M) 156 = f := hC.2.2.1
  refine h.ccU (S94 h.skc h.ivc hC.1.1 hC.1.2.1 hC.1.2.2 hW (fun M' v s I Fr qf x => ⟨?_, s, I⟩))
  have qf : ((zI M' 164 0).toInt = 0 ∧ (zI M' 325 0).toInt = 0) ∨ (v.toInt = -1 ∧ (zI M' 164 0).toInt = (zI (zhide zSm M) 164 0).toInt ∧ (zI M' 325 0).toInt = (zI (zhide zSm M) 325 0).toInt) := qf
  rcases x with ⟨q1, q2, qs⟩ | ⟨q1, q2, q3, qs⟩
  · have q2 : (a.toInt < 0 ∨ F 0 ≤ a.toInt) := q2
    exact ⟨_, _, ⟨v, rfl, rfl, Or.inl ⟨q1, q2, rfl⟩⟩, hC.mk qs (Fr.eq rfl), (by rcases qf with z | z; exact hK.fl (by omega) (by omega) (Fr.eq rfl); exact hK.sm (by omega) (by omega) (Fr.eq rfl))⟩
  · have q2 : a.toInt < F 0 := q2
    have q3 : v.toInt = 1 - F (15 + 2 * a.toInt.toNat) := q3
    have pn := (hW.2.1 a.toInt.toNat (by omega)).2.2
    rw [q3] at qs
    exact ⟨_, _, ⟨v, rfl, rfl, Or.inr ⟨q1, q2, q3, rfl⟩⟩, hC.mk qs (Fr.eq rfl), (hK.fl (by omega) (by omega) (Fr.eq rfl))⟩
theorem om27 {X : zX} {l : Launch} {M : zM} {a : Int32} {F : Nat → Int} {H : Nat → Nat → Int} {n : Int} {K : Nat → Nat → Int} {T : Nat → Int} {L : Int} {e : zEw} {f : Nat → Int32} (h : zBo M) (hM : zUm M (F, H, n, K, T, L, e) f) (hW : zWF F) : zCall X l 2 0 0 333 [.ref 336, .int a] M (fun r M' => ((∃ s f2, (∃ v : Int32, r = some (.int v) ∧ f2 = f ∧ ((v.toInt = -1 ∧ (a.toInt < 0 ∨ F 0 ≤ a.toInt) ∧ s = (F, H, n, K, T, L, e)) ∨ (0 ≤ a.toInt ∧ a.toInt < F 0 ∧ v.toInt = 1 - F (15 + 2 * a.toInt.toNat) ∧ s = (uS F (15 + 2 * a.toInt.toNat) (1 - F (15 + 2 * a.toInt.toNat)), pushH F H, nP n, K, T, L, e)))) ∧ zUm M' s f2) ∧ ∀ k, zSc k = true → zI M' k = zI M k) ∧ zBo M') := by
  obtain ⟨hM, hK⟩ := hM
  have hM : zHm (zhide zSc M) (F, H, n, K, T, L, e) f := hM
  have hK : zKnB (zhide zSc M) F := hK
  have f1 := hW.1
  have hl : (zI (zhide zSc M) 336 5).toInt = L := hM.2.1
  have hf : zI (zhide zSc M) 339 = f := hM.2.2.1
  refine h.cmU (R333 h.skm h.ivm h.pR h.pC h.pF hM.1.1 hM.1.2.1 hM.1.2.2 hW (fun M' v s I Fr J r cc p qf x => ⟨?_, s, I, r, cc, p⟩))
  have qf : (zI M' 336 3).toInt = 0 ∨ (v.toInt = -1 ∧ (zI M' 336 3).toInt = (zI (zhide zSc M) 336 3).toInt) := qf
  rcases x with ⟨q1, q2, qs⟩ | ⟨q1, q2, q3, qs⟩
  · have q2 : (a.toInt < 0 ∨ F 0 ≤ a.toInt) := q2
    exact ⟨_, _, ⟨v, rfl, rfl, Or.inl ⟨q1, q2, rfl⟩⟩, hM.mk qs (Fr.eq rfl), (by rcases qf with z | z; exact zKnB.fl (by omega); exact hK.sm (by omega) (Fr.eq rfl))⟩
  · have q2 : a.toInt < F 0 := q2
    have q3 : v.toInt = 1 - F (15 + 2 * a.toInt.toNat) := q3
    have pn := (hW.2.1 a.toInt.toNat (by omega)).2.2
    rw [q3] at qs
    exact ⟨_, _, ⟨v, rfl, rfl, Or.inr ⟨q1, q2, q3, rfl⟩⟩, hM.mk qs (Fr.eq rfl), (zKnB.fl (by omega))⟩
theorem oc28 {X : zX} {l : Launch} {M : zM} {a : Int32} {F : Nat → Int} {H : Nat → Nat → Int} {n : Int} {K : Nat → Nat → Int} {T : Nat → Int} {L : Int} {e : zEw} {f : Nat → Int32} {B B' : Int} (h : zBo M) (zB : B + 200000 ≤ B') (zB0 : B ≤ 1500000000) (hC : zUc M (F, H, n, K, T, L, e) f B) (hW : zWF F) : zCall X l 4 0 0 95 [.ref 6, .int a] M (fun r M' => ((∃ s f2, (∃ v : Int32, r = some (.int v) ∧ f2 = f ∧ ((v.toInt = -1 ∧ (a.toInt < 2 ∨ 8 < a.toInt) ∧ s = (F, H, n, K, T, L, e)) ∨ (2 ≤ a.toInt ∧ a.toInt ≤ 8 ∧ v.toInt = F 8 ∧ s = (uS F 8 a.toInt, pushH F H, nP n, K, T, L, e)))) ∧ zUc M' s f2 B') ∧ ∀ k, zSm k = true → zI M' k = zI M k) ∧ zBo M') := by
  obtain ⟨hC, hK⟩ := hC
  have hC : zHc (zhide zSm M) (F, H, n, K, T, L, e) f := hC
  have hK : zKc (zhide zSm M) F B := hK
  have f1 := hW.1
  have hl : (zI (zhide zSm M) 155 1).toInt = L := hC.2.1
  have hf : zI (zhide zSm M) 156 = f := hC.2.2.1
  refine h.ccU (S95 h.skc h.ivc hC.1.1 hC.1.2.1 hC.1.2.2 hW (fun M' v s I Fr qf x => ⟨?_, s, I⟩))
  have qf : ((zI M' 164 0).toInt = 0 ∧ (zI M' 325 0).toInt = 0) ∨ (v.toInt = -1 ∧ (zI M' 164 0).toInt = (zI (zhide zSm M) 164 0).toInt ∧ (zI M' 325 0).toInt = (zI (zhide zSm M) 325 0).toInt) := qf
  rcases x with ⟨q1, q2, qs⟩ | ⟨q1, q2, q3, qs⟩
  · exact ⟨_, _, ⟨v, rfl, rfl, Or.inl ⟨q1, q2, rfl⟩⟩, hC.mk qs (Fr.eq rfl), (by rcases qf with z | z; exact hK.fl (by omega) (by omega) (Fr.eq rfl); exact hK.sm (by omega) (by omega) (Fr.eq rfl))⟩
  · have q3 : v.toInt = F 8 := q3
    have pn := hW.2.2.2
    exact ⟨_, _, ⟨v, rfl, rfl, Or.inr ⟨q1, q2, q3, rfl⟩⟩, hC.mk qs (Fr.eq rfl), (hK.fl (by omega) (by omega) (Fr.eq rfl))⟩
theorem om28 {X : zX} {l : Launch} {M : zM} {a : Int32} {F : Nat → Int} {H : Nat → Nat → Int} {n : Int} {K : Nat → Nat → Int} {T : Nat → Int} {L : Int} {e : zEw} {f : Nat → Int32} (h : zBo M) (hM : zUm M (F, H, n, K, T, L, e) f) (hW : zWF F) : zCall X l 2 0 0 334 [.ref 336, .int a] M (fun r M' => ((∃ s f2, (∃ v : Int32, r = some (.int v) ∧ f2 = f ∧ ((v.toInt = -1 ∧ (a.toInt < 2 ∨ 8 < a.toInt) ∧ s = (F, H, n, K, T, L, e)) ∨ (2 ≤ a.toInt ∧ a.toInt ≤ 8 ∧ v.toInt = F 8 ∧ s = (uS F 8 a.toInt, pushH F H, nP n, K, T, L, e)))) ∧ zUm M' s f2) ∧ ∀ k, zSc k = true → zI M' k = zI M k) ∧ zBo M') := by
  obtain ⟨hM, hK⟩ := hM
  have hM : zHm (zhide zSc M) (F, H, n, K, T, L, e) f := hM
  have hK : zKnB (zhide zSc M) F := hK
  have f1 := hW.1
  have hl : (zI (zhide zSc M) 336 5).toInt = L := hM.2.1
  have hf : zI (zhide zSc M) 339 = f := hM.2.2.1
  refine h.cmU (R334 h.skm h.ivm h.pR h.pC h.pF hM.1.1 hM.1.2.1 hM.1.2.2 hW (fun M' v s I Fr J r cc p qf x => ⟨?_, s, I, r, cc, p⟩))
  have qf : (zI M' 336 3).toInt = 0 ∨ (v.toInt = -1 ∧ (zI M' 336 3).toInt = (zI (zhide zSc M) 336 3).toInt) := qf
  rcases x with ⟨q1, q2, qs⟩ | ⟨q1, q2, q3, qs⟩
  · exact ⟨_, _, ⟨v, rfl, rfl, Or.inl ⟨q1, q2, rfl⟩⟩, hM.mk qs (Fr.eq rfl), (by rcases qf with z | z; exact zKnB.fl (by omega); exact hK.sm (by omega) (Fr.eq rfl))⟩
  · have q3 : v.toInt = F 8 := q3
    have pn := hW.2.2.2
    exact ⟨_, _, ⟨v, rfl, rfl, Or.inr ⟨q1, q2, q3, rfl⟩⟩, hM.mk qs (Fr.eq rfl), (zKnB.fl (by omega))⟩
theorem oc29 {X : zX} {l : Launch} {M : zM} {a b c : Int32} {F : Nat → Int} {H : Nat → Nat → Int} {n : Int} {K : Nat → Nat → Int} {T : Nat → Int} {L : Int} {e : zEw} {f : Nat → Int32} {B B' : Int} (h : zBo M) (zB : B + 200000 ≤ B') (zB0 : B ≤ 1500000000) (hC : zUc M (F, H, n, K, T, L, e) f B) (hW : zWF F) : zCall X l 6 0 0 200 [.ref 6, .int a, .int b, .int c] M (fun r M' => ((∃ s f2, (∃ v : Int64, r = some (.long v) ∧ f2 = f ∧ s = (F, H, n, K, T, L, e)) ∧ zUc M' s f2 B') ∧ ∀ k, zSm k = true → zI M' k = zI M k) ∧ zBo M') := by
  obtain ⟨hC, hK⟩ := hC
  have hC : zHc (zhide zSm M) (F, H, n, K, T, L, e) f := hC
  have hK : zKc (zhide zSm M) F B := hK
  have f1 := hW.1
  have hk4 := hK.2.2.2
  exact h.ccU (P200 h.skc h.ivc (by omega) (by omega) (by omega) (by omega) hC.1.1 hW hK.1 hK.2.1 hK.2.2.1 (fun M' v s I Fr p0 p1 p2 p3 k1 k2 k3 => ⟨⟨_, _, ⟨v, rfl, rfl, rfl⟩, hC.fr (Fr.eq rfl), hK.lk (by omega) k1 k2 k3 (by omega) (by omega) (by omega) (by omega)⟩, s, I⟩))
theorem om29 {X : zX} {l : Launch} {M : zM} {a b c : Int32} {F : Nat → Int} {H : Nat → Nat → Int} {n : Int} {K : Nat → Nat → Int} {T : Nat → Int} {L : Int} {e : zEw} {f : Nat → Int32} (h : zBo M) (hM : zUm M (F, H, n, K, T, L, e) f) (hW : zWF F) : zCall X l 7 0 0 300 [.ref 336, .int a, .int b, .int c] M (fun r M' => ((∃ s f2, (∃ v : Int64, r = some (.long v) ∧ f2 = f ∧ s = (F, H, n, K, T, L, e)) ∧ zUm M' s f2) ∧ ∀ k, zSc k = true → zI M' k = zI M k) ∧ zBo M') := by
  obtain ⟨hM, hK⟩ := hM
  have hM : zHm (zhide zSc M) (F, H, n, K, T, L, e) f := hM
  have hK : zKnB (zhide zSc M) F := hK
  have f1 := hW.1
  exact h.cmU (Q300 h.skm h.ivm h.pR h.pC h.pF hM.1.1 hW hK (fun M' v s I Fr r c p k1 => ⟨⟨_, _, ⟨v, rfl, rfl, rfl⟩, hM.fr (Fr.eq rfl), k1⟩, s, I, r, c, p⟩))
theorem oc30 {X : zX} {l : Launch} {M : zM} {a b : Int32} {F : Nat → Int} {H : Nat → Nat → Int} {n : Int} {K : Nat → Nat → Int} {T : Nat → Int} {L : Int} {e : zEw} {f : Nat → Int32} {B B' : Int} (h : zBo M) (zB : B + 200000 ≤ B') (zB0 : B ≤ 1500000000) (hC : zUc M (F, H, n, K, T, L, e) f B) (hW : zWF F) : zCall X l 6 0 0 201 [.ref 6, .int a, .int b] M (fun r M' => ((∃ s f2, (∃ v : Int32, r = some (.int v) ∧ f2 = f ∧ s = (F, H, n, K, T, L, e)) ∧ zUc M' s f2 B') ∧ ∀ k, zSm k = true → zI M' k = zI M k) ∧ zBo M') := by
  obtain ⟨hC, hK⟩ := hC
  have hC : zHc (zhide zSm M) (F, H, n, K, T, L, e) f := hC
  have hK : zKc (zhide zSm M) F B := hK
  have f1 := hW.1
  have hk4 := hK.2.2.2
  exact h.ccU (P201 h.skc h.ivc (by omega) (by omega) (by omega) (by omega) hC.1.1 hW hK.1 hK.2.1 hK.2.2.1 (fun M' v s I Fr p0 p1 p2 p3 k1 k2 k3 => ⟨⟨_, _, ⟨v, rfl, rfl, rfl⟩, hC.fr (Fr.eq rfl), hK.lk (by omega) k1 k2 k3 (by omega) (by omega) (by omega) (by omega)⟩, s, I⟩))
theorem om30 {X : zX} {l : Launch} {M : zM} {a b : Int32} {F : Nat → Int} {H : Nat → Nat → Int} {n : Int} {K : Nat → Nat → Int} {T : Nat → Int} {L : Int} {e : zEw} {f : Nat → Int32} (h : zBo M) (hM : zUm M (F, H, n, K, T, L, e) f) (hW : zWF F) : zCall X l 7 0 0 336 [.ref 336, .int a, .int b] M (fun r M' => ((∃ s f2, (∃ v : Int32, r = some (.int v) ∧ f2 = f ∧ s = (F, H, n, K, T, L, e)) ∧ zUm M' s f2) ∧ ∀ k, zSc k = true → zI M' k = zI M k) ∧ zBo M') := by
  obtain ⟨hM, hK⟩ := hM
  have hM : zHm (zhide zSc M) (F, H, n, K, T, L, e) f := hM
  have hK : zKnB (zhide zSc M) F := hK
  have f1 := hW.1
  exact h.cmU (Q336 h.skm h.ivm h.pR h.pC h.pF hM.1.1 hW hK (fun M' v s I Fr r c p k1 => ⟨⟨_, _, ⟨v, rfl, rfl, rfl⟩, hM.fr (Fr.eq rfl), k1⟩, s, I, r, c, p⟩))
theorem oc31 {X : zX} {l : Launch} {M : zM} {a : Int32} {F : Nat → Int} {H : Nat → Nat → Int} {n : Int} {K : Nat → Nat → Int} {T : Nat → Int} {L : Int} {e : zEw} {f : Nat → Int32} {B B' : Int} (h : zBo M) (zB : B + 200000 ≤ B') (zB0 : B ≤ 1500000000) (hC : zUc M (F, H, n, K, T, L, e) f B) (hW : zWF F) : zCall X l 6 0 0 203 [.ref 6, .int a] M (fun r M' => ((∃ s f2, (∃ v : Int32, r = some (.int v) ∧ f2 = f ∧ s = (F, H, n, K, T, L, e)) ∧ zUc M' s f2 B') ∧ ∀ k, zSm k = true → zI M' k = zI M k) ∧ zBo M') := by
  obtain ⟨hC, hK⟩ := hC
  have hC : zHc (zhide zSm M) (F, H, n, K, T, L, e) f := hC
  have hK : zKc (zhide zSm M) F B := hK
  have f1 := hW.1
  have hk4 := hK.2.2.2
  exact h.ccU (P203 h.skc h.ivc (by omega) (by omega) (by omega) (by omega) hC.1.1 hW hK.1 hK.2.1 hK.2.2.1 (fun M' v s I Fr p0 p1 p2 p3 k1 k2 k3 => ⟨⟨_, _, ⟨v, rfl, rfl, rfl⟩, hC.fr (Fr.eq rfl), hK.lk (by omega) k1 k2 k3 (by omega) (by omega) (by omega) (by omega)⟩, s, I⟩))
theorem om31 {X : zX} {l : Launch} {M : zM} {a : Int32} {F : Nat → Int} {H : Nat → Nat → Int} {n : Int} {K : Nat → Nat → Int} {T : Nat → Int} {L : Int} {e : zEw} {f : Nat → Int32} (h : zBo M) (hM : zUm M (F, H, n, K, T, L, e) f) (hW : zWF F) : zCall X l 7 0 0 338 [.ref 336, .int a] M (fun r M' => ((∃ s f2, (∃ v : Int32, r = some (.int v) ∧ f2 = f ∧ s = (F, H, n, K, T, L, e)) ∧ zUm M' s f2) ∧ ∀ k, zSc k = true → zI M' k = zI M k) ∧ zBo M') := by
  obtain ⟨hM, hK⟩ := hM
  have hM : zHm (zhide zSc M) (F, H, n, K, T, L, e) f := hM
  have hK : zKnB (zhide zSc M) F := hK
  have f1 := hW.1
  exact h.cmU (Q338 h.skm h.ivm h.pR h.pC h.pF hM.1.1 hW hK (fun M' v s I Fr r c p k1 => ⟨⟨_, _, ⟨v, rfl, rfl, rfl⟩, hM.fr (Fr.eq rfl), k1⟩, s, I, r, c, p⟩))
theorem oc32 {X : zX} {l : Launch} {M : zM} {a b : Int32} {F : Nat → Int} {H : Nat → Nat → Int} {n : Int} {K : Nat → Nat → Int} {T : Nat → Int} {L : Int} {e : zEw} {f : Nat → Int32} {B B' : Int} (h : zBo M) (zB : B + 200000 ≤ B') (zB0 : B ≤ 1500000000) (hC : zUc M (F, H, n, K, T, L, e) f B) (hW : zWF F) : zCall X l 6 0 0 204 [.ref 6, .int a, .int b] M (fun r M' => ((∃ s f2, (∃ v : Int32, r = some (.int v) ∧ f2 = f ∧ s = (F, H, n, K, T, L, e)) ∧ zUc M' s f2 B') ∧ ∀ k, zSm k = true → zI M' k = zI M k) ∧ zBo M') := by
  obtain ⟨hC, hK⟩ := hC
  have hC : zHc (zhide zSm M) (F, H, n, K, T, L, e) f := hC
  have hK : zKc (zhide zSm M) F B := hK
  have f1 := hW.1
  have hk4 := hK.2.2.2
  exact h.ccU (P204 h.skc h.ivc (by omega) (by omega) (by omega) (by omega) hC.1.1 hW hK.1 hK.2.1 hK.2.2.1 (fun M' v s I Fr p0 p1 p2 p3 k1 k2 k3 => ⟨⟨_, _, ⟨v, rfl, rfl, rfl⟩, hC.fr (Fr.eq rfl), hK.lk (by omega) k1 k2 k3 (by omega) (by omega) (by omega) (by omega)⟩, s, I⟩))
theorem om32 {X : zX} {l : Launch} {M : zM} {a b : Int32} {F : Nat → Int} {H : Nat → Nat → Int} {n : Int} {K : Nat → Nat → Int} {T : Nat → Int} {L : Int} {e : zEw} {f : Nat → Int32} (h : zBo M) (hM : zUm M (F, H, n, K, T, L, e) f) (hW : zWF F) : zCall X l 7 0 0 339 [.ref 336, .int a, .int b] M (fun r M' => ((∃ s f2, (∃ v : Int32, r = some (.int v) ∧ f2 = f ∧ s = (F, H, n, K, T, L, e)) ∧ zUm M' s f2) ∧ ∀ k, zSc k = true → zI M' k = zI M k) ∧ zBo M') := by
  obtain ⟨hM, hK⟩ := hM
  have hM : zHm (zhide zSc M) (F, H, n, K, T, L, e) f := hM
  have hK : zKnB (zhide zSc M) F := hK
  have f1 := hW.1
  exact h.cmU (Q339 h.skm h.ivm h.pR h.pC h.pF hM.1.1 hW hK (fun M' v s I Fr r c p k1 => ⟨⟨_, _, ⟨v, rfl, rfl, rfl⟩, hM.fr (Fr.eq rfl), k1⟩, s, I, r, c, p⟩))
theorem oc33 {X : zX} {l : Launch} {M : zM} {a b : Int32} {F : Nat → Int} {H : Nat → Nat → Int} {n : Int} {K : Nat → Nat → Int} {T : Nat → Int} {L : Int} {e : zEw} {f : Nat → Int32} {B B' : Int} (h : zBo M) (zB : B + 200000 ≤ B') (zB0 : B ≤ 1500000000) (hC : zUc M (F, H, n, K, T, L, e) f B) (hW : zWF F) : zCall X l 6 0 0 205 [.ref 6, .int a, .int b] M (fun r M' => ((∃ s f2, (∃ v : Int32, r = some (.int v) ∧ f2 = f ∧ s = (F, H, n, K, T, L, e)) ∧ zUc M' s f2 B') ∧ ∀ k, zSm k = true → zI M' k = zI M k) ∧ zBo M') := by
  obtain ⟨hC, hK⟩ := hC
  have hC : zHc (zhide zSm M) (F, H, n, K, T, L, e) f := hC
  have hK : zKc (zhide zSm M) F B := hK
  have f1 := hW.1
  have hk4 := hK.2.2.2
  exact h.ccU (P205 h.skc h.ivc (by omega) (by omega) (by omega) (by omega) hC.1.1 hW hK.1 hK.2.1 hK.2.2.1 (fun M' v s I Fr p0 p1 p2 p3 k1 k2 k3 => ⟨⟨_, _, ⟨v, rfl, rfl, rfl⟩, hC.fr (Fr.eq rfl), hK.lk (by omega) k1 k2 k3 (by omega) (by omega) (by omega) (by omega)⟩, s, I⟩))
theorem om33 {X : zX} {l : Launch} {M : zM} {a b : Int32} {F : Nat → Int} {H : Nat → Nat → Int} {n : Int} {K : Nat → Nat → Int} {T : Nat → Int} {L : Int} {e : zEw} {f : Nat → Int32} (h : zBo M) (hM : zUm M (F, H, n, K, T, L, e) f) (hW : zWF F) : zCall X l 7 0 0 340 [.ref 336, .int a, .int b] M (fun r M' => ((∃ s f2, (∃ v : Int32, r = some (.int v) ∧ f2 = f ∧ s = (F, H, n, K, T, L, e)) ∧ zUm M' s f2) ∧ ∀ k, zSc k = true → zI M' k = zI M k) ∧ zBo M') := by
  obtain ⟨hM, hK⟩ := hM
  have hM : zHm (zhide zSc M) (F, H, n, K, T, L, e) f := hM
  have hK : zKnB (zhide zSc M) F := hK
  have f1 := hW.1
  exact h.cmU (Q340 h.skm h.ivm h.pR h.pC h.pF hM.1.1 hW hK (fun M' v s I Fr r c p k1 => ⟨⟨_, _, ⟨v, rfl, rfl, rfl⟩, hM.fr (Fr.eq rfl), k1⟩, s, I, r, c, p⟩))
theorem oc34 {X : zX} {l : Launch} {M : zM} {a b : Int32} {F : Nat → Int} {H : Nat → Nat → Int} {n : Int} {K : Nat → Nat → Int} {T : Nat → Int} {L : Int} {e : zEw} {f : Nat → Int32} {B B' : Int} (h : zBo M) (zB : B + 200000 ≤ B') (zB0 : B ≤ 1500000000) (hC : zUc M (F, H, n, K, T, L, e) f B) (hW : zWF F) : zCall X l 4 0 0 206 [.ref 6, .int a, .int b] M (fun r M' => ((∃ s f2, (∃ v : Int32, r = some (.int v) ∧ f2 = f ∧ ((v.toInt = -1 ∧ (a.toInt < 0 ∨ F 0 ≤ a.toInt ∨ b.toInt < -999 ∨ 999 < b.toInt) ∧ s = (F, H, n, K, T, L, e)) ∨ (0 ≤ a.toInt ∧ a.toInt < F 0 ∧ -999 ≤ b.toInt ∧ b.toInt ≤ 999 ∧ v.toInt = pct (zab F a.toInt b.toInt) (F 1).toNat ∧ s = (pAl F a.toInt b.toInt (F 1).toNat, pushH F H, nP n, K, T, L, e)))) ∧ zUc M' s f2 B') ∧ ∀ k, zSm k = true → zI M' k = zI M k) ∧ zBo M') := by
  obtain ⟨hC, hK⟩ := hC
  have hC : zHc (zhide zSm M) (F, H, n, K, T, L, e) f := hC
  have hK : zKc (zhide zSm M) F B := hK
  have f1 := hW.1
  have hl : (zI (zhide zSm M) 155 1).toInt = L := hC.2.1
  have hf : zI (zhide zSm M) 156 = f := hC.2.2.1
  refine h.ccU (S206 h.skc h.ivc hC.1.1 hC.1.2.1 hC.1.2.2 hW (fun M' v s I Fr qf x => ⟨?_, s, I⟩))
  have qf : ((zI M' 164 0).toInt = 0 ∧ (zI M' 325 0).toInt = 0) ∨ (v.toInt = -1 ∧ (zI M' 164 0).toInt = (zI (zhide zSm M) 164 0).toInt ∧ (zI M' 325 0).toInt = (zI (zhide zSm M) 325 0).toInt) := qf
  rcases x with ⟨q1, q2, qs⟩ | ⟨q1, q2, q3, q4, q5, qs⟩
  · have q2 : (a.toInt < 0 ∨ F 0 ≤ a.toInt ∨ b.toInt < -999 ∨ 999 < b.toInt) := q2
    exact ⟨_, _, ⟨v, rfl, rfl, Or.inl ⟨q1, q2, rfl⟩⟩, hC.mk qs (Fr.eq rfl), (by rcases qf with z | z; exact hK.fl (by omega) (by omega) (Fr.eq rfl); exact hK.sm (by omega) (by omega) (Fr.eq rfl))⟩
  · have q2 : a.toInt < F 0 := q2
    have q5 : v.toInt = pct (zab F a.toInt b.toInt) (F 1).toNat := q5
    have pn : 0 ≤ v.toInt := by rw [q5]; exact pct.nn _
    exact ⟨_, _, ⟨v, rfl, rfl, Or.inr ⟨q1, q2, q3, q4, q5, rfl⟩⟩, hC.mk qs (Fr.eq rfl), (hK.fl (by omega) (by omega) (Fr.eq rfl))⟩
theorem om34 {X : zX} {l : Launch} {M : zM} {a b : Int32} {F : Nat → Int} {H : Nat → Nat → Int} {n : Int} {K : Nat → Nat → Int} {T : Nat → Int} {L : Int} {e : zEw} {f : Nat → Int32} (h : zBo M) (hM : zUm M (F, H, n, K, T, L, e) f) (hW : zWF F) : zCall X l 2 0 0 335 [.ref 336, .int a, .int b] M (fun r M' => ((∃ s f2, (∃ v : Int32, r = some (.int v) ∧ f2 = f ∧ ((v.toInt = -1 ∧ (a.toInt < 0 ∨ F 0 ≤ a.toInt ∨ b.toInt < -999 ∨ 999 < b.toInt) ∧ s = (F, H, n, K, T, L, e)) ∨ (0 ≤ a.toInt ∧ a.toInt < F 0 ∧ -999 ≤ b.toInt ∧ b.toInt ≤ 999 ∧ v.toInt = pct (zab F a.toInt b.toInt) (F 1).toNat ∧ s = (pAl F a.toInt b.toInt (F 1).toNat, pushH F H, nP n, K, T, L, e)))) ∧ zUm M' s f2) ∧ ∀ k, zSc k = true → zI M' k = zI M k) ∧ zBo M') := by
  obtain ⟨hM, hK⟩ := hM
  have hM : zHm (zhide zSc M) (F, H, n, K, T, L, e) f := hM
  have hK : zKnB (zhide zSc M) F := hK
  have f1 := hW.1
  have hl : (zI (zhide zSc M) 336 5).toInt = L := hM.2.1
  have hf : zI (zhide zSc M) 339 = f := hM.2.2.1
  refine h.cmU (R335 h.skm h.ivm h.pR h.pC h.pF hM.1.1 hM.1.2.1 hM.1.2.2 hW (fun M' v s I Fr J r cc p qf x => ⟨?_, s, I, r, cc, p⟩))
  have qf : (zI M' 336 3).toInt = 0 ∨ (v.toInt = -1 ∧ (zI M' 336 3).toInt = (zI (zhide zSc M) 336 3).toInt) := qf
  rcases x with ⟨q1, q2, qs⟩ | ⟨q1, q2, q3, q4, q5, qs⟩
  · have q2 : (a.toInt < 0 ∨ F 0 ≤ a.toInt ∨ b.toInt < -999 ∨ 999 < b.toInt) := q2
    exact ⟨_, _, ⟨v, rfl, rfl, Or.inl ⟨q1, q2, rfl⟩⟩, hM.mk qs (Fr.eq rfl), (by rcases qf with z | z; exact zKnB.fl (by omega); exact hK.sm (by omega) (Fr.eq rfl))⟩
  · have q2 : a.toInt < F 0 := q2
    have q5 : v.toInt = pct (zab F a.toInt b.toInt) (F 1).toNat := q5
    have pn : 0 ≤ v.toInt := by rw [q5]; exact pct.nn _
    exact ⟨_, _, ⟨v, rfl, rfl, Or.inr ⟨q1, q2, q3, q4, q5, rfl⟩⟩, hM.mk qs (Fr.eq rfl), (zKnB.fl (by omega))⟩
theorem oc35 {X : zX} {l : Launch} {M : zM} {a b : Int32} {F : Nat → Int} {H : Nat → Nat → Int} {n : Int} {K : Nat → Nat → Int} {T : Nat → Int} {L : Int} {e : zEw} {f : Nat → Int32} {B B' : Int} (h : zBo M) (zB : B + 200000 ≤ B') (zB0 : B ≤ 1500000000) (hC : zUc M (F, H, n, K, T, L, e) f B) (hW : zWF F) : zCall X l 6 0 0 207 [.ref 6, .int a, .int b] M (fun r M' => ((∃ s f2, (∃ v : Int32, r = some (.int v) ∧ f2 = f ∧ s = (F, H, n, K, T, L, e)) ∧ zUc M' s f2 B') ∧ ∀ k, zSm k = true → zI M' k = zI M k) ∧ zBo M') := by
  obtain ⟨hC, hK⟩ := hC
  have hC : zHc (zhide zSm M) (F, H, n, K, T, L, e) f := hC
  have hK : zKc (zhide zSm M) F B := hK
  have f1 := hW.1
  have hk4 := hK.2.2.2
  exact h.ccU (P207 h.skc h.ivc (by omega) (by omega) (by omega) (by omega) hC.1.1 hW hK.1 hK.2.1 hK.2.2.1 (fun M' v s I Fr p0 p1 p2 p3 k1 k2 k3 => ⟨⟨_, _, ⟨v, rfl, rfl, rfl⟩, hC.fr (Fr.eq rfl), hK.lk (by omega) k1 k2 k3 (by omega) (by omega) (by omega) (by omega)⟩, s, I⟩))
theorem om35 {X : zX} {l : Launch} {M : zM} {a b : Int32} {F : Nat → Int} {H : Nat → Nat → Int} {n : Int} {K : Nat → Nat → Int} {T : Nat → Int} {L : Int} {e : zEw} {f : Nat → Int32} (h : zBo M) (hM : zUm M (F, H, n, K, T, L, e) f) (hW : zWF F) : zCall X l 7 0 0 302 [.ref 336, .int a, .int b] M (fun r M' => ((∃ s f2, (∃ v : Int32, r = some (.int v) ∧ f2 = f ∧ s = (F, H, n, K, T, L, e)) ∧ zUm M' s f2) ∧ ∀ k, zSc k = true → zI M' k = zI M k) ∧ zBo M') := by
  obtain ⟨hM, hK⟩ := hM
  have hM : zHm (zhide zSc M) (F, H, n, K, T, L, e) f := hM
  have hK : zKnB (zhide zSc M) F := hK
  have f1 := hW.1
  exact h.cmU (Q302 h.skm h.ivm h.pR h.pC h.pF hM.1.1 hW hK (fun M' v s I Fr r c p k1 => ⟨⟨_, _, ⟨v, rfl, rfl, rfl⟩, hM.fr (Fr.eq rfl), k1⟩, s, I, r, c, p⟩))
theorem oc36 {X : zX} {l : Launch} {M : zM} {a b : Int32} {F : Nat → Int} {H : Nat → Nat → Int} {n : Int} {K : Nat → Nat → Int} {T : Nat → Int} {L : Int} {e : zEw} {f : Nat → Int32} {B B' : Int} (h : zBo M) (zB : B + 200000 ≤ B') (zB0 : B ≤ 1500000000) (hC : zUc M (F, H, n, K, T, L, e) f B) (hW : zWF F) : zCall X l 2 0 0 210 [.ref 6, .int a, .int b] M (fun r M' => ((∃ s f2, (∃ v : Int32, r = some (.int v) ∧ f2 = f ∧ s = (F, H, n, K, T, L, e)) ∧ zUc M' s f2 B') ∧ ∀ k, zSm k = true → zI M' k = zI M k) ∧ zBo M') := by
  obtain ⟨hC, hK⟩ := hC
  have hC : zHc (zhide zSm M) (F, H, n, K, T, L, e) f := hC
  have hK : zKc (zhide zSm M) F B := hK
  have f1 := hW.1
  exact h.ccU (O210 h.skc h.ivc hC.1.1 hW (fun v _ => ⟨⟨_, _, ⟨v, rfl, rfl, rfl⟩, hC, hK.fr (by omega) (fun _ _ _ => rfl)⟩, h.skc, h.ivc⟩))
theorem om36 {X : zX} {l : Launch} {M : zM} {a b : Int32} {F : Nat → Int} {H : Nat → Nat → Int} {n : Int} {K : Nat → Nat → Int} {T : Nat → Int} {L : Int} {e : zEw} {f : Nat → Int32} (h : zBo M) (hM : zUm M (F, H, n, K, T, L, e) f) (hW : zWF F) : zCall X l 1 0 0 341 [.ref 336, .int a, .int b] M (fun r M' => ((∃ s f2, (∃ v : Int32, r = some (.int v) ∧ f2 = f ∧ s = (F, H, n, K, T, L, e)) ∧ zUm M' s f2) ∧ ∀ k, zSc k = true → zI M' k = zI M k) ∧ zBo M') := by
  obtain ⟨hM, hK⟩ := hM
  have hM : zHm (zhide zSc M) (F, H, n, K, T, L, e) f := hM
  have hK : zKnB (zhide zSc M) F := hK
  have f1 := hW.1
  exact h.cmU (O341 h.skm h.ivm hM.1.1 hW (fun v _ => ⟨⟨_, _, ⟨v, rfl, rfl, rfl⟩, hM, hK⟩, h.skm, h.ivm, h.pR, h.pC, h.pF⟩))
theorem oc37 {X : zX} {l : Launch} {M : zM} {F : Nat → Int} {H : Nat → Nat → Int} {n : Int} {K : Nat → Nat → Int} {T : Nat → Int} {L : Int} {e : zEw} {f : Nat → Int32} {B B' : Int} (h : zBo M) (zB : B + 200000 ≤ B') (zB0 : B ≤ 1500000000) (hC : zUc M (F, H, n, K, T, L, e) f B) (hW : zWF F) : zCall X l 4 0 0 212 [.ref 6] M (fun r M' => ((∃ s f2, (∃ v : Int32, r = some (.int v) ∧ f2 = f ∧ ((v.toInt = -1 ∧ n ≤ 0 ∧ s = (F, H, n, K, T, L, e)) ∨ (0 < n ∧ v.toInt = n - 1 ∧ s = (H 0, popH H, n - 1, K, T, L, e)))) ∧ zUc M' s f2 B') ∧ ∀ k, zSm k = true → zI M' k = zI M k) ∧ zBo M') := by
  obtain ⟨hC, hK⟩ := hC
  have hC : zHc (zhide zSm M) (F, H, n, K, T, L, e) f := hC
  have hK : zKc (zhide zSm M) F B := hK
  have f1 := hW.1
  have hl : (zI (zhide zSm M) 155 1).toInt = L := hC.2.1
  have hf : zI (zhide zSm M) 156 = f := hC.2.2.1
  refine h.ccU (S212 h.skc h.ivc hC.1.1 hC.1.2.1 hC.1.2.2 hW (fun M' v s I Fr qf x => ⟨?_, s, I⟩))
  have qf : ((zI M' 164 0).toInt = 0 ∧ (zI M' 325 0).toInt = 0) ∨ (v.toInt = -1 ∧ (zI M' 164 0).toInt = (zI (zhide zSm M) 164 0).toInt ∧ (zI M' 325 0).toInt = (zI (zhide zSm M) 325 0).toInt) := qf
  rcases x with ⟨q1, q2, qs⟩ | ⟨q1, q2, qs⟩
  · exact ⟨_, _, ⟨v, rfl, rfl, Or.inl ⟨q1, q2, rfl⟩⟩, hC.mk qs (Fr.eq rfl), (by rcases qf with z | z; exact hK.fl (by omega) (by omega) (Fr.eq rfl); exact hK.sm (by omega) (by omega) (Fr.eq rfl))⟩
  · exact ⟨_, _, ⟨v, rfl, rfl, Or.inr ⟨q1, q2, rfl⟩⟩, hC.mk qs (Fr.eq rfl), (hK.fl (by omega) (by omega) (Fr.eq rfl))⟩
theorem om37 {X : zX} {l : Launch} {M : zM} {F : Nat → Int} {H : Nat → Nat → Int} {n : Int} {K : Nat → Nat → Int} {T : Nat → Int} {L : Int} {e : zEw} {f : Nat → Int32} (h : zBo M) (hM : zUm M (F, H, n, K, T, L, e) f) (hW : zWF F) : zCall X l 1 0 0 225 [.ref 336] M (fun r M' => ((∃ s f2, (∃ v : Int32, r = some (.int v) ∧ f2 = f ∧ ((v.toInt = -1 ∧ n ≤ 0 ∧ s = (F, H, n, K, T, L, e)) ∨ (0 < n ∧ v.toInt = n - 1 ∧ s = (H 0, popH H, n - 1, K, T, L, e)))) ∧ zUm M' s f2) ∧ ∀ k, zSc k = true → zI M' k = zI M k) ∧ zBo M') := by
  obtain ⟨hM, hK⟩ := hM
  have hM : zHm (zhide zSc M) (F, H, n, K, T, L, e) f := hM
  have hK : zKnB (zhide zSc M) F := hK
  have f1 := hW.1
  have hl : (zI (zhide zSc M) 336 5).toInt = L := hM.2.1
  have hf : zI (zhide zSc M) 339 = f := hM.2.2.1
  refine h.cmU (R225 h.skm h.ivm h.pR h.pC h.pF hM.1.1 hM.1.2.1 hM.1.2.2 hW (fun M' v s I Fr J r cc p qf x => ⟨?_, s, I, r, cc, p⟩))
  have qf : (zI M' 336 3).toInt = 0 ∨ (v.toInt = -1 ∧ (zI M' 336 3).toInt = (zI (zhide zSc M) 336 3).toInt) := qf
  rcases x with ⟨q1, q2, qs⟩ | ⟨q1, q2, qs⟩
  · exact ⟨_, _, ⟨v, rfl, rfl, Or.inl ⟨q1, q2, rfl⟩⟩, hM.mk qs (Fr.eq rfl), (by rcases qf with z | z; exact zKnB.fl (by omega); exact hK.sm (by omega) (Fr.eq rfl))⟩
  · exact ⟨_, _, ⟨v, rfl, rfl, Or.inr ⟨q1, q2, rfl⟩⟩, hM.mk qs (Fr.eq rfl), (zKnB.fl (by omega))⟩
theorem oc38 {X : zX} {l : Launch} {M : zM} {a : Int32} {F : Nat → Int} {H : Nat → Nat → Int} {n : Int} {K : Nat → Nat → Int} {T : Nat → Int} {L : Int} {e : zEw} {f : Nat → Int32} {B B' : Int} (h : zBo M) (zB : B + 200000 ≤ B') (zB0 : B ≤ 1500000000) (hC : zUc M (F, H, n, K, T, L, e) f B) (hW : zWF F) : zCall X l 4 0 0 214 [.ref 6, .int a] M (fun r M' => ((∃ s f2, (∃ v : Int32, r = some (.int v) ∧ f2 = f ∧ ((v.toInt = 0 ∧ (a.toInt < 0 ∨ 1 < a.toInt) ∧ s = (F, H, n, K, T, L, e)) ∨ (v.toInt = 1 ∧ 0 ≤ a.toInt ∧ a.toInt ≤ 1 ∧ s = (F, H, n, uK K a.toInt.toNat F, uS T a.toInt.toNat 1, L, e)))) ∧ zUc M' s f2 B') ∧ ∀ k, zSm k = true → zI M' k = zI M k) ∧ zBo M') := by
  obtain ⟨hC, hK⟩ := hC
  have hC : zHc (zhide zSm M) (F, H, n, K, T, L, e) f := hC
  have hK : zKc (zhide zSm M) F B := hK
  have f1 := hW.1
  have hl : (zI (zhide zSm M) 155 1).toInt = L := hC.2.1
  have hf : zI (zhide zSm M) 156 = f := hC.2.2.1
  refine h.ccU (S214 h.skc h.ivc hC.1.1 hC.1.2.1 hC.1.2.2 hW (fun M' v s I Fr qf x _ _ => ⟨?_, s, I⟩))
  have qf : (zI M' 164 0).toInt = (zI (zhide zSm M) 164 0).toInt ∧ (zI M' 325 0).toInt = (zI (zhide zSm M) 325 0).toInt := qf
  rcases x with ⟨q1, q2, qs⟩ | ⟨q1, q2, q3, qs⟩
  · exact ⟨_, _, ⟨v, rfl, rfl, Or.inl ⟨q1, q2, rfl⟩⟩, hC.mk qs (Fr.eq rfl), (hK.sm (by omega) (by omega) (Fr.eq rfl))⟩
  · exact ⟨_, _, ⟨v, rfl, rfl, Or.inr ⟨q1, q2, q3, rfl⟩⟩, hC.mk qs (Fr.eq rfl), (hK.sm (by omega) (by omega) (Fr.eq rfl))⟩
theorem om38 {X : zX} {l : Launch} {M : zM} {a : Int32} {F : Nat → Int} {H : Nat → Nat → Int} {n : Int} {K : Nat → Nat → Int} {T : Nat → Int} {L : Int} {e : zEw} {f : Nat → Int32} (h : zBo M) (hM : zUm M (F, H, n, K, T, L, e) f) (hW : zWF F) : zCall X l 1 0 0 227 [.ref 336, .int a] M (fun r M' => ((∃ s f2, (∃ v : Int32, r = some (.int v) ∧ f2 = f ∧ ((v.toInt = 0 ∧ (a.toInt < 0 ∨ 1 < a.toInt) ∧ s = (F, H, n, K, T, L, e)) ∨ (v.toInt = 1 ∧ 0 ≤ a.toInt ∧ a.toInt ≤ 1 ∧ s = (F, H, n, uK K a.toInt.toNat F, uS T a.toInt.toNat 1, L, e)))) ∧ zUm M' s f2) ∧ ∀ k, zSc k = true → zI M' k = zI M k) ∧ zBo M') := by
  obtain ⟨hM, hK⟩ := hM
  have hM : zHm (zhide zSc M) (F, H, n, K, T, L, e) f := hM
  have hK : zKnB (zhide zSc M) F := hK
  have f1 := hW.1
  have hl : (zI (zhide zSc M) 336 5).toInt = L := hM.2.1
  have hf : zI (zhide zSc M) 339 = f := hM.2.2.1
  refine h.cmU (R227 h.skm h.ivm h.pR h.pC h.pF hM.1.1 hM.1.2.1 hM.1.2.2 hW (fun M' v s I Fr J r cc p qf x _ _ => ⟨?_, s, I, r, cc, p⟩))
  have qf : (zI M' 336 3).toInt = (zI (zhide zSc M) 336 3).toInt := qf
  rcases x with ⟨q1, q2, qs⟩ | ⟨q1, q2, q3, qs⟩
  · exact ⟨_, _, ⟨v, rfl, rfl, Or.inl ⟨q1, q2, rfl⟩⟩, hM.mk qs (Fr.eq rfl), (hK.sm (by omega) (Fr.eq rfl))⟩
  · exact ⟨_, _, ⟨v, rfl, rfl, Or.inr ⟨q1, q2, q3, rfl⟩⟩, hM.mk qs (Fr.eq rfl), (hK.sm (by omega) (Fr.eq rfl))⟩
theorem oc39 {X : zX} {l : Launch} {M : zM} {a : Int32} {F : Nat → Int} {H : Nat → Nat → Int} {n : Int} {K : Nat → Nat → Int} {T : Nat → Int} {L : Int} {e : zEw} {f : Nat → Int32} {B B' : Int} (h : zBo M) (zB : B + 200000 ≤ B') (zB0 : B ≤ 1500000000) (hC : zUc M (F, H, n, K, T, L, e) f B) (hW : zWF F) : zCall X l 4 0 0 216 [.ref 6, .int a] M (fun r M' => ((∃ s f2, (∃ v : Int32, r = some (.int v) ∧ f2 = f ∧ ((v.toInt = 0 ∧ (a.toInt < 0 ∨ 1 < a.toInt ∨ (0 ≤ a.toInt ∧ a.toInt ≤ 1 ∧ T a.toInt.toNat ≠ 1)) ∧ s = (F, H, n, K, T, L, e)) ∨ (v.toInt = 1 ∧ 0 ≤ a.toInt ∧ a.toInt ≤ 1 ∧ T a.toInt.toNat = 1 ∧ s = (K a.toInt.toNat, pushH F H, nP n, K, T, L, e)))) ∧ zUc M' s f2 B') ∧ ∀ k, zSm k = true → zI M' k = zI M k) ∧ zBo M') := by
  obtain ⟨hC, hK⟩ := hC
  have hC : zHc (zhide zSm M) (F, H, n, K, T, L, e) f := hC
  have hK : zKc (zhide zSm M) F B := hK
  have f1 := hW.1
  have hl : (zI (zhide zSm M) 155 1).toInt = L := hC.2.1
  have hf : zI (zhide zSm M) 156 = f := hC.2.2.1
  refine h.ccU (S216 h.skc h.ivc hC.1.1 hC.1.2.1 hC.1.2.2 hW (fun M' v s I Fr qf x _ _ => ⟨?_, s, I⟩))
  have qf : ((zI M' 164 0).toInt = 0 ∧ (zI M' 325 0).toInt = 0) ∨ (v.toInt = 0 ∧ (zI M' 164 0).toInt = (zI (zhide zSm M) 164 0).toInt ∧ (zI M' 325 0).toInt = (zI (zhide zSm M) 325 0).toInt) := qf
  rcases x with ⟨q1, q2, qs⟩ | ⟨q1, q2, q3, q4, qs⟩
  · have q2 : (a.toInt < 0 ∨ 1 < a.toInt ∨ (0 ≤ a.toInt ∧ a.toInt ≤ 1 ∧ T a.toInt.toNat ≠ 1)) := q2
    exact ⟨_, _, ⟨v, rfl, rfl, Or.inl ⟨q1, q2, rfl⟩⟩, hC.mk qs (Fr.eq rfl), (by rcases qf with z | z; exact hK.fl (by omega) (by omega) (Fr.eq rfl); exact hK.sm (by omega) (by omega) (Fr.eq rfl))⟩
  · have q4 : T a.toInt.toNat = 1 := q4
    exact ⟨_, _, ⟨v, rfl, rfl, Or.inr ⟨q1, q2, q3, q4, rfl⟩⟩, hC.mk qs (Fr.eq rfl), (hK.fl (by omega) (by omega) (Fr.eq rfl))⟩
theorem om39 {X : zX} {l : Launch} {M : zM} {a : Int32} {F : Nat → Int} {H : Nat → Nat → Int} {n : Int} {K : Nat → Nat → Int} {T : Nat → Int} {L : Int} {e : zEw} {f : Nat → Int32} (h : zBo M) (hM : zUm M (F, H, n, K, T, L, e) f) (hW : zWF F) : zCall X l 2 0 0 229 [.ref 336, .int a] M (fun r M' => ((∃ s f2, (∃ v : Int32, r = some (.int v) ∧ f2 = f ∧ ((v.toInt = 0 ∧ (a.toInt < 0 ∨ 1 < a.toInt ∨ (0 ≤ a.toInt ∧ a.toInt ≤ 1 ∧ T a.toInt.toNat ≠ 1)) ∧ s = (F, H, n, K, T, L, e)) ∨ (v.toInt = 1 ∧ 0 ≤ a.toInt ∧ a.toInt ≤ 1 ∧ T a.toInt.toNat = 1 ∧ s = (K a.toInt.toNat, pushH F H, nP n, K, T, L, e)))) ∧ zUm M' s f2) ∧ ∀ k, zSc k = true → zI M' k = zI M k) ∧ zBo M') := by
  obtain ⟨hM, hK⟩ := hM
  have hM : zHm (zhide zSc M) (F, H, n, K, T, L, e) f := hM
  have hK : zKnB (zhide zSc M) F := hK
  have f1 := hW.1
  have hl : (zI (zhide zSc M) 336 5).toInt = L := hM.2.1
  have hf : zI (zhide zSc M) 339 = f := hM.2.2.1
  refine h.cmU (R229 h.skm h.ivm h.pR h.pC h.pF hM.1.1 hM.1.2.1 hM.1.2.2 hW (fun M' v s I Fr J r cc p qf x _ _ => ⟨?_, s, I, r, cc, p⟩))
  have qf : (zI M' 336 3).toInt = 0 ∨ (v.toInt = 0 ∧ (zI M' 336 3).toInt = (zI (zhide zSc M) 336 3).toInt) := qf
  rcases x with ⟨q1, q2, qs⟩ | ⟨q1, q2, q3, q4, qs⟩
  · have q2 : (a.toInt < 0 ∨ 1 < a.toInt ∨ (0 ≤ a.toInt ∧ a.toInt ≤ 1 ∧ T a.toInt.toNat ≠ 1)) := q2
    exact ⟨_, _, ⟨v, rfl, rfl, Or.inl ⟨q1, q2, rfl⟩⟩, hM.mk qs (Fr.eq rfl), (by rcases qf with z | z; exact zKnB.fl (by omega); exact hK.sm (by omega) (Fr.eq rfl))⟩
  · have q4 : T a.toInt.toNat = 1 := q4
    exact ⟨_, _, ⟨v, rfl, rfl, Or.inr ⟨q1, q2, q3, q4, rfl⟩⟩, hM.mk qs (Fr.eq rfl), (zKnB.fl (by omega))⟩
theorem oc40 {X : zX} {l : Launch} {M : zM} {F : Nat → Int} {H : Nat → Nat → Int} {n : Int} {K : Nat → Nat → Int} {T : Nat → Int} {L : Int} {e : zEw} {f : Nat → Int32} {B B' : Int} (h : zBo M) (zB : B + 200000 ≤ B') (zB0 : B ≤ 1500000000) (hC : zUc M (F, H, n, K, T, L, e) f B) (hW : zWF F) : zCall X l 3 0 0 219 [.ref 6] M (fun r M' => ((∃ s f2, (∃ v : Int32, r = some (.int v) ∧ f2 = f ∧ v.toInt = (wAll F).1 ∧ s = (F, H, n, K, T, L, (e.1, wAll F))) ∧ zUc M' s f2 B') ∧ ∀ k, zSm k = true → zI M' k = zI M k) ∧ zBo M') := by
  obtain ⟨hC, hK⟩ := hC
  have hC : zHc (zhide zSm M) (F, H, n, K, T, L, e) f := hC
  have hK : zKc (zhide zSm M) F B := hK
  have f1 := hW.1
  refine h.ccU (O219 h.skc h.ivc hC.1.1 hW (fun M' v s I Fr q => ⟨⟨_, _, ⟨v, rfl, rfl, q.1, rfl⟩, hC.mkW q.2 (Fr.eq rfl), hK.fr (by omega) (Fr.eq rfl)⟩, s, I⟩))
theorem om40 {X : zX} {l : Launch} {M : zM} {F : Nat → Int} {H : Nat → Nat → Int} {n : Int} {K : Nat → Nat → Int} {T : Nat → Int} {L : Int} {e : zEw} {f : Nat → Int32} (h : zBo M) (hM : zUm M (F, H, n, K, T, L, e) f) (hW : zWF F) : zCall X l 2 0 0 346 [.ref 336] M (fun r M' => ((∃ s f2, (∃ v : Int32, r = some (.int v) ∧ f2 = f ∧ v.toInt = (wAll F).1 ∧ s = (F, H, n, K, T, L, (e.1, wAll F))) ∧ zUm M' s f2) ∧ ∀ k, zSc k = true → zI M' k = zI M k) ∧ zBo M') := by
  obtain ⟨hM, hK⟩ := hM
  have hM : zHm (zhide zSc M) (F, H, n, K, T, L, e) f := hM
  have hK : zKnB (zhide zSc M) F := hK
  have f1 := hW.1
  refine h.cmU (O346 h.skm h.ivm h.pR h.pC h.pF hM.1.1 hW (fun M' v s I Fr J r c p q => ⟨⟨_, _, ⟨v, rfl, rfl, q.1, rfl⟩, hM.mkW q.2 (Fr.eq rfl), hK.fr (Fr 336 3 rfl) (Fr 336 22 rfl) (Fr.eq rfl)⟩, s, I, r, c, p⟩))
theorem oc41 {X : zX} {l : Launch} {M : zM} {a : Int32} {F : Nat → Int} {H : Nat → Nat → Int} {n : Int} {K : Nat → Nat → Int} {T : Nat → Int} {L : Int} {e : zEw} {f : Nat → Int32} {B B' : Int} (h : zBo M) (zB : B + 200000 ≤ B') (zB0 : B ≤ 1500000000) (hC : zUc M (F, H, n, K, T, L, e) f B) (hW : zWF F) : zCall X l 0 0 0 223 [.ref 6, .int a] M (fun r M' => ((∃ s f2, (∃ v : Int32, r = some (.int v) ∧ f2 = f ∧ s = (F, H, n, K, T, L, e)) ∧ zUc M' s f2 B') ∧ ∀ k, zSm k = true → zI M' k = zI M k) ∧ zBo M') := by
  obtain ⟨hC, hK⟩ := hC
  have hC : zHc (zhide zSm M) (F, H, n, K, T, L, e) f := hC
  have hK : zKc (zhide zSm M) F B := hK
  have f1 := hW.1
  exact h.ccU (O223 h.skc h.ivc hC.2.2.2.2 (fun v _ => ⟨⟨_, _, ⟨v, rfl, rfl, rfl⟩, hC, hK.fr (by omega) (fun _ _ _ => rfl)⟩, h.skc, h.ivc⟩))
theorem om41 {X : zX} {l : Launch} {M : zM} {a : Int32} {F : Nat → Int} {H : Nat → Nat → Int} {n : Int} {K : Nat → Nat → Int} {T : Nat → Int} {L : Int} {e : zEw} {f : Nat → Int32} (h : zBo M) (hM : zUm M (F, H, n, K, T, L, e) f) (hW : zWF F) : zCall X l 1 0 0 349 [.ref 336, .int a] M (fun r M' => ((∃ s f2, (∃ v : Int32, r = some (.int v) ∧ f2 = f ∧ s = (F, H, n, K, T, L, e)) ∧ zUm M' s f2) ∧ ∀ k, zSc k = true → zI M' k = zI M k) ∧ zBo M') := by
  obtain ⟨hM, hK⟩ := hM
  have hM : zHm (zhide zSc M) (F, H, n, K, T, L, e) f := hM
  have hK : zKnB (zhide zSc M) F := hK
  have f1 := hW.1
  exact h.cmU (O349 h.skm h.ivm hM.2.2.2.2 (fun v _ => ⟨⟨_, _, ⟨v, rfl, rfl, rfl⟩, hM, hK⟩, h.skm, h.ivm, h.pR, h.pC, h.pF⟩))
