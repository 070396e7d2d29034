section LAWA
variable {X : zX} {l : Launch} {kc ks : Nat} {M : zM}
theorem zs_new {d kc ks y pc n A B PL i : Nat} {V : Int} {ls : List (Nat × Value)} {st : List Value} {Q : Option Value → zM → Prop} (ht : zT y pc = some (.new i, n, A, B, V, PL)) (hc : 1 ≤ kc ∧ cN A ≤ ks) (h : zGo X l d (kc - 1) (ks - cN A) y (pc + 3) ls (.ref (zN M) :: st) (zal M (A, 0)) Q) : zGo X l d kc ks y pc ls st M Q := zst ht (zpT hc h)
theorem zs_invI {d kc ks y pc n PL i y' k : Nat} {V : Int} {ls : List (Nat × Value)} {st : List Value} {Q Qc : Option Value → zM → Prop} (ht : zT y pc = some (.invokespecial i, n, y', 3, V, PL)) (hm : zna y' = 1) (hd : zdp y' d + 1 ≤ d ∧ zac y' ≤ kc ∧ zas y' ≤ ks ∧ zwd st ≤ 8 ∧ zwd [.ref k] ≤ (mt y').2.2.1) (hcall : zCall X l (zdp y' d) (zac y') (zas y') y' [.ref k] M Qc) (hn : ∀ r M', Qc r M' → zGo X l d (kc - zac y') (ks - zas y') y (pc + 3) ls (r.toList ++ st) M' Q) : zGo X l d kc ks y pc ls (.ref k :: st) M Q := by
  refine zst ht (zpT ⟨Or.inl rfl, by rw [hm]; exact Nat.le_add_left 1 _⟩ ?_)
  rw [hm]
  show zcl False (zCall X l) (fun _ => false) (zGo X l) d kc ks y pc ls [.ref k] st M Q y'
  unfold zcl
  exact zpT hd (zpF (fun q => by cases q) (hcall.mono hn))
theorem mr350 : (mt 350).2.2.2.1 = some .boolean := by decide +kernel
theorem ml350 : (mt 350).2.2.1 = 4 := by decide +kernel
theorem zr1 : (zO1.getD (none, zM0)).1 = none := by decide +kernel
theorem zr2 : (zO2.getD (none, zM0)).1 = none := by decide +kernel
theorem zd1 : zdp 0 30 = zdp 0 100 := by decide +kernel
theorem zd2 : zdp 224 30 = zdp 224 100 := by decide +kernel
theorem zna0 : zna 0 = 1 := by decide +kernel
theorem zna224 : zna 224 = 1 := by decide +kernel
theorem zhd1 : zdp 0 100 + 1 ≤ 100 ∧ zac 0 ≤ 358 - 1 ∧ zas 0 ≤ 25602 - cN 11 ∧ zwd [.ref 6] ≤ 8 ∧ zwd [.ref 6] ≤ (mt 0).2.2.1 := by decide +kernel
theorem zhn : 1 ≤ 358 - 1 - zac 0 ∧ cN 12 ≤ 25602 - cN 11 - zas 0 := by decide +kernel
theorem zhd2 : zdp 224 100 + 1 ≤ 100 ∧ zac 224 ≤ 358 - 1 - zac 0 - 1 ∧ zas 224 ≤ 25602 - cN 11 - zas 0 - cN 12 ∧ zwd [.ref 336] ≤ 8 ∧ zwd [.ref 336] ≤ (mt 224).2.2.1 := by decide +kernel
theorem zc1 : zCall X l (zdp 0 100) (zac 0) (zas 0) 0 [.ref 6] (zal zM0 (11, 0)) (fun r M => r = none ∧ M = zM1) := by
  rw [← zd1]
  exact (zOut_ok (zsome zok1 : zO1 = some (zO1.getD (none, zM0)))).mono (fun r M q => ⟨q.1.trans zr1, q.2⟩)
theorem zc2 : zCall X l (zdp 224 100) (zac 224) (zas 224) 224 [.ref 336] (zal zM1 (12, 0)) (fun r M => r = none ∧ M = zM2) := by
  rw [← zd2]
  exact (zOut_ok (zsome zok2 : zO2 = some (zO2.getD (none, zM0)))).mono (fun r M q => ⟨q.1.trans zr2, q.2⟩)
theorem law_a {Q : Option Value → zM → Prop} (h : ∀ kc ks, zGo X l 100 kc ks 350 18 [(3, .int (0 : Int32)), (2, .ref 336), (1, .ref 6), (0, .ref 0)] [] zMe Q) : zGo X l 100 358 25602 350 0 [(0, .ref 0)] [] zM0 Q := by
  refine zs_new (pc := 0) t350_0 (by decide) ?_
  show zGo X l 100 (358 - 1) (25602 - cN 11) 350 3 [(0, .ref 0)] [.ref 6] (zal zM0 (11, 0)) Q
  refine zs_dup (pc := 3) t350_3 rfl ?_
  refine zs_invI (pc := 4) t350_4 zna0 zhd1 zc1 ?_
  intro r M q
  rw [q.1, q.2]
  show zGo X l 100 (358 - 1 - zac 0) (25602 - cN 11 - zas 0) 350 7 [(0, .ref 0)] [.ref 6] zM1 Q
  refine zs_astore_n (pc := 7) t350_7 (ls' := [(1, .ref 6), (0, .ref 0)]) (by rw [ml350]; decide) rfl ?_
  refine zs_new (pc := 8) t350_8 zhn ?_
  rw [zN1]
  refine zs_dup (pc := 11) t350_11 rfl ?_
  refine zs_invI (pc := 12) t350_12 zna224 zhd2 zc2 ?_
  intro r M q
  rw [q.1, q.2]
  show zGo X l 100 (358 - 1 - zac 0 - 1 - zac 224) (25602 - cN 11 - zas 0 - cN 12 - zas 224) 350 15 [(1, .ref 6), (0, .ref 0)] [.ref 336] zM2 Q
  refine zs_astore_n (pc := 15) t350_15 (ls' := [(2, .ref 336), (1, .ref 6), (0, .ref 0)]) (by rw [ml350]; decide) rfl ?_
  refine zs_iconst (pc := 16) t350_16 (v := 0) (by decide) ?_
  refine zs_istore_n (pc := 17) t350_17 (ls' := [(3, .int (0 : Int32)), (2, .ref 336), (1, .ref 6), (0, .ref 0)]) (by rw [ml350]; decide) rfl ?_
  exact zGo.sim zmeS (h _ _)
end LAWA
section LAW
variable {X : zX} {l : Launch} {kc ks : Nat} {M : zM}
theorem zs_pop2 {d kc ks y pc n A B PL : Nat} {V : Int} {ls : List (Nat × Value)} {st : List Value} {Q : Option Value → zM → Prop} {v : Value} (ht : zT y pc = some (.pop2, n, A, B, V, PL)) (hv : v.category = 2) (h : zGo X l d kc ks y (pc + 1) ls st M Q) : zGo X l d kc ks y pc ls (v :: st) M Q := zst ht (zpT hv h)
theorem law0 {x : Int32} {n : Nat} (hn : x.toInt = (n : Int)) (hL : n + 6 ≤ X.2.2.2.2.2.1) (hS : X.2.2.2.2.2.1 ≤ 3072) {B B' : Int} (zB : B + 200000 ≤ B') (zB0 : B ≤ 1500000000) (hB : zBo M) (hR : zRu M B) (h : ∀ M', zBo M' → zRu M' B' → zGo X l 100 kc ks 350 1402 [(3, .int x), (2, .ref 336), (1, .ref 6), (0, .ref 0)] [] M' (fun r _ => r = some (.int 1))) : zGo X l 100 kc ks 350 216 [(3, .int x), (2, .ref 336), (1, .ref 6), (0, .ref 0)] [] M (fun r _ => r = some (.int 1)) := by
  obtain ⟨F, H, nd, K, T, L, en, f, g, hC, hM, hfg, hG, hL0⟩ := hR
  obtain ⟨y1, e1, i1⟩ := ziadd (a := x) (b := (1 : Int32)) hn li1 (by omega) (by omega)
  obtain ⟨y2, e2, i2⟩ := ziadd (a := x) (b := (2 : Int32)) hn li2 (by omega) (by omega)
  obtain ⟨y3, e3, i3⟩ := ziadd (a := x) (b := (3 : Int32)) hn li3 (by omega) (by omega)
  obtain ⟨y4, e4, i4⟩ := ziadd (a := x) (b := (4 : Int32)) hn li4 (by omega) (by omega)
  obtain ⟨y5, e5, i5⟩ := ziadd (a := x) (b := (5 : Int32)) hn li5 (by omega) (by omega)
  refine zs_aload_n (pc := 216) t350_216 rfl ?_
  refine zs_aload_n (pc := 217) t350_217 rfl ?_
  refine zs_iload_n (pc := 218) t350_218 rfl ?_
  refine zs_iconst (pc := 219) t350_219 (v := 1) (by decide) ?_
  refine zs_iadd (pc := 220) t350_220 (c := y1) e1 ?_
  refine zs_sald (pc := 221) t350_221 (j := n + 1) (by omega) (by omega) rfl ?_
  refine zs_aload_n (pc := 222) t350_222 rfl ?_
  refine zs_iload_n (pc := 223) t350_223 rfl ?_
  refine zs_iconst (pc := 224) t350_224 (v := 2) (by decide) ?_
  refine zs_iadd (pc := 225) t350_225 (c := y2) e2 ?_
  refine zs_sald (pc := 226) t350_226 (j := n + 2) (by omega) (by omega) rfl ?_
  refine zs_aload_n (pc := 227) t350_227 rfl ?_
  refine zs_iload_n (pc := 228) t350_228 rfl ?_
  refine zs_iconst (pc := 229) t350_229 (v := 3) (by decide) ?_
  refine zs_iadd (pc := 230) t350_230 (c := y3) e3 ?_
  refine zs_sald (pc := 231) t350_231 (j := n + 3) (by omega) (by omega) rfl ?_
  refine zs_aload_n (pc := 232) t350_232 rfl ?_
  refine zs_iload_n (pc := 233) t350_233 rfl ?_
  refine zs_iconst (pc := 234) t350_234 (v := 4) (by decide) ?_
  refine zs_iadd (pc := 235) t350_235 (c := y4) e4 ?_
  refine zs_sald (pc := 236) t350_236 (j := n + 4) (by omega) (by omega) rfl ?_
  refine zs_aload_n (pc := 237) t350_237 rfl ?_
  refine zs_iload_n (pc := 238) t350_238 rfl ?_
  refine zs_iconst (pc := 239) t350_239 (v := 5) (by decide) ?_
  refine zs_iadd (pc := 240) t350_240 (c := y5) e5 ?_
  refine zs_sald (pc := 241) t350_241 (j := n + 5) (by omega) (by omega) rfl ?_
  refine zs_invV (pc := 242) (k := 6) (as' := [.int (X.2.2.2.2.2.2 (n + 1)), .int (X.2.2.2.2.2.2 (n + 2)), .int (X.2.2.2.2.2.2 (n + 3)), .int (X.2.2.2.2.2.2 (n + 4)), .int (X.2.2.2.2.2.2 (n + 5))]) (st := []) t350_242 mf14 rfl rfl (Or.inl ⟨by decide, hB.kc⟩) ⟨by decide, by decide, Nat.le_of_ble_eq_true rfl, Nat.le_of_ble_eq_true rfl⟩ (oc0 hB zB zB0 hC hG.1) ?_
  rintro r M1 ⟨⟨⟨s1, f1, ⟨v, rfl, x1⟩, hc1⟩, k1⟩, hB1⟩
  show zGo X l 100 kc ks 350 245 [(3, .int x), (2, .ref 336), (1, .ref 6), (0, .ref 0)] [.int v] M1 _
  have hM1 := hM.to k1
  refine zs_pop (pc := 245) t350_245 rfl ?_
  refine zs_aload_n (pc := 246) t350_246 rfl ?_
  refine zs_aload_n (pc := 247) t350_247 rfl ?_
  refine zs_iload_n (pc := 248) t350_248 rfl ?_
  refine zs_iconst (pc := 249) t350_249 (v := 1) (by decide) ?_
  refine zs_iadd (pc := 250) t350_250 (c := y1) e1 ?_
  refine zs_sald (pc := 251) t350_251 (j := n + 1) (by omega) (by omega) rfl ?_
  refine zs_aload_n (pc := 252) t350_252 rfl ?_
  refine zs_iload_n (pc := 253) t350_253 rfl ?_
  refine zs_iconst (pc := 254) t350_254 (v := 2) (by decide) ?_
  refine zs_iadd (pc := 255) t350_255 (c := y2) e2 ?_
  refine zs_sald (pc := 256) t350_256 (j := n + 2) (by omega) (by omega) rfl ?_
  refine zs_aload_n (pc := 257) t350_257 rfl ?_
  refine zs_iload_n (pc := 258) t350_258 rfl ?_
  refine zs_iconst (pc := 259) t350_259 (v := 3) (by decide) ?_
  refine zs_iadd (pc := 260) t350_260 (c := y3) e3 ?_
  refine zs_sald (pc := 261) t350_261 (j := n + 3) (by omega) (by omega) rfl ?_
  refine zs_aload_n (pc := 262) t350_262 rfl ?_
  refine zs_iload_n (pc := 263) t350_263 rfl ?_
  refine zs_iconst (pc := 264) t350_264 (v := 4) (by decide) ?_
  refine zs_iadd (pc := 265) t350_265 (c := y4) e4 ?_
  refine zs_sald (pc := 266) t350_266 (j := n + 4) (by omega) (by omega) rfl ?_
  refine zs_aload_n (pc := 267) t350_267 rfl ?_
  refine zs_iload_n (pc := 268) t350_268 rfl ?_
  refine zs_iconst (pc := 269) t350_269 (v := 5) (by decide) ?_
  refine zs_iadd (pc := 270) t350_270 (c := y5) e5 ?_
  refine zs_sald (pc := 271) t350_271 (j := n + 5) (by omega) (by omega) rfl ?_
  refine zs_invV (pc := 272) (k := 336) (as' := [.int (X.2.2.2.2.2.2 (n + 1)), .int (X.2.2.2.2.2.2 (n + 2)), .int (X.2.2.2.2.2.2 (n + 3)), .int (X.2.2.2.2.2.2 (n + 4)), .int (X.2.2.2.2.2.2 (n + 5))]) (st := []) t350_272 mf231 rfl rfl (Or.inl ⟨by decide, hB1.km⟩) ⟨by decide, by decide, Nat.le_of_ble_eq_true rfl, Nat.le_of_ble_eq_true rfl⟩ (om0 hB1 hM1 hG.1) ?_
  rintro r M2 ⟨⟨⟨s2, f2, ⟨w, rfl, x2⟩, hm2⟩, k2⟩, hB2⟩
  show zGo X l 100 kc ks 350 275 [(3, .int x), (2, .ref 336), (1, .ref 6), (0, .ref 0)] [.int w] M2 _
  have hc2 := hc1.to k2
  have key : zRu M2 B' := by
    rcases x1 with ⟨a1, a2, a3, rfl⟩ | ⟨a1, a2, a3, rfl⟩ <;> rcases x2 with ⟨b1, b2, b3, rfl⟩ | ⟨b1, b2, b3, rfl⟩
    · subst a3
      subst b3
      exact ⟨_, _, _, _, _, _, _, _, _, hc2, hm2, hfg, hG, hL0⟩
    · omega
    · omega
    · exact ⟨_, _, _, _, _, _, _, _, _, hc2, hm2, fun j hj => (b3 L.toNat (by omega)).eq (a3 L.toNat (by omega)) (fun j hj => hfg j (by omega)) j (by omega), hG, by omega⟩
  refine zs_pop (pc := 275) t350_275 rfl ?_
  refine zs_goto (pc := 276) t350_276 ?_
  exact h M2 hB2 key
theorem law1 {x : Int32} {n : Nat} (hn : x.toInt = (n : Int)) (hL : n + 6 ≤ X.2.2.2.2.2.1) (hS : X.2.2.2.2.2.1 ≤ 3072) {B B' : Int} (zB : B + 200000 ≤ B') (zB0 : B ≤ 1500000000) (hB : zBo M) (hR : zRu M B) (h : ∀ M', zBo M' → zRu M' B' → zGo X l 100 kc ks 350 1402 [(3, .int x), (2, .ref 336), (1, .ref 6), (0, .ref 0)] [] M' (fun r _ => r = some (.int 1))) : zGo X l 100 kc ks 350 279 [(3, .int x), (2, .ref 336), (1, .ref 6), (0, .ref 0)] [] M (fun r _ => r = some (.int 1)) := by
  obtain ⟨F, H, nd, K, T, L, en, f, g, hC, hM, hfg, hG, hL0⟩ := hR
  obtain ⟨y1, e1, i1⟩ := ziadd (a := x) (b := (1 : Int32)) hn li1 (by omega) (by omega)
  refine zs_aload_n (pc := 279) t350_279 rfl ?_
  refine zs_aload_n (pc := 280) t350_280 rfl ?_
  refine zs_iload_n (pc := 281) t350_281 rfl ?_
  refine zs_iconst (pc := 282) t350_282 (v := 1) (by decide) ?_
  refine zs_iadd (pc := 283) t350_283 (c := y1) e1 ?_
  refine zs_sald (pc := 284) t350_284 (j := n + 1) (by omega) (by omega) rfl ?_
  refine zs_invV (pc := 285) (k := 6) (as' := [.int (X.2.2.2.2.2.2 (n + 1))]) (st := []) t350_285 mf18 rfl rfl (Or.inl ⟨by decide, hB.kc⟩) ⟨by decide, by decide, Nat.le_of_ble_eq_true rfl, Nat.le_of_ble_eq_true rfl⟩ (oc1 hB zB zB0 hC hG.1) ?_
  rintro r M1 ⟨⟨⟨s1, f1, ⟨v, rfl, rfl, x1⟩, hc1⟩, k1⟩, hB1⟩
  show zGo X l 100 kc ks 350 288 [(3, .int x), (2, .ref 336), (1, .ref 6), (0, .ref 0)] [.int v] M1 _
  have hM1 := hM.to k1
  refine zs_pop (pc := 288) t350_288 rfl ?_
  refine zs_aload_n (pc := 289) t350_289 rfl ?_
  refine zs_aload_n (pc := 290) t350_290 rfl ?_
  refine zs_iload_n (pc := 291) t350_291 rfl ?_
  refine zs_iconst (pc := 292) t350_292 (v := 1) (by decide) ?_
  refine zs_iadd (pc := 293) t350_293 (c := y1) e1 ?_
  refine zs_sald (pc := 294) t350_294 (j := n + 1) (by omega) (by omega) rfl ?_
  refine zs_invV (pc := 295) (k := 336) (as' := [.int (X.2.2.2.2.2.2 (n + 1))]) (st := []) t350_295 mf233 rfl rfl (Or.inl ⟨by decide, hB1.km⟩) ⟨by decide, by decide, Nat.le_of_ble_eq_true rfl, Nat.le_of_ble_eq_true rfl⟩ (om1 hB1 hM1 hG.1) ?_
  rintro r M2 ⟨⟨⟨s2, f2, ⟨w, rfl, rfl, x2⟩, hm2⟩, k2⟩, hB2⟩
  show zGo X l 100 kc ks 350 298 [(3, .int x), (2, .ref 336), (1, .ref 6), (0, .ref 0)] [.int w] M2 _
  have hc2 := hc1.to k2
  have key : zRu M2 B' := by
    rcases x1 with ⟨a1, a2, a3, rfl⟩ | ⟨a1, a2, rfl⟩ <;> rcases x2 with ⟨b1, b2, b3, rfl⟩ | ⟨b1, b2, rfl⟩
    · exact ⟨_, _, _, _, _, _, _, _, _, hc2, hm2, fun j hj => hfg j (by omega), hG, a2⟩
    · omega
    · omega
    · exact ⟨_, _, _, _, _, _, _, _, _, hc2, hm2, hfg, hG, hL0⟩
  refine zs_pop (pc := 298) t350_298 rfl ?_
  refine zs_goto (pc := 299) t350_299 ?_
  exact h M2 hB2 key
theorem law2 {x : Int32} {n : Nat} (hn : x.toInt = (n : Int)) (hL : n + 6 ≤ X.2.2.2.2.2.1) (hS : X.2.2.2.2.2.1 ≤ 3072) {B B' : Int} (zB : B + 200000 ≤ B') (zB0 : B ≤ 1500000000) (hB : zBo M) (hR : zRu M B) (h : ∀ M', zBo M' → zRu M' B' → zGo X l 100 kc ks 350 1402 [(3, .int x), (2, .ref 336), (1, .ref 6), (0, .ref 0)] [] M' (fun r _ => r = some (.int 1))) : zGo X l 100 kc ks 350 302 [(3, .int x), (2, .ref 336), (1, .ref 6), (0, .ref 0)] [] M (fun r _ => r = some (.int 1)) := by
  obtain ⟨F, H, nd, K, T, L, en, f, g, hC, hM, hfg, hG, hL0⟩ := hR
  refine zs_aload_n (pc := 302) t350_302 rfl ?_
  refine zs_invV (pc := 303) (k := 6) (as' := []) (st := []) t350_303 mf22 rfl rfl (Or.inl ⟨by decide, hB.kc⟩) ⟨by decide, by decide, Nat.le_of_ble_eq_true rfl, Nat.le_of_ble_eq_true rfl⟩ (oc2 hB zB zB0 hC hG.1) ?_
  rintro r M1 ⟨⟨⟨s1, f1, ⟨v, rfl, rfl, x1⟩, hc1⟩, k1⟩, hB1⟩
  show zGo X l 100 kc ks 350 306 [(3, .int x), (2, .ref 336), (1, .ref 6), (0, .ref 0)] [.int v] M1 _
  have hM1 := hM.to k1
  refine zs_pop (pc := 306) t350_306 rfl ?_
  refine zs_aload_n (pc := 307) t350_307 rfl ?_
  refine zs_invV (pc := 308) (k := 336) (as' := []) (st := []) t350_308 mf235 rfl rfl (Or.inl ⟨by decide, hB1.km⟩) ⟨by decide, by decide, Nat.le_of_ble_eq_true rfl, Nat.le_of_ble_eq_true rfl⟩ (om2 hB1 hM1 hG.1) ?_
  rintro r M2 ⟨⟨⟨s2, f2, ⟨w, rfl, rfl, x2⟩, hm2⟩, k2⟩, hB2⟩
  show zGo X l 100 kc ks 350 311 [(3, .int x), (2, .ref 336), (1, .ref 6), (0, .ref 0)] [.int w] M2 _
  have hc2 := hc1.to k2
  have key : zRu M2 B' := by
    rw [zsy.cg hfg] at x2
    rcases x1 with ⟨a1, a2, rfl⟩ | ⟨a1, F2a, a3, a4, rfl⟩ <;> rcases x2 with ⟨b1, b2, rfl⟩ | ⟨b1, F2b, b3, b4, rfl⟩
    · exact ⟨_, _, _, _, _, _, _, _, _, hc2, hm2, fun j hj => absurd hj (by omega), hG, by decide⟩
    · cases tR.det a2 b3
    · cases tR.det a3 b2
    · have q := Option.some.inj (tR.det a3 b3)
      obtain ⟨q1, q2⟩ := Prod.mk.inj q
      subst q1
      exact ⟨_, _, _, _, _, _, _, _, _, hc2, hm2, fun j hj => absurd hj (by omega), hG.push a4, by decide⟩
  refine zs_pop (pc := 311) t350_311 rfl ?_
  refine zs_goto (pc := 312) t350_312 ?_
  exact h M2 hB2 key
theorem law3 {x : Int32} {n : Nat} (hn : x.toInt = (n : Int)) (hL : n + 6 ≤ X.2.2.2.2.2.1) (hS : X.2.2.2.2.2.1 ≤ 3072) {B B' : Int} (zB : B + 200000 ≤ B') (zB0 : B ≤ 1500000000) (hB : zBo M) (hR : zRu M B) (h : ∀ M', zBo M' → zRu M' B' → zGo X l 100 kc ks 350 1402 [(3, .int x), (2, .ref 336), (1, .ref 6), (0, .ref 0)] [] M' (fun r _ => r = some (.int 1))) : zGo X l 100 kc ks 350 315 [(3, .int x), (2, .ref 336), (1, .ref 6), (0, .ref 0)] [] M (fun r _ => r = some (.int 1)) := by
  obtain ⟨F, H, nd, K, T, L, en, f, g, hC, hM, hfg, hG, hL0⟩ := hR
  refine zs_aload_n (pc := 315) t350_315 rfl ?_
  refine zs_invV9 (d := 100) (pc := 316) (k := 6) (as' := []) (st := []) t350_316 mf62 rfl rfl (Or.inl ⟨by decide, hB.kc⟩) ⟨by decide, Nat.le_of_ble_eq_true rfl, Nat.le_of_ble_eq_true rfl⟩ (oc3 hB zB zB0 hC hG.1) ?_
  rintro r M1 ⟨⟨⟨s1, f1, ⟨v, rfl, rfl, ⟨z1, y1⟩, x1⟩, hc1⟩, k1⟩, hB1⟩
  show zGo X l 100 kc ks 350 319 [(3, .int x), (2, .ref 336), (1, .ref 6), (0, .ref 0)] [.int v] M1 _
  have hM1 := hM.to k1
  refine zs_pop (pc := 319) t350_319 rfl ?_
  refine zs_aload_n (pc := 320) t350_320 rfl ?_
  refine zs_invV (pc := 321) (k := 336) (as' := []) (st := []) t350_321 mf254 rfl rfl (Or.inl ⟨by decide, hB1.km⟩) ⟨by decide, by decide, Nat.le_of_ble_eq_true rfl, Nat.le_of_ble_eq_true rfl⟩ (om3 hB1 hM1 hG.1) ?_
  rintro r M2 ⟨⟨⟨s2, f2, ⟨w, rfl, rfl, ⟨z2, y2⟩, x2⟩, hm2⟩, k2⟩, hB2⟩
  show zGo X l 100 kc ks 350 324 [(3, .int x), (2, .ref 336), (1, .ref 6), (0, .ref 0)] [.int w] M2 _
  have hc2 := hc1.to k2
  have key : zRu M2 B' := by
    have hv := (y1.det y2 hfg).1
    rcases x1 with ⟨a1, rfl⟩ | ⟨a1, rfl⟩ <;> rcases x2 with ⟨b1, rfl⟩ | ⟨b1, rfl⟩
    · exact ⟨_, _, _, _, _, _, _, _, _, hc2, hm2, fun j hj => absurd hj (by omega), hG, by decide⟩
    · omega
    · omega
    · exact ⟨_, _, _, _, _, _, _, _, _, hc2, hm2.ag hG.1 (fun j hj => pTr.o (by omega)), fun j hj => absurd hj (by omega), hG.push hG.1.tr, by decide⟩
  refine zs_pop (pc := 324) t350_324 rfl ?_
  refine zs_goto (pc := 325) t350_325 ?_
  exact h M2 hB2 key
theorem law4 {x : Int32} {n : Nat} (hn : x.toInt = (n : Int)) (hL : n + 6 ≤ X.2.2.2.2.2.1) (hS : X.2.2.2.2.2.1 ≤ 3072) {B B' : Int} (zB : B + 200000 ≤ B') (zB0 : B ≤ 1500000000) (hB : zBo M) (hR : zRu M B) (h : ∀ M', zBo M' → zRu M' B' → zGo X l 100 kc ks 350 1402 [(3, .int x), (2, .ref 336), (1, .ref 6), (0, .ref 0)] [] M' (fun r _ => r = some (.int 1))) : zGo X l 100 kc ks 350 328 [(3, .int x), (2, .ref 336), (1, .ref 6), (0, .ref 0)] [] M (fun r _ => r = some (.int 1)) := by
  obtain ⟨F, H, nd, K, T, L, en, f, g, hC, hM, hfg, hG, hL0⟩ := hR
  refine zs_aload_n (pc := 328) t350_328 rfl ?_
  refine zs_invV (pc := 329) (k := 6) (as' := []) (st := []) t350_329 mf82 rfl rfl (Or.inl ⟨by decide, hB.kc⟩) ⟨by decide, by decide, Nat.le_of_ble_eq_true rfl, Nat.le_of_ble_eq_true rfl⟩ (oc4 hB zB zB0 hC hG.1) ?_
  rintro r M1 ⟨⟨⟨s1, f1, ⟨v, rfl, rfl, x1⟩, hc1⟩, k1⟩, hB1⟩
  show zGo X l 100 kc ks 350 332 [(3, .int x), (2, .ref 336), (1, .ref 6), (0, .ref 0)] [.int v] M1 _
  have hM1 := hM.to k1
  refine zs_pop (pc := 332) t350_332 rfl ?_
  refine zs_aload_n (pc := 333) t350_333 rfl ?_
  refine zs_invV (pc := 334) (k := 336) (as' := []) (st := []) t350_334 mf342 rfl rfl (Or.inl ⟨by decide, hB1.km⟩) ⟨by decide, by decide, Nat.le_of_ble_eq_true rfl, Nat.le_of_ble_eq_true rfl⟩ (om4 hB1 hM1 hG.1) ?_
  rintro r M2 ⟨⟨⟨s2, f2, ⟨w, rfl, rfl, x2⟩, hm2⟩, k2⟩, hB2⟩
  show zGo X l 100 kc ks 350 337 [(3, .int x), (2, .ref 336), (1, .ref 6), (0, .ref 0)] [.int w] M2 _
  have hc2 := hc1.to k2
  have key : zRu M2 B' := by
    rw [zsy.cg hfg] at x2
    rcases x1 with ⟨a1, a2, rfl⟩ | ⟨a1, ka, Aa, Fa, Ha, na, ea, a2, a3, rfl⟩ <;> rcases x2 with ⟨b1, b2, rfl⟩ | ⟨b1, kb, Ab, Fb, Hb, nb, eb, b2, b3, rfl⟩
    · exact ⟨_, _, _, _, _, _, _, _, _, hc2, hm2, fun j hj => absurd hj (by omega), hG, by decide⟩
    · cases gR.det a2 b2
    · cases gR.det a2 b2
    · cases gR.det a2 b2
      have q := gR.det a3 b3
      obtain ⟨q1, q⟩ := Prod.mk.inj q
      obtain ⟨q2, q⟩ := Prod.mk.inj q
      obtain ⟨q3, q⟩ := Prod.mk.inj q
      obtain ⟨q4, q5⟩ := Prod.mk.inj q
      subst q2
      subst q3
      subst q4
      subst q5
      obtain ⟨m, hm⟩ := a3
      exact ⟨_, _, _, _, _, _, _, _, _, hc2, hm2, fun j hj => absurd hj (by omega), dSt.gd m hm hG, by decide⟩
  refine zs_pop (pc := 337) t350_337 rfl ?_
  refine zs_goto (pc := 338) t350_338 ?_
  exact h M2 hB2 key
theorem law5 {x : Int32} {n : Nat} (hn : x.toInt = (n : Int)) (hL : n + 6 ≤ X.2.2.2.2.2.1) (hS : X.2.2.2.2.2.1 ≤ 3072) {B B' : Int} (zB : B + 200000 ≤ B') (zB0 : B ≤ 1500000000) (hB : zBo M) (hR : zRu M B) (h : ∀ M', zBo M' → zRu M' B' → zGo X l 100 kc ks 350 1402 [(3, .int x), (2, .ref 336), (1, .ref 6), (0, .ref 0)] [] M' (fun r _ => r = some (.int 1))) : zGo X l 100 kc ks 350 341 [(3, .int x), (2, .ref 336), (1, .ref 6), (0, .ref 0)] [] M (fun r _ => r = some (.int 1)) := by
  obtain ⟨F, H, nd, K, T, L, en, f, g, hC, hM, hfg, hG, hL0⟩ := hR
  refine zs_aload_n (pc := 341) t350_341 rfl ?_
  refine zs_invV (pc := 342) (k := 6) (as' := []) (st := []) t350_342 mf97 rfl rfl (Or.inl ⟨by decide, hB.kc⟩) ⟨by decide, by decide, Nat.le_of_ble_eq_true rfl, Nat.le_of_ble_eq_true rfl⟩ (oc5 hB zB zB0 hC hG.1) ?_
  rintro r M1 ⟨⟨⟨s1, f1, ⟨v, rfl, rfl, rfl⟩, hc1⟩, k1⟩, hB1⟩
  show zGo X l 100 kc ks 350 345 [(3, .int x), (2, .ref 336), (1, .ref 6), (0, .ref 0)] [.int v] M1 _
  have hM1 := hM.to k1
  refine zs_pop (pc := 345) t350_345 rfl ?_
  refine zs_aload_n (pc := 346) t350_346 rfl ?_
  refine zs_invV (pc := 347) (k := 336) (as' := []) (st := []) t350_347 mf234 rfl rfl (Or.inl ⟨by decide, hB1.km⟩) ⟨by decide, by decide, Nat.le_of_ble_eq_true rfl, Nat.le_of_ble_eq_true rfl⟩ (om5 hB1 hM1 hG.1) ?_
  rintro r M2 ⟨⟨⟨s2, f2, ⟨w, rfl, rfl, rfl⟩, hm2⟩, k2⟩, hB2⟩
  show zGo X l 100 kc ks 350 350 [(3, .int x), (2, .ref 336), (1, .ref 6), (0, .ref 0)] [.int w] M2 _
  have hc2 := hc1.to k2
  have key : zRu M2 B' := by
    exact ⟨_, _, _, _, _, _, _, _, _, hc2, hm2, hfg, hG, hL0⟩
  refine zs_pop (pc := 350) t350_350 rfl ?_
  refine zs_goto (pc := 351) t350_351 ?_
  exact h M2 hB2 key
theorem law6 {x : Int32} {n : Nat} (hn : x.toInt = (n : Int)) (hL : n + 6 ≤ X.2.2.2.2.2.1) (hS : X.2.2.2.2.2.1 ≤ 3072) {B B' : Int} (zB : B + 200000 ≤ B') (zB0 : B ≤ 1500000000) (hB : zBo M) (hR : zRu M B) (h : ∀ M', zBo M' → zRu M' B' → zGo X l 100 kc ks 350 1402 [(3, .int x), (2, .ref 336), (1, .ref 6), (0, .ref 0)] [] M' (fun r _ => r = some (.int 1))) : zGo X l 100 kc ks 350 354 [(3, .int x), (2, .ref 336), (1, .ref 6), (0, .ref 0)] [] M (fun r _ => r = some (.int 1)) := by
  obtain ⟨F, H, nd, K, T, L, en, f, g, hC, hM, hfg, hG, hL0⟩ := hR
  refine zs_aload_n (pc := 354) t350_354 rfl ?_
  refine zs_invV (pc := 355) (k := 6) (as' := []) (st := []) t350_355 mf98 rfl rfl (Or.inl ⟨by decide, hB.kc⟩) ⟨by decide, by decide, Nat.le_of_ble_eq_true rfl, Nat.le_of_ble_eq_true rfl⟩ (oc6 hB zB zB0 hC hG.1) ?_
  rintro r M1 ⟨⟨⟨s1, f1, ⟨v, rfl, rfl, rfl⟩, hc1⟩, k1⟩, hB1⟩
  show zGo X l 100 kc ks 350 358 [(3, .int x), (2, .ref 336), (1, .ref 6), (0, .ref 0)] [.int v] M1 _
  have hM1 := hM.to k1
  refine zs_pop (pc := 358) t350_358 rfl ?_
  refine zs_aload_n (pc := 359) t350_359 rfl ?_
  refine zs_invV (pc := 360) (k := 336) (as' := []) (st := []) t350_360 mf345 rfl rfl (Or.inl ⟨by decide, hB1.km⟩) ⟨by decide, by decide, Nat.le_of_ble_eq_true rfl, Nat.le_of_ble_eq_true rfl⟩ (om6 hB1 hM1 hG.1) ?_
  rintro r M2 ⟨⟨⟨s2, f2, ⟨w, rfl, rfl, rfl⟩, hm2⟩, k2⟩, hB2⟩
  show zGo X l 100 kc ks 350 363 [(3, .int x), (2, .ref 336), (1, .ref 6), (0, .ref 0)] [.int w] M2 _
  have hc2 := hc1.to k2
  have key : zRu M2 B' := by
    exact ⟨_, _, _, _, _, _, _, _, _, hc2, hm2, hfg, hG, hL0⟩
  refine zs_pop (pc := 363) t350_363 rfl ?_
  refine zs_goto (pc := 364) t350_364 ?_
  exact h M2 hB2 key
theorem law7 {x : Int32} {n : Nat} (hn : x.toInt = (n : Int)) (hL : n + 6 ≤ X.2.2.2.2.2.1) (hS : X.2.2.2.2.2.1 ≤ 3072) {B B' : Int} (zB : B + 200000 ≤ B') (zB0 : B ≤ 1500000000) (hB : zBo M) (hR : zRu M B) (h : ∀ M', zBo M' → zRu M' B' → zGo X l 100 kc ks 350 1402 [(3, .int x), (2, .ref 336), (1, .ref 6), (0, .ref 0)] [] M' (fun r _ => r = some (.int 1))) : zGo X l 100 kc ks 350 367 [(3, .int x), (2, .ref 336), (1, .ref 6), (0, .ref 0)] [] M (fun r _ => r = some (.int 1)) := by
  obtain ⟨F, H, nd, K, T, L, en, f, g, hC, hM, hfg, hG, hL0⟩ := hR
  obtain ⟨y1, e1, i1⟩ := ziadd (a := x) (b := (1 : Int32)) hn li1 (by omega) (by omega)
  refine zs_aload_n (pc := 367) t350_367 rfl ?_
  refine zs_aload_n (pc := 368) t350_368 rfl ?_
  refine zs_iload_n (pc := 369) t350_369 rfl ?_
  refine zs_iconst (pc := 370) t350_370 (v := 1) (by decide) ?_
  refine zs_iadd (pc := 371) t350_371 (c := y1) e1 ?_
  refine zs_sald (pc := 372) t350_372 (j := n + 1) (by omega) (by omega) rfl ?_
  refine zs_invV (pc := 373) (k := 6) (as' := [.int (X.2.2.2.2.2.2 (n + 1))]) (st := []) t350_373 mf99 rfl rfl (Or.inl ⟨by decide, hB.kc⟩) ⟨by decide, by decide, Nat.le_of_ble_eq_true rfl, Nat.le_of_ble_eq_true rfl⟩ (oc7 hB zB zB0 hC hG.1) ?_
  rintro r M1 ⟨⟨⟨s1, f1, ⟨v, rfl, rfl, rfl⟩, hc1⟩, k1⟩, hB1⟩
  show zGo X l 100 kc ks 350 376 [(3, .int x), (2, .ref 336), (1, .ref 6), (0, .ref 0)] [.int v] M1 _
  have hM1 := hM.to k1
  refine zs_pop (pc := 376) t350_376 rfl ?_
  refine zs_aload_n (pc := 377) t350_377 rfl ?_
  refine zs_aload_n (pc := 378) t350_378 rfl ?_
  refine zs_iload_n (pc := 379) t350_379 rfl ?_
  refine zs_iconst (pc := 380) t350_380 (v := 1) (by decide) ?_
  refine zs_iadd (pc := 381) t350_381 (c := y1) e1 ?_
  refine zs_sald (pc := 382) t350_382 (j := n + 1) (by omega) (by omega) rfl ?_
  refine zs_invV (pc := 383) (k := 336) (as' := [.int (X.2.2.2.2.2.2 (n + 1))]) (st := []) t350_383 mf304 rfl rfl (Or.inl ⟨by decide, hB1.km⟩) ⟨by decide, by decide, Nat.le_of_ble_eq_true rfl, Nat.le_of_ble_eq_true rfl⟩ (om7 hB1 hM1 hG.1) ?_
  rintro r M2 ⟨⟨⟨s2, f2, ⟨w, rfl, rfl, rfl⟩, hm2⟩, k2⟩, hB2⟩
  show zGo X l 100 kc ks 350 386 [(3, .int x), (2, .ref 336), (1, .ref 6), (0, .ref 0)] [.int w] M2 _
  have hc2 := hc1.to k2
  have key : zRu M2 B' := by
    exact ⟨_, _, _, _, _, _, _, _, _, hc2, hm2, hfg, hG, hL0⟩
  refine zs_pop (pc := 386) t350_386 rfl ?_
  refine zs_goto (pc := 387) t350_387 ?_
  exact h M2 hB2 key
theorem law8 {x : Int32} {n : Nat} (hn : x.toInt = (n : Int)) (hL : n + 6 ≤ X.2.2.2.2.2.1) (hS : X.2.2.2.2.2.1 ≤ 3072) {B B' : Int} (zB : B + 200000 ≤ B') (zB0 : B ≤ 1500000000) (hB : zBo M) (hR : zRu M B) (h : ∀ M', zBo M' → zRu M' B' → zGo X l 100 kc ks 350 1402 [(3, .int x), (2, .ref 336), (1, .ref 6), (0, .ref 0)] [] M' (fun r _ => r = some (.int 1))) : zGo X l 100 kc ks 350 390 [(3, .int x), (2, .ref 336), (1, .ref 6), (0, .ref 0)] [] M (fun r _ => r = some (.int 1)) := by
  obtain ⟨F, H, nd, K, T, L, en, f, g, hC, hM, hfg, hG, hL0⟩ := hR
  obtain ⟨y1, e1, i1⟩ := ziadd (a := x) (b := (1 : Int32)) hn li1 (by omega) (by omega)
  obtain ⟨y2, e2, i2⟩ := ziadd (a := x) (b := (2 : Int32)) hn li2 (by omega) (by omega)
  refine zs_aload_n (pc := 390) t350_390 rfl ?_
  refine zs_aload_n (pc := 391) t350_391 rfl ?_
  refine zs_iload_n (pc := 392) t350_392 rfl ?_
  refine zs_iconst (pc := 393) t350_393 (v := 1) (by decide) ?_
  refine zs_iadd (pc := 394) t350_394 (c := y1) e1 ?_
  refine zs_sald (pc := 395) t350_395 (j := n + 1) (by omega) (by omega) rfl ?_
  refine zs_aload_n (pc := 396) t350_396 rfl ?_
  refine zs_iload_n (pc := 397) t350_397 rfl ?_
  refine zs_iconst (pc := 398) t350_398 (v := 2) (by decide) ?_
  refine zs_iadd (pc := 399) t350_399 (c := y2) e2 ?_
  refine zs_sald (pc := 400) t350_400 (j := n + 2) (by omega) (by omega) rfl ?_
  refine zs_invV (pc := 401) (k := 6) (as' := [.int (X.2.2.2.2.2.2 (n + 1)), .int (X.2.2.2.2.2.2 (n + 2))]) (st := []) t350_401 mf102 rfl rfl (Or.inl ⟨by decide, hB.kc⟩) ⟨by decide, by decide, Nat.le_of_ble_eq_true rfl, Nat.le_of_ble_eq_true rfl⟩ (oc8 hB zB zB0 hC hG.1) ?_
  rintro r M1 ⟨⟨⟨s1, f1, ⟨v, rfl, rfl, rfl⟩, hc1⟩, k1⟩, hB1⟩
  show zGo X l 100 kc ks 350 404 [(3, .int x), (2, .ref 336), (1, .ref 6), (0, .ref 0)] [.int v] M1 _
  have hM1 := hM.to k1
  refine zs_pop (pc := 404) t350_404 rfl ?_
  refine zs_aload_n (pc := 405) t350_405 rfl ?_
  refine zs_aload_n (pc := 406) t350_406 rfl ?_
  refine zs_iload_n (pc := 407) t350_407 rfl ?_
  refine zs_iconst (pc := 408) t350_408 (v := 1) (by decide) ?_
  refine zs_iadd (pc := 409) t350_409 (c := y1) e1 ?_
  refine zs_sald (pc := 410) t350_410 (j := n + 1) (by omega) (by omega) rfl ?_
  refine zs_aload_n (pc := 411) t350_411 rfl ?_
  refine zs_iload_n (pc := 412) t350_412 rfl ?_
  refine zs_iconst (pc := 413) t350_413 (v := 2) (by decide) ?_
  refine zs_iadd (pc := 414) t350_414 (c := y2) e2 ?_
  refine zs_sald (pc := 415) t350_415 (j := n + 2) (by omega) (by omega) rfl ?_
  refine zs_invV (pc := 416) (k := 336) (as' := [.int (X.2.2.2.2.2.2 (n + 1)), .int (X.2.2.2.2.2.2 (n + 2))]) (st := []) t350_416 mf305 rfl rfl (Or.inl ⟨by decide, hB1.km⟩) ⟨by decide, by decide, Nat.le_of_ble_eq_true rfl, Nat.le_of_ble_eq_true rfl⟩ (om8 hB1 hM1 hG.1) ?_
  rintro r M2 ⟨⟨⟨s2, f2, ⟨w, rfl, rfl, rfl⟩, hm2⟩, k2⟩, hB2⟩
  show zGo X l 100 kc ks 350 419 [(3, .int x), (2, .ref 336), (1, .ref 6), (0, .ref 0)] [.int w] M2 _
  have hc2 := hc1.to k2
  have key : zRu M2 B' := by
    exact ⟨_, _, _, _, _, _, _, _, _, hc2, hm2, hfg, hG, hL0⟩
  refine zs_pop (pc := 419) t350_419 rfl ?_
  refine zs_goto (pc := 420) t350_420 ?_
  exact h M2 hB2 key
theorem law9 {x : Int32} {n : Nat} (hn : x.toInt = (n : Int)) (hL : n + 6 ≤ X.2.2.2.2.2.1) (hS : X.2.2.2.2.2.1 ≤ 3072) {B B' : Int} (zB : B + 200000 ≤ B') (zB0 : B ≤ 1500000000) (hB : zBo M) (hR : zRu M B) (h : ∀ M', zBo M' → zRu M' B' → zGo X l 100 kc ks 350 1402 [(3, .int x), (2, .ref 336), (1, .ref 6), (0, .ref 0)] [] M' (fun r _ => r = some (.int 1))) : zGo X l 100 kc ks 350 423 [(3, .int x), (2, .ref 336), (1, .ref 6), (0, .ref 0)] [] M (fun r _ => r = some (.int 1)) := by
  obtain ⟨F, H, nd, K, T, L, en, f, g, hC, hM, hfg, hG, hL0⟩ := hR
  obtain ⟨y1, e1, i1⟩ := ziadd (a := x) (b := (1 : Int32)) hn li1 (by omega) (by omega)
  obtain ⟨y2, e2, i2⟩ := ziadd (a := x) (b := (2 : Int32)) hn li2 (by omega) (by omega)
  refine zs_aload_n (pc := 423) t350_423 rfl ?_
  refine zs_aload_n (pc := 424) t350_424 rfl ?_
  refine zs_iload_n (pc := 425) t350_425 rfl ?_
  refine zs_iconst (pc := 426) t350_426 (v := 1) (by decide) ?_
  refine zs_iadd (pc := 427) t350_427 (c := y1) e1 ?_
  refine zs_sald (pc := 428) t350_428 (j := n + 1) (by omega) (by omega) rfl ?_
  refine zs_aload_n (pc := 429) t350_429 rfl ?_
  refine zs_iload_n (pc := 430) t350_430 rfl ?_
  refine zs_iconst (pc := 431) t350_431 (v := 2) (by decide) ?_
  refine zs_iadd (pc := 432) t350_432 (c := y2) e2 ?_
  refine zs_sald (pc := 433) t350_433 (j := n + 2) (by omega) (by omega) rfl ?_
  refine zs_invV (pc := 434) (k := 6) (as' := [.int (X.2.2.2.2.2.2 (n + 1)), .int (X.2.2.2.2.2.2 (n + 2))]) (st := []) t350_434 mf104 rfl rfl (Or.inl ⟨by decide, hB.kc⟩) ⟨by decide, by decide, Nat.le_of_ble_eq_true rfl, Nat.le_of_ble_eq_true rfl⟩ (oc9 hB zB zB0 hC hG.1) ?_
  rintro r M1 ⟨⟨⟨s1, f1, ⟨v, rfl, rfl, rfl⟩, hc1⟩, k1⟩, hB1⟩
  show zGo X l 100 kc ks 350 437 [(3, .int x), (2, .ref 336), (1, .ref 6), (0, .ref 0)] [.int v] M1 _
  have hM1 := hM.to k1
  refine zs_pop (pc := 437) t350_437 rfl ?_
  refine zs_aload_n (pc := 438) t350_438 rfl ?_
  refine zs_aload_n (pc := 439) t350_439 rfl ?_
  refine zs_iload_n (pc := 440) t350_440 rfl ?_
  refine zs_iconst (pc := 441) t350_441 (v := 1) (by decide) ?_
  refine zs_iadd (pc := 442) t350_442 (c := y1) e1 ?_
  refine zs_sald (pc := 443) t350_443 (j := n + 1) (by omega) (by omega) rfl ?_
  refine zs_aload_n (pc := 444) t350_444 rfl ?_
  refine zs_iload_n (pc := 445) t350_445 rfl ?_
  refine zs_iconst (pc := 446) t350_446 (v := 2) (by decide) ?_
  refine zs_iadd (pc := 447) t350_447 (c := y2) e2 ?_
  refine zs_sald (pc := 448) t350_448 (j := n + 2) (by omega) (by omega) rfl ?_
  refine zs_invV (pc := 449) (k := 336) (as' := [.int (X.2.2.2.2.2.2 (n + 1)), .int (X.2.2.2.2.2.2 (n + 2))]) (st := []) t350_449 mf307 rfl rfl (Or.inl ⟨by decide, hB1.km⟩) ⟨by decide, by decide, Nat.le_of_ble_eq_true rfl, Nat.le_of_ble_eq_true rfl⟩ (om9 hB1 hM1 hG.1) ?_
  rintro r M2 ⟨⟨⟨s2, f2, ⟨w, rfl, rfl, rfl⟩, hm2⟩, k2⟩, hB2⟩
  show zGo X l 100 kc ks 350 452 [(3, .int x), (2, .ref 336), (1, .ref 6), (0, .ref 0)] [.int w] M2 _
  have hc2 := hc1.to k2
  have key : zRu M2 B' := by
    exact ⟨_, _, _, _, _, _, _, _, _, hc2, hm2, hfg, hG, hL0⟩
  refine zs_pop (pc := 452) t350_452 rfl ?_
  refine zs_goto (pc := 453) t350_453 ?_
  exact h M2 hB2 key
theorem law10 {x : Int32} {n : Nat} (hn : x.toInt = (n : Int)) (hL : n + 6 ≤ X.2.2.2.2.2.1) (hS : X.2.2.2.2.2.1 ≤ 3072) {B B' : Int} (zB : B + 200000 ≤ B') (zB0 : B ≤ 1500000000) (hB : zBo M) (hR : zRu M B) (h : ∀ M', zBo M' → zRu M' B' → zGo X l 100 kc ks 350 1402 [(3, .int x), (2, .ref 336), (1, .ref 6), (0, .ref 0)] [] M' (fun r _ => r = some (.int 1))) : zGo X l 100 kc ks 350 456 [(3, .int x), (2, .ref 336), (1, .ref 6), (0, .ref 0)] [] M (fun r _ => r = some (.int 1)) := by
  obtain ⟨F, H, nd, K, T, L, en, f, g, hC, hM, hfg, hG, hL0⟩ := hR
  obtain ⟨y1, e1, i1⟩ := ziadd (a := x) (b := (1 : Int32)) hn li1 (by omega) (by omega)
  obtain ⟨y2, e2, i2⟩ := ziadd (a := x) (b := (2 : Int32)) hn li2 (by omega) (by omega)
  refine zs_aload_n (pc := 456) t350_456 rfl ?_
  refine zs_aload_n (pc := 457) t350_457 rfl ?_
  refine zs_iload_n (pc := 458) t350_458 rfl ?_
  refine zs_iconst (pc := 459) t350_459 (v := 1) (by decide) ?_
  refine zs_iadd (pc := 460) t350_460 (c := y1) e1 ?_
  refine zs_sald (pc := 461) t350_461 (j := n + 1) (by omega) (by omega) rfl ?_
  refine zs_aload_n (pc := 462) t350_462 rfl ?_
  refine zs_iload_n (pc := 463) t350_463 rfl ?_
  refine zs_iconst (pc := 464) t350_464 (v := 2) (by decide) ?_
  refine zs_iadd (pc := 465) t350_465 (c := y2) e2 ?_
  refine zs_sald (pc := 466) t350_466 (j := n + 2) (by omega) (by omega) rfl ?_
  refine zs_invV (pc := 467) (k := 6) (as' := [.int (X.2.2.2.2.2.2 (n + 1)), .int (X.2.2.2.2.2.2 (n + 2))]) (st := []) t350_467 mf143 rfl rfl (Or.inl ⟨by decide, hB.kc⟩) ⟨by decide, by decide, Nat.le_of_ble_eq_true rfl, Nat.le_of_ble_eq_true rfl⟩ (oc10 hB zB zB0 hC hG.1) ?_
  rintro r M1 ⟨⟨⟨s1, f1, ⟨v, rfl, rfl, rfl⟩, hc1⟩, k1⟩, hB1⟩
  show zGo X l 100 kc ks 350 470 [(3, .int x), (2, .ref 336), (1, .ref 6), (0, .ref 0)] [.int v] M1 _
  have hM1 := hM.to k1
  refine zs_pop (pc := 470) t350_470 rfl ?_
  refine zs_aload_n (pc := 471) t350_471 rfl ?_
  refine zs_aload_n (pc := 472) t350_472 rfl ?_
  refine zs_iload_n (pc := 473) t350_473 rfl ?_
  refine zs_iconst (pc := 474) t350_474 (v := 1) (by decide) ?_
  refine zs_iadd (pc := 475) t350_475 (c := y1) e1 ?_
  refine zs_sald (pc := 476) t350_476 (j := n + 1) (by omega) (by omega) rfl ?_
  refine zs_aload_n (pc := 477) t350_477 rfl ?_
  refine zs_iload_n (pc := 478) t350_478 rfl ?_
  refine zs_iconst (pc := 479) t350_479 (v := 2) (by decide) ?_
  refine zs_iadd (pc := 480) t350_480 (c := y2) e2 ?_
  refine zs_sald (pc := 481) t350_481 (j := n + 2) (by omega) (by omega) rfl ?_
  refine zs_invV (pc := 482) (k := 336) (as' := [.int (X.2.2.2.2.2.2 (n + 1)), .int (X.2.2.2.2.2.2 (n + 2))]) (st := []) t350_482 mf309 rfl rfl (Or.inl ⟨by decide, hB1.km⟩) ⟨by decide, by decide, Nat.le_of_ble_eq_true rfl, Nat.le_of_ble_eq_true rfl⟩ (om10 hB1 hM1 hG.1) ?_
  rintro r M2 ⟨⟨⟨s2, f2, ⟨w, rfl, rfl, rfl⟩, hm2⟩, k2⟩, hB2⟩
  show zGo X l 100 kc ks 350 485 [(3, .int x), (2, .ref 336), (1, .ref 6), (0, .ref 0)] [.int w] M2 _
  have hc2 := hc1.to k2
  have key : zRu M2 B' := by
    exact ⟨_, _, _, _, _, _, _, _, _, hc2, hm2, hfg, hG, hL0⟩
  refine zs_pop (pc := 485) t350_485 rfl ?_
  refine zs_goto (pc := 486) t350_486 ?_
  exact h M2 hB2 key
theorem law11 {x : Int32} {n : Nat} (hn : x.toInt = (n : Int)) (hL : n + 6 ≤ X.2.2.2.2.2.1) (hS : X.2.2.2.2.2.1 ≤ 3072) {B B' : Int} (zB : B + 200000 ≤ B') (zB0 : B ≤ 1500000000) (hB : zBo M) (hR : zRu M B) (h : ∀ M', zBo M' → zRu M' B' → zGo X l 100 kc ks 350 1402 [(3, .int x), (2, .ref 336), (1, .ref 6), (0, .ref 0)] [] M' (fun r _ => r = some (.int 1))) : zGo X l 100 kc ks 350 489 [(3, .int x), (2, .ref 336), (1, .ref 6), (0, .ref 0)] [] M (fun r _ => r = some (.int 1)) := by
  obtain ⟨F, H, nd, K, T, L, en, f, g, hC, hM, hfg, hG, hL0⟩ := hR
  obtain ⟨y1, e1, i1⟩ := ziadd (a := x) (b := (1 : Int32)) hn li1 (by omega) (by omega)
  obtain ⟨y2, e2, i2⟩ := ziadd (a := x) (b := (2 : Int32)) hn li2 (by omega) (by omega)
  obtain ⟨y3, e3, i3⟩ := ziadd (a := x) (b := (3 : Int32)) hn li3 (by omega) (by omega)
  refine zs_aload_n (pc := 489) t350_489 rfl ?_
  refine zs_aload_n (pc := 490) t350_490 rfl ?_
  refine zs_iload_n (pc := 491) t350_491 rfl ?_
  refine zs_iconst (pc := 492) t350_492 (v := 1) (by decide) ?_
  refine zs_iadd (pc := 493) t350_493 (c := y1) e1 ?_
  refine zs_sald (pc := 494) t350_494 (j := n + 1) (by omega) (by omega) rfl ?_
  refine zs_aload_n (pc := 495) t350_495 rfl ?_
  refine zs_iload_n (pc := 496) t350_496 rfl ?_
  refine zs_iconst (pc := 497) t350_497 (v := 2) (by decide) ?_
  refine zs_iadd (pc := 498) t350_498 (c := y2) e2 ?_
  refine zs_sald (pc := 499) t350_499 (j := n + 2) (by omega) (by omega) rfl ?_
  refine zs_aload_n (pc := 500) t350_500 rfl ?_
  refine zs_iload_n (pc := 501) t350_501 rfl ?_
  refine zs_iconst (pc := 502) t350_502 (v := 3) (by decide) ?_
  refine zs_iadd (pc := 503) t350_503 (c := y3) e3 ?_
  refine zs_sald (pc := 504) t350_504 (j := n + 3) (by omega) (by omega) rfl ?_
  refine zs_invV (pc := 505) (k := 6) (as' := [.int (X.2.2.2.2.2.2 (n + 1)), .int (X.2.2.2.2.2.2 (n + 2)), .int (X.2.2.2.2.2.2 (n + 3))]) (st := []) t350_505 mf147 rfl rfl (Or.inl ⟨by decide, hB.kc⟩) ⟨by decide, by decide, Nat.le_of_ble_eq_true rfl, Nat.le_of_ble_eq_true rfl⟩ (oc11 hB zB zB0 hC hG.1) ?_
  rintro r M1 ⟨⟨⟨s1, f1, ⟨v, rfl, rfl, rfl⟩, hc1⟩, k1⟩, hB1⟩
  show zGo X l 100 kc ks 350 508 [(3, .int x), (2, .ref 336), (1, .ref 6), (0, .ref 0)] [.int v] M1 _
  have hM1 := hM.to k1
  refine zs_pop (pc := 508) t350_508 rfl ?_
  refine zs_aload_n (pc := 509) t350_509 rfl ?_
  refine zs_aload_n (pc := 510) t350_510 rfl ?_
  refine zs_iload_n (pc := 511) t350_511 rfl ?_
  refine zs_iconst (pc := 512) t350_512 (v := 1) (by decide) ?_
  refine zs_iadd (pc := 513) t350_513 (c := y1) e1 ?_
  refine zs_sald (pc := 514) t350_514 (j := n + 1) (by omega) (by omega) rfl ?_
  refine zs_aload_n (pc := 515) t350_515 rfl ?_
  refine zs_iload_n (pc := 516) t350_516 rfl ?_
  refine zs_iconst (pc := 517) t350_517 (v := 2) (by decide) ?_
  refine zs_iadd (pc := 518) t350_518 (c := y2) e2 ?_
  refine zs_sald (pc := 519) t350_519 (j := n + 2) (by omega) (by omega) rfl ?_
  refine zs_aload_n (pc := 520) t350_520 rfl ?_
  refine zs_iload_n (pc := 521) t350_521 rfl ?_
  refine zs_iconst (pc := 522) t350_522 (v := 3) (by decide) ?_
  refine zs_iadd (pc := 523) t350_523 (c := y3) e3 ?_
  refine zs_sald (pc := 524) t350_524 (j := n + 3) (by omega) (by omega) rfl ?_
  refine zs_invV (pc := 525) (k := 336) (as' := [.int (X.2.2.2.2.2.2 (n + 1)), .int (X.2.2.2.2.2.2 (n + 2)), .int (X.2.2.2.2.2.2 (n + 3))]) (st := []) t350_525 mf314 rfl rfl (Or.inl ⟨by decide, hB1.km⟩) ⟨by decide, by decide, Nat.le_of_ble_eq_true rfl, Nat.le_of_ble_eq_true rfl⟩ (om11 hB1 hM1 hG.1) ?_
  rintro r M2 ⟨⟨⟨s2, f2, ⟨w, rfl, rfl, rfl⟩, hm2⟩, k2⟩, hB2⟩
  show zGo X l 100 kc ks 350 528 [(3, .int x), (2, .ref 336), (1, .ref 6), (0, .ref 0)] [.int w] M2 _
  have hc2 := hc1.to k2
  have key : zRu M2 B' := by
    exact ⟨_, _, _, _, _, _, _, _, _, hc2, hm2, hfg, hG, hL0⟩
  refine zs_pop (pc := 528) t350_528 rfl ?_
  refine zs_goto (pc := 529) t350_529 ?_
  exact h M2 hB2 key
theorem law12 {x : Int32} {n : Nat} (hn : x.toInt = (n : Int)) (hL : n + 6 ≤ X.2.2.2.2.2.1) (hS : X.2.2.2.2.2.1 ≤ 3072) {B B' : Int} (zB : B + 200000 ≤ B') (zB0 : B ≤ 1500000000) (hB : zBo M) (hR : zRu M B) (h : ∀ M', zBo M' → zRu M' B' → zGo X l 100 kc ks 350 1402 [(3, .int x), (2, .ref 336), (1, .ref 6), (0, .ref 0)] [] M' (fun r _ => r = some (.int 1))) : zGo X l 100 kc ks 350 532 [(3, .int x), (2, .ref 336), (1, .ref 6), (0, .ref 0)] [] M (fun r _ => r = some (.int 1)) := by
  obtain ⟨F, H, nd, K, T, L, en, f, g, hC, hM, hfg, hG, hL0⟩ := hR
  obtain ⟨y1, e1, i1⟩ := ziadd (a := x) (b := (1 : Int32)) hn li1 (by omega) (by omega)
  obtain ⟨y2, e2, i2⟩ := ziadd (a := x) (b := (2 : Int32)) hn li2 (by omega) (by omega)
  obtain ⟨y3, e3, i3⟩ := ziadd (a := x) (b := (3 : Int32)) hn li3 (by omega) (by omega)
  refine zs_aload_n (pc := 532) t350_532 rfl ?_
  refine zs_aload_n (pc := 533) t350_533 rfl ?_
  refine zs_iload_n (pc := 534) t350_534 rfl ?_
  refine zs_iconst (pc := 535) t350_535 (v := 1) (by decide) ?_
  refine zs_iadd (pc := 536) t350_536 (c := y1) e1 ?_
  refine zs_sald (pc := 537) t350_537 (j := n + 1) (by omega) (by omega) rfl ?_
  refine zs_aload_n (pc := 538) t350_538 rfl ?_
  refine zs_iload_n (pc := 539) t350_539 rfl ?_
  refine zs_iconst (pc := 540) t350_540 (v := 2) (by decide) ?_
  refine zs_iadd (pc := 541) t350_541 (c := y2) e2 ?_
  refine zs_sald (pc := 542) t350_542 (j := n + 2) (by omega) (by omega) rfl ?_
  refine zs_aload_n (pc := 543) t350_543 rfl ?_
  refine zs_iload_n (pc := 544) t350_544 rfl ?_
  refine zs_iconst (pc := 545) t350_545 (v := 3) (by decide) ?_
  refine zs_iadd (pc := 546) t350_546 (c := y3) e3 ?_
  refine zs_sald (pc := 547) t350_547 (j := n + 3) (by omega) (by omega) rfl ?_
  refine zs_invV (pc := 548) (k := 6) (as' := [.int (X.2.2.2.2.2.2 (n + 1)), .int (X.2.2.2.2.2.2 (n + 2)), .int (X.2.2.2.2.2.2 (n + 3))]) (st := []) t350_548 mf148 rfl rfl (Or.inl ⟨by decide, hB.kc⟩) ⟨by decide, by decide, Nat.le_of_ble_eq_true rfl, Nat.le_of_ble_eq_true rfl⟩ (oc12 hB zB zB0 hC hG.1) ?_
  rintro r M1 ⟨⟨⟨s1, f1, ⟨v, rfl, rfl, rfl⟩, hc1⟩, k1⟩, hB1⟩
  show zGo X l 100 kc ks 350 551 [(3, .int x), (2, .ref 336), (1, .ref 6), (0, .ref 0)] [.int v] M1 _
  have hM1 := hM.to k1
  refine zs_pop (pc := 551) t350_551 rfl ?_
  refine zs_aload_n (pc := 552) t350_552 rfl ?_
  refine zs_aload_n (pc := 553) t350_553 rfl ?_
  refine zs_iload_n (pc := 554) t350_554 rfl ?_
  refine zs_iconst (pc := 555) t350_555 (v := 1) (by decide) ?_
  refine zs_iadd (pc := 556) t350_556 (c := y1) e1 ?_
  refine zs_sald (pc := 557) t350_557 (j := n + 1) (by omega) (by omega) rfl ?_
  refine zs_aload_n (pc := 558) t350_558 rfl ?_
  refine zs_iload_n (pc := 559) t350_559 rfl ?_
  refine zs_iconst (pc := 560) t350_560 (v := 2) (by decide) ?_
  refine zs_iadd (pc := 561) t350_561 (c := y2) e2 ?_
  refine zs_sald (pc := 562) t350_562 (j := n + 2) (by omega) (by omega) rfl ?_
  refine zs_aload_n (pc := 563) t350_563 rfl ?_
  refine zs_iload_n (pc := 564) t350_564 rfl ?_
  refine zs_iconst (pc := 565) t350_565 (v := 3) (by decide) ?_
  refine zs_iadd (pc := 566) t350_566 (c := y3) e3 ?_
  refine zs_sald (pc := 567) t350_567 (j := n + 3) (by omega) (by omega) rfl ?_
  refine zs_invV (pc := 568) (k := 336) (as' := [.int (X.2.2.2.2.2.2 (n + 1)), .int (X.2.2.2.2.2.2 (n + 2)), .int (X.2.2.2.2.2.2 (n + 3))]) (st := []) t350_568 mf315 rfl rfl (Or.inl ⟨by decide, hB1.km⟩) ⟨by decide, by decide, Nat.le_of_ble_eq_true rfl, Nat.le_of_ble_eq_true rfl⟩ (om12 hB1 hM1 hG.1) ?_
  rintro r M2 ⟨⟨⟨s2, f2, ⟨w, rfl, rfl, rfl⟩, hm2⟩, k2⟩, hB2⟩
  show zGo X l 100 kc ks 350 571 [(3, .int x), (2, .ref 336), (1, .ref 6), (0, .ref 0)] [.int w] M2 _
  have hc2 := hc1.to k2
  have key : zRu M2 B' := by
    exact ⟨_, _, _, _, _, _, _, _, _, hc2, hm2, hfg, hG, hL0⟩
  refine zs_pop (pc := 571) t350_571 rfl ?_
  refine zs_goto (pc := 572) t350_572 ?_
  exact h M2 hB2 key
theorem law13 {x : Int32} {n : Nat} (hn : x.toInt = (n : Int)) (hL : n + 6 ≤ X.2.2.2.2.2.1) (hS : X.2.2.2.2.2.1 ≤ 3072) {B B' : Int} (zB : B + 200000 ≤ B') (zB0 : B ≤ 1500000000) (hB : zBo M) (hR : zRu M B) (h : ∀ M', zBo M' → zRu M' B' → zGo X l 100 kc ks 350 1402 [(3, .int x), (2, .ref 336), (1, .ref 6), (0, .ref 0)] [] M' (fun r _ => r = some (.int 1))) : zGo X l 100 kc ks 350 575 [(3, .int x), (2, .ref 336), (1, .ref 6), (0, .ref 0)] [] M (fun r _ => r = some (.int 1)) := by
  obtain ⟨F, H, nd, K, T, L, en, f, g, hC, hM, hfg, hG, hL0⟩ := hR
  obtain ⟨y1, e1, i1⟩ := ziadd (a := x) (b := (1 : Int32)) hn li1 (by omega) (by omega)
  refine zs_aload_n (pc := 575) t350_575 rfl ?_
  refine zs_aload_n (pc := 576) t350_576 rfl ?_
  refine zs_iload_n (pc := 577) t350_577 rfl ?_
  refine zs_iconst (pc := 578) t350_578 (v := 1) (by decide) ?_
  refine zs_iadd (pc := 579) t350_579 (c := y1) e1 ?_
  refine zs_sald (pc := 580) t350_580 (j := n + 1) (by omega) (by omega) rfl ?_
  refine zs_invV (pc := 581) (k := 6) (as' := [.int (X.2.2.2.2.2.2 (n + 1))]) (st := []) t350_581 mf150 rfl rfl (Or.inl ⟨by decide, hB.kc⟩) ⟨by decide, by decide, Nat.le_of_ble_eq_true rfl, Nat.le_of_ble_eq_true rfl⟩ (oc13 hB zB zB0 hC hG.1) ?_
  rintro r M1 ⟨⟨⟨s1, f1, ⟨v, rfl, rfl, rfl⟩, hc1⟩, k1⟩, hB1⟩
  show zGo X l 100 kc ks 350 584 [(3, .int x), (2, .ref 336), (1, .ref 6), (0, .ref 0)] [.int v] M1 _
  have hM1 := hM.to k1
  refine zs_pop (pc := 584) t350_584 rfl ?_
  refine zs_aload_n (pc := 585) t350_585 rfl ?_
  refine zs_aload_n (pc := 586) t350_586 rfl ?_
  refine zs_iload_n (pc := 587) t350_587 rfl ?_
  refine zs_iconst (pc := 588) t350_588 (v := 1) (by decide) ?_
  refine zs_iadd (pc := 589) t350_589 (c := y1) e1 ?_
  refine zs_sald (pc := 590) t350_590 (j := n + 1) (by omega) (by omega) rfl ?_
  refine zs_invV (pc := 591) (k := 336) (as' := [.int (X.2.2.2.2.2.2 (n + 1))]) (st := []) t350_591 mf316 rfl rfl (Or.inl ⟨by decide, hB1.km⟩) ⟨by decide, by decide, Nat.le_of_ble_eq_true rfl, Nat.le_of_ble_eq_true rfl⟩ (om13 hB1 hM1 hG.1) ?_
  rintro r M2 ⟨⟨⟨s2, f2, ⟨w, rfl, rfl, rfl⟩, hm2⟩, k2⟩, hB2⟩
  show zGo X l 100 kc ks 350 594 [(3, .int x), (2, .ref 336), (1, .ref 6), (0, .ref 0)] [.int w] M2 _
  have hc2 := hc1.to k2
  have key : zRu M2 B' := by
    exact ⟨_, _, _, _, _, _, _, _, _, hc2, hm2, hfg, hG, hL0⟩
  refine zs_pop (pc := 594) t350_594 rfl ?_
  refine zs_goto (pc := 595) t350_595 ?_
  exact h M2 hB2 key
theorem law14 {x : Int32} {n : Nat} (hn : x.toInt = (n : Int)) (hL : n + 6 ≤ X.2.2.2.2.2.1) (hS : X.2.2.2.2.2.1 ≤ 3072) {B B' : Int} (zB : B + 200000 ≤ B') (zB0 : B ≤ 1500000000) (hB : zBo M) (hR : zRu M B) (h : ∀ M', zBo M' → zRu M' B' → zGo X l 100 kc ks 350 1402 [(3, .int x), (2, .ref 336), (1, .ref 6), (0, .ref 0)] [] M' (fun r _ => r = some (.int 1))) : zGo X l 100 kc ks 350 598 [(3, .int x), (2, .ref 336), (1, .ref 6), (0, .ref 0)] [] M (fun r _ => r = some (.int 1)) := by
  obtain ⟨F, H, nd, K, T, L, en, f, g, hC, hM, hfg, hG, hL0⟩ := hR
  obtain ⟨y1, e1, i1⟩ := ziadd (a := x) (b := (1 : Int32)) hn li1 (by omega) (by omega)
  obtain ⟨y2, e2, i2⟩ := ziadd (a := x) (b := (2 : Int32)) hn li2 (by omega) (by omega)
  refine zs_aload_n (pc := 598) t350_598 rfl ?_
  refine zs_aload_n (pc := 599) t350_599 rfl ?_
  refine zs_iload_n (pc := 600) t350_600 rfl ?_
  refine zs_iconst (pc := 601) t350_601 (v := 1) (by decide) ?_
  refine zs_iadd (pc := 602) t350_602 (c := y1) e1 ?_
  refine zs_sald (pc := 603) t350_603 (j := n + 1) (by omega) (by omega) rfl ?_
  refine zs_aload_n (pc := 604) t350_604 rfl ?_
  refine zs_iload_n (pc := 605) t350_605 rfl ?_
  refine zs_iconst (pc := 606) t350_606 (v := 2) (by decide) ?_
  refine zs_iadd (pc := 607) t350_607 (c := y2) e2 ?_
  refine zs_sald (pc := 608) t350_608 (j := n + 2) (by omega) (by omega) rfl ?_
  refine zs_invV (pc := 609) (k := 6) (as' := [.int (X.2.2.2.2.2.2 (n + 1)), .int (X.2.2.2.2.2.2 (n + 2))]) (st := []) t350_609 mf169 rfl rfl (Or.inl ⟨by decide, hB.kc⟩) ⟨by decide, by decide, Nat.le_of_ble_eq_true rfl, Nat.le_of_ble_eq_true rfl⟩ (oc14 hB zB zB0 hC hG.1) ?_
  rintro r M1 ⟨⟨⟨s1, f1, ⟨v, rfl, rfl, rfl⟩, hc1⟩, k1⟩, hB1⟩
  show zGo X l 100 kc ks 350 612 [(3, .int x), (2, .ref 336), (1, .ref 6), (0, .ref 0)] [.int v] M1 _
  have hM1 := hM.to k1
  refine zs_pop (pc := 612) t350_612 rfl ?_
  refine zs_aload_n (pc := 613) t350_613 rfl ?_
  refine zs_aload_n (pc := 614) t350_614 rfl ?_
  refine zs_iload_n (pc := 615) t350_615 rfl ?_
  refine zs_iconst (pc := 616) t350_616 (v := 1) (by decide) ?_
  refine zs_iadd (pc := 617) t350_617 (c := y1) e1 ?_
  refine zs_sald (pc := 618) t350_618 (j := n + 1) (by omega) (by omega) rfl ?_
  refine zs_aload_n (pc := 619) t350_619 rfl ?_
  refine zs_iload_n (pc := 620) t350_620 rfl ?_
  refine zs_iconst (pc := 621) t350_621 (v := 2) (by decide) ?_
  refine zs_iadd (pc := 622) t350_622 (c := y2) e2 ?_
  refine zs_sald (pc := 623) t350_623 (j := n + 2) (by omega) (by omega) rfl ?_
  refine zs_invV (pc := 624) (k := 336) (as' := [.int (X.2.2.2.2.2.2 (n + 1)), .int (X.2.2.2.2.2.2 (n + 2))]) (st := []) t350_624 mf317 rfl rfl (Or.inl ⟨by decide, hB1.km⟩) ⟨by decide, by decide, Nat.le_of_ble_eq_true rfl, Nat.le_of_ble_eq_true rfl⟩ (om14 hB1 hM1 hG.1) ?_
  rintro r M2 ⟨⟨⟨s2, f2, ⟨w, rfl, rfl, rfl⟩, hm2⟩, k2⟩, hB2⟩
  show zGo X l 100 kc ks 350 627 [(3, .int x), (2, .ref 336), (1, .ref 6), (0, .ref 0)] [.int w] M2 _
  have hc2 := hc1.to k2
  have key : zRu M2 B' := by
    exact ⟨_, _, _, _, _, _, _, _, _, hc2, hm2, hfg, hG, hL0⟩
  refine zs_pop (pc := 627) t350_627 rfl ?_
  refine zs_goto (pc := 628) t350_628 ?_
  exact h M2 hB2 key
theorem law15 {x : Int32} {n : Nat} (hn : x.toInt = (n : Int)) (hL : n + 6 ≤ X.2.2.2.2.2.1) (hS : X.2.2.2.2.2.1 ≤ 3072) {B B' : Int} (zB : B + 200000 ≤ B') (zB0 : B ≤ 1500000000) (hB : zBo M) (hR : zRu M B) (h : ∀ M', zBo M' → zRu M' B' → zGo X l 100 kc ks 350 1402 [(3, .int x), (2, .ref 336), (1, .ref 6), (0, .ref 0)] [] M' (fun r _ => r = some (.int 1))) : zGo X l 100 kc ks 350 631 [(3, .int x), (2, .ref 336), (1, .ref 6), (0, .ref 0)] [] M (fun r _ => r = some (.int 1)) := by
  obtain ⟨F, H, nd, K, T, L, en, f, g, hC, hM, hfg, hG, hL0⟩ := hR
  obtain ⟨y1, e1, i1⟩ := ziadd (a := x) (b := (1 : Int32)) hn li1 (by omega) (by omega)
  obtain ⟨y2, e2, i2⟩ := ziadd (a := x) (b := (2 : Int32)) hn li2 (by omega) (by omega)
  refine zs_aload_n (pc := 631) t350_631 rfl ?_
  refine zs_aload_n (pc := 632) t350_632 rfl ?_
  refine zs_iload_n (pc := 633) t350_633 rfl ?_
  refine zs_iconst (pc := 634) t350_634 (v := 1) (by decide) ?_
  refine zs_iadd (pc := 635) t350_635 (c := y1) e1 ?_
  refine zs_sald (pc := 636) t350_636 (j := n + 1) (by omega) (by omega) rfl ?_
  refine zs_aload_n (pc := 637) t350_637 rfl ?_
  refine zs_iload_n (pc := 638) t350_638 rfl ?_
  refine zs_iconst (pc := 639) t350_639 (v := 2) (by decide) ?_
  refine zs_iadd (pc := 640) t350_640 (c := y2) e2 ?_
  refine zs_sald (pc := 641) t350_641 (j := n + 2) (by omega) (by omega) rfl ?_
  refine zs_invV (pc := 642) (k := 6) (as' := [.int (X.2.2.2.2.2.2 (n + 1)), .int (X.2.2.2.2.2.2 (n + 2))]) (st := []) t350_642 mf172 rfl rfl (Or.inl ⟨by decide, hB.kc⟩) ⟨by decide, by decide, Nat.le_of_ble_eq_true rfl, Nat.le_of_ble_eq_true rfl⟩ (oc15 hB zB zB0 hC hG.1) ?_
  rintro r M1 ⟨⟨⟨s1, f1, ⟨v, rfl, rfl, rfl⟩, hc1⟩, k1⟩, hB1⟩
  show zGo X l 100 kc ks 350 645 [(3, .int x), (2, .ref 336), (1, .ref 6), (0, .ref 0)] [.int v] M1 _
  have hM1 := hM.to k1
  refine zs_pop (pc := 645) t350_645 rfl ?_
  refine zs_aload_n (pc := 646) t350_646 rfl ?_
  refine zs_aload_n (pc := 647) t350_647 rfl ?_
  refine zs_iload_n (pc := 648) t350_648 rfl ?_
  refine zs_iconst (pc := 649) t350_649 (v := 1) (by decide) ?_
  refine zs_iadd (pc := 650) t350_650 (c := y1) e1 ?_
  refine zs_sald (pc := 651) t350_651 (j := n + 1) (by omega) (by omega) rfl ?_
  refine zs_aload_n (pc := 652) t350_652 rfl ?_
  refine zs_iload_n (pc := 653) t350_653 rfl ?_
  refine zs_iconst (pc := 654) t350_654 (v := 2) (by decide) ?_
  refine zs_iadd (pc := 655) t350_655 (c := y2) e2 ?_
  refine zs_sald (pc := 656) t350_656 (j := n + 2) (by omega) (by omega) rfl ?_
  refine zs_invV (pc := 657) (k := 336) (as' := [.int (X.2.2.2.2.2.2 (n + 1)), .int (X.2.2.2.2.2.2 (n + 2))]) (st := []) t350_657 mf321 rfl rfl (Or.inl ⟨by decide, hB1.km⟩) ⟨by decide, by decide, Nat.le_of_ble_eq_true rfl, Nat.le_of_ble_eq_true rfl⟩ (om15 hB1 hM1 hG.1) ?_
  rintro r M2 ⟨⟨⟨s2, f2, ⟨w, rfl, rfl, rfl⟩, hm2⟩, k2⟩, hB2⟩
  show zGo X l 100 kc ks 350 660 [(3, .int x), (2, .ref 336), (1, .ref 6), (0, .ref 0)] [.int w] M2 _
  have hc2 := hc1.to k2
  have key : zRu M2 B' := by
    exact ⟨_, _, _, _, _, _, _, _, _, hc2, hm2, hfg, hG, hL0⟩
  refine zs_pop (pc := 660) t350_660 rfl ?_
  refine zs_goto (pc := 661) t350_661 ?_
  exact h M2 hB2 key
theorem law16 {x : Int32} {n : Nat} (hn : x.toInt = (n : Int)) (hL : n + 6 ≤ X.2.2.2.2.2.1) (hS : X.2.2.2.2.2.1 ≤ 3072) {B B' : Int} (zB : B + 200000 ≤ B') (zB0 : B ≤ 1500000000) (hB : zBo M) (hR : zRu M B) (h : ∀ M', zBo M' → zRu M' B' → zGo X l 100 kc ks 350 1402 [(3, .int x), (2, .ref 336), (1, .ref 6), (0, .ref 0)] [] M' (fun r _ => r = some (.int 1))) : zGo X l 100 kc ks 350 664 [(3, .int x), (2, .ref 336), (1, .ref 6), (0, .ref 0)] [] M (fun r _ => r = some (.int 1)) := by
  obtain ⟨F, H, nd, K, T, L, en, f, g, hC, hM, hfg, hG, hL0⟩ := hR
  obtain ⟨y1, e1, i1⟩ := ziadd (a := x) (b := (1 : Int32)) hn li1 (by omega) (by omega)
  obtain ⟨y2, e2, i2⟩ := ziadd (a := x) (b := (2 : Int32)) hn li2 (by omega) (by omega)
  refine zs_aload_n (pc := 664) t350_664 rfl ?_
  refine zs_aload_n (pc := 665) t350_665 rfl ?_
  refine zs_iload_n (pc := 666) t350_666 rfl ?_
  refine zs_iconst (pc := 667) t350_667 (v := 1) (by decide) ?_
  refine zs_iadd (pc := 668) t350_668 (c := y1) e1 ?_
  refine zs_sald (pc := 669) t350_669 (j := n + 1) (by omega) (by omega) rfl ?_
  refine zs_aload_n (pc := 670) t350_670 rfl ?_
  refine zs_iload_n (pc := 671) t350_671 rfl ?_
  refine zs_iconst (pc := 672) t350_672 (v := 2) (by decide) ?_
  refine zs_iadd (pc := 673) t350_673 (c := y2) e2 ?_
  refine zs_sald (pc := 674) t350_674 (j := n + 2) (by omega) (by omega) rfl ?_
  refine zs_invV (pc := 675) (k := 6) (as' := [.int (X.2.2.2.2.2.2 (n + 1)), .int (X.2.2.2.2.2.2 (n + 2))]) (st := []) t350_675 mf173 rfl rfl (Or.inl ⟨by decide, hB.kc⟩) ⟨by decide, by decide, Nat.le_of_ble_eq_true rfl, Nat.le_of_ble_eq_true rfl⟩ (oc16 hB zB zB0 hC hG.1) ?_
  rintro r M1 ⟨⟨⟨s1, f1, ⟨v, rfl, rfl, rfl⟩, hc1⟩, k1⟩, hB1⟩
  show zGo X l 100 kc ks 350 678 [(3, .int x), (2, .ref 336), (1, .ref 6), (0, .ref 0)] [.long v] M1 _
  have hM1 := hM.to k1
  refine zs_pop2 (pc := 678) t350_678 rfl ?_
  refine zs_aload_n (pc := 679) t350_679 rfl ?_
  refine zs_aload_n (pc := 680) t350_680 rfl ?_
  refine zs_iload_n (pc := 681) t350_681 rfl ?_
  refine zs_iconst (pc := 682) t350_682 (v := 1) (by decide) ?_
  refine zs_iadd (pc := 683) t350_683 (c := y1) e1 ?_
  refine zs_sald (pc := 684) t350_684 (j := n + 1) (by omega) (by omega) rfl ?_
  refine zs_aload_n (pc := 685) t350_685 rfl ?_
  refine zs_iload_n (pc := 686) t350_686 rfl ?_
  refine zs_iconst (pc := 687) t350_687 (v := 2) (by decide) ?_
  refine zs_iadd (pc := 688) t350_688 (c := y2) e2 ?_
  refine zs_sald (pc := 689) t350_689 (j := n + 2) (by omega) (by omega) rfl ?_
  refine zs_invV (pc := 690) (k := 336) (as' := [.int (X.2.2.2.2.2.2 (n + 1)), .int (X.2.2.2.2.2.2 (n + 2))]) (st := []) t350_690 mf296 rfl rfl (Or.inl ⟨by decide, hB1.km⟩) ⟨by decide, by decide, Nat.le_of_ble_eq_true rfl, Nat.le_of_ble_eq_true rfl⟩ (om16 hB1 hM1 hG.1) ?_
  rintro r M2 ⟨⟨⟨s2, f2, ⟨w, rfl, rfl, rfl⟩, hm2⟩, k2⟩, hB2⟩
  show zGo X l 100 kc ks 350 693 [(3, .int x), (2, .ref 336), (1, .ref 6), (0, .ref 0)] [.long w] M2 _
  have hc2 := hc1.to k2
  have key : zRu M2 B' := by
    exact ⟨_, _, _, _, _, _, _, _, _, hc2, hm2, hfg, hG, hL0⟩
  refine zs_pop2 (pc := 693) t350_693 rfl ?_
  refine zs_goto (pc := 694) t350_694 ?_
  exact h M2 hB2 key
theorem law17 {x : Int32} {n : Nat} (hn : x.toInt = (n : Int)) (hL : n + 6 ≤ X.2.2.2.2.2.1) (hS : X.2.2.2.2.2.1 ≤ 3072) {B B' : Int} (zB : B + 200000 ≤ B') (zB0 : B ≤ 1500000000) (hB : zBo M) (hR : zRu M B) (h : ∀ M', zBo M' → zRu M' B' → zGo X l 100 kc ks 350 1402 [(3, .int x), (2, .ref 336), (1, .ref 6), (0, .ref 0)] [] M' (fun r _ => r = some (.int 1))) : zGo X l 100 kc ks 350 697 [(3, .int x), (2, .ref 336), (1, .ref 6), (0, .ref 0)] [] M (fun r _ => r = some (.int 1)) := by
  obtain ⟨F, H, nd, K, T, L, en, f, g, hC, hM, hfg, hG, hL0⟩ := hR
  obtain ⟨y1, e1, i1⟩ := ziadd (a := x) (b := (1 : Int32)) hn li1 (by omega) (by omega)
  obtain ⟨y2, e2, i2⟩ := ziadd (a := x) (b := (2 : Int32)) hn li2 (by omega) (by omega)
  refine zs_aload_n (pc := 697) t350_697 rfl ?_
  refine zs_aload_n (pc := 698) t350_698 rfl ?_
  refine zs_iload_n (pc := 699) t350_699 rfl ?_
  refine zs_iconst (pc := 700) t350_700 (v := 1) (by decide) ?_
  refine zs_iadd (pc := 701) t350_701 (c := y1) e1 ?_
  refine zs_sald (pc := 702) t350_702 (j := n + 1) (by omega) (by omega) rfl ?_
  refine zs_aload_n (pc := 703) t350_703 rfl ?_
  refine zs_iload_n (pc := 704) t350_704 rfl ?_
  refine zs_iconst (pc := 705) t350_705 (v := 2) (by decide) ?_
  refine zs_iadd (pc := 706) t350_706 (c := y2) e2 ?_
  refine zs_sald (pc := 707) t350_707 (j := n + 2) (by omega) (by omega) rfl ?_
  refine zs_invV (pc := 708) (k := 6) (as' := [.int (X.2.2.2.2.2.2 (n + 1)), .int (X.2.2.2.2.2.2 (n + 2))]) (st := []) t350_708 mf177 rfl rfl (Or.inl ⟨by decide, hB.kc⟩) ⟨by decide, by decide, Nat.le_of_ble_eq_true rfl, Nat.le_of_ble_eq_true rfl⟩ (oc17 hB zB zB0 hC hG.1) ?_
  rintro r M1 ⟨⟨⟨s1, f1, ⟨v, rfl, rfl, rfl⟩, hc1⟩, k1⟩, hB1⟩
  show zGo X l 100 kc ks 350 711 [(3, .int x), (2, .ref 336), (1, .ref 6), (0, .ref 0)] [.int v] M1 _
  have hM1 := hM.to k1
  refine zs_pop (pc := 711) t350_711 rfl ?_
  refine zs_aload_n (pc := 712) t350_712 rfl ?_
  refine zs_aload_n (pc := 713) t350_713 rfl ?_
  refine zs_iload_n (pc := 714) t350_714 rfl ?_
  refine zs_iconst (pc := 715) t350_715 (v := 1) (by decide) ?_
  refine zs_iadd (pc := 716) t350_716 (c := y1) e1 ?_
  refine zs_sald (pc := 717) t350_717 (j := n + 1) (by omega) (by omega) rfl ?_
  refine zs_aload_n (pc := 718) t350_718 rfl ?_
  refine zs_iload_n (pc := 719) t350_719 rfl ?_
  refine zs_iconst (pc := 720) t350_720 (v := 2) (by decide) ?_
  refine zs_iadd (pc := 721) t350_721 (c := y2) e2 ?_
  refine zs_sald (pc := 722) t350_722 (j := n + 2) (by omega) (by omega) rfl ?_
  refine zs_invV (pc := 723) (k := 336) (as' := [.int (X.2.2.2.2.2.2 (n + 1)), .int (X.2.2.2.2.2.2 (n + 2))]) (st := []) t350_723 mf301 rfl rfl (Or.inl ⟨by decide, hB1.km⟩) ⟨by decide, by decide, Nat.le_of_ble_eq_true rfl, Nat.le_of_ble_eq_true rfl⟩ (om17 hB1 hM1 hG.1) ?_
  rintro r M2 ⟨⟨⟨s2, f2, ⟨w, rfl, rfl, rfl⟩, hm2⟩, k2⟩, hB2⟩
  show zGo X l 100 kc ks 350 726 [(3, .int x), (2, .ref 336), (1, .ref 6), (0, .ref 0)] [.int w] M2 _
  have hc2 := hc1.to k2
  have key : zRu M2 B' := by
    exact ⟨_, _, _, _, _, _, _, _, _, hc2, hm2, hfg, hG, hL0⟩
  refine zs_pop (pc := 726) t350_726 rfl ?_
  refine zs_goto (pc := 727) t350_727 ?_
  exact h M2 hB2 key
theorem law18 {x : Int32} {n : Nat} (hn : x.toInt = (n : Int)) (hL : n + 6 ≤ X.2.2.2.2.2.1) (hS : X.2.2.2.2.2.1 ≤ 3072) {B B' : Int} (zB : B + 200000 ≤ B') (zB0 : B ≤ 1500000000) (hB : zBo M) (hR : zRu M B) (h : ∀ M', zBo M' → zRu M' B' → zGo X l 100 kc ks 350 1402 [(3, .int x), (2, .ref 336), (1, .ref 6), (0, .ref 0)] [] M' (fun r _ => r = some (.int 1))) : zGo X l 100 kc ks 350 730 [(3, .int x), (2, .ref 336), (1, .ref 6), (0, .ref 0)] [] M (fun r _ => r = some (.int 1)) := by
  obtain ⟨F, H, nd, K, T, L, en, f, g, hC, hM, hfg, hG, hL0⟩ := hR
  refine zs_aload_n (pc := 730) t350_730 rfl ?_
  refine zs_invV9 (d := 100) (pc := 731) (k := 6) (as' := []) (st := []) t350_731 mf180 rfl rfl (Or.inl ⟨by decide, hB.kc⟩) ⟨by decide, Nat.le_of_ble_eq_true rfl, Nat.le_of_ble_eq_true rfl⟩ (oc18 hB zB zB0 hC hG.1) ?_
  rintro r M1 ⟨⟨⟨s1, f1, ⟨v, rfl, rfl, rfl⟩, hc1⟩, k1⟩, hB1⟩
  show zGo X l 100 kc ks 350 734 [(3, .int x), (2, .ref 336), (1, .ref 6), (0, .ref 0)] [.int v] M1 _
  have hM1 := hM.to k1
  refine zs_pop (pc := 734) t350_734 rfl ?_
  refine zs_aload_n (pc := 735) t350_735 rfl ?_
  refine zs_invV (pc := 736) (k := 336) (as' := []) (st := []) t350_736 mf266 rfl rfl (Or.inl ⟨by decide, hB1.km⟩) ⟨by decide, by decide, Nat.le_of_ble_eq_true rfl, Nat.le_of_ble_eq_true rfl⟩ (om18 hB1 hM1 hG.1) ?_
  rintro r M2 ⟨⟨⟨s2, f2, ⟨w, rfl, rfl, rfl⟩, hm2⟩, k2⟩, hB2⟩
  show zGo X l 100 kc ks 350 739 [(3, .int x), (2, .ref 336), (1, .ref 6), (0, .ref 0)] [.int w] M2 _
  have hc2 := hc1.to k2
  have key : zRu M2 B' := by
    exact ⟨_, _, _, _, _, _, _, _, _, hc2, hm2, hfg, hG, hL0⟩
  refine zs_pop (pc := 739) t350_739 rfl ?_
  refine zs_goto (pc := 740) t350_740 ?_
  exact h M2 hB2 key
theorem law19 {x : Int32} {n : Nat} (hn : x.toInt = (n : Int)) (hL : n + 6 ≤ X.2.2.2.2.2.1) (hS : X.2.2.2.2.2.1 ≤ 3072) {B B' : Int} (zB : B + 200000 ≤ B') (zB0 : B ≤ 1500000000) (hB : zBo M) (hR : zRu M B) (h : ∀ M', zBo M' → zRu M' B' → zGo X l 100 kc ks 350 1402 [(3, .int x), (2, .ref 336), (1, .ref 6), (0, .ref 0)] [] M' (fun r _ => r = some (.int 1))) : zGo X l 100 kc ks 350 743 [(3, .int x), (2, .ref 336), (1, .ref 6), (0, .ref 0)] [] M (fun r _ => r = some (.int 1)) := by
  obtain ⟨F, H, nd, K, T, L, en, f, g, hC, hM, hfg, hG, hL0⟩ := hR
  obtain ⟨y1, e1, i1⟩ := ziadd (a := x) (b := (1 : Int32)) hn li1 (by omega) (by omega)
  refine zs_aload_n (pc := 743) t350_743 rfl ?_
  refine zs_aload_n (pc := 744) t350_744 rfl ?_
  refine zs_iload_n (pc := 745) t350_745 rfl ?_
  refine zs_iconst (pc := 746) t350_746 (v := 1) (by decide) ?_
  refine zs_iadd (pc := 747) t350_747 (c := y1) e1 ?_
  refine zs_sald (pc := 748) t350_748 (j := n + 1) (by omega) (by omega) rfl ?_
  refine zs_invV (pc := 749) (k := 6) (as' := [.int (X.2.2.2.2.2.2 (n + 1))]) (st := []) t350_749 mf151 rfl rfl (Or.inl ⟨by decide, hB.kc⟩) ⟨by decide, by decide, Nat.le_of_ble_eq_true rfl, Nat.le_of_ble_eq_true rfl⟩ (oc19 hB zB zB0 hC hG.1) ?_
  rintro r M1 ⟨⟨⟨s1, f1, ⟨v, rfl, rfl, rfl⟩, hc1⟩, k1⟩, hB1⟩
  show zGo X l 100 kc ks 350 752 [(3, .int x), (2, .ref 336), (1, .ref 6), (0, .ref 0)] [.int v] M1 _
  have hM1 := hM.to k1
  refine zs_pop (pc := 752) t350_752 rfl ?_
  refine zs_aload_n (pc := 753) t350_753 rfl ?_
  refine zs_aload_n (pc := 754) t350_754 rfl ?_
  refine zs_iload_n (pc := 755) t350_755 rfl ?_
  refine zs_iconst (pc := 756) t350_756 (v := 1) (by decide) ?_
  refine zs_iadd (pc := 757) t350_757 (c := y1) e1 ?_
  refine zs_sald (pc := 758) t350_758 (j := n + 1) (by omega) (by omega) rfl ?_
  refine zs_invV (pc := 759) (k := 336) (as' := [.int (X.2.2.2.2.2.2 (n + 1))]) (st := []) t350_759 mf295 rfl rfl (Or.inl ⟨by decide, hB1.km⟩) ⟨by decide, by decide, Nat.le_of_ble_eq_true rfl, Nat.le_of_ble_eq_true rfl⟩ (om19 hB1 hM1 hG.1) ?_
  rintro r M2 ⟨⟨⟨s2, f2, ⟨w, rfl, rfl, rfl⟩, hm2⟩, k2⟩, hB2⟩
  show zGo X l 100 kc ks 350 762 [(3, .int x), (2, .ref 336), (1, .ref 6), (0, .ref 0)] [.int w] M2 _
  have hc2 := hc1.to k2
  have key : zRu M2 B' := by
    exact ⟨_, _, _, _, _, _, _, _, _, hc2, hm2, hfg, hG, hL0⟩
  refine zs_pop (pc := 762) t350_762 rfl ?_
  refine zs_goto (pc := 763) t350_763 ?_
  exact h M2 hB2 key
theorem law20 {x : Int32} {n : Nat} (hn : x.toInt = (n : Int)) (hL : n + 6 ≤ X.2.2.2.2.2.1) (hS : X.2.2.2.2.2.1 ≤ 3072) {B B' : Int} (zB : B + 200000 ≤ B') (zB0 : B ≤ 1500000000) (hB : zBo M) (hR : zRu M B) (h : ∀ M', zBo M' → zRu M' B' → zGo X l 100 kc ks 350 1402 [(3, .int x), (2, .ref 336), (1, .ref 6), (0, .ref 0)] [] M' (fun r _ => r = some (.int 1))) : zGo X l 100 kc ks 350 766 [(3, .int x), (2, .ref 336), (1, .ref 6), (0, .ref 0)] [] M (fun r _ => r = some (.int 1)) := by
  obtain ⟨F, H, nd, K, T, L, en, f, g, hC, hM, hfg, hG, hL0⟩ := hR
  refine zs_aload_n (pc := 766) t350_766 rfl ?_
  refine zs_invV (pc := 767) (k := 6) (as' := []) (st := []) t350_767 mf187 rfl rfl (Or.inl ⟨by decide, hB.kc⟩) ⟨by decide, by decide, Nat.le_of_ble_eq_true rfl, Nat.le_of_ble_eq_true rfl⟩ (oc20 hB zB zB0 hC hG.1) ?_
  rintro r M1 ⟨⟨⟨s1, f1, ⟨v, rfl, rfl, x1, rfl⟩, hc1⟩, k1⟩, hB1⟩
  show zGo X l 100 kc ks 350 770 [(3, .int x), (2, .ref 336), (1, .ref 6), (0, .ref 0)] [.int v] M1 _
  have hM1 := hM.to k1
  refine zs_aload_n (pc := 770) t350_770 rfl ?_
  refine zs_invV (pc := 771) (k := 336) (as' := []) (st := [.int v]) t350_771 mf322 rfl rfl (Or.inl ⟨by decide, hB1.km⟩) ⟨by decide, by decide, Nat.le_of_ble_eq_true rfl, Nat.le_of_ble_eq_true rfl⟩ (om20 hB1 hM1 hG.1) ?_
  rintro r M2 ⟨⟨⟨s2, f2, ⟨w, rfl, rfl, x2, rfl⟩, hm2⟩, k2⟩, hB2⟩
  show zGo X l 100 kc ks 350 774 [(3, .int x), (2, .ref 336), (1, .ref 6), (0, .ref 0)] [.int w, .int v] M2 _
  have hc2 := hc1.to k2
  have key : v.toInt = w.toInt ∧ zRu M2 B' := by
    exact ⟨x1.det x2, ⟨_, _, _, _, _, _, _, _, _, hc2, hm2, hfg, hG, hL0⟩⟩
  refine zs_icmp_eqT (pc := 774) t350_774 rfl rfl key.1 ?_
  exact h M2 hB2 key.2
theorem law21 {x : Int32} {n : Nat} (hn : x.toInt = (n : Int)) (hL : n + 6 ≤ X.2.2.2.2.2.1) (hS : X.2.2.2.2.2.1 ≤ 3072) {B B' : Int} (zB : B + 200000 ≤ B') (zB0 : B ≤ 1500000000) (hB : zBo M) (hR : zRu M B) (h : ∀ M', zBo M' → zRu M' B' → zGo X l 100 kc ks 350 1402 [(3, .int x), (2, .ref 336), (1, .ref 6), (0, .ref 0)] [] M' (fun r _ => r = some (.int 1))) : zGo X l 100 kc ks 350 779 [(3, .int x), (2, .ref 336), (1, .ref 6), (0, .ref 0)] [] M (fun r _ => r = some (.int 1)) := by
  obtain ⟨F, H, nd, K, T, L, en, f, g, hC, hM, hfg, hG, hL0⟩ := hR
  obtain ⟨y1, e1, i1⟩ := ziadd (a := x) (b := (1 : Int32)) hn li1 (by omega) (by omega)
  obtain ⟨y2, e2, i2⟩ := ziadd (a := x) (b := (2 : Int32)) hn li2 (by omega) (by omega)
  obtain ⟨y3, e3, i3⟩ := ziadd (a := x) (b := (3 : Int32)) hn li3 (by omega) (by omega)
  obtain ⟨y4, e4, i4⟩ := ziadd (a := x) (b := (4 : Int32)) hn li4 (by omega) (by omega)
  obtain ⟨y5, e5, i5⟩ := ziadd (a := x) (b := (5 : Int32)) hn li5 (by omega) (by omega)
  refine zs_aload_n (pc := 779) t350_779 rfl ?_
  refine zs_aload_n (pc := 780) t350_780 rfl ?_
  refine zs_iload_n (pc := 781) t350_781 rfl ?_
  refine zs_iconst (pc := 782) t350_782 (v := 1) (by decide) ?_
  refine zs_iadd (pc := 783) t350_783 (c := y1) e1 ?_
  refine zs_sald (pc := 784) t350_784 (j := n + 1) (by omega) (by omega) rfl ?_
  refine zs_aload_n (pc := 785) t350_785 rfl ?_
  refine zs_iload_n (pc := 786) t350_786 rfl ?_
  refine zs_iconst (pc := 787) t350_787 (v := 2) (by decide) ?_
  refine zs_iadd (pc := 788) t350_788 (c := y2) e2 ?_
  refine zs_sald (pc := 789) t350_789 (j := n + 2) (by omega) (by omega) rfl ?_
  refine zs_aload_n (pc := 790) t350_790 rfl ?_
  refine zs_iload_n (pc := 791) t350_791 rfl ?_
  refine zs_iconst (pc := 792) t350_792 (v := 3) (by decide) ?_
  refine zs_iadd (pc := 793) t350_793 (c := y3) e3 ?_
  refine zs_sald (pc := 794) t350_794 (j := n + 3) (by omega) (by omega) rfl ?_
  refine zs_aload_n (pc := 795) t350_795 rfl ?_
  refine zs_iload_n (pc := 796) t350_796 rfl ?_
  refine zs_iconst (pc := 797) t350_797 (v := 4) (by decide) ?_
  refine zs_iadd (pc := 798) t350_798 (c := y4) e4 ?_
  refine zs_sald (pc := 799) t350_799 (j := n + 4) (by omega) (by omega) rfl ?_
  refine zs_aload_n (pc := 800) t350_800 rfl ?_
  refine zs_iload_n (pc := 801) t350_801 rfl ?_
  refine zs_iconst (pc := 802) t350_802 (v := 5) (by decide) ?_
  refine zs_iadd (pc := 803) t350_803 (c := y5) e5 ?_
  refine zs_sald (pc := 804) t350_804 (j := n + 5) (by omega) (by omega) rfl ?_
  refine zs_invV (pc := 805) (k := 6) (as' := [.int (X.2.2.2.2.2.2 (n + 1)), .int (X.2.2.2.2.2.2 (n + 2)), .int (X.2.2.2.2.2.2 (n + 3)), .int (X.2.2.2.2.2.2 (n + 4)), .int (X.2.2.2.2.2.2 (n + 5))]) (st := []) t350_805 mf188 rfl rfl (Or.inl ⟨by decide, hB.kc⟩) ⟨by decide, by decide, Nat.le_of_ble_eq_true rfl, Nat.le_of_ble_eq_true rfl⟩ (oc21 hB zB zB0 hC hG.1) ?_
  rintro r M1 ⟨⟨⟨s1, f1, ⟨v, rfl, rfl, rfl⟩, hc1⟩, k1⟩, hB1⟩
  show zGo X l 100 kc ks 350 808 [(3, .int x), (2, .ref 336), (1, .ref 6), (0, .ref 0)] [.int v] M1 _
  have hM1 := hM.to k1
  refine zs_pop (pc := 808) t350_808 rfl ?_
  refine zs_aload_n (pc := 809) t350_809 rfl ?_
  refine zs_aload_n (pc := 810) t350_810 rfl ?_
  refine zs_iload_n (pc := 811) t350_811 rfl ?_
  refine zs_iconst (pc := 812) t350_812 (v := 1) (by decide) ?_
  refine zs_iadd (pc := 813) t350_813 (c := y1) e1 ?_
  refine zs_sald (pc := 814) t350_814 (j := n + 1) (by omega) (by omega) rfl ?_
  refine zs_aload_n (pc := 815) t350_815 rfl ?_
  refine zs_iload_n (pc := 816) t350_816 rfl ?_
  refine zs_iconst (pc := 817) t350_817 (v := 2) (by decide) ?_
  refine zs_iadd (pc := 818) t350_818 (c := y2) e2 ?_
  refine zs_sald (pc := 819) t350_819 (j := n + 2) (by omega) (by omega) rfl ?_
  refine zs_aload_n (pc := 820) t350_820 rfl ?_
  refine zs_iload_n (pc := 821) t350_821 rfl ?_
  refine zs_iconst (pc := 822) t350_822 (v := 3) (by decide) ?_
  refine zs_iadd (pc := 823) t350_823 (c := y3) e3 ?_
  refine zs_sald (pc := 824) t350_824 (j := n + 3) (by omega) (by omega) rfl ?_
  refine zs_aload_n (pc := 825) t350_825 rfl ?_
  refine zs_iload_n (pc := 826) t350_826 rfl ?_
  refine zs_iconst (pc := 827) t350_827 (v := 4) (by decide) ?_
  refine zs_iadd (pc := 828) t350_828 (c := y4) e4 ?_
  refine zs_sald (pc := 829) t350_829 (j := n + 4) (by omega) (by omega) rfl ?_
  refine zs_aload_n (pc := 830) t350_830 rfl ?_
  refine zs_iload_n (pc := 831) t350_831 rfl ?_
  refine zs_iconst (pc := 832) t350_832 (v := 5) (by decide) ?_
  refine zs_iadd (pc := 833) t350_833 (c := y5) e5 ?_
  refine zs_sald (pc := 834) t350_834 (j := n + 5) (by omega) (by omega) rfl ?_
  refine zs_invV (pc := 835) (k := 336) (as' := [.int (X.2.2.2.2.2.2 (n + 1)), .int (X.2.2.2.2.2.2 (n + 2)), .int (X.2.2.2.2.2.2 (n + 3)), .int (X.2.2.2.2.2.2 (n + 4)), .int (X.2.2.2.2.2.2 (n + 5))]) (st := []) t350_835 mf323 rfl rfl (Or.inl ⟨by decide, hB1.km⟩) ⟨by decide, by decide, Nat.le_of_ble_eq_true rfl, Nat.le_of_ble_eq_true rfl⟩ (om21 hB1 hM1 hG.1) ?_
  rintro r M2 ⟨⟨⟨s2, f2, ⟨w, rfl, rfl, rfl⟩, hm2⟩, k2⟩, hB2⟩
  show zGo X l 100 kc ks 350 838 [(3, .int x), (2, .ref 336), (1, .ref 6), (0, .ref 0)] [.int w] M2 _
  have hc2 := hc1.to k2
  have key : zRu M2 B' := by
    exact ⟨_, _, _, _, _, _, _, _, _, hc2, hm2, hfg, hG, hL0⟩
  refine zs_pop (pc := 838) t350_838 rfl ?_
  refine zs_goto (pc := 839) t350_839 ?_
  exact h M2 hB2 key
theorem law22 {x : Int32} {n : Nat} (hn : x.toInt = (n : Int)) (hL : n + 6 ≤ X.2.2.2.2.2.1) (hS : X.2.2.2.2.2.1 ≤ 3072) {B B' : Int} (zB : B + 200000 ≤ B') (zB0 : B ≤ 1500000000) (hB : zBo M) (hR : zRu M B) (h : ∀ M', zBo M' → zRu M' B' → zGo X l 100 kc ks 350 1402 [(3, .int x), (2, .ref 336), (1, .ref 6), (0, .ref 0)] [] M' (fun r _ => r = some (.int 1))) : zGo X l 100 kc ks 350 842 [(3, .int x), (2, .ref 336), (1, .ref 6), (0, .ref 0)] [] M (fun r _ => r = some (.int 1)) := by
  obtain ⟨F, H, nd, K, T, L, en, f, g, hC, hM, hfg, hG, hL0⟩ := hR
  obtain ⟨y1, e1, i1⟩ := ziadd (a := x) (b := (1 : Int32)) hn li1 (by omega) (by omega)
  obtain ⟨y2, e2, i2⟩ := ziadd (a := x) (b := (2 : Int32)) hn li2 (by omega) (by omega)
  obtain ⟨y3, e3, i3⟩ := ziadd (a := x) (b := (3 : Int32)) hn li3 (by omega) (by omega)
  refine zs_aload_n (pc := 842) t350_842 rfl ?_
  refine zs_aload_n (pc := 843) t350_843 rfl ?_
  refine zs_iload_n (pc := 844) t350_844 rfl ?_
  refine zs_iconst (pc := 845) t350_845 (v := 1) (by decide) ?_
  refine zs_iadd (pc := 846) t350_846 (c := y1) e1 ?_
  refine zs_sald (pc := 847) t350_847 (j := n + 1) (by omega) (by omega) rfl ?_
  refine zs_aload_n (pc := 848) t350_848 rfl ?_
  refine zs_iload_n (pc := 849) t350_849 rfl ?_
  refine zs_iconst (pc := 850) t350_850 (v := 2) (by decide) ?_
  refine zs_iadd (pc := 851) t350_851 (c := y2) e2 ?_
  refine zs_sald (pc := 852) t350_852 (j := n + 2) (by omega) (by omega) rfl ?_
  refine zs_aload_n (pc := 853) t350_853 rfl ?_
  refine zs_iload_n (pc := 854) t350_854 rfl ?_
  refine zs_iconst (pc := 855) t350_855 (v := 3) (by decide) ?_
  refine zs_iadd (pc := 856) t350_856 (c := y3) e3 ?_
  refine zs_sald (pc := 857) t350_857 (j := n + 3) (by omega) (by omega) rfl ?_
  refine zs_invV (pc := 858) (k := 6) (as' := [.int (X.2.2.2.2.2.2 (n + 1)), .int (X.2.2.2.2.2.2 (n + 2)), .int (X.2.2.2.2.2.2 (n + 3))]) (st := []) t350_858 mf193 rfl rfl (Or.inl ⟨by decide, hB.kc⟩) ⟨by decide, by decide, Nat.le_of_ble_eq_true rfl, Nat.le_of_ble_eq_true rfl⟩ (oc22 hB zB zB0 hC hG.1) ?_
  rintro r M1 ⟨⟨⟨s1, f1, ⟨v, rfl, rfl, rfl⟩, hc1⟩, k1⟩, hB1⟩
  show zGo X l 100 kc ks 350 861 [(3, .int x), (2, .ref 336), (1, .ref 6), (0, .ref 0)] [.int v] M1 _
  have hM1 := hM.to k1
  refine zs_pop (pc := 861) t350_861 rfl ?_
  refine zs_aload_n (pc := 862) t350_862 rfl ?_
  refine zs_aload_n (pc := 863) t350_863 rfl ?_
  refine zs_iload_n (pc := 864) t350_864 rfl ?_
  refine zs_iconst (pc := 865) t350_865 (v := 1) (by decide) ?_
  refine zs_iadd (pc := 866) t350_866 (c := y1) e1 ?_
  refine zs_sald (pc := 867) t350_867 (j := n + 1) (by omega) (by omega) rfl ?_
  refine zs_aload_n (pc := 868) t350_868 rfl ?_
  refine zs_iload_n (pc := 869) t350_869 rfl ?_
  refine zs_iconst (pc := 870) t350_870 (v := 2) (by decide) ?_
  refine zs_iadd (pc := 871) t350_871 (c := y2) e2 ?_
  refine zs_sald (pc := 872) t350_872 (j := n + 2) (by omega) (by omega) rfl ?_
  refine zs_aload_n (pc := 873) t350_873 rfl ?_
  refine zs_iload_n (pc := 874) t350_874 rfl ?_
  refine zs_iconst (pc := 875) t350_875 (v := 3) (by decide) ?_
  refine zs_iadd (pc := 876) t350_876 (c := y3) e3 ?_
  refine zs_sald (pc := 877) t350_877 (j := n + 3) (by omega) (by omega) rfl ?_
  refine zs_invV (pc := 878) (k := 336) (as' := [.int (X.2.2.2.2.2.2 (n + 1)), .int (X.2.2.2.2.2.2 (n + 2)), .int (X.2.2.2.2.2.2 (n + 3))]) (st := []) t350_878 mf326 rfl rfl (Or.inl ⟨by decide, hB1.km⟩) ⟨by decide, by decide, Nat.le_of_ble_eq_true rfl, Nat.le_of_ble_eq_true rfl⟩ (om22 hB1 hM1 hG.1) ?_
  rintro r M2 ⟨⟨⟨s2, f2, ⟨w, rfl, rfl, rfl⟩, hm2⟩, k2⟩, hB2⟩
  show zGo X l 100 kc ks 350 881 [(3, .int x), (2, .ref 336), (1, .ref 6), (0, .ref 0)] [.int w] M2 _
  have hc2 := hc1.to k2
  have key : zRu M2 B' := by
    exact ⟨_, _, _, _, _, _, _, _, _, hc2, hm2, hfg, hG, hL0⟩
  refine zs_pop (pc := 881) t350_881 rfl ?_
  refine zs_goto (pc := 882) t350_882 ?_
  exact h M2 hB2 key
theorem law23 {x : Int32} {n : Nat} (hn : x.toInt = (n : Int)) (hL : n + 6 ≤ X.2.2.2.2.2.1) (hS : X.2.2.2.2.2.1 ≤ 3072) {B B' : Int} (zB : B + 200000 ≤ B') (zB0 : B ≤ 1500000000) (hB : zBo M) (hR : zRu M B) (h : ∀ M', zBo M' → zRu M' B' → zGo X l 100 kc ks 350 1402 [(3, .int x), (2, .ref 336), (1, .ref 6), (0, .ref 0)] [] M' (fun r _ => r = some (.int 1))) : zGo X l 100 kc ks 350 885 [(3, .int x), (2, .ref 336), (1, .ref 6), (0, .ref 0)] [] M (fun r _ => r = some (.int 1)) := by
  obtain ⟨F, H, nd, K, T, L, en, f, g, hC, hM, hfg, hG, hL0⟩ := hR
  obtain ⟨y1, e1, i1⟩ := ziadd (a := x) (b := (1 : Int32)) hn li1 (by omega) (by omega)
  refine zs_aload_n (pc := 885) t350_885 rfl ?_
  refine zs_aload_n (pc := 886) t350_886 rfl ?_
  refine zs_iload_n (pc := 887) t350_887 rfl ?_
  refine zs_iconst (pc := 888) t350_888 (v := 1) (by decide) ?_
  refine zs_iadd (pc := 889) t350_889 (c := y1) e1 ?_
  refine zs_sald (pc := 890) t350_890 (j := n + 1) (by omega) (by omega) rfl ?_
  refine zs_invV (pc := 891) (k := 6) (as' := [.int (X.2.2.2.2.2.2 (n + 1))]) (st := []) t350_891 mf194 rfl rfl (Or.inl ⟨by decide, hB.kc⟩) ⟨by decide, by decide, Nat.le_of_ble_eq_true rfl, Nat.le_of_ble_eq_true rfl⟩ (oc23 hB zB zB0 hC hG.1) ?_
  rintro r M1 ⟨⟨⟨s1, f1, ⟨v, rfl, rfl, rfl⟩, hc1⟩, k1⟩, hB1⟩
  show zGo X l 100 kc ks 350 894 [(3, .int x), (2, .ref 336), (1, .ref 6), (0, .ref 0)] [.int v] M1 _
  have hM1 := hM.to k1
  refine zs_pop (pc := 894) t350_894 rfl ?_
  refine zs_aload_n (pc := 895) t350_895 rfl ?_
  refine zs_aload_n (pc := 896) t350_896 rfl ?_
  refine zs_iload_n (pc := 897) t350_897 rfl ?_
  refine zs_iconst (pc := 898) t350_898 (v := 1) (by decide) ?_
  refine zs_iadd (pc := 899) t350_899 (c := y1) e1 ?_
  refine zs_sald (pc := 900) t350_900 (j := n + 1) (by omega) (by omega) rfl ?_
  refine zs_invV (pc := 901) (k := 336) (as' := [.int (X.2.2.2.2.2.2 (n + 1))]) (st := []) t350_901 mf327 rfl rfl (Or.inl ⟨by decide, hB1.km⟩) ⟨by decide, by decide, Nat.le_of_ble_eq_true rfl, Nat.le_of_ble_eq_true rfl⟩ (om23 hB1 hM1 hG.1) ?_
  rintro r M2 ⟨⟨⟨s2, f2, ⟨w, rfl, rfl, rfl⟩, hm2⟩, k2⟩, hB2⟩
  show zGo X l 100 kc ks 350 904 [(3, .int x), (2, .ref 336), (1, .ref 6), (0, .ref 0)] [.int w] M2 _
  have hc2 := hc1.to k2
  have key : zRu M2 B' := by
    exact ⟨_, _, _, _, _, _, _, _, _, hc2, hm2, hfg, hG, hL0⟩
  refine zs_pop (pc := 904) t350_904 rfl ?_
  refine zs_goto (pc := 905) t350_905 ?_
  exact h M2 hB2 key
theorem law24 {x : Int32} {n : Nat} (hn : x.toInt = (n : Int)) (hL : n + 6 ≤ X.2.2.2.2.2.1) (hS : X.2.2.2.2.2.1 ≤ 3072) {B B' : Int} (zB : B + 200000 ≤ B') (zB0 : B ≤ 1500000000) (hB : zBo M) (hR : zRu M B) (h : ∀ M', zBo M' → zRu M' B' → zGo X l 100 kc ks 350 1402 [(3, .int x), (2, .ref 336), (1, .ref 6), (0, .ref 0)] [] M' (fun r _ => r = some (.int 1))) : zGo X l 100 kc ks 350 908 [(3, .int x), (2, .ref 336), (1, .ref 6), (0, .ref 0)] [] M (fun r _ => r = some (.int 1)) := by
  obtain ⟨F, H, nd, K, T, L, en, f, g, hC, hM, hfg, hG, hL0⟩ := hR
  obtain ⟨y1, e1, i1⟩ := ziadd (a := x) (b := (1 : Int32)) hn li1 (by omega) (by omega)
  refine zs_aload_n (pc := 908) t350_908 rfl ?_
  refine zs_aload_n (pc := 909) t350_909 rfl ?_
  refine zs_iload_n (pc := 910) t350_910 rfl ?_
  refine zs_iconst (pc := 911) t350_911 (v := 1) (by decide) ?_
  refine zs_iadd (pc := 912) t350_912 (c := y1) e1 ?_
  refine zs_sald (pc := 913) t350_913 (j := n + 1) (by omega) (by omega) rfl ?_
  refine zs_invV (pc := 914) (k := 6) (as' := [.int (X.2.2.2.2.2.2 (n + 1))]) (st := []) t350_914 mf196 rfl rfl (Or.inl ⟨by decide, hB.kc⟩) ⟨by decide, by decide, Nat.le_of_ble_eq_true rfl, Nat.le_of_ble_eq_true rfl⟩ (oc24 hB zB zB0 hC hG.1) ?_
  rintro r M1 ⟨⟨⟨s1, f1, ⟨v, rfl, rfl, rfl⟩, hc1⟩, k1⟩, hB1⟩
  show zGo X l 100 kc ks 350 917 [(3, .int x), (2, .ref 336), (1, .ref 6), (0, .ref 0)] [.int v] M1 _
  have hM1 := hM.to k1
  refine zs_pop (pc := 917) t350_917 rfl ?_
  refine zs_aload_n (pc := 918) t350_918 rfl ?_
  refine zs_aload_n (pc := 919) t350_919 rfl ?_
  refine zs_iload_n (pc := 920) t350_920 rfl ?_
  refine zs_iconst (pc := 921) t350_921 (v := 1) (by decide) ?_
  refine zs_iadd (pc := 922) t350_922 (c := y1) e1 ?_
  refine zs_sald (pc := 923) t350_923 (j := n + 1) (by omega) (by omega) rfl ?_
  refine zs_invV (pc := 924) (k := 336) (as' := [.int (X.2.2.2.2.2.2 (n + 1))]) (st := []) t350_924 mf328 rfl rfl (Or.inl ⟨by decide, hB1.km⟩) ⟨by decide, by decide, Nat.le_of_ble_eq_true rfl, Nat.le_of_ble_eq_true rfl⟩ (om24 hB1 hM1 hG.1) ?_
  rintro r M2 ⟨⟨⟨s2, f2, ⟨w, rfl, rfl, rfl⟩, hm2⟩, k2⟩, hB2⟩
  show zGo X l 100 kc ks 350 927 [(3, .int x), (2, .ref 336), (1, .ref 6), (0, .ref 0)] [.int w] M2 _
  have hc2 := hc1.to k2
  have key : zRu M2 B' := by
    exact ⟨_, _, _, _, _, _, _, _, _, hc2, hm2, hfg, hG, hL0⟩
  refine zs_pop (pc := 927) t350_927 rfl ?_
  refine zs_goto (pc := 928) t350_928 ?_
  exact h M2 hB2 key
theorem law25 {x : Int32} {n : Nat} (hn : x.toInt = (n : Int)) (hL : n + 6 ≤ X.2.2.2.2.2.1) (hS : X.2.2.2.2.2.1 ≤ 3072) {B B' : Int} (zB : B + 200000 ≤ B') (zB0 : B ≤ 1500000000) (hB : zBo M) (hR : zRu M B) (h : ∀ M', zBo M' → zRu M' B' → zGo X l 100 kc ks 350 1402 [(3, .int x), (2, .ref 336), (1, .ref 6), (0, .ref 0)] [] M' (fun r _ => r = some (.int 1))) : zGo X l 100 kc ks 350 931 [(3, .int x), (2, .ref 336), (1, .ref 6), (0, .ref 0)] [] M (fun r _ => r = some (.int 1)) := by
  obtain ⟨F, H, nd, K, T, L, en, f, g, hC, hM, hfg, hG, hL0⟩ := hR
  obtain ⟨y1, e1, i1⟩ := ziadd (a := x) (b := (1 : Int32)) hn li1 (by omega) (by omega)
  obtain ⟨y2, e2, i2⟩ := ziadd (a := x) (b := (2 : Int32)) hn li2 (by omega) (by omega)
  obtain ⟨y3, e3, i3⟩ := ziadd (a := x) (b := (3 : Int32)) hn li3 (by omega) (by omega)
  refine zs_aload_n (pc := 931) t350_931 rfl ?_
  refine zs_aload_n (pc := 932) t350_932 rfl ?_
  refine zs_iload_n (pc := 933) t350_933 rfl ?_
  refine zs_iconst (pc := 934) t350_934 (v := 1) (by decide) ?_
  refine zs_iadd (pc := 935) t350_935 (c := y1) e1 ?_
  refine zs_sald (pc := 936) t350_936 (j := n + 1) (by omega) (by omega) rfl ?_
  refine zs_aload_n (pc := 937) t350_937 rfl ?_
  refine zs_iload_n (pc := 938) t350_938 rfl ?_
  refine zs_iconst (pc := 939) t350_939 (v := 2) (by decide) ?_
  refine zs_iadd (pc := 940) t350_940 (c := y2) e2 ?_
  refine zs_sald (pc := 941) t350_941 (j := n + 2) (by omega) (by omega) rfl ?_
  refine zs_aload_n (pc := 942) t350_942 rfl ?_
  refine zs_iload_n (pc := 943) t350_943 rfl ?_
  refine zs_iconst (pc := 944) t350_944 (v := 3) (by decide) ?_
  refine zs_iadd (pc := 945) t350_945 (c := y3) e3 ?_
  refine zs_sald (pc := 946) t350_946 (j := n + 3) (by omega) (by omega) rfl ?_
  refine zs_invV (pc := 947) (k := 6) (as' := [.int (X.2.2.2.2.2.2 (n + 1)), .int (X.2.2.2.2.2.2 (n + 2)), .int (X.2.2.2.2.2.2 (n + 3))]) (st := []) t350_947 mf89 rfl rfl (Or.inl ⟨by decide, hB.kc⟩) ⟨by decide, by decide, Nat.le_of_ble_eq_true rfl, Nat.le_of_ble_eq_true rfl⟩ (oc25 hB zB zB0 hC hG.1) ?_
  rintro r M1 ⟨⟨⟨s1, f1, ⟨v, rfl, rfl, x1⟩, hc1⟩, k1⟩, hB1⟩
  show zGo X l 100 kc ks 350 950 [(3, .int x), (2, .ref 336), (1, .ref 6), (0, .ref 0)] [.int v] M1 _
  have hM1 := hM.to k1
  refine zs_pop (pc := 950) t350_950 rfl ?_
  refine zs_aload_n (pc := 951) t350_951 rfl ?_
  refine zs_aload_n (pc := 952) t350_952 rfl ?_
  refine zs_iload_n (pc := 953) t350_953 rfl ?_
  refine zs_iconst (pc := 954) t350_954 (v := 1) (by decide) ?_
  refine zs_iadd (pc := 955) t350_955 (c := y1) e1 ?_
  refine zs_sald (pc := 956) t350_956 (j := n + 1) (by omega) (by omega) rfl ?_
  refine zs_aload_n (pc := 957) t350_957 rfl ?_
  refine zs_iload_n (pc := 958) t350_958 rfl ?_
  refine zs_iconst (pc := 959) t350_959 (v := 2) (by decide) ?_
  refine zs_iadd (pc := 960) t350_960 (c := y2) e2 ?_
  refine zs_sald (pc := 961) t350_961 (j := n + 2) (by omega) (by omega) rfl ?_
  refine zs_aload_n (pc := 962) t350_962 rfl ?_
  refine zs_iload_n (pc := 963) t350_963 rfl ?_
  refine zs_iconst (pc := 964) t350_964 (v := 3) (by decide) ?_
  refine zs_iadd (pc := 965) t350_965 (c := y3) e3 ?_
  refine zs_sald (pc := 966) t350_966 (j := n + 3) (by omega) (by omega) rfl ?_
  refine zs_invV (pc := 967) (k := 336) (as' := [.int (X.2.2.2.2.2.2 (n + 1)), .int (X.2.2.2.2.2.2 (n + 2)), .int (X.2.2.2.2.2.2 (n + 3))]) (st := []) t350_967 mf331 rfl rfl (Or.inl ⟨by decide, hB1.km⟩) ⟨by decide, by decide, Nat.le_of_ble_eq_true rfl, Nat.le_of_ble_eq_true rfl⟩ (om25 hB1 hM1 hG.1) ?_
  rintro r M2 ⟨⟨⟨s2, f2, ⟨w, rfl, rfl, x2⟩, hm2⟩, k2⟩, hB2⟩
  show zGo X l 100 kc ks 350 970 [(3, .int x), (2, .ref 336), (1, .ref 6), (0, .ref 0)] [.int w] M2 _
  have hc2 := hc1.to k2
  have key : zRu M2 B' := by
    rcases x1 with ⟨a1, a2, rfl⟩ | ⟨a1, a2, rfl⟩ <;> rcases x2 with ⟨b1, b2, rfl⟩ | ⟨b1, b2, rfl⟩
    · exact ⟨_, _, _, _, _, _, _, _, _, hc2, hm2, hfg, hG, hL0⟩
    · omega
    · omega
    · exact ⟨_, _, _, _, _, _, _, _, _, hc2, hm2, hfg, hG.push (hG.1.hit a1.1 a1.2.1 a1.2.2.1 a1.2.2.2.1 (by omega) a1.2.2.2.2.2.1 a1.2.2.2.2.2.2), hL0⟩
  refine zs_pop (pc := 970) t350_970 rfl ?_
  refine zs_goto (pc := 971) t350_971 ?_
  exact h M2 hB2 key
theorem law26 {x : Int32} {n : Nat} (hn : x.toInt = (n : Int)) (hL : n + 6 ≤ X.2.2.2.2.2.1) (hS : X.2.2.2.2.2.1 ≤ 3072) {B B' : Int} (zB : B + 200000 ≤ B') (zB0 : B ≤ 1500000000) (hB : zBo M) (hR : zRu M B) (h : ∀ M', zBo M' → zRu M' B' → zGo X l 100 kc ks 350 1402 [(3, .int x), (2, .ref 336), (1, .ref 6), (0, .ref 0)] [] M' (fun r _ => r = some (.int 1))) : zGo X l 100 kc ks 350 974 [(3, .int x), (2, .ref 336), (1, .ref 6), (0, .ref 0)] [] M (fun r _ => r = some (.int 1)) := by
  obtain ⟨F, H, nd, K, T, L, en, f, g, hC, hM, hfg, hG, hL0⟩ := hR
  obtain ⟨y1, e1, i1⟩ := ziadd (a := x) (b := (1 : Int32)) hn li1 (by omega) (by omega)
  refine zs_aload_n (pc := 974) t350_974 rfl ?_
  refine zs_aload_n (pc := 975) t350_975 rfl ?_
  refine zs_iload_n (pc := 976) t350_976 rfl ?_
  refine zs_iconst (pc := 977) t350_977 (v := 1) (by decide) ?_
  refine zs_iadd (pc := 978) t350_978 (c := y1) e1 ?_
  refine zs_sald (pc := 979) t350_979 (j := n + 1) (by omega) (by omega) rfl ?_
  refine zs_invV (pc := 980) (k := 6) (as' := [.int (X.2.2.2.2.2.2 (n + 1))]) (st := []) t350_980 mf90 rfl rfl (Or.inl ⟨by decide, hB.kc⟩) ⟨by decide, by decide, Nat.le_of_ble_eq_true rfl, Nat.le_of_ble_eq_true rfl⟩ (oc26 hB zB zB0 hC hG.1) ?_
  rintro r M1 ⟨⟨⟨s1, f1, ⟨v, rfl, rfl, x1⟩, hc1⟩, k1⟩, hB1⟩
  show zGo X l 100 kc ks 350 983 [(3, .int x), (2, .ref 336), (1, .ref 6), (0, .ref 0)] [.int v] M1 _
  have hM1 := hM.to k1
  refine zs_pop (pc := 983) t350_983 rfl ?_
  refine zs_aload_n (pc := 984) t350_984 rfl ?_
  refine zs_aload_n (pc := 985) t350_985 rfl ?_
  refine zs_iload_n (pc := 986) t350_986 rfl ?_
  refine zs_iconst (pc := 987) t350_987 (v := 1) (by decide) ?_
  refine zs_iadd (pc := 988) t350_988 (c := y1) e1 ?_
  refine zs_sald (pc := 989) t350_989 (j := n + 1) (by omega) (by omega) rfl ?_
  refine zs_invV (pc := 990) (k := 336) (as' := [.int (X.2.2.2.2.2.2 (n + 1))]) (st := []) t350_990 mf332 rfl rfl (Or.inl ⟨by decide, hB1.km⟩) ⟨by decide, by decide, Nat.le_of_ble_eq_true rfl, Nat.le_of_ble_eq_true rfl⟩ (om26 hB1 hM1 hG.1) ?_
  rintro r M2 ⟨⟨⟨s2, f2, ⟨w, rfl, rfl, x2⟩, hm2⟩, k2⟩, hB2⟩
  show zGo X l 100 kc ks 350 993 [(3, .int x), (2, .ref 336), (1, .ref 6), (0, .ref 0)] [.int w] M2 _
  have hc2 := hc1.to k2
  have key : zRu M2 B' := by
    rcases x1 with ⟨a1, a2, rfl⟩ | ⟨a1, a2, a3, a4, rfl⟩ <;> rcases x2 with ⟨b1, b2, rfl⟩ | ⟨b1, b2, b3, b4, rfl⟩
    · exact ⟨_, _, _, _, _, _, _, _, _, hc2, hm2, hfg, hG, hL0⟩
    · omega
    · omega
    · exact ⟨_, _, _, _, _, _, _, _, _, hc2, hm2, hfg, hG.push (hG.1.time (by have := hG.1.1; omega) (by omega) (by omega)), hL0⟩
  refine zs_pop (pc := 993) t350_993 rfl ?_
  refine zs_goto (pc := 994) t350_994 ?_
  exact h M2 hB2 key
theorem law27 {x : Int32} {n : Nat} (hn : x.toInt = (n : Int)) (hL : n + 6 ≤ X.2.2.2.2.2.1) (hS : X.2.2.2.2.2.1 ≤ 3072) {B B' : Int} (zB : B + 200000 ≤ B') (zB0 : B ≤ 1500000000) (hB : zBo M) (hR : zRu M B) (h : ∀ M', zBo M' → zRu M' B' → zGo X l 100 kc ks 350 1402 [(3, .int x), (2, .ref 336), (1, .ref 6), (0, .ref 0)] [] M' (fun r _ => r = some (.int 1))) : zGo X l 100 kc ks 350 997 [(3, .int x), (2, .ref 336), (1, .ref 6), (0, .ref 0)] [] M (fun r _ => r = some (.int 1)) := by
  obtain ⟨F, H, nd, K, T, L, en, f, g, hC, hM, hfg, hG, hL0⟩ := hR
  obtain ⟨y1, e1, i1⟩ := ziadd (a := x) (b := (1 : Int32)) hn li1 (by omega) (by omega)
  refine zs_aload_n (pc := 997) t350_997 rfl ?_
  refine zs_aload_n (pc := 998) t350_998 rfl ?_
  refine zs_iload_n (pc := 999) t350_999 rfl ?_
  refine zs_iconst (pc := 1000) t350_1000 (v := 1) (by decide) ?_
  refine zs_iadd (pc := 1001) t350_1001 (c := y1) e1 ?_
  refine zs_sald (pc := 1002) t350_1002 (j := n + 1) (by omega) (by omega) rfl ?_
  refine zs_invV (pc := 1003) (k := 6) (as' := [.int (X.2.2.2.2.2.2 (n + 1))]) (st := []) t350_1003 mf94 rfl rfl (Or.inl ⟨by decide, hB.kc⟩) ⟨by decide, by decide, Nat.le_of_ble_eq_true rfl, Nat.le_of_ble_eq_true rfl⟩ (oc27 hB zB zB0 hC hG.1) ?_
  rintro r M1 ⟨⟨⟨s1, f1, ⟨v, rfl, rfl, x1⟩, hc1⟩, k1⟩, hB1⟩
  show zGo X l 100 kc ks 350 1006 [(3, .int x), (2, .ref 336), (1, .ref 6), (0, .ref 0)] [.int v] M1 _
  have hM1 := hM.to k1
  refine zs_pop (pc := 1006) t350_1006 rfl ?_
  refine zs_aload_n (pc := 1007) t350_1007 rfl ?_
  refine zs_aload_n (pc := 1008) t350_1008 rfl ?_
  refine zs_iload_n (pc := 1009) t350_1009 rfl ?_
  refine zs_iconst (pc := 1010) t350_1010 (v := 1) (by decide) ?_
  refine zs_iadd (pc := 1011) t350_1011 (c := y1) e1 ?_
  refine zs_sald (pc := 1012) t350_1012 (j := n + 1) (by omega) (by omega) rfl ?_
  refine zs_invV (pc := 1013) (k := 336) (as' := [.int (X.2.2.2.2.2.2 (n + 1))]) (st := []) t350_1013 mf333 rfl rfl (Or.inl ⟨by decide, hB1.km⟩) ⟨by decide, by decide, Nat.le_of_ble_eq_true rfl, Nat.le_of_ble_eq_true rfl⟩ (om27 hB1 hM1 hG.1) ?_
  rintro r M2 ⟨⟨⟨s2, f2, ⟨w, rfl, rfl, x2⟩, hm2⟩, k2⟩, hB2⟩
  show zGo X l 100 kc ks 350 1016 [(3, .int x), (2, .ref 336), (1, .ref 6), (0, .ref 0)] [.int w] M2 _
  have hc2 := hc1.to k2
  have key : zRu M2 B' := by
    rcases x1 with ⟨a1, a2, rfl⟩ | ⟨a1, a2, a3, rfl⟩ <;> rcases x2 with ⟨b1, b2, rfl⟩ | ⟨b1, b2, b3, rfl⟩
    · exact ⟨_, _, _, _, _, _, _, _, _, hc2, hm2, hfg, hG, hL0⟩
    · omega
    · omega
    · exact ⟨_, _, _, _, _, _, _, _, _, hc2, hm2, hfg, hG.push (hG.1.al (by have := hG.1.1; omega) (by have := (hG.1.2.1 (X.2.2.2.2.2.2 (n + 1)).toInt.toNat (by omega)).2.2; omega)), hL0⟩
  refine zs_pop (pc := 1016) t350_1016 rfl ?_
  refine zs_goto (pc := 1017) t350_1017 ?_
  exact h M2 hB2 key
theorem law28 {x : Int32} {n : Nat} (hn : x.toInt = (n : Int)) (hL : n + 6 ≤ X.2.2.2.2.2.1) (hS : X.2.2.2.2.2.1 ≤ 3072) {B B' : Int} (zB : B + 200000 ≤ B') (zB0 : B ≤ 1500000000) (hB : zBo M) (hR : zRu M B) (h : ∀ M', zBo M' → zRu M' B' → zGo X l 100 kc ks 350 1402 [(3, .int x), (2, .ref 336), (1, .ref 6), (0, .ref 0)] [] M' (fun r _ => r = some (.int 1))) : zGo X l 100 kc ks 350 1020 [(3, .int x), (2, .ref 336), (1, .ref 6), (0, .ref 0)] [] M (fun r _ => r = some (.int 1)) := by
  obtain ⟨F, H, nd, K, T, L, en, f, g, hC, hM, hfg, hG, hL0⟩ := hR
  obtain ⟨y1, e1, i1⟩ := ziadd (a := x) (b := (1 : Int32)) hn li1 (by omega) (by omega)
  refine zs_aload_n (pc := 1020) t350_1020 rfl ?_
  refine zs_aload_n (pc := 1021) t350_1021 rfl ?_
  refine zs_iload_n (pc := 1022) t350_1022 rfl ?_
  refine zs_iconst (pc := 1023) t350_1023 (v := 1) (by decide) ?_
  refine zs_iadd (pc := 1024) t350_1024 (c := y1) e1 ?_
  refine zs_sald (pc := 1025) t350_1025 (j := n + 1) (by omega) (by omega) rfl ?_
  refine zs_invV (pc := 1026) (k := 6) (as' := [.int (X.2.2.2.2.2.2 (n + 1))]) (st := []) t350_1026 mf95 rfl rfl (Or.inl ⟨by decide, hB.kc⟩) ⟨by decide, by decide, Nat.le_of_ble_eq_true rfl, Nat.le_of_ble_eq_true rfl⟩ (oc28 hB zB zB0 hC hG.1) ?_
  rintro r M1 ⟨⟨⟨s1, f1, ⟨v, rfl, rfl, x1⟩, hc1⟩, k1⟩, hB1⟩
  show zGo X l 100 kc ks 350 1029 [(3, .int x), (2, .ref 336), (1, .ref 6), (0, .ref 0)] [.int v] M1 _
  have hM1 := hM.to k1
  refine zs_pop (pc := 1029) t350_1029 rfl ?_
  refine zs_aload_n (pc := 1030) t350_1030 rfl ?_
  refine zs_aload_n (pc := 1031) t350_1031 rfl ?_
  refine zs_iload_n (pc := 1032) t350_1032 rfl ?_
  refine zs_iconst (pc := 1033) t350_1033 (v := 1) (by decide) ?_
  refine zs_iadd (pc := 1034) t350_1034 (c := y1) e1 ?_
  refine zs_sald (pc := 1035) t350_1035 (j := n + 1) (by omega) (by omega) rfl ?_
  refine zs_invV (pc := 1036) (k := 336) (as' := [.int (X.2.2.2.2.2.2 (n + 1))]) (st := []) t350_1036 mf334 rfl rfl (Or.inl ⟨by decide, hB1.km⟩) ⟨by decide, by decide, Nat.le_of_ble_eq_true rfl, Nat.le_of_ble_eq_true rfl⟩ (om28 hB1 hM1 hG.1) ?_
  rintro r M2 ⟨⟨⟨s2, f2, ⟨w, rfl, rfl, x2⟩, hm2⟩, k2⟩, hB2⟩
  show zGo X l 100 kc ks 350 1039 [(3, .int x), (2, .ref 336), (1, .ref 6), (0, .ref 0)] [.int w] M2 _
  have hc2 := hc1.to k2
  have key : zRu M2 B' := by
    rcases x1 with ⟨a1, a2, rfl⟩ | ⟨a1, a2, a3, rfl⟩ <;> rcases x2 with ⟨b1, b2, rfl⟩ | ⟨b1, b2, b3, rfl⟩
    · exact ⟨_, _, _, _, _, _, _, _, _, hc2, hm2, hfg, hG, hL0⟩
    · omega
    · omega
    · exact ⟨_, _, _, _, _, _, _, _, _, hc2, hm2, hfg, hG.push (hG.1.nd ⟨a1, a2⟩), hL0⟩
  refine zs_pop (pc := 1039) t350_1039 rfl ?_
  refine zs_goto (pc := 1040) t350_1040 ?_
  exact h M2 hB2 key
theorem law29 {x : Int32} {n : Nat} (hn : x.toInt = (n : Int)) (hL : n + 6 ≤ X.2.2.2.2.2.1) (hS : X.2.2.2.2.2.1 ≤ 3072) {B B' : Int} (zB : B + 200000 ≤ B') (zB0 : B ≤ 1500000000) (hB : zBo M) (hR : zRu M B) (h : ∀ M', zBo M' → zRu M' B' → zGo X l 100 kc ks 350 1402 [(3, .int x), (2, .ref 336), (1, .ref 6), (0, .ref 0)] [] M' (fun r _ => r = some (.int 1))) : zGo X l 100 kc ks 350 1043 [(3, .int x), (2, .ref 336), (1, .ref 6), (0, .ref 0)] [] M (fun r _ => r = some (.int 1)) := by
  obtain ⟨F, H, nd, K, T, L, en, f, g, hC, hM, hfg, hG, hL0⟩ := hR
  obtain ⟨y1, e1, i1⟩ := ziadd (a := x) (b := (1 : Int32)) hn li1 (by omega) (by omega)
  obtain ⟨y2, e2, i2⟩ := ziadd (a := x) (b := (2 : Int32)) hn li2 (by omega) (by omega)
  obtain ⟨y3, e3, i3⟩ := ziadd (a := x) (b := (3 : Int32)) hn li3 (by omega) (by omega)
  refine zs_aload_n (pc := 1043) t350_1043 rfl ?_
  refine zs_aload_n (pc := 1044) t350_1044 rfl ?_
  refine zs_iload_n (pc := 1045) t350_1045 rfl ?_
  refine zs_iconst (pc := 1046) t350_1046 (v := 1) (by decide) ?_
  refine zs_iadd (pc := 1047) t350_1047 (c := y1) e1 ?_
  refine zs_sald (pc := 1048) t350_1048 (j := n + 1) (by omega) (by omega) rfl ?_
  refine zs_aload_n (pc := 1049) t350_1049 rfl ?_
  refine zs_iload_n (pc := 1050) t350_1050 rfl ?_
  refine zs_iconst (pc := 1051) t350_1051 (v := 2) (by decide) ?_
  refine zs_iadd (pc := 1052) t350_1052 (c := y2) e2 ?_
  refine zs_sald (pc := 1053) t350_1053 (j := n + 2) (by omega) (by omega) rfl ?_
  refine zs_aload_n (pc := 1054) t350_1054 rfl ?_
  refine zs_iload_n (pc := 1055) t350_1055 rfl ?_
  refine zs_iconst (pc := 1056) t350_1056 (v := 3) (by decide) ?_
  refine zs_iadd (pc := 1057) t350_1057 (c := y3) e3 ?_
  refine zs_sald (pc := 1058) t350_1058 (j := n + 3) (by omega) (by omega) rfl ?_
  refine zs_invV (pc := 1059) (k := 6) (as' := [.int (X.2.2.2.2.2.2 (n + 1)), .int (X.2.2.2.2.2.2 (n + 2)), .int (X.2.2.2.2.2.2 (n + 3))]) (st := []) t350_1059 mf200 rfl rfl (Or.inl ⟨by decide, hB.kc⟩) ⟨by decide, by decide, Nat.le_of_ble_eq_true rfl, Nat.le_of_ble_eq_true rfl⟩ (oc29 hB zB zB0 hC hG.1) ?_
  rintro r M1 ⟨⟨⟨s1, f1, ⟨v, rfl, rfl, rfl⟩, hc1⟩, k1⟩, hB1⟩
  show zGo X l 100 kc ks 350 1062 [(3, .int x), (2, .ref 336), (1, .ref 6), (0, .ref 0)] [.long v] M1 _
  have hM1 := hM.to k1
  refine zs_pop2 (pc := 1062) t350_1062 rfl ?_
  refine zs_aload_n (pc := 1063) t350_1063 rfl ?_
  refine zs_aload_n (pc := 1064) t350_1064 rfl ?_
  refine zs_iload_n (pc := 1065) t350_1065 rfl ?_
  refine zs_iconst (pc := 1066) t350_1066 (v := 1) (by decide) ?_
  refine zs_iadd (pc := 1067) t350_1067 (c := y1) e1 ?_
  refine zs_sald (pc := 1068) t350_1068 (j := n + 1) (by omega) (by omega) rfl ?_
  refine zs_aload_n (pc := 1069) t350_1069 rfl ?_
  refine zs_iload_n (pc := 1070) t350_1070 rfl ?_
  refine zs_iconst (pc := 1071) t350_1071 (v := 2) (by decide) ?_
  refine zs_iadd (pc := 1072) t350_1072 (c := y2) e2 ?_
  refine zs_sald (pc := 1073) t350_1073 (j := n + 2) (by omega) (by omega) rfl ?_
  refine zs_aload_n (pc := 1074) t350_1074 rfl ?_
  refine zs_iload_n (pc := 1075) t350_1075 rfl ?_
  refine zs_iconst (pc := 1076) t350_1076 (v := 3) (by decide) ?_
  refine zs_iadd (pc := 1077) t350_1077 (c := y3) e3 ?_
  refine zs_sald (pc := 1078) t350_1078 (j := n + 3) (by omega) (by omega) rfl ?_
  refine zs_invV (pc := 1079) (k := 336) (as' := [.int (X.2.2.2.2.2.2 (n + 1)), .int (X.2.2.2.2.2.2 (n + 2)), .int (X.2.2.2.2.2.2 (n + 3))]) (st := []) t350_1079 mf300 rfl rfl (Or.inl ⟨by decide, hB1.km⟩) ⟨by decide, by decide, Nat.le_of_ble_eq_true rfl, Nat.le_of_ble_eq_true rfl⟩ (om29 hB1 hM1 hG.1) ?_
  rintro r M2 ⟨⟨⟨s2, f2, ⟨w, rfl, rfl, rfl⟩, hm2⟩, k2⟩, hB2⟩
  show zGo X l 100 kc ks 350 1082 [(3, .int x), (2, .ref 336), (1, .ref 6), (0, .ref 0)] [.long w] M2 _
  have hc2 := hc1.to k2
  have key : zRu M2 B' := by
    exact ⟨_, _, _, _, _, _, _, _, _, hc2, hm2, hfg, hG, hL0⟩
  refine zs_pop2 (pc := 1082) t350_1082 rfl ?_
  refine zs_goto (pc := 1083) t350_1083 ?_
  exact h M2 hB2 key
theorem law30 {x : Int32} {n : Nat} (hn : x.toInt = (n : Int)) (hL : n + 6 ≤ X.2.2.2.2.2.1) (hS : X.2.2.2.2.2.1 ≤ 3072) {B B' : Int} (zB : B + 200000 ≤ B') (zB0 : B ≤ 1500000000) (hB : zBo M) (hR : zRu M B) (h : ∀ M', zBo M' → zRu M' B' → zGo X l 100 kc ks 350 1402 [(3, .int x), (2, .ref 336), (1, .ref 6), (0, .ref 0)] [] M' (fun r _ => r = some (.int 1))) : zGo X l 100 kc ks 350 1086 [(3, .int x), (2, .ref 336), (1, .ref 6), (0, .ref 0)] [] M (fun r _ => r = some (.int 1)) := by
  obtain ⟨F, H, nd, K, T, L, en, f, g, hC, hM, hfg, hG, hL0⟩ := hR
  obtain ⟨y1, e1, i1⟩ := ziadd (a := x) (b := (1 : Int32)) hn li1 (by omega) (by omega)
  obtain ⟨y2, e2, i2⟩ := ziadd (a := x) (b := (2 : Int32)) hn li2 (by omega) (by omega)
  refine zs_aload_n (pc := 1086) t350_1086 rfl ?_
  refine zs_aload_n (pc := 1087) t350_1087 rfl ?_
  refine zs_iload_n (pc := 1088) t350_1088 rfl ?_
  refine zs_iconst (pc := 1089) t350_1089 (v := 1) (by decide) ?_
  refine zs_iadd (pc := 1090) t350_1090 (c := y1) e1 ?_
  refine zs_sald (pc := 1091) t350_1091 (j := n + 1) (by omega) (by omega) rfl ?_
  refine zs_aload_n (pc := 1092) t350_1092 rfl ?_
  refine zs_iload_n (pc := 1093) t350_1093 rfl ?_
  refine zs_iconst (pc := 1094) t350_1094 (v := 2) (by decide) ?_
  refine zs_iadd (pc := 1095) t350_1095 (c := y2) e2 ?_
  refine zs_sald (pc := 1096) t350_1096 (j := n + 2) (by omega) (by omega) rfl ?_
  refine zs_invV (pc := 1097) (k := 6) (as' := [.int (X.2.2.2.2.2.2 (n + 1)), .int (X.2.2.2.2.2.2 (n + 2))]) (st := []) t350_1097 mf201 rfl rfl (Or.inl ⟨by decide, hB.kc⟩) ⟨by decide, by decide, Nat.le_of_ble_eq_true rfl, Nat.le_of_ble_eq_true rfl⟩ (oc30 hB zB zB0 hC hG.1) ?_
  rintro r M1 ⟨⟨⟨s1, f1, ⟨v, rfl, rfl, rfl⟩, hc1⟩, k1⟩, hB1⟩
  show zGo X l 100 kc ks 350 1100 [(3, .int x), (2, .ref 336), (1, .ref 6), (0, .ref 0)] [.int v] M1 _
  have hM1 := hM.to k1
  refine zs_pop (pc := 1100) t350_1100 rfl ?_
  refine zs_aload_n (pc := 1101) t350_1101 rfl ?_
  refine zs_aload_n (pc := 1102) t350_1102 rfl ?_
  refine zs_iload_n (pc := 1103) t350_1103 rfl ?_
  refine zs_iconst (pc := 1104) t350_1104 (v := 1) (by decide) ?_
  refine zs_iadd (pc := 1105) t350_1105 (c := y1) e1 ?_
  refine zs_sald (pc := 1106) t350_1106 (j := n + 1) (by omega) (by omega) rfl ?_
  refine zs_aload_n (pc := 1107) t350_1107 rfl ?_
  refine zs_iload_n (pc := 1108) t350_1108 rfl ?_
  refine zs_iconst (pc := 1109) t350_1109 (v := 2) (by decide) ?_
  refine zs_iadd (pc := 1110) t350_1110 (c := y2) e2 ?_
  refine zs_sald (pc := 1111) t350_1111 (j := n + 2) (by omega) (by omega) rfl ?_
  refine zs_invV (pc := 1112) (k := 336) (as' := [.int (X.2.2.2.2.2.2 (n + 1)), .int (X.2.2.2.2.2.2 (n + 2))]) (st := []) t350_1112 mf336 rfl rfl (Or.inl ⟨by decide, hB1.km⟩) ⟨by decide, by decide, Nat.le_of_ble_eq_true rfl, Nat.le_of_ble_eq_true rfl⟩ (om30 hB1 hM1 hG.1) ?_
  rintro r M2 ⟨⟨⟨s2, f2, ⟨w, rfl, rfl, rfl⟩, hm2⟩, k2⟩, hB2⟩
  show zGo X l 100 kc ks 350 1115 [(3, .int x), (2, .ref 336), (1, .ref 6), (0, .ref 0)] [.int w] M2 _
  have hc2 := hc1.to k2
  have key : zRu M2 B' := by
    exact ⟨_, _, _, _, _, _, _, _, _, hc2, hm2, hfg, hG, hL0⟩
  refine zs_pop (pc := 1115) t350_1115 rfl ?_
  refine zs_goto (pc := 1116) t350_1116 ?_
  exact h M2 hB2 key
theorem law31 {x : Int32} {n : Nat} (hn : x.toInt = (n : Int)) (hL : n + 6 ≤ X.2.2.2.2.2.1) (hS : X.2.2.2.2.2.1 ≤ 3072) {B B' : Int} (zB : B + 200000 ≤ B') (zB0 : B ≤ 1500000000) (hB : zBo M) (hR : zRu M B) (h : ∀ M', zBo M' → zRu M' B' → zGo X l 100 kc ks 350 1402 [(3, .int x), (2, .ref 336), (1, .ref 6), (0, .ref 0)] [] M' (fun r _ => r = some (.int 1))) : zGo X l 100 kc ks 350 1119 [(3, .int x), (2, .ref 336), (1, .ref 6), (0, .ref 0)] [] M (fun r _ => r = some (.int 1)) := by
  obtain ⟨F, H, nd, K, T, L, en, f, g, hC, hM, hfg, hG, hL0⟩ := hR
  obtain ⟨y1, e1, i1⟩ := ziadd (a := x) (b := (1 : Int32)) hn li1 (by omega) (by omega)
  refine zs_aload_n (pc := 1119) t350_1119 rfl ?_
  refine zs_aload_n (pc := 1120) t350_1120 rfl ?_
  refine zs_iload_n (pc := 1121) t350_1121 rfl ?_
  refine zs_iconst (pc := 1122) t350_1122 (v := 1) (by decide) ?_
  refine zs_iadd (pc := 1123) t350_1123 (c := y1) e1 ?_
  refine zs_sald (pc := 1124) t350_1124 (j := n + 1) (by omega) (by omega) rfl ?_
  refine zs_invV (pc := 1125) (k := 6) (as' := [.int (X.2.2.2.2.2.2 (n + 1))]) (st := []) t350_1125 mf203 rfl rfl (Or.inl ⟨by decide, hB.kc⟩) ⟨by decide, by decide, Nat.le_of_ble_eq_true rfl, Nat.le_of_ble_eq_true rfl⟩ (oc31 hB zB zB0 hC hG.1) ?_
  rintro r M1 ⟨⟨⟨s1, f1, ⟨v, rfl, rfl, rfl⟩, hc1⟩, k1⟩, hB1⟩
  show zGo X l 100 kc ks 350 1128 [(3, .int x), (2, .ref 336), (1, .ref 6), (0, .ref 0)] [.int v] M1 _
  have hM1 := hM.to k1
  refine zs_pop (pc := 1128) t350_1128 rfl ?_
  refine zs_aload_n (pc := 1129) t350_1129 rfl ?_
  refine zs_aload_n (pc := 1130) t350_1130 rfl ?_
  refine zs_iload_n (pc := 1131) t350_1131 rfl ?_
  refine zs_iconst (pc := 1132) t350_1132 (v := 1) (by decide) ?_
  refine zs_iadd (pc := 1133) t350_1133 (c := y1) e1 ?_
  refine zs_sald (pc := 1134) t350_1134 (j := n + 1) (by omega) (by omega) rfl ?_
  refine zs_invV (pc := 1135) (k := 336) (as' := [.int (X.2.2.2.2.2.2 (n + 1))]) (st := []) t350_1135 mf338 rfl rfl (Or.inl ⟨by decide, hB1.km⟩) ⟨by decide, by decide, Nat.le_of_ble_eq_true rfl, Nat.le_of_ble_eq_true rfl⟩ (om31 hB1 hM1 hG.1) ?_
  rintro r M2 ⟨⟨⟨s2, f2, ⟨w, rfl, rfl, rfl⟩, hm2⟩, k2⟩, hB2⟩
  show zGo X l 100 kc ks 350 1138 [(3, .int x), (2, .ref 336), (1, .ref 6), (0, .ref 0)] [.int w] M2 _
  have hc2 := hc1.to k2
  have key : zRu M2 B' := by
    exact ⟨_, _, _, _, _, _, _, _, _, hc2, hm2, hfg, hG, hL0⟩
  refine zs_pop (pc := 1138) t350_1138 rfl ?_
  refine zs_goto (pc := 1139) t350_1139 ?_
  exact h M2 hB2 key
theorem law32 {x : Int32} {n : Nat} (hn : x.toInt = (n : Int)) (hL : n + 6 ≤ X.2.2.2.2.2.1) (hS : X.2.2.2.2.2.1 ≤ 3072) {B B' : Int} (zB : B + 200000 ≤ B') (zB0 : B ≤ 1500000000) (hB : zBo M) (hR : zRu M B) (h : ∀ M', zBo M' → zRu M' B' → zGo X l 100 kc ks 350 1402 [(3, .int x), (2, .ref 336), (1, .ref 6), (0, .ref 0)] [] M' (fun r _ => r = some (.int 1))) : zGo X l 100 kc ks 350 1142 [(3, .int x), (2, .ref 336), (1, .ref 6), (0, .ref 0)] [] M (fun r _ => r = some (.int 1)) := by
  obtain ⟨F, H, nd, K, T, L, en, f, g, hC, hM, hfg, hG, hL0⟩ := hR
  obtain ⟨y1, e1, i1⟩ := ziadd (a := x) (b := (1 : Int32)) hn li1 (by omega) (by omega)
  obtain ⟨y2, e2, i2⟩ := ziadd (a := x) (b := (2 : Int32)) hn li2 (by omega) (by omega)
  refine zs_aload_n (pc := 1142) t350_1142 rfl ?_
  refine zs_aload_n (pc := 1143) t350_1143 rfl ?_
  refine zs_iload_n (pc := 1144) t350_1144 rfl ?_
  refine zs_iconst (pc := 1145) t350_1145 (v := 1) (by decide) ?_
  refine zs_iadd (pc := 1146) t350_1146 (c := y1) e1 ?_
  refine zs_sald (pc := 1147) t350_1147 (j := n + 1) (by omega) (by omega) rfl ?_
  refine zs_aload_n (pc := 1148) t350_1148 rfl ?_
  refine zs_iload_n (pc := 1149) t350_1149 rfl ?_
  refine zs_iconst (pc := 1150) t350_1150 (v := 2) (by decide) ?_
  refine zs_iadd (pc := 1151) t350_1151 (c := y2) e2 ?_
  refine zs_sald (pc := 1152) t350_1152 (j := n + 2) (by omega) (by omega) rfl ?_
  refine zs_invV (pc := 1153) (k := 6) (as' := [.int (X.2.2.2.2.2.2 (n + 1)), .int (X.2.2.2.2.2.2 (n + 2))]) (st := []) t350_1153 mf204 rfl rfl (Or.inl ⟨by decide, hB.kc⟩) ⟨by decide, by decide, Nat.le_of_ble_eq_true rfl, Nat.le_of_ble_eq_true rfl⟩ (oc32 hB zB zB0 hC hG.1) ?_
  rintro r M1 ⟨⟨⟨s1, f1, ⟨v, rfl, rfl, rfl⟩, hc1⟩, k1⟩, hB1⟩
  show zGo X l 100 kc ks 350 1156 [(3, .int x), (2, .ref 336), (1, .ref 6), (0, .ref 0)] [.int v] M1 _
  have hM1 := hM.to k1
  refine zs_pop (pc := 1156) t350_1156 rfl ?_
  refine zs_aload_n (pc := 1157) t350_1157 rfl ?_
  refine zs_aload_n (pc := 1158) t350_1158 rfl ?_
  refine zs_iload_n (pc := 1159) t350_1159 rfl ?_
  refine zs_iconst (pc := 1160) t350_1160 (v := 1) (by decide) ?_
  refine zs_iadd (pc := 1161) t350_1161 (c := y1) e1 ?_
  refine zs_sald (pc := 1162) t350_1162 (j := n + 1) (by omega) (by omega) rfl ?_
  refine zs_aload_n (pc := 1163) t350_1163 rfl ?_
  refine zs_iload_n (pc := 1164) t350_1164 rfl ?_
  refine zs_iconst (pc := 1165) t350_1165 (v := 2) (by decide) ?_
  refine zs_iadd (pc := 1166) t350_1166 (c := y2) e2 ?_
  refine zs_sald (pc := 1167) t350_1167 (j := n + 2) (by omega) (by omega) rfl ?_
  refine zs_invV (pc := 1168) (k := 336) (as' := [.int (X.2.2.2.2.2.2 (n + 1)), .int (X.2.2.2.2.2.2 (n + 2))]) (st := []) t350_1168 mf339 rfl rfl (Or.inl ⟨by decide, hB1.km⟩) ⟨by decide, by decide, Nat.le_of_ble_eq_true rfl, Nat.le_of_ble_eq_true rfl⟩ (om32 hB1 hM1 hG.1) ?_
  rintro r M2 ⟨⟨⟨s2, f2, ⟨w, rfl, rfl, rfl⟩, hm2⟩, k2⟩, hB2⟩
  show zGo X l 100 kc ks 350 1171 [(3, .int x), (2, .ref 336), (1, .ref 6), (0, .ref 0)] [.int w] M2 _
  have hc2 := hc1.to k2
  have key : zRu M2 B' := by
    exact ⟨_, _, _, _, _, _, _, _, _, hc2, hm2, hfg, hG, hL0⟩
  refine zs_pop (pc := 1171) t350_1171 rfl ?_
  refine zs_goto (pc := 1172) t350_1172 ?_
  exact h M2 hB2 key
theorem law33 {x : Int32} {n : Nat} (hn : x.toInt = (n : Int)) (hL : n + 6 ≤ X.2.2.2.2.2.1) (hS : X.2.2.2.2.2.1 ≤ 3072) {B B' : Int} (zB : B + 200000 ≤ B') (zB0 : B ≤ 1500000000) (hB : zBo M) (hR : zRu M B) (h : ∀ M', zBo M' → zRu M' B' → zGo X l 100 kc ks 350 1402 [(3, .int x), (2, .ref 336), (1, .ref 6), (0, .ref 0)] [] M' (fun r _ => r = some (.int 1))) : zGo X l 100 kc ks 350 1175 [(3, .int x), (2, .ref 336), (1, .ref 6), (0, .ref 0)] [] M (fun r _ => r = some (.int 1)) := by
  obtain ⟨F, H, nd, K, T, L, en, f, g, hC, hM, hfg, hG, hL0⟩ := hR
  obtain ⟨y1, e1, i1⟩ := ziadd (a := x) (b := (1 : Int32)) hn li1 (by omega) (by omega)
  obtain ⟨y2, e2, i2⟩ := ziadd (a := x) (b := (2 : Int32)) hn li2 (by omega) (by omega)
  refine zs_aload_n (pc := 1175) t350_1175 rfl ?_
  refine zs_aload_n (pc := 1176) t350_1176 rfl ?_
  refine zs_iload_n (pc := 1177) t350_1177 rfl ?_
  refine zs_iconst (pc := 1178) t350_1178 (v := 1) (by decide) ?_
  refine zs_iadd (pc := 1179) t350_1179 (c := y1) e1 ?_
  refine zs_sald (pc := 1180) t350_1180 (j := n + 1) (by omega) (by omega) rfl ?_
  refine zs_aload_n (pc := 1181) t350_1181 rfl ?_
  refine zs_iload_n (pc := 1182) t350_1182 rfl ?_
  refine zs_iconst (pc := 1183) t350_1183 (v := 2) (by decide) ?_
  refine zs_iadd (pc := 1184) t350_1184 (c := y2) e2 ?_
  refine zs_sald (pc := 1185) t350_1185 (j := n + 2) (by omega) (by omega) rfl ?_
  refine zs_invV (pc := 1186) (k := 6) (as' := [.int (X.2.2.2.2.2.2 (n + 1)), .int (X.2.2.2.2.2.2 (n + 2))]) (st := []) t350_1186 mf205 rfl rfl (Or.inl ⟨by decide, hB.kc⟩) ⟨by decide, by decide, Nat.le_of_ble_eq_true rfl, Nat.le_of_ble_eq_true rfl⟩ (oc33 hB zB zB0 hC hG.1) ?_
  rintro r M1 ⟨⟨⟨s1, f1, ⟨v, rfl, rfl, rfl⟩, hc1⟩, k1⟩, hB1⟩
  show zGo X l 100 kc ks 350 1189 [(3, .int x), (2, .ref 336), (1, .ref 6), (0, .ref 0)] [.int v] M1 _
  have hM1 := hM.to k1
  refine zs_pop (pc := 1189) t350_1189 rfl ?_
  refine zs_aload_n (pc := 1190) t350_1190 rfl ?_
  refine zs_aload_n (pc := 1191) t350_1191 rfl ?_
  refine zs_iload_n (pc := 1192) t350_1192 rfl ?_
  refine zs_iconst (pc := 1193) t350_1193 (v := 1) (by decide) ?_
  refine zs_iadd (pc := 1194) t350_1194 (c := y1) e1 ?_
  refine zs_sald (pc := 1195) t350_1195 (j := n + 1) (by omega) (by omega) rfl ?_
  refine zs_aload_n (pc := 1196) t350_1196 rfl ?_
  refine zs_iload_n (pc := 1197) t350_1197 rfl ?_
  refine zs_iconst (pc := 1198) t350_1198 (v := 2) (by decide) ?_
  refine zs_iadd (pc := 1199) t350_1199 (c := y2) e2 ?_
  refine zs_sald (pc := 1200) t350_1200 (j := n + 2) (by omega) (by omega) rfl ?_
  refine zs_invV (pc := 1201) (k := 336) (as' := [.int (X.2.2.2.2.2.2 (n + 1)), .int (X.2.2.2.2.2.2 (n + 2))]) (st := []) t350_1201 mf340 rfl rfl (Or.inl ⟨by decide, hB1.km⟩) ⟨by decide, by decide, Nat.le_of_ble_eq_true rfl, Nat.le_of_ble_eq_true rfl⟩ (om33 hB1 hM1 hG.1) ?_
  rintro r M2 ⟨⟨⟨s2, f2, ⟨w, rfl, rfl, rfl⟩, hm2⟩, k2⟩, hB2⟩
  show zGo X l 100 kc ks 350 1204 [(3, .int x), (2, .ref 336), (1, .ref 6), (0, .ref 0)] [.int w] M2 _
  have hc2 := hc1.to k2
  have key : zRu M2 B' := by
    exact ⟨_, _, _, _, _, _, _, _, _, hc2, hm2, hfg, hG, hL0⟩
  refine zs_pop (pc := 1204) t350_1204 rfl ?_
  refine zs_goto (pc := 1205) t350_1205 ?_
  exact h M2 hB2 key
theorem law34 {x : Int32} {n : Nat} (hn : x.toInt = (n : Int)) (hL : n + 6 ≤ X.2.2.2.2.2.1) (hS : X.2.2.2.2.2.1 ≤ 3072) {B B' : Int} (zB : B + 200000 ≤ B') (zB0 : B ≤ 1500000000) (hB : zBo M) (hR : zRu M B) (h : ∀ M', zBo M' → zRu M' B' → zGo X l 100 kc ks 350 1402 [(3, .int x), (2, .ref 336), (1, .ref 6), (0, .ref 0)] [] M' (fun r _ => r = some (.int 1))) : zGo X l 100 kc ks 350 1208 [(3, .int x), (2, .ref 336), (1, .ref 6), (0, .ref 0)] [] M (fun r _ => r = some (.int 1)) := by
  obtain ⟨F, H, nd, K, T, L, en, f, g, hC, hM, hfg, hG, hL0⟩ := hR
  obtain ⟨y1, e1, i1⟩ := ziadd (a := x) (b := (1 : Int32)) hn li1 (by omega) (by omega)
  obtain ⟨y2, e2, i2⟩ := ziadd (a := x) (b := (2 : Int32)) hn li2 (by omega) (by omega)
  refine zs_aload_n (pc := 1208) t350_1208 rfl ?_
  refine zs_aload_n (pc := 1209) t350_1209 rfl ?_
  refine zs_iload_n (pc := 1210) t350_1210 rfl ?_
  refine zs_iconst (pc := 1211) t350_1211 (v := 1) (by decide) ?_
  refine zs_iadd (pc := 1212) t350_1212 (c := y1) e1 ?_
  refine zs_sald (pc := 1213) t350_1213 (j := n + 1) (by omega) (by omega) rfl ?_
  refine zs_aload_n (pc := 1214) t350_1214 rfl ?_
  refine zs_iload_n (pc := 1215) t350_1215 rfl ?_
  refine zs_iconst (pc := 1216) t350_1216 (v := 2) (by decide) ?_
  refine zs_iadd (pc := 1217) t350_1217 (c := y2) e2 ?_
  refine zs_sald (pc := 1218) t350_1218 (j := n + 2) (by omega) (by omega) rfl ?_
  refine zs_invV (pc := 1219) (k := 6) (as' := [.int (X.2.2.2.2.2.2 (n + 1)), .int (X.2.2.2.2.2.2 (n + 2))]) (st := []) t350_1219 mf206 rfl rfl (Or.inl ⟨by decide, hB.kc⟩) ⟨by decide, by decide, Nat.le_of_ble_eq_true rfl, Nat.le_of_ble_eq_true rfl⟩ (oc34 hB zB zB0 hC hG.1) ?_
  rintro r M1 ⟨⟨⟨s1, f1, ⟨v, rfl, rfl, x1⟩, hc1⟩, k1⟩, hB1⟩
  show zGo X l 100 kc ks 350 1222 [(3, .int x), (2, .ref 336), (1, .ref 6), (0, .ref 0)] [.int v] M1 _
  have hM1 := hM.to k1
  refine zs_pop (pc := 1222) t350_1222 rfl ?_
  refine zs_aload_n (pc := 1223) t350_1223 rfl ?_
  refine zs_aload_n (pc := 1224) t350_1224 rfl ?_
  refine zs_iload_n (pc := 1225) t350_1225 rfl ?_
  refine zs_iconst (pc := 1226) t350_1226 (v := 1) (by decide) ?_
  refine zs_iadd (pc := 1227) t350_1227 (c := y1) e1 ?_
  refine zs_sald (pc := 1228) t350_1228 (j := n + 1) (by omega) (by omega) rfl ?_
  refine zs_aload_n (pc := 1229) t350_1229 rfl ?_
  refine zs_iload_n (pc := 1230) t350_1230 rfl ?_
  refine zs_iconst (pc := 1231) t350_1231 (v := 2) (by decide) ?_
  refine zs_iadd (pc := 1232) t350_1232 (c := y2) e2 ?_
  refine zs_sald (pc := 1233) t350_1233 (j := n + 2) (by omega) (by omega) rfl ?_
  refine zs_invV (pc := 1234) (k := 336) (as' := [.int (X.2.2.2.2.2.2 (n + 1)), .int (X.2.2.2.2.2.2 (n + 2))]) (st := []) t350_1234 mf335 rfl rfl (Or.inl ⟨by decide, hB1.km⟩) ⟨by decide, by decide, Nat.le_of_ble_eq_true rfl, Nat.le_of_ble_eq_true rfl⟩ (om34 hB1 hM1 hG.1) ?_
  rintro r M2 ⟨⟨⟨s2, f2, ⟨w, rfl, rfl, x2⟩, hm2⟩, k2⟩, hB2⟩
  show zGo X l 100 kc ks 350 1237 [(3, .int x), (2, .ref 336), (1, .ref 6), (0, .ref 0)] [.int w] M2 _
  have hc2 := hc1.to k2
  have key : zRu M2 B' := by
    rcases x1 with ⟨a1, a2, rfl⟩ | ⟨a1, a2, a3, a4, a5, rfl⟩ <;> rcases x2 with ⟨b1, b2, rfl⟩ | ⟨b1, b2, b3, b4, b5, rfl⟩
    · exact ⟨_, _, _, _, _, _, _, _, _, hc2, hm2, hfg, hG, hL0⟩
    · omega
    · omega
    · exact ⟨_, _, _, _, _, _, _, _, _, hc2, hm2, hfg, hG.push (pAl.wf hG.1 _ (by have := hG.1.1; omega)), hL0⟩
  refine zs_pop (pc := 1237) t350_1237 rfl ?_
  refine zs_goto (pc := 1238) t350_1238 ?_
  exact h M2 hB2 key
theorem law35 {x : Int32} {n : Nat} (hn : x.toInt = (n : Int)) (hL : n + 6 ≤ X.2.2.2.2.2.1) (hS : X.2.2.2.2.2.1 ≤ 3072) {B B' : Int} (zB : B + 200000 ≤ B') (zB0 : B ≤ 1500000000) (hB : zBo M) (hR : zRu M B) (h : ∀ M', zBo M' → zRu M' B' → zGo X l 100 kc ks 350 1402 [(3, .int x), (2, .ref 336), (1, .ref 6), (0, .ref 0)] [] M' (fun r _ => r = some (.int 1))) : zGo X l 100 kc ks 350 1241 [(3, .int x), (2, .ref 336), (1, .ref 6), (0, .ref 0)] [] M (fun r _ => r = some (.int 1)) := by
  obtain ⟨F, H, nd, K, T, L, en, f, g, hC, hM, hfg, hG, hL0⟩ := hR
  obtain ⟨y1, e1, i1⟩ := ziadd (a := x) (b := (1 : Int32)) hn li1 (by omega) (by omega)
  obtain ⟨y2, e2, i2⟩ := ziadd (a := x) (b := (2 : Int32)) hn li2 (by omega) (by omega)
  refine zs_aload_n (pc := 1241) t350_1241 rfl ?_
  refine zs_aload_n (pc := 1242) t350_1242 rfl ?_
  refine zs_iload_n (pc := 1243) t350_1243 rfl ?_
  refine zs_iconst (pc := 1244) t350_1244 (v := 1) (by decide) ?_
  refine zs_iadd (pc := 1245) t350_1245 (c := y1) e1 ?_
  refine zs_sald (pc := 1246) t350_1246 (j := n + 1) (by omega) (by omega) rfl ?_
  refine zs_aload_n (pc := 1247) t350_1247 rfl ?_
  refine zs_iload_n (pc := 1248) t350_1248 rfl ?_
  refine zs_iconst (pc := 1249) t350_1249 (v := 2) (by decide) ?_
  refine zs_iadd (pc := 1250) t350_1250 (c := y2) e2 ?_
  refine zs_sald (pc := 1251) t350_1251 (j := n + 2) (by omega) (by omega) rfl ?_
  refine zs_invV (pc := 1252) (k := 6) (as' := [.int (X.2.2.2.2.2.2 (n + 1)), .int (X.2.2.2.2.2.2 (n + 2))]) (st := []) t350_1252 mf207 rfl rfl (Or.inl ⟨by decide, hB.kc⟩) ⟨by decide, by decide, Nat.le_of_ble_eq_true rfl, Nat.le_of_ble_eq_true rfl⟩ (oc35 hB zB zB0 hC hG.1) ?_
  rintro r M1 ⟨⟨⟨s1, f1, ⟨v, rfl, rfl, rfl⟩, hc1⟩, k1⟩, hB1⟩
  show zGo X l 100 kc ks 350 1255 [(3, .int x), (2, .ref 336), (1, .ref 6), (0, .ref 0)] [.int v] M1 _
  have hM1 := hM.to k1
  refine zs_pop (pc := 1255) t350_1255 rfl ?_
  refine zs_aload_n (pc := 1256) t350_1256 rfl ?_
  refine zs_aload_n (pc := 1257) t350_1257 rfl ?_
  refine zs_iload_n (pc := 1258) t350_1258 rfl ?_
  refine zs_iconst (pc := 1259) t350_1259 (v := 1) (by decide) ?_
  refine zs_iadd (pc := 1260) t350_1260 (c := y1) e1 ?_
  refine zs_sald (pc := 1261) t350_1261 (j := n + 1) (by omega) (by omega) rfl ?_
  refine zs_aload_n (pc := 1262) t350_1262 rfl ?_
  refine zs_iload_n (pc := 1263) t350_1263 rfl ?_
  refine zs_iconst (pc := 1264) t350_1264 (v := 2) (by decide) ?_
  refine zs_iadd (pc := 1265) t350_1265 (c := y2) e2 ?_
  refine zs_sald (pc := 1266) t350_1266 (j := n + 2) (by omega) (by omega) rfl ?_
  refine zs_invV (pc := 1267) (k := 336) (as' := [.int (X.2.2.2.2.2.2 (n + 1)), .int (X.2.2.2.2.2.2 (n + 2))]) (st := []) t350_1267 mf302 rfl rfl (Or.inl ⟨by decide, hB1.km⟩) ⟨by decide, by decide, Nat.le_of_ble_eq_true rfl, Nat.le_of_ble_eq_true rfl⟩ (om35 hB1 hM1 hG.1) ?_
  rintro r M2 ⟨⟨⟨s2, f2, ⟨w, rfl, rfl, rfl⟩, hm2⟩, k2⟩, hB2⟩
  show zGo X l 100 kc ks 350 1270 [(3, .int x), (2, .ref 336), (1, .ref 6), (0, .ref 0)] [.int w] M2 _
  have hc2 := hc1.to k2
  have key : zRu M2 B' := by
    exact ⟨_, _, _, _, _, _, _, _, _, hc2, hm2, hfg, hG, hL0⟩
  refine zs_pop (pc := 1270) t350_1270 rfl ?_
  refine zs_goto (pc := 1271) t350_1271 ?_
  exact h M2 hB2 key
theorem law36 {x : Int32} {n : Nat} (hn : x.toInt = (n : Int)) (hL : n + 6 ≤ X.2.2.2.2.2.1) (hS : X.2.2.2.2.2.1 ≤ 3072) {B B' : Int} (zB : B + 200000 ≤ B') (zB0 : B ≤ 1500000000) (hB : zBo M) (hR : zRu M B) (h : ∀ M', zBo M' → zRu M' B' → zGo X l 100 kc ks 350 1402 [(3, .int x), (2, .ref 336), (1, .ref 6), (0, .ref 0)] [] M' (fun r _ => r = some (.int 1))) : zGo X l 100 kc ks 350 1274 [(3, .int x), (2, .ref 336), (1, .ref 6), (0, .ref 0)] [] M (fun r _ => r = some (.int 1)) := by
  obtain ⟨F, H, nd, K, T, L, en, f, g, hC, hM, hfg, hG, hL0⟩ := hR
  obtain ⟨y1, e1, i1⟩ := ziadd (a := x) (b := (1 : Int32)) hn li1 (by omega) (by omega)
  obtain ⟨y2, e2, i2⟩ := ziadd (a := x) (b := (2 : Int32)) hn li2 (by omega) (by omega)
  refine zs_aload_n (pc := 1274) t350_1274 rfl ?_
  refine zs_aload_n (pc := 1275) t350_1275 rfl ?_
  refine zs_iload_n (pc := 1276) t350_1276 rfl ?_
  refine zs_iconst (pc := 1277) t350_1277 (v := 1) (by decide) ?_
  refine zs_iadd (pc := 1278) t350_1278 (c := y1) e1 ?_
  refine zs_sald (pc := 1279) t350_1279 (j := n + 1) (by omega) (by omega) rfl ?_
  refine zs_aload_n (pc := 1280) t350_1280 rfl ?_
  refine zs_iload_n (pc := 1281) t350_1281 rfl ?_
  refine zs_iconst (pc := 1282) t350_1282 (v := 2) (by decide) ?_
  refine zs_iadd (pc := 1283) t350_1283 (c := y2) e2 ?_
  refine zs_sald (pc := 1284) t350_1284 (j := n + 2) (by omega) (by omega) rfl ?_
  refine zs_invV (pc := 1285) (k := 6) (as' := [.int (X.2.2.2.2.2.2 (n + 1)), .int (X.2.2.2.2.2.2 (n + 2))]) (st := []) t350_1285 mf210 rfl rfl (Or.inl ⟨by decide, hB.kc⟩) ⟨by decide, by decide, Nat.le_of_ble_eq_true rfl, Nat.le_of_ble_eq_true rfl⟩ (oc36 hB zB zB0 hC hG.1) ?_
  rintro r M1 ⟨⟨⟨s1, f1, ⟨v, rfl, rfl, rfl⟩, hc1⟩, k1⟩, hB1⟩
  show zGo X l 100 kc ks 350 1288 [(3, .int x), (2, .ref 336), (1, .ref 6), (0, .ref 0)] [.int v] M1 _
  have hM1 := hM.to k1
  refine zs_pop (pc := 1288) t350_1288 rfl ?_
  refine zs_aload_n (pc := 1289) t350_1289 rfl ?_
  refine zs_aload_n (pc := 1290) t350_1290 rfl ?_
  refine zs_iload_n (pc := 1291) t350_1291 rfl ?_
  refine zs_iconst (pc := 1292) t350_1292 (v := 1) (by decide) ?_
  refine zs_iadd (pc := 1293) t350_1293 (c := y1) e1 ?_
  refine zs_sald (pc := 1294) t350_1294 (j := n + 1) (by omega) (by omega) rfl ?_
  refine zs_aload_n (pc := 1295) t350_1295 rfl ?_
  refine zs_iload_n (pc := 1296) t350_1296 rfl ?_
  refine zs_iconst (pc := 1297) t350_1297 (v := 2) (by decide) ?_
  refine zs_iadd (pc := 1298) t350_1298 (c := y2) e2 ?_
  refine zs_sald (pc := 1299) t350_1299 (j := n + 2) (by omega) (by omega) rfl ?_
  refine zs_invV (pc := 1300) (k := 336) (as' := [.int (X.2.2.2.2.2.2 (n + 1)), .int (X.2.2.2.2.2.2 (n + 2))]) (st := []) t350_1300 mf341 rfl rfl (Or.inl ⟨by decide, hB1.km⟩) ⟨by decide, by decide, Nat.le_of_ble_eq_true rfl, Nat.le_of_ble_eq_true rfl⟩ (om36 hB1 hM1 hG.1) ?_
  rintro r M2 ⟨⟨⟨s2, f2, ⟨w, rfl, rfl, rfl⟩, hm2⟩, k2⟩, hB2⟩
  show zGo X l 100 kc ks 350 1303 [(3, .int x), (2, .ref 336), (1, .ref 6), (0, .ref 0)] [.int w] M2 _
  have hc2 := hc1.to k2
  have key : zRu M2 B' := by
    exact ⟨_, _, _, _, _, _, _, _, _, hc2, hm2, hfg, hG, hL0⟩
  refine zs_pop (pc := 1303) t350_1303 rfl ?_
  refine zs_goto (pc := 1304) t350_1304 ?_
  exact h M2 hB2 key
theorem law37 {x : Int32} {n : Nat} (hn : x.toInt = (n : Int)) (hL : n + 6 ≤ X.2.2.2.2.2.1) (hS : X.2.2.2.2.2.1 ≤ 3072) {B B' : Int} (zB : B + 200000 ≤ B') (zB0 : B ≤ 1500000000) (hB : zBo M) (hR : zRu M B) (h : ∀ M', zBo M' → zRu M' B' → zGo X l 100 kc ks 350 1402 [(3, .int x), (2, .ref 336), (1, .ref 6), (0, .ref 0)] [] M' (fun r _ => r = some (.int 1))) : zGo X l 100 kc ks 350 1307 [(3, .int x), (2, .ref 336), (1, .ref 6), (0, .ref 0)] [] M (fun r _ => r = some (.int 1)) := by
  obtain ⟨F, H, nd, K, T, L, en, f, g, hC, hM, hfg, hG, hL0⟩ := hR
  refine zs_aload_n (pc := 1307) t350_1307 rfl ?_
  refine zs_invV (pc := 1308) (k := 6) (as' := []) (st := []) t350_1308 mf212 rfl rfl (Or.inl ⟨by decide, hB.kc⟩) ⟨by decide, by decide, Nat.le_of_ble_eq_true rfl, Nat.le_of_ble_eq_true rfl⟩ (oc37 hB zB zB0 hC hG.1) ?_
  rintro r M1 ⟨⟨⟨s1, f1, ⟨v, rfl, rfl, x1⟩, hc1⟩, k1⟩, hB1⟩
  show zGo X l 100 kc ks 350 1311 [(3, .int x), (2, .ref 336), (1, .ref 6), (0, .ref 0)] [.int v] M1 _
  have hM1 := hM.to k1
  refine zs_pop (pc := 1311) t350_1311 rfl ?_
  refine zs_aload_n (pc := 1312) t350_1312 rfl ?_
  refine zs_invV (pc := 1313) (k := 336) (as' := []) (st := []) t350_1313 mf225 rfl rfl (Or.inl ⟨by decide, hB1.km⟩) ⟨by decide, by decide, Nat.le_of_ble_eq_true rfl, Nat.le_of_ble_eq_true rfl⟩ (om37 hB1 hM1 hG.1) ?_
  rintro r M2 ⟨⟨⟨s2, f2, ⟨w, rfl, rfl, x2⟩, hm2⟩, k2⟩, hB2⟩
  show zGo X l 100 kc ks 350 1316 [(3, .int x), (2, .ref 336), (1, .ref 6), (0, .ref 0)] [.int w] M2 _
  have hc2 := hc1.to k2
  have key : zRu M2 B' := by
    rcases x1 with ⟨a1, a2, rfl⟩ | ⟨a1, a2, rfl⟩ <;> rcases x2 with ⟨b1, b2, rfl⟩ | ⟨b1, b2, rfl⟩
    · exact ⟨_, _, _, _, _, _, _, _, _, hc2, hm2, hfg, hG, hL0⟩
    · omega
    · omega
    · exact ⟨_, _, _, _, _, _, _, _, _, hc2, hm2, hfg, hG.pop a1, hL0⟩
  refine zs_pop (pc := 1316) t350_1316 rfl ?_
  refine zs_goto (pc := 1317) t350_1317 ?_
  exact h M2 hB2 key
theorem law38 {x : Int32} {n : Nat} (hn : x.toInt = (n : Int)) (hL : n + 6 ≤ X.2.2.2.2.2.1) (hS : X.2.2.2.2.2.1 ≤ 3072) {B B' : Int} (zB : B + 200000 ≤ B') (zB0 : B ≤ 1500000000) (hB : zBo M) (hR : zRu M B) (h : ∀ M', zBo M' → zRu M' B' → zGo X l 100 kc ks 350 1402 [(3, .int x), (2, .ref 336), (1, .ref 6), (0, .ref 0)] [] M' (fun r _ => r = some (.int 1))) : zGo X l 100 kc ks 350 1320 [(3, .int x), (2, .ref 336), (1, .ref 6), (0, .ref 0)] [] M (fun r _ => r = some (.int 1)) := by
  obtain ⟨F, H, nd, K, T, L, en, f, g, hC, hM, hfg, hG, hL0⟩ := hR
  obtain ⟨y1, e1, i1⟩ := ziadd (a := x) (b := (1 : Int32)) hn li1 (by omega) (by omega)
  refine zs_aload_n (pc := 1320) t350_1320 rfl ?_
  refine zs_aload_n (pc := 1321) t350_1321 rfl ?_
  refine zs_iload_n (pc := 1322) t350_1322 rfl ?_
  refine zs_iconst (pc := 1323) t350_1323 (v := 1) (by decide) ?_
  refine zs_iadd (pc := 1324) t350_1324 (c := y1) e1 ?_
  refine zs_sald (pc := 1325) t350_1325 (j := n + 1) (by omega) (by omega) rfl ?_
  refine zs_invV (pc := 1326) (k := 6) (as' := [.int (X.2.2.2.2.2.2 (n + 1))]) (st := []) t350_1326 mf214 rfl rfl (Or.inl ⟨by decide, hB.kc⟩) ⟨by decide, by decide, Nat.le_of_ble_eq_true rfl, Nat.le_of_ble_eq_true rfl⟩ (oc38 hB zB zB0 hC hG.1) ?_
  rintro r M1 ⟨⟨⟨s1, f1, ⟨v, rfl, rfl, x1⟩, hc1⟩, k1⟩, hB1⟩
  show zGo X l 100 kc ks 350 1329 [(3, .int x), (2, .ref 336), (1, .ref 6), (0, .ref 0)] [.int v] M1 _
  have hM1 := hM.to k1
  refine zs_pop (pc := 1329) t350_1329 rfl ?_
  refine zs_aload_n (pc := 1330) t350_1330 rfl ?_
  refine zs_aload_n (pc := 1331) t350_1331 rfl ?_
  refine zs_iload_n (pc := 1332) t350_1332 rfl ?_
  refine zs_iconst (pc := 1333) t350_1333 (v := 1) (by decide) ?_
  refine zs_iadd (pc := 1334) t350_1334 (c := y1) e1 ?_
  refine zs_sald (pc := 1335) t350_1335 (j := n + 1) (by omega) (by omega) rfl ?_
  refine zs_invV (pc := 1336) (k := 336) (as' := [.int (X.2.2.2.2.2.2 (n + 1))]) (st := []) t350_1336 mf227 rfl rfl (Or.inl ⟨by decide, hB1.km⟩) ⟨by decide, by decide, Nat.le_of_ble_eq_true rfl, Nat.le_of_ble_eq_true rfl⟩ (om38 hB1 hM1 hG.1) ?_
  rintro r M2 ⟨⟨⟨s2, f2, ⟨w, rfl, rfl, x2⟩, hm2⟩, k2⟩, hB2⟩
  show zGo X l 100 kc ks 350 1339 [(3, .int x), (2, .ref 336), (1, .ref 6), (0, .ref 0)] [.int w] M2 _
  have hc2 := hc1.to k2
  have key : zRu M2 B' := by
    rcases x1 with ⟨a1, a2, rfl⟩ | ⟨a1, a2, a3, rfl⟩ <;> rcases x2 with ⟨b1, b2, rfl⟩ | ⟨b1, b2, b3, rfl⟩
    · exact ⟨_, _, _, _, _, _, _, _, _, hc2, hm2, hfg, hG, hL0⟩
    · omega
    · omega
    · exact ⟨_, _, _, _, _, _, _, _, _, hc2, hm2, hfg, hG.keep, hL0⟩
  refine zs_pop (pc := 1339) t350_1339 rfl ?_
  refine zs_goto (pc := 1340) t350_1340 ?_
  exact h M2 hB2 key
theorem law39 {x : Int32} {n : Nat} (hn : x.toInt = (n : Int)) (hL : n + 6 ≤ X.2.2.2.2.2.1) (hS : X.2.2.2.2.2.1 ≤ 3072) {B B' : Int} (zB : B + 200000 ≤ B') (zB0 : B ≤ 1500000000) (hB : zBo M) (hR : zRu M B) (h : ∀ M', zBo M' → zRu M' B' → zGo X l 100 kc ks 350 1402 [(3, .int x), (2, .ref 336), (1, .ref 6), (0, .ref 0)] [] M' (fun r _ => r = some (.int 1))) : zGo X l 100 kc ks 350 1343 [(3, .int x), (2, .ref 336), (1, .ref 6), (0, .ref 0)] [] M (fun r _ => r = some (.int 1)) := by
  obtain ⟨F, H, nd, K, T, L, en, f, g, hC, hM, hfg, hG, hL0⟩ := hR
  obtain ⟨y1, e1, i1⟩ := ziadd (a := x) (b := (1 : Int32)) hn li1 (by omega) (by omega)
  refine zs_aload_n (pc := 1343) t350_1343 rfl ?_
  refine zs_aload_n (pc := 1344) t350_1344 rfl ?_
  refine zs_iload_n (pc := 1345) t350_1345 rfl ?_
  refine zs_iconst (pc := 1346) t350_1346 (v := 1) (by decide) ?_
  refine zs_iadd (pc := 1347) t350_1347 (c := y1) e1 ?_
  refine zs_sald (pc := 1348) t350_1348 (j := n + 1) (by omega) (by omega) rfl ?_
  refine zs_invV (pc := 1349) (k := 6) (as' := [.int (X.2.2.2.2.2.2 (n + 1))]) (st := []) t350_1349 mf216 rfl rfl (Or.inl ⟨by decide, hB.kc⟩) ⟨by decide, by decide, Nat.le_of_ble_eq_true rfl, Nat.le_of_ble_eq_true rfl⟩ (oc39 hB zB zB0 hC hG.1) ?_
  rintro r M1 ⟨⟨⟨s1, f1, ⟨v, rfl, rfl, x1⟩, hc1⟩, k1⟩, hB1⟩
  show zGo X l 100 kc ks 350 1352 [(3, .int x), (2, .ref 336), (1, .ref 6), (0, .ref 0)] [.int v] M1 _
  have hM1 := hM.to k1
  refine zs_pop (pc := 1352) t350_1352 rfl ?_
  refine zs_aload_n (pc := 1353) t350_1353 rfl ?_
  refine zs_aload_n (pc := 1354) t350_1354 rfl ?_
  refine zs_iload_n (pc := 1355) t350_1355 rfl ?_
  refine zs_iconst (pc := 1356) t350_1356 (v := 1) (by decide) ?_
  refine zs_iadd (pc := 1357) t350_1357 (c := y1) e1 ?_
  refine zs_sald (pc := 1358) t350_1358 (j := n + 1) (by omega) (by omega) rfl ?_
  refine zs_invV (pc := 1359) (k := 336) (as' := [.int (X.2.2.2.2.2.2 (n + 1))]) (st := []) t350_1359 mf229 rfl rfl (Or.inl ⟨by decide, hB1.km⟩) ⟨by decide, by decide, Nat.le_of_ble_eq_true rfl, Nat.le_of_ble_eq_true rfl⟩ (om39 hB1 hM1 hG.1) ?_
  rintro r M2 ⟨⟨⟨s2, f2, ⟨w, rfl, rfl, x2⟩, hm2⟩, k2⟩, hB2⟩
  show zGo X l 100 kc ks 350 1362 [(3, .int x), (2, .ref 336), (1, .ref 6), (0, .ref 0)] [.int w] M2 _
  have hc2 := hc1.to k2
  have key : zRu M2 B' := by
    rcases x1 with ⟨a1, a2, rfl⟩ | ⟨a1, a2, a3, a4, rfl⟩ <;> rcases x2 with ⟨b1, b2, rfl⟩ | ⟨b1, b2, b3, b4, rfl⟩
    · exact ⟨_, _, _, _, _, _, _, _, _, hc2, hm2, hfg, hG, hL0⟩
    · exfalso
      omega
    · exfalso
      omega
    · exact ⟨_, _, _, _, _, _, _, _, _, hc2, hm2, hfg, hG.rest (by omega) a4, hL0⟩
  refine zs_pop (pc := 1362) t350_1362 rfl ?_
  refine zs_goto (pc := 1363) t350_1363 ?_
  exact h M2 hB2 key
theorem law40 {x : Int32} {n : Nat} (hn : x.toInt = (n : Int)) (hL : n + 6 ≤ X.2.2.2.2.2.1) (hS : X.2.2.2.2.2.1 ≤ 3072) {B B' : Int} (zB : B + 200000 ≤ B') (zB0 : B ≤ 1500000000) (hB : zBo M) (hR : zRu M B) (h : ∀ M', zBo M' → zRu M' B' → zGo X l 100 kc ks 350 1402 [(3, .int x), (2, .ref 336), (1, .ref 6), (0, .ref 0)] [] M' (fun r _ => r = some (.int 1))) : zGo X l 100 kc ks 350 1366 [(3, .int x), (2, .ref 336), (1, .ref 6), (0, .ref 0)] [] M (fun r _ => r = some (.int 1)) := by
  obtain ⟨F, H, nd, K, T, L, en, f, g, hC, hM, hfg, hG, hL0⟩ := hR
  refine zs_aload_n (pc := 1366) t350_1366 rfl ?_
  refine zs_invV (pc := 1367) (k := 6) (as' := []) (st := []) t350_1367 mf219 rfl rfl (Or.inl ⟨by decide, hB.kc⟩) ⟨by decide, by decide, Nat.le_of_ble_eq_true rfl, Nat.le_of_ble_eq_true rfl⟩ (oc40 hB zB zB0 hC hG.1) ?_
  rintro r M1 ⟨⟨⟨s1, f1, ⟨v, rfl, rfl, x1, rfl⟩, hc1⟩, k1⟩, hB1⟩
  show zGo X l 100 kc ks 350 1370 [(3, .int x), (2, .ref 336), (1, .ref 6), (0, .ref 0)] [.int v] M1 _
  have hM1 := hM.to k1
  refine zs_pop (pc := 1370) t350_1370 rfl ?_
  refine zs_aload_n (pc := 1371) t350_1371 rfl ?_
  refine zs_invV (pc := 1372) (k := 336) (as' := []) (st := []) t350_1372 mf346 rfl rfl (Or.inl ⟨by decide, hB1.km⟩) ⟨by decide, by decide, Nat.le_of_ble_eq_true rfl, Nat.le_of_ble_eq_true rfl⟩ (om40 hB1 hM1 hG.1) ?_
  rintro r M2 ⟨⟨⟨s2, f2, ⟨w, rfl, rfl, x2, rfl⟩, hm2⟩, k2⟩, hB2⟩
  show zGo X l 100 kc ks 350 1375 [(3, .int x), (2, .ref 336), (1, .ref 6), (0, .ref 0)] [.int w] M2 _
  have hc2 := hc1.to k2
  have key : zRu M2 B' := by
    exact ⟨_, _, _, _, _, _, _, _, _, hc2, hm2, hfg, hG, hL0⟩
  refine zs_pop (pc := 1375) t350_1375 rfl ?_
  refine zs_goto (pc := 1376) t350_1376 ?_
  exact h M2 hB2 key
theorem law41 {x : Int32} {n : Nat} (hn : x.toInt = (n : Int)) (hL : n + 6 ≤ X.2.2.2.2.2.1) (hS : X.2.2.2.2.2.1 ≤ 3072) {B B' : Int} (zB : B + 200000 ≤ B') (zB0 : B ≤ 1500000000) (hB : zBo M) (hR : zRu M B) (h : ∀ M', zBo M' → zRu M' B' → zGo X l 100 kc ks 350 1402 [(3, .int x), (2, .ref 336), (1, .ref 6), (0, .ref 0)] [] M' (fun r _ => r = some (.int 1))) : zGo X l 100 kc ks 350 1379 [(3, .int x), (2, .ref 336), (1, .ref 6), (0, .ref 0)] [] M (fun r _ => r = some (.int 1)) := by
  obtain ⟨F, H, nd, K, T, L, en, f, g, hC, hM, hfg, hG, hL0⟩ := hR
  obtain ⟨y1, e1, i1⟩ := ziadd (a := x) (b := (1 : Int32)) hn li1 (by omega) (by omega)
  refine zs_aload_n (pc := 1379) t350_1379 rfl ?_
  refine zs_aload_n (pc := 1380) t350_1380 rfl ?_
  refine zs_iload_n (pc := 1381) t350_1381 rfl ?_
  refine zs_iconst (pc := 1382) t350_1382 (v := 1) (by decide) ?_
  refine zs_iadd (pc := 1383) t350_1383 (c := y1) e1 ?_
  refine zs_sald (pc := 1384) t350_1384 (j := n + 1) (by omega) (by omega) rfl ?_
  refine zs_invV (pc := 1385) (k := 6) (as' := [.int (X.2.2.2.2.2.2 (n + 1))]) (st := []) t350_1385 mf223 rfl rfl (Or.inl ⟨by decide, hB.kc⟩) ⟨by decide, by decide, Nat.le_of_ble_eq_true rfl, Nat.le_of_ble_eq_true rfl⟩ (oc41 hB zB zB0 hC hG.1) ?_
  rintro r M1 ⟨⟨⟨s1, f1, ⟨v, rfl, rfl, rfl⟩, hc1⟩, k1⟩, hB1⟩
  show zGo X l 100 kc ks 350 1388 [(3, .int x), (2, .ref 336), (1, .ref 6), (0, .ref 0)] [.int v] M1 _
  have hM1 := hM.to k1
  refine zs_pop (pc := 1388) t350_1388 rfl ?_
  refine zs_aload_n (pc := 1389) t350_1389 rfl ?_
  refine zs_aload_n (pc := 1390) t350_1390 rfl ?_
  refine zs_iload_n (pc := 1391) t350_1391 rfl ?_
  refine zs_iconst (pc := 1392) t350_1392 (v := 1) (by decide) ?_
  refine zs_iadd (pc := 1393) t350_1393 (c := y1) e1 ?_
  refine zs_sald (pc := 1394) t350_1394 (j := n + 1) (by omega) (by omega) rfl ?_
  refine zs_invV (pc := 1395) (k := 336) (as' := [.int (X.2.2.2.2.2.2 (n + 1))]) (st := []) t350_1395 mf349 rfl rfl (Or.inl ⟨by decide, hB1.km⟩) ⟨by decide, by decide, Nat.le_of_ble_eq_true rfl, Nat.le_of_ble_eq_true rfl⟩ (om41 hB1 hM1 hG.1) ?_
  rintro r M2 ⟨⟨⟨s2, f2, ⟨w, rfl, rfl, rfl⟩, hm2⟩, k2⟩, hB2⟩
  show zGo X l 100 kc ks 350 1398 [(3, .int x), (2, .ref 336), (1, .ref 6), (0, .ref 0)] [.int w] M2 _
  have hc2 := hc1.to k2
  have key : zRu M2 B' := by
    exact ⟨_, _, _, _, _, _, _, _, _, hc2, hm2, hfg, hG, hL0⟩
  refine zs_pop (pc := 1398) t350_1398 rfl ?_
  refine zs_goto (pc := 1399) t350_1399 ?_
  exact h M2 hB2 key
theorem law_l (hS : X.2.2.2.2.2.1 ≤ 3072) : ∀ (m : Nat) (x : Int32) (M : zM) (n : Nat) (B : Int), x.toInt = (n : Int) → n ≤ 3078 → B = 200000 * (n : Int) → zBo M → zRu M B → 3078 - n ≤ m → zGo X l 100 kc ks 350 18 [(3, .int x), (2, .ref 336), (1, .ref 6), (0, .ref 0)] [] M (fun r _ => r = some (.int 1)) := by
  intro m
  induction m using Nat.strongRecOn with
  | ind m ih =>
    intro x M n B hn hn2 hBn hB hT hm
    refine zs_iload_n (pc := 18) t350_18 rfl ?_
    refine zs_aload_n (pc := 19) t350_19 rfl ?_
    refine zs_slen (pc := 20) t350_20 rfl ?_
    refine zs_bipush (pc := 21) t350_21 (v := 6) (by decide) ?_
    have hl : (Int32.ofNat X.2.2.2.2.2.1).toInt = (X.2.2.2.2.2.1 : Int) := Int32.toInt_ofNat_of_lt (by omega)
    obtain ⟨v, hv, hv2⟩ := zisub (b := 6) hl li6 (by omega) (by omega)
    refine zs_isub (pc := 23) t350_23 (c := v) hv ?_
    by_cases h6 : n + 6 ≤ X.2.2.2.2.2.1
    · refine zs_icmp_gtF (pc := 24) t350_24 hn hv2 (by omega) ?_
      have hnext : ∀ M', zBo M' → zRu M' (200000 * ((n + 6 : Nat) : Int)) → zGo X l 100 kc ks 350 1402 [(3, .int x), (2, .ref 336), (1, .ref 6), (0, .ref 0)] [] M' (fun r _ => r = some (.int 1)) := by
        intro M' hB' hT'
        obtain ⟨z, ze, z2⟩ := ziadd (a := x) (b := Int32.ofInt 6) hn (show (Int32.ofInt 6).toInt = 6 by decide) (by omega) (by omega)
        refine zs_iinc (pc := 1402) t350_1402 (ls' := [(3, .int z), (2, .ref 336), (1, .ref 6), (0, .ref 0)]) (by rw [ml350]; decide) rfl (c := z) ze rfl ?_
        refine zs_goto (pc := 1405) t350_1405 ?_
        exact ih (m - 1) (by omega) z M' (n + 6) _ (by omega) (by omega) rfl hB' hT' (by omega)
      refine zs_aload_n (pc := 27) t350_27 rfl ?_
      refine zs_iload_n (pc := 28) t350_28 rfl ?_
      refine zs_sald (pc := 29) t350_29 (j := n) hn (by omega) rfl ?_
      refine zs_bipush (pc := 30) t350_30 (v := 63) (by decide) ?_
      refine zs_iand (pc := 32) t350_32 rfl ?_
      generalize (X.2.2.2.2.2.2 n &&& 63) = s
      by_cases q0 : s.toInt = 0
      · exact zs_tswI (pc := 33) t350_33 q0 (by decide) rfl (pc2 := 216) rfl (law0 hn h6 hS (by omega) (by omega) hB hT hnext)
      by_cases q1 : s.toInt = 1
      · exact zs_tswI (pc := 33) t350_33 q1 (by decide) rfl (pc2 := 279) rfl (law1 hn h6 hS (by omega) (by omega) hB hT hnext)
      by_cases q2 : s.toInt = 2
      · exact zs_tswI (pc := 33) t350_33 q2 (by decide) rfl (pc2 := 302) rfl (law2 hn h6 hS (by omega) (by omega) hB hT hnext)
      by_cases q3 : s.toInt = 3
      · exact zs_tswI (pc := 33) t350_33 q3 (by decide) rfl (pc2 := 315) rfl (law3 hn h6 hS (by omega) (by omega) hB hT hnext)
      by_cases q4 : s.toInt = 4
      · exact zs_tswI (pc := 33) t350_33 q4 (by decide) rfl (pc2 := 328) rfl (law4 hn h6 hS (by omega) (by omega) hB hT hnext)
      by_cases q5 : s.toInt = 5
      · exact zs_tswI (pc := 33) t350_33 q5 (by decide) rfl (pc2 := 341) rfl (law5 hn h6 hS (by omega) (by omega) hB hT hnext)
      by_cases q6 : s.toInt = 6
      · exact zs_tswI (pc := 33) t350_33 q6 (by decide) rfl (pc2 := 354) rfl (law6 hn h6 hS (by omega) (by omega) hB hT hnext)
      by_cases q7 : s.toInt = 7
      · exact zs_tswI (pc := 33) t350_33 q7 (by decide) rfl (pc2 := 367) rfl (law7 hn h6 hS (by omega) (by omega) hB hT hnext)
      by_cases q8 : s.toInt = 8
      · exact zs_tswI (pc := 33) t350_33 q8 (by decide) rfl (pc2 := 390) rfl (law8 hn h6 hS (by omega) (by omega) hB hT hnext)
      by_cases q9 : s.toInt = 9
      · exact zs_tswI (pc := 33) t350_33 q9 (by decide) rfl (pc2 := 423) rfl (law9 hn h6 hS (by omega) (by omega) hB hT hnext)
      by_cases q10 : s.toInt = 10
      · exact zs_tswI (pc := 33) t350_33 q10 (by decide) rfl (pc2 := 456) rfl (law10 hn h6 hS (by omega) (by omega) hB hT hnext)
      by_cases q11 : s.toInt = 11
      · exact zs_tswI (pc := 33) t350_33 q11 (by decide) rfl (pc2 := 489) rfl (law11 hn h6 hS (by omega) (by omega) hB hT hnext)
      by_cases q12 : s.toInt = 12
      · exact zs_tswI (pc := 33) t350_33 q12 (by decide) rfl (pc2 := 532) rfl (law12 hn h6 hS (by omega) (by omega) hB hT hnext)
      by_cases q13 : s.toInt = 13
      · exact zs_tswI (pc := 33) t350_33 q13 (by decide) rfl (pc2 := 575) rfl (law13 hn h6 hS (by omega) (by omega) hB hT hnext)
      by_cases q14 : s.toInt = 14
      · exact zs_tswI (pc := 33) t350_33 q14 (by decide) rfl (pc2 := 598) rfl (law14 hn h6 hS (by omega) (by omega) hB hT hnext)
      by_cases q15 : s.toInt = 15
      · exact zs_tswI (pc := 33) t350_33 q15 (by decide) rfl (pc2 := 631) rfl (law15 hn h6 hS (by omega) (by omega) hB hT hnext)
      by_cases q16 : s.toInt = 16
      · exact zs_tswI (pc := 33) t350_33 q16 (by decide) rfl (pc2 := 664) rfl (law16 hn h6 hS (by omega) (by omega) hB hT hnext)
      by_cases q17 : s.toInt = 17
      · exact zs_tswI (pc := 33) t350_33 q17 (by decide) rfl (pc2 := 697) rfl (law17 hn h6 hS (by omega) (by omega) hB hT hnext)
      by_cases q18 : s.toInt = 18
      · exact zs_tswI (pc := 33) t350_33 q18 (by decide) rfl (pc2 := 730) rfl (law18 hn h6 hS (by omega) (by omega) hB hT hnext)
      by_cases q19 : s.toInt = 19
      · exact zs_tswI (pc := 33) t350_33 q19 (by decide) rfl (pc2 := 743) rfl (law19 hn h6 hS (by omega) (by omega) hB hT hnext)
      by_cases q20 : s.toInt = 20
      · exact zs_tswI (pc := 33) t350_33 q20 (by decide) rfl (pc2 := 766) rfl (law20 hn h6 hS (by omega) (by omega) hB hT hnext)
      by_cases q21 : s.toInt = 21
      · exact zs_tswI (pc := 33) t350_33 q21 (by decide) rfl (pc2 := 779) rfl (law21 hn h6 hS (by omega) (by omega) hB hT hnext)
      by_cases q22 : s.toInt = 22
      · exact zs_tswI (pc := 33) t350_33 q22 (by decide) rfl (pc2 := 842) rfl (law22 hn h6 hS (by omega) (by omega) hB hT hnext)
      by_cases q23 : s.toInt = 23
      · exact zs_tswI (pc := 33) t350_33 q23 (by decide) rfl (pc2 := 885) rfl (law23 hn h6 hS (by omega) (by omega) hB hT hnext)
      by_cases q24 : s.toInt = 24
      · exact zs_tswI (pc := 33) t350_33 q24 (by decide) rfl (pc2 := 908) rfl (law24 hn h6 hS (by omega) (by omega) hB hT hnext)
      by_cases q25 : s.toInt = 25
      · exact zs_tswI (pc := 33) t350_33 q25 (by decide) rfl (pc2 := 931) rfl (law25 hn h6 hS (by omega) (by omega) hB hT hnext)
      by_cases q26 : s.toInt = 26
      · exact zs_tswI (pc := 33) t350_33 q26 (by decide) rfl (pc2 := 974) rfl (law26 hn h6 hS (by omega) (by omega) hB hT hnext)
      by_cases q27 : s.toInt = 27
      · exact zs_tswI (pc := 33) t350_33 q27 (by decide) rfl (pc2 := 997) rfl (law27 hn h6 hS (by omega) (by omega) hB hT hnext)
      by_cases q28 : s.toInt = 28
      · exact zs_tswI (pc := 33) t350_33 q28 (by decide) rfl (pc2 := 1020) rfl (law28 hn h6 hS (by omega) (by omega) hB hT hnext)
      by_cases q29 : s.toInt = 29
      · exact zs_tswI (pc := 33) t350_33 q29 (by decide) rfl (pc2 := 1043) rfl (law29 hn h6 hS (by omega) (by omega) hB hT hnext)
      by_cases q30 : s.toInt = 30
      · exact zs_tswI (pc := 33) t350_33 q30 (by decide) rfl (pc2 := 1086) rfl (law30 hn h6 hS (by omega) (by omega) hB hT hnext)
      by_cases q31 : s.toInt = 31
      · exact zs_tswI (pc := 33) t350_33 q31 (by decide) rfl (pc2 := 1119) rfl (law31 hn h6 hS (by omega) (by omega) hB hT hnext)
      by_cases q32 : s.toInt = 32
      · exact zs_tswI (pc := 33) t350_33 q32 (by decide) rfl (pc2 := 1142) rfl (law32 hn h6 hS (by omega) (by omega) hB hT hnext)
      by_cases q33 : s.toInt = 33
      · exact zs_tswI (pc := 33) t350_33 q33 (by decide) rfl (pc2 := 1175) rfl (law33 hn h6 hS (by omega) (by omega) hB hT hnext)
      by_cases q34 : s.toInt = 34
      · exact zs_tswI (pc := 33) t350_33 q34 (by decide) rfl (pc2 := 1208) rfl (law34 hn h6 hS (by omega) (by omega) hB hT hnext)
      by_cases q35 : s.toInt = 35
      · exact zs_tswI (pc := 33) t350_33 q35 (by decide) rfl (pc2 := 1241) rfl (law35 hn h6 hS (by omega) (by omega) hB hT hnext)
      by_cases q36 : s.toInt = 36
      · exact zs_tswI (pc := 33) t350_33 q36 (by decide) rfl (pc2 := 1274) rfl (law36 hn h6 hS (by omega) (by omega) hB hT hnext)
      by_cases q37 : s.toInt = 37
      · exact zs_tswI (pc := 33) t350_33 q37 (by decide) rfl (pc2 := 1307) rfl (law37 hn h6 hS (by omega) (by omega) hB hT hnext)
      by_cases q38 : s.toInt = 38
      · exact zs_tswI (pc := 33) t350_33 q38 (by decide) rfl (pc2 := 1320) rfl (law38 hn h6 hS (by omega) (by omega) hB hT hnext)
      by_cases q39 : s.toInt = 39
      · exact zs_tswI (pc := 33) t350_33 q39 (by decide) rfl (pc2 := 1343) rfl (law39 hn h6 hS (by omega) (by omega) hB hT hnext)
      by_cases q40 : s.toInt = 40
      · exact zs_tswI (pc := 33) t350_33 q40 (by decide) rfl (pc2 := 1366) rfl (law40 hn h6 hS (by omega) (by omega) hB hT hnext)
      by_cases q41 : s.toInt = 41
      · exact zs_tswI (pc := 33) t350_33 q41 (by decide) rfl (pc2 := 1379) rfl (law41 hn h6 hS (by omega) (by omega) hB hT hnext)
      exact zs_tswD (pc := 33) t350_33 (e := s.toInt) rfl (by omega) (pc2 := 1402) rfl (hnext M hB (hT.le (by omega)))
    · refine zs_icmp_gtT (pc := 24) t350_24 hn hv2 (by omega) ?_
      refine zs_iconst (pc := 1408) t350_1408 (v := 1) (by decide) ?_
      exact zs_iret (pc := 1409) t350_1409 mr350 (by decide) rfl
end LAW
