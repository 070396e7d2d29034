/-! ===== the law's walk ===== -/
section LAW
variable {X : zX} {l : Launch} {kc ks : Nat} {M : zM}
theorem zs_new {d kc ks y pc n A B PL i : Nat} {V : Int} {ls : List (Nat × Value)} {st : List Value} {Q : Option Value → zM → Prop} (ht : zT y pc = some (.new i, n, A, B, V, PL)) (hc : 1 ≤ kc ∧ cN A ≤ ks) (h : zGo X l d (kc - 1) (ks - cN A) y (pc + 3) ls (.ref (zN M) :: st) (zal M (A, 0)) Q) : zGo X l d kc ks y pc ls st M Q := zst ht (zpT hc h)
theorem zs_invI {d kc ks y pc n PL i y' k : Nat} {V : Int} {ls : List (Nat × Value)} {st : List Value} {Q Qc : Option Value → zM → Prop} (ht : zT y pc = some (.invokespecial i, n, y', 3, V, PL)) (hm : zna y' = 1) (hd : zdp y' d + 1 ≤ d ∧ zac y' ≤ kc ∧ zas y' ≤ ks ∧ zwd st ≤ 8 ∧ zwd [.ref k] ≤ (mt y').2.2.1) (hcall : zCall X l (zdp y' d) (zac y') (zas y') y' [.ref k] M Qc) (hn : ∀ r M', Qc r M' → zGo X l d (kc - zac y') (ks - zas y') y (pc + 3) ls (r.toList ++ st) M' Q) : zGo X l d kc ks y pc ls (.ref k :: st) M Q := by
  refine zst ht (zpT ⟨Or.inl rfl, by rw [hm]; exact Nat.le_add_left 1 _⟩ ?_)
  rw [hm]
  show zcl False (zCall X l) (fun _ => false) (zGo X l) d kc ks y pc ls [.ref k] st M Q y'
  unfold zcl
  exact zpT hd (zpF (fun q => by cases q) (hcall.mono hn))
theorem mr350 : (mt 350).2.2.2.1 = some .boolean := by decide +kernel
theorem ml350 : (mt 350).2.2.1 = 4 := by decide +kernel
theorem zr1 : (zO1.getD (none, zM0)).1 = none := by decide +kernel
theorem zr2 : (zO2.getD (none, zM0)).1 = none := by decide +kernel
theorem zd1 : zdp 0 30 = zdp 0 100 := by decide +kernel
theorem zd2 : zdp 224 30 = zdp 224 100 := by decide +kernel
theorem zna0 : zna 0 = 1 := by decide +kernel
theorem zna224 : zna 224 = 1 := by decide +kernel
theorem zhd1 : zdp 0 100 + 1 ≤ 100 ∧ zac 0 ≤ 358 - 1 ∧ zas 0 ≤ 25602 - cN 11 ∧ zwd [.ref 6] ≤ 8 ∧ zwd [.ref 6] ≤ (mt 0).2.2.1 := by decide +kernel
theorem zhn : 1 ≤ 358 - 1 - zac 0 ∧ cN 12 ≤ 25602 - cN 11 - zas 0 := by decide +kernel
theorem zhd2 : zdp 224 100 + 1 ≤ 100 ∧ zac 224 ≤ 358 - 1 - zac 0 - 1 ∧ zas 224 ≤ 25602 - cN 11 - zas 0 - cN 12 ∧ zwd [.ref 336] ≤ 8 ∧ zwd [.ref 336] ≤ (mt 224).2.2.1 := by decide +kernel
theorem zc1 : zCall X l (zdp 0 100) (zac 0) (zas 0) 0 [.ref 6] (zal zM0 (11, 0)) (fun r M => r = none ∧ M = zM1) := by
  rw [← zd1]
  exact (zOut_ok (zsome zok1 : zO1 = some (zO1.getD (none, zM0)))).mono (fun r M q => ⟨q.1.trans zr1, q.2⟩)
theorem zc2 : zCall X l (zdp 224 100) (zac 224) (zas 224) 224 [.ref 336] (zal zM1 (12, 0)) (fun r M => r = none ∧ M = zM2) := by
  rw [← zd2]
  exact (zOut_ok (zsome zok2 : zO2 = some (zO2.getD (none, zM0)))).mono (fun r M q => ⟨q.1.trans zr2, q.2⟩)
theorem law_a {Q : Option Value → zM → Prop} (h : ∀ kc ks, zGo X l 100 kc ks 350 18 [(3, .int (0 : Int32)), (2, .ref 336), (1, .ref 6), (0, .ref 0)] [] zMe Q) : zGo X l 100 358 25602 350 0 [(0, .ref 0)] [] zM0 Q := by
  refine zs_new (pc := 0) t350_0 (by decide) ?_
  show zGo X l 100 (358 - 1) (25602 - cN 11) 350 3 [(0, .ref 0)] [.ref 6] (zal zM0 (11, 0)) Q
  refine zs_dup (pc := 3) t350_3 rfl ?_
  refine zs_invI (pc := 4) t350_4 zna0 zhd1 zc1 ?_
  intro r M q
  rw [q.1, q.2]
  show zGo X l 100 (358 - 1 - zac 0) (25602 - cN 11 - zas 0) 350 7 [(0, .ref 0)] [.ref 6] zM1 Q
  refine zs_astore_n (pc := 7) t350_7 (ls' := [(1, .ref 6), (0, .ref 0)]) (by rw [ml350]; decide) rfl ?_
  refine zs_new (pc := 8) t350_8 zhn ?_
  rw [zN1]
  refine zs_dup (pc := 11) t350_11 rfl ?_
  refine zs_invI (pc := 12) t350_12 zna224 zhd2 zc2 ?_
  intro r M q
  rw [q.1, q.2]
  show zGo X l 100 (358 - 1 - zac 0 - 1 - zac 224) (25602 - cN 11 - zas 0 - cN 12 - zas 224) 350 15 [(1, .ref 6), (0, .ref 0)] [.ref 336] zM2 Q
  refine zs_astore_n (pc := 15) t350_15 (ls' := [(2, .ref 336), (1, .ref 6), (0, .ref 0)]) (by rw [ml350]; decide) rfl ?_
  refine zs_iconst (pc := 16) t350_16 (v := 0) (by decide) ?_
  refine zs_istore_n (pc := 17) t350_17 (ls' := [(3, .int (0 : Int32)), (2, .ref 336), (1, .ref 6), (0, .ref 0)]) (by rw [ml350]; decide) rfl ?_
  exact zGo.sim zmeS (h _ _)
theorem law_e : zGo X l 100 kc ks 350 1410 [(3, .int (0 : Int32)), (2, .ref 336), (1, .ref 6), (0, .ref 0)] [] M (fun r _ => r = some (.int 1)) := by
  refine zs_iconst (pc := 1410) t350_1410 (v := 1) (by decide) ?_
  exact zs_iret (pc := 1411) t350_1411 mr350 (by decide) rfl
theorem law_t (hL : X.2.2.2.2.2.1 = 6) : zGo X l 100 kc ks 350 1404 [(3, .int (0 : Int32)), (2, .ref 336), (1, .ref 6), (0, .ref 0)] [] M (fun r _ => r = some (.int 1)) := by
  refine zs_iinc (pc := 1404) t350_1404 (ls' := [(3, .int (6 : Int32)), (2, .ref 336), (1, .ref 6), (0, .ref 0)]) (by rw [ml350]; decide) rfl (c := 6) (by decide) rfl ?_
  refine zs_goto (pc := 1407) t350_1407 ?_
  refine zs_iload_n (pc := 18) t350_18 rfl ?_
  refine zs_aload_n (pc := 19) t350_19 rfl ?_
  refine zs_slen (pc := 20) t350_20 (v := 6) (by rw [hL]; decide) ?_
  refine zs_bipush (pc := 21) t350_21 (v := 6) (by decide) ?_
  refine zs_isub (pc := 23) t350_23 (c := 0) (by decide) ?_
  refine zs_icmp_gtT (pc := 24) t350_24 li6 li0 (by decide) ?_
  refine zs_iconst (pc := 1410) t350_1410 (v := 1) (by decide) ?_
  exact zs_iret (pc := 1411) t350_1411 mr350 (by decide) rfl
theorem law0 (hL : X.2.2.2.2.2.1 = 6) : zGo X l 100 kc ks 350 216 [(3, .int (0 : Int32)), (2, .ref 336), (1, .ref 6), (0, .ref 0)] [] zMe (fun r _ => r = some (.int 1)) := by
  obtain ⟨v, h⟩ := pr0 (X := X) (l := l) (X.2.2.2.2.2.2 1) (X.2.2.2.2.2.2 2) (X.2.2.2.2.2.2 3) (X.2.2.2.2.2.2 4) (X.2.2.2.2.2.2 5)
  refine zs_aload_n (pc := 216) t350_216 rfl ?_
  refine zs_aload_n (pc := 217) t350_217 rfl ?_
  refine zs_iload_n (pc := 218) t350_218 rfl ?_
  refine zs_iconst (pc := 219) t350_219 (v := 1) (by decide) ?_
  refine zs_iadd (pc := 220) t350_220 (c := 1) (by decide) ?_
  refine zs_sald (pc := 221) t350_221 (j := 1) li1 (by rw [hL]; decide) rfl ?_
  refine zs_aload_n (pc := 222) t350_222 rfl ?_
  refine zs_iload_n (pc := 223) t350_223 rfl ?_
  refine zs_iconst (pc := 224) t350_224 (v := 2) (by decide) ?_
  refine zs_iadd (pc := 225) t350_225 (c := 2) (by decide) ?_
  refine zs_sald (pc := 226) t350_226 (j := 2) li2 (by rw [hL]; decide) rfl ?_
  refine zs_aload_n (pc := 227) t350_227 rfl ?_
  refine zs_iload_n (pc := 228) t350_228 rfl ?_
  refine zs_iconst (pc := 229) t350_229 (v := 3) (by decide) ?_
  refine zs_iadd (pc := 230) t350_230 (c := 3) (by decide) ?_
  refine zs_sald (pc := 231) t350_231 (j := 3) li3 (by rw [hL]; decide) rfl ?_
  refine zs_aload_n (pc := 232) t350_232 rfl ?_
  refine zs_iload_n (pc := 233) t350_233 rfl ?_
  refine zs_iconst (pc := 234) t350_234 (v := 4) (by decide) ?_
  refine zs_iadd (pc := 235) t350_235 (c := 4) (by decide) ?_
  refine zs_sald (pc := 236) t350_236 (j := 4) li4 (by rw [hL]; decide) rfl ?_
  refine zs_aload_n (pc := 237) t350_237 rfl ?_
  refine zs_iload_n (pc := 238) t350_238 rfl ?_
  refine zs_iconst (pc := 239) t350_239 (v := 5) (by decide) ?_
  refine zs_iadd (pc := 240) t350_240 (c := 5) (by decide) ?_
  refine zs_sald (pc := 241) t350_241 (j := 5) li5 (by rw [hL]; decide) rfl ?_
  refine zs_invV (pc := 242) (k := 6) (as' := [.int (X.2.2.2.2.2.2 1), .int (X.2.2.2.2.2.2 2), .int (X.2.2.2.2.2.2 3), .int (X.2.2.2.2.2.2 4), .int (X.2.2.2.2.2.2 5)]) (st := []) t350_242 mf14 rfl rfl (Or.inl ⟨by decide, zk1 zkc⟩) ⟨by decide, by decide, Nat.le_of_ble_eq_true rfl, Nat.le_of_ble_eq_true rfl⟩ h ?_
  rintro r M ⟨rfl, hk, hm⟩
  show zGo X l 100 kc ks 350 245 [(3, .int (0 : Int32)), (2, .ref 336), (1, .ref 6), (0, .ref 0)] [.int v] M _
  refine zs_aload_n (pc := 245) t350_245 rfl ?_
  refine zs_aload_n (pc := 246) t350_246 rfl ?_
  refine zs_iload_n (pc := 247) t350_247 rfl ?_
  refine zs_iconst (pc := 248) t350_248 (v := 1) (by decide) ?_
  refine zs_iadd (pc := 249) t350_249 (c := 1) (by decide) ?_
  refine zs_sald (pc := 250) t350_250 (j := 1) li1 (by rw [hL]; decide) rfl ?_
  refine zs_aload_n (pc := 251) t350_251 rfl ?_
  refine zs_iload_n (pc := 252) t350_252 rfl ?_
  refine zs_iconst (pc := 253) t350_253 (v := 2) (by decide) ?_
  refine zs_iadd (pc := 254) t350_254 (c := 2) (by decide) ?_
  refine zs_sald (pc := 255) t350_255 (j := 2) li2 (by rw [hL]; decide) rfl ?_
  refine zs_aload_n (pc := 256) t350_256 rfl ?_
  refine zs_iload_n (pc := 257) t350_257 rfl ?_
  refine zs_iconst (pc := 258) t350_258 (v := 3) (by decide) ?_
  refine zs_iadd (pc := 259) t350_259 (c := 3) (by decide) ?_
  refine zs_sald (pc := 260) t350_260 (j := 3) li3 (by rw [hL]; decide) rfl ?_
  refine zs_aload_n (pc := 261) t350_261 rfl ?_
  refine zs_iload_n (pc := 262) t350_262 rfl ?_
  refine zs_iconst (pc := 263) t350_263 (v := 4) (by decide) ?_
  refine zs_iadd (pc := 264) t350_264 (c := 4) (by decide) ?_
  refine zs_sald (pc := 265) t350_265 (j := 4) li4 (by rw [hL]; decide) rfl ?_
  refine zs_aload_n (pc := 266) t350_266 rfl ?_
  refine zs_iload_n (pc := 267) t350_267 rfl ?_
  refine zs_iconst (pc := 268) t350_268 (v := 5) (by decide) ?_
  refine zs_iadd (pc := 269) t350_269 (c := 5) (by decide) ?_
  refine zs_sald (pc := 270) t350_270 (j := 5) li5 (by rw [hL]; decide) rfl ?_
  refine zs_invV (pc := 271) (k := 336) (as' := [.int (X.2.2.2.2.2.2 1), .int (X.2.2.2.2.2.2 2), .int (X.2.2.2.2.2.2 3), .int (X.2.2.2.2.2.2 4), .int (X.2.2.2.2.2.2 5)]) (st := [.int v]) t350_271 mf231 rfl rfl (Or.inl ⟨by decide, zk1 hk⟩) ⟨by decide, by decide, Nat.le_of_ble_eq_true rfl, Nat.le_of_ble_eq_true rfl⟩ hm ?_
  rintro r M rfl
  show zGo X l 100 kc ks 350 274 [(3, .int (0 : Int32)), (2, .ref 336), (1, .ref 6), (0, .ref 0)] [.int v, .int v] M _
  refine zs_icmp_eqT (pc := 274) t350_274 rfl rfl rfl ?_
  exact law_t hL
theorem law1 (hL : X.2.2.2.2.2.1 = 6) : zGo X l 100 kc ks 350 279 [(3, .int (0 : Int32)), (2, .ref 336), (1, .ref 6), (0, .ref 0)] [] zMe (fun r _ => r = some (.int 1)) := by
  obtain ⟨v, h⟩ := pr1 (X := X) (l := l) (X.2.2.2.2.2.2 1)
  refine zs_aload_n (pc := 279) t350_279 rfl ?_
  refine zs_aload_n (pc := 280) t350_280 rfl ?_
  refine zs_iload_n (pc := 281) t350_281 rfl ?_
  refine zs_iconst (pc := 282) t350_282 (v := 1) (by decide) ?_
  refine zs_iadd (pc := 283) t350_283 (c := 1) (by decide) ?_
  refine zs_sald (pc := 284) t350_284 (j := 1) li1 (by rw [hL]; decide) rfl ?_
  refine zs_invV (pc := 285) (k := 6) (as' := [.int (X.2.2.2.2.2.2 1)]) (st := []) t350_285 mf18 rfl rfl (Or.inl ⟨by decide, zk1 zkc⟩) ⟨by decide, by decide, Nat.le_of_ble_eq_true rfl, Nat.le_of_ble_eq_true rfl⟩ h ?_
  rintro r M ⟨rfl, hk, hm⟩
  show zGo X l 100 kc ks 350 288 [(3, .int (0 : Int32)), (2, .ref 336), (1, .ref 6), (0, .ref 0)] [.int v] M _
  refine zs_aload_n (pc := 288) t350_288 rfl ?_
  refine zs_aload_n (pc := 289) t350_289 rfl ?_
  refine zs_iload_n (pc := 290) t350_290 rfl ?_
  refine zs_iconst (pc := 291) t350_291 (v := 1) (by decide) ?_
  refine zs_iadd (pc := 292) t350_292 (c := 1) (by decide) ?_
  refine zs_sald (pc := 293) t350_293 (j := 1) li1 (by rw [hL]; decide) rfl ?_
  refine zs_invV (pc := 294) (k := 336) (as' := [.int (X.2.2.2.2.2.2 1)]) (st := [.int v]) t350_294 mf233 rfl rfl (Or.inl ⟨by decide, zk1 hk⟩) ⟨by decide, by decide, Nat.le_of_ble_eq_true rfl, Nat.le_of_ble_eq_true rfl⟩ hm ?_
  rintro r M rfl
  show zGo X l 100 kc ks 350 297 [(3, .int (0 : Int32)), (2, .ref 336), (1, .ref 6), (0, .ref 0)] [.int v, .int v] M _
  refine zs_icmp_eqT (pc := 297) t350_297 rfl rfl rfl ?_
  exact law_t hL
theorem law2 (hL : X.2.2.2.2.2.1 = 6) : zGo X l 100 kc ks 350 302 [(3, .int (0 : Int32)), (2, .ref 336), (1, .ref 6), (0, .ref 0)] [] zMe (fun r _ => r = some (.int 1)) := by
  obtain ⟨v, h⟩ := pr2 (X := X) (l := l) 
  refine zs_aload_n (pc := 302) t350_302 rfl ?_
  refine zs_invV (pc := 303) (k := 6) (as' := []) (st := []) t350_303 mf22 rfl rfl (Or.inl ⟨by decide, zk1 zkc⟩) ⟨by decide, by decide, Nat.le_of_ble_eq_true rfl, Nat.le_of_ble_eq_true rfl⟩ h ?_
  rintro r M ⟨rfl, hk, hm⟩
  show zGo X l 100 kc ks 350 306 [(3, .int (0 : Int32)), (2, .ref 336), (1, .ref 6), (0, .ref 0)] [.int v] M _
  refine zs_aload_n (pc := 306) t350_306 rfl ?_
  refine zs_invV (pc := 307) (k := 336) (as' := []) (st := [.int v]) t350_307 mf235 rfl rfl (Or.inl ⟨by decide, zk1 hk⟩) ⟨by decide, by decide, Nat.le_of_ble_eq_true rfl, Nat.le_of_ble_eq_true rfl⟩ hm ?_
  rintro r M rfl
  show zGo X l 100 kc ks 350 310 [(3, .int (0 : Int32)), (2, .ref 336), (1, .ref 6), (0, .ref 0)] [.int v, .int v] M _
  refine zs_icmp_eqT (pc := 310) t350_310 rfl rfl rfl ?_
  exact law_t hL
theorem law3 (hL : X.2.2.2.2.2.1 = 6) : zGo X l 100 kc ks 350 315 [(3, .int (0 : Int32)), (2, .ref 336), (1, .ref 6), (0, .ref 0)] [] zMe (fun r _ => r = some (.int 1)) := by
  obtain ⟨v, h⟩ := pr3 (X := X) (l := l) 
  refine zs_aload_n (pc := 315) t350_315 rfl ?_
  refine zs_invV9 (d := 100) (pc := 316) (k := 6) (as' := []) (st := []) t350_316 mf62 rfl rfl (Or.inl ⟨by decide, zk1 zkc⟩) ⟨by decide, Nat.le_of_ble_eq_true rfl, Nat.le_of_ble_eq_true rfl⟩ h ?_
  rintro r M ⟨rfl, hk, hm⟩
  show zGo X l 100 kc ks 350 319 [(3, .int (0 : Int32)), (2, .ref 336), (1, .ref 6), (0, .ref 0)] [.int v] M _
  refine zs_aload_n (pc := 319) t350_319 rfl ?_
  refine zs_invV (pc := 320) (k := 336) (as' := []) (st := [.int v]) t350_320 mf254 rfl rfl (Or.inl ⟨by decide, zk1 hk⟩) ⟨by decide, by decide, Nat.le_of_ble_eq_true rfl, Nat.le_of_ble_eq_true rfl⟩ hm ?_
  rintro r M rfl
  show zGo X l 100 kc ks 350 323 [(3, .int (0 : Int32)), (2, .ref 336), (1, .ref 6), (0, .ref 0)] [.int v, .int v] M _
  refine zs_icmp_eqT (pc := 323) t350_323 rfl rfl rfl ?_
  exact law_t hL
theorem law4 (hL : X.2.2.2.2.2.1 = 6) : zGo X l 100 kc ks 350 328 [(3, .int (0 : Int32)), (2, .ref 336), (1, .ref 6), (0, .ref 0)] [] zMe (fun r _ => r = some (.int 1)) := by
  obtain ⟨v, h⟩ := pr4 (X := X) (l := l) 
  refine zs_aload_n (pc := 328) t350_328 rfl ?_
  refine zs_invV (pc := 329) (k := 6) (as' := []) (st := []) t350_329 mf82 rfl rfl (Or.inl ⟨by decide, zk1 zkc⟩) ⟨by decide, by decide, Nat.le_of_ble_eq_true rfl, Nat.le_of_ble_eq_true rfl⟩ h ?_
  rintro r M ⟨rfl, hk, hm⟩
  show zGo X l 100 kc ks 350 332 [(3, .int (0 : Int32)), (2, .ref 336), (1, .ref 6), (0, .ref 0)] [.int v] M _
  refine zs_aload_n (pc := 332) t350_332 rfl ?_
  refine zs_invV (pc := 333) (k := 336) (as' := []) (st := [.int v]) t350_333 mf342 rfl rfl (Or.inl ⟨by decide, zk1 hk⟩) ⟨by decide, by decide, Nat.le_of_ble_eq_true rfl, Nat.le_of_ble_eq_true rfl⟩ hm ?_
  rintro r M rfl
  show zGo X l 100 kc ks 350 336 [(3, .int (0 : Int32)), (2, .ref 336), (1, .ref 6), (0, .ref 0)] [.int v, .int v] M _
  refine zs_icmp_eqT (pc := 336) t350_336 rfl rfl rfl ?_
  exact law_t hL
theorem law5 (hL : X.2.2.2.2.2.1 = 6) : zGo X l 100 kc ks 350 341 [(3, .int (0 : Int32)), (2, .ref 336), (1, .ref 6), (0, .ref 0)] [] zMe (fun r _ => r = some (.int 1)) := by
  obtain ⟨v, h⟩ := pr5 (X := X) (l := l) 
  refine zs_aload_n (pc := 341) t350_341 rfl ?_
  refine zs_invV (pc := 342) (k := 6) (as' := []) (st := []) t350_342 mf97 rfl rfl (Or.inl ⟨by decide, zk1 zkc⟩) ⟨by decide, by decide, Nat.le_of_ble_eq_true rfl, Nat.le_of_ble_eq_true rfl⟩ h ?_
  rintro r M ⟨rfl, hk, hm⟩
  show zGo X l 100 kc ks 350 345 [(3, .int (0 : Int32)), (2, .ref 336), (1, .ref 6), (0, .ref 0)] [.int v] M _
  refine zs_aload_n (pc := 345) t350_345 rfl ?_
  refine zs_invV (pc := 346) (k := 336) (as' := []) (st := [.int v]) t350_346 mf234 rfl rfl (Or.inl ⟨by decide, zk1 hk⟩) ⟨by decide, by decide, Nat.le_of_ble_eq_true rfl, Nat.le_of_ble_eq_true rfl⟩ hm ?_
  rintro r M rfl
  show zGo X l 100 kc ks 350 349 [(3, .int (0 : Int32)), (2, .ref 336), (1, .ref 6), (0, .ref 0)] [.int v, .int v] M _
  refine zs_icmp_eqT (pc := 349) t350_349 rfl rfl rfl ?_
  exact law_t hL
theorem law6 (hL : X.2.2.2.2.2.1 = 6) : zGo X l 100 kc ks 350 354 [(3, .int (0 : Int32)), (2, .ref 336), (1, .ref 6), (0, .ref 0)] [] zMe (fun r _ => r = some (.int 1)) := by
  obtain ⟨v, h⟩ := pr6 (X := X) (l := l) 
  refine zs_aload_n (pc := 354) t350_354 rfl ?_
  refine zs_invV (pc := 355) (k := 6) (as' := []) (st := []) t350_355 mf98 rfl rfl (Or.inl ⟨by decide, zk1 zkc⟩) ⟨by decide, by decide, Nat.le_of_ble_eq_true rfl, Nat.le_of_ble_eq_true rfl⟩ h ?_
  rintro r M ⟨rfl, hk, hm⟩
  show zGo X l 100 kc ks 350 358 [(3, .int (0 : Int32)), (2, .ref 336), (1, .ref 6), (0, .ref 0)] [.int v] M _
  refine zs_aload_n (pc := 358) t350_358 rfl ?_
  refine zs_invV (pc := 359) (k := 336) (as' := []) (st := [.int v]) t350_359 mf345 rfl rfl (Or.inl ⟨by decide, zk1 hk⟩) ⟨by decide, by decide, Nat.le_of_ble_eq_true rfl, Nat.le_of_ble_eq_true rfl⟩ hm ?_
  rintro r M rfl
  show zGo X l 100 kc ks 350 362 [(3, .int (0 : Int32)), (2, .ref 336), (1, .ref 6), (0, .ref 0)] [.int v, .int v] M _
  refine zs_icmp_eqT (pc := 362) t350_362 rfl rfl rfl ?_
  exact law_t hL
theorem law7 (hL : X.2.2.2.2.2.1 = 6) : zGo X l 100 kc ks 350 367 [(3, .int (0 : Int32)), (2, .ref 336), (1, .ref 6), (0, .ref 0)] [] zMe (fun r _ => r = some (.int 1)) := by
  obtain ⟨v, h⟩ := pr7 (X := X) (l := l) (X.2.2.2.2.2.2 1)
  refine zs_aload_n (pc := 367) t350_367 rfl ?_
  refine zs_aload_n (pc := 368) t350_368 rfl ?_
  refine zs_iload_n (pc := 369) t350_369 rfl ?_
  refine zs_iconst (pc := 370) t350_370 (v := 1) (by decide) ?_
  refine zs_iadd (pc := 371) t350_371 (c := 1) (by decide) ?_
  refine zs_sald (pc := 372) t350_372 (j := 1) li1 (by rw [hL]; decide) rfl ?_
  refine zs_invV (pc := 373) (k := 6) (as' := [.int (X.2.2.2.2.2.2 1)]) (st := []) t350_373 mf99 rfl rfl (Or.inl ⟨by decide, zk1 zkc⟩) ⟨by decide, by decide, Nat.le_of_ble_eq_true rfl, Nat.le_of_ble_eq_true rfl⟩ h ?_
  rintro r M ⟨rfl, hk, hm⟩
  show zGo X l 100 kc ks 350 376 [(3, .int (0 : Int32)), (2, .ref 336), (1, .ref 6), (0, .ref 0)] [.int v] M _
  refine zs_aload_n (pc := 376) t350_376 rfl ?_
  refine zs_aload_n (pc := 377) t350_377 rfl ?_
  refine zs_iload_n (pc := 378) t350_378 rfl ?_
  refine zs_iconst (pc := 379) t350_379 (v := 1) (by decide) ?_
  refine zs_iadd (pc := 380) t350_380 (c := 1) (by decide) ?_
  refine zs_sald (pc := 381) t350_381 (j := 1) li1 (by rw [hL]; decide) rfl ?_
  refine zs_invV (pc := 382) (k := 336) (as' := [.int (X.2.2.2.2.2.2 1)]) (st := [.int v]) t350_382 mf304 rfl rfl (Or.inl ⟨by decide, zk1 hk⟩) ⟨by decide, by decide, Nat.le_of_ble_eq_true rfl, Nat.le_of_ble_eq_true rfl⟩ hm ?_
  rintro r M rfl
  show zGo X l 100 kc ks 350 385 [(3, .int (0 : Int32)), (2, .ref 336), (1, .ref 6), (0, .ref 0)] [.int v, .int v] M _
  refine zs_icmp_eqT (pc := 385) t350_385 rfl rfl rfl ?_
  exact law_t hL
theorem law8 (hL : X.2.2.2.2.2.1 = 6) : zGo X l 100 kc ks 350 390 [(3, .int (0 : Int32)), (2, .ref 336), (1, .ref 6), (0, .ref 0)] [] zMe (fun r _ => r = some (.int 1)) := by
  obtain ⟨v, h⟩ := pr8 (X := X) (l := l) (X.2.2.2.2.2.2 1) (X.2.2.2.2.2.2 2)
  refine zs_aload_n (pc := 390) t350_390 rfl ?_
  refine zs_aload_n (pc := 391) t350_391 rfl ?_
  refine zs_iload_n (pc := 392) t350_392 rfl ?_
  refine zs_iconst (pc := 393) t350_393 (v := 1) (by decide) ?_
  refine zs_iadd (pc := 394) t350_394 (c := 1) (by decide) ?_
  refine zs_sald (pc := 395) t350_395 (j := 1) li1 (by rw [hL]; decide) rfl ?_
  refine zs_aload_n (pc := 396) t350_396 rfl ?_
  refine zs_iload_n (pc := 397) t350_397 rfl ?_
  refine zs_iconst (pc := 398) t350_398 (v := 2) (by decide) ?_
  refine zs_iadd (pc := 399) t350_399 (c := 2) (by decide) ?_
  refine zs_sald (pc := 400) t350_400 (j := 2) li2 (by rw [hL]; decide) rfl ?_
  refine zs_invV (pc := 401) (k := 6) (as' := [.int (X.2.2.2.2.2.2 1), .int (X.2.2.2.2.2.2 2)]) (st := []) t350_401 mf102 rfl rfl (Or.inl ⟨by decide, zk1 zkc⟩) ⟨by decide, by decide, Nat.le_of_ble_eq_true rfl, Nat.le_of_ble_eq_true rfl⟩ h ?_
  rintro r M ⟨rfl, hk, hm⟩
  show zGo X l 100 kc ks 350 404 [(3, .int (0 : Int32)), (2, .ref 336), (1, .ref 6), (0, .ref 0)] [.int v] M _
  refine zs_aload_n (pc := 404) t350_404 rfl ?_
  refine zs_aload_n (pc := 405) t350_405 rfl ?_
  refine zs_iload_n (pc := 406) t350_406 rfl ?_
  refine zs_iconst (pc := 407) t350_407 (v := 1) (by decide) ?_
  refine zs_iadd (pc := 408) t350_408 (c := 1) (by decide) ?_
  refine zs_sald (pc := 409) t350_409 (j := 1) li1 (by rw [hL]; decide) rfl ?_
  refine zs_aload_n (pc := 410) t350_410 rfl ?_
  refine zs_iload_n (pc := 411) t350_411 rfl ?_
  refine zs_iconst (pc := 412) t350_412 (v := 2) (by decide) ?_
  refine zs_iadd (pc := 413) t350_413 (c := 2) (by decide) ?_
  refine zs_sald (pc := 414) t350_414 (j := 2) li2 (by rw [hL]; decide) rfl ?_
  refine zs_invV (pc := 415) (k := 336) (as' := [.int (X.2.2.2.2.2.2 1), .int (X.2.2.2.2.2.2 2)]) (st := [.int v]) t350_415 mf305 rfl rfl (Or.inl ⟨by decide, zk1 hk⟩) ⟨by decide, by decide, Nat.le_of_ble_eq_true rfl, Nat.le_of_ble_eq_true rfl⟩ hm ?_
  rintro r M rfl
  show zGo X l 100 kc ks 350 418 [(3, .int (0 : Int32)), (2, .ref 336), (1, .ref 6), (0, .ref 0)] [.int v, .int v] M _
  refine zs_icmp_eqT (pc := 418) t350_418 rfl rfl rfl ?_
  exact law_t hL
theorem law9 (hL : X.2.2.2.2.2.1 = 6) : zGo X l 100 kc ks 350 423 [(3, .int (0 : Int32)), (2, .ref 336), (1, .ref 6), (0, .ref 0)] [] zMe (fun r _ => r = some (.int 1)) := by
  obtain ⟨v, h⟩ := pr9 (X := X) (l := l) (X.2.2.2.2.2.2 1) (X.2.2.2.2.2.2 2)
  refine zs_aload_n (pc := 423) t350_423 rfl ?_
  refine zs_aload_n (pc := 424) t350_424 rfl ?_
  refine zs_iload_n (pc := 425) t350_425 rfl ?_
  refine zs_iconst (pc := 426) t350_426 (v := 1) (by decide) ?_
  refine zs_iadd (pc := 427) t350_427 (c := 1) (by decide) ?_
  refine zs_sald (pc := 428) t350_428 (j := 1) li1 (by rw [hL]; decide) rfl ?_
  refine zs_aload_n (pc := 429) t350_429 rfl ?_
  refine zs_iload_n (pc := 430) t350_430 rfl ?_
  refine zs_iconst (pc := 431) t350_431 (v := 2) (by decide) ?_
  refine zs_iadd (pc := 432) t350_432 (c := 2) (by decide) ?_
  refine zs_sald (pc := 433) t350_433 (j := 2) li2 (by rw [hL]; decide) rfl ?_
  refine zs_invV (pc := 434) (k := 6) (as' := [.int (X.2.2.2.2.2.2 1), .int (X.2.2.2.2.2.2 2)]) (st := []) t350_434 mf104 rfl rfl (Or.inl ⟨by decide, zk1 zkc⟩) ⟨by decide, by decide, Nat.le_of_ble_eq_true rfl, Nat.le_of_ble_eq_true rfl⟩ h ?_
  rintro r M ⟨rfl, hk, hm⟩
  show zGo X l 100 kc ks 350 437 [(3, .int (0 : Int32)), (2, .ref 336), (1, .ref 6), (0, .ref 0)] [.int v] M _
  refine zs_aload_n (pc := 437) t350_437 rfl ?_
  refine zs_aload_n (pc := 438) t350_438 rfl ?_
  refine zs_iload_n (pc := 439) t350_439 rfl ?_
  refine zs_iconst (pc := 440) t350_440 (v := 1) (by decide) ?_
  refine zs_iadd (pc := 441) t350_441 (c := 1) (by decide) ?_
  refine zs_sald (pc := 442) t350_442 (j := 1) li1 (by rw [hL]; decide) rfl ?_
  refine zs_aload_n (pc := 443) t350_443 rfl ?_
  refine zs_iload_n (pc := 444) t350_444 rfl ?_
  refine zs_iconst (pc := 445) t350_445 (v := 2) (by decide) ?_
  refine zs_iadd (pc := 446) t350_446 (c := 2) (by decide) ?_
  refine zs_sald (pc := 447) t350_447 (j := 2) li2 (by rw [hL]; decide) rfl ?_
  refine zs_invV (pc := 448) (k := 336) (as' := [.int (X.2.2.2.2.2.2 1), .int (X.2.2.2.2.2.2 2)]) (st := [.int v]) t350_448 mf307 rfl rfl (Or.inl ⟨by decide, zk1 hk⟩) ⟨by decide, by decide, Nat.le_of_ble_eq_true rfl, Nat.le_of_ble_eq_true rfl⟩ hm ?_
  rintro r M rfl
  show zGo X l 100 kc ks 350 451 [(3, .int (0 : Int32)), (2, .ref 336), (1, .ref 6), (0, .ref 0)] [.int v, .int v] M _
  refine zs_icmp_eqT (pc := 451) t350_451 rfl rfl rfl ?_
  exact law_t hL
theorem law10 (hL : X.2.2.2.2.2.1 = 6) : zGo X l 100 kc ks 350 456 [(3, .int (0 : Int32)), (2, .ref 336), (1, .ref 6), (0, .ref 0)] [] zMe (fun r _ => r = some (.int 1)) := by
  obtain ⟨v, h⟩ := pr10 (X := X) (l := l) (X.2.2.2.2.2.2 1) (X.2.2.2.2.2.2 2)
  refine zs_aload_n (pc := 456) t350_456 rfl ?_
  refine zs_aload_n (pc := 457) t350_457 rfl ?_
  refine zs_iload_n (pc := 458) t350_458 rfl ?_
  refine zs_iconst (pc := 459) t350_459 (v := 1) (by decide) ?_
  refine zs_iadd (pc := 460) t350_460 (c := 1) (by decide) ?_
  refine zs_sald (pc := 461) t350_461 (j := 1) li1 (by rw [hL]; decide) rfl ?_
  refine zs_aload_n (pc := 462) t350_462 rfl ?_
  refine zs_iload_n (pc := 463) t350_463 rfl ?_
  refine zs_iconst (pc := 464) t350_464 (v := 2) (by decide) ?_
  refine zs_iadd (pc := 465) t350_465 (c := 2) (by decide) ?_
  refine zs_sald (pc := 466) t350_466 (j := 2) li2 (by rw [hL]; decide) rfl ?_
  refine zs_invV (pc := 467) (k := 6) (as' := [.int (X.2.2.2.2.2.2 1), .int (X.2.2.2.2.2.2 2)]) (st := []) t350_467 mf143 rfl rfl (Or.inl ⟨by decide, zk1 zkc⟩) ⟨by decide, by decide, Nat.le_of_ble_eq_true rfl, Nat.le_of_ble_eq_true rfl⟩ h ?_
  rintro r M ⟨rfl, hk, hm⟩
  show zGo X l 100 kc ks 350 470 [(3, .int (0 : Int32)), (2, .ref 336), (1, .ref 6), (0, .ref 0)] [.int v] M _
  refine zs_aload_n (pc := 470) t350_470 rfl ?_
  refine zs_aload_n (pc := 471) t350_471 rfl ?_
  refine zs_iload_n (pc := 472) t350_472 rfl ?_
  refine zs_iconst (pc := 473) t350_473 (v := 1) (by decide) ?_
  refine zs_iadd (pc := 474) t350_474 (c := 1) (by decide) ?_
  refine zs_sald (pc := 475) t350_475 (j := 1) li1 (by rw [hL]; decide) rfl ?_
  refine zs_aload_n (pc := 476) t350_476 rfl ?_
  refine zs_iload_n (pc := 477) t350_477 rfl ?_
  refine zs_iconst (pc := 478) t350_478 (v := 2) (by decide) ?_
  refine zs_iadd (pc := 479) t350_479 (c := 2) (by decide) ?_
  refine zs_sald (pc := 480) t350_480 (j := 2) li2 (by rw [hL]; decide) rfl ?_
  refine zs_invV (pc := 481) (k := 336) (as' := [.int (X.2.2.2.2.2.2 1), .int (X.2.2.2.2.2.2 2)]) (st := [.int v]) t350_481 mf309 rfl rfl (Or.inl ⟨by decide, zk1 hk⟩) ⟨by decide, by decide, Nat.le_of_ble_eq_true rfl, Nat.le_of_ble_eq_true rfl⟩ hm ?_
  rintro r M rfl
  show zGo X l 100 kc ks 350 484 [(3, .int (0 : Int32)), (2, .ref 336), (1, .ref 6), (0, .ref 0)] [.int v, .int v] M _
  refine zs_icmp_eqT (pc := 484) t350_484 rfl rfl rfl ?_
  exact law_t hL
theorem law11 (hL : X.2.2.2.2.2.1 = 6) : zGo X l 100 kc ks 350 489 [(3, .int (0 : Int32)), (2, .ref 336), (1, .ref 6), (0, .ref 0)] [] zMe (fun r _ => r = some (.int 1)) := by
  obtain ⟨v, h⟩ := pr11 (X := X) (l := l) (X.2.2.2.2.2.2 1) (X.2.2.2.2.2.2 2) (X.2.2.2.2.2.2 3)
  refine zs_aload_n (pc := 489) t350_489 rfl ?_
  refine zs_aload_n (pc := 490) t350_490 rfl ?_
  refine zs_iload_n (pc := 491) t350_491 rfl ?_
  refine zs_iconst (pc := 492) t350_492 (v := 1) (by decide) ?_
  refine zs_iadd (pc := 493) t350_493 (c := 1) (by decide) ?_
  refine zs_sald (pc := 494) t350_494 (j := 1) li1 (by rw [hL]; decide) rfl ?_
  refine zs_aload_n (pc := 495) t350_495 rfl ?_
  refine zs_iload_n (pc := 496) t350_496 rfl ?_
  refine zs_iconst (pc := 497) t350_497 (v := 2) (by decide) ?_
  refine zs_iadd (pc := 498) t350_498 (c := 2) (by decide) ?_
  refine zs_sald (pc := 499) t350_499 (j := 2) li2 (by rw [hL]; decide) rfl ?_
  refine zs_aload_n (pc := 500) t350_500 rfl ?_
  refine zs_iload_n (pc := 501) t350_501 rfl ?_
  refine zs_iconst (pc := 502) t350_502 (v := 3) (by decide) ?_
  refine zs_iadd (pc := 503) t350_503 (c := 3) (by decide) ?_
  refine zs_sald (pc := 504) t350_504 (j := 3) li3 (by rw [hL]; decide) rfl ?_
  refine zs_invV (pc := 505) (k := 6) (as' := [.int (X.2.2.2.2.2.2 1), .int (X.2.2.2.2.2.2 2), .int (X.2.2.2.2.2.2 3)]) (st := []) t350_505 mf147 rfl rfl (Or.inl ⟨by decide, zk1 zkc⟩) ⟨by decide, by decide, Nat.le_of_ble_eq_true rfl, Nat.le_of_ble_eq_true rfl⟩ h ?_
  rintro r M ⟨rfl, hk, hm⟩
  show zGo X l 100 kc ks 350 508 [(3, .int (0 : Int32)), (2, .ref 336), (1, .ref 6), (0, .ref 0)] [.int v] M _
  refine zs_aload_n (pc := 508) t350_508 rfl ?_
  refine zs_aload_n (pc := 509) t350_509 rfl ?_
  refine zs_iload_n (pc := 510) t350_510 rfl ?_
  refine zs_iconst (pc := 511) t350_511 (v := 1) (by decide) ?_
  refine zs_iadd (pc := 512) t350_512 (c := 1) (by decide) ?_
  refine zs_sald (pc := 513) t350_513 (j := 1) li1 (by rw [hL]; decide) rfl ?_
  refine zs_aload_n (pc := 514) t350_514 rfl ?_
  refine zs_iload_n (pc := 515) t350_515 rfl ?_
  refine zs_iconst (pc := 516) t350_516 (v := 2) (by decide) ?_
  refine zs_iadd (pc := 517) t350_517 (c := 2) (by decide) ?_
  refine zs_sald (pc := 518) t350_518 (j := 2) li2 (by rw [hL]; decide) rfl ?_
  refine zs_aload_n (pc := 519) t350_519 rfl ?_
  refine zs_iload_n (pc := 520) t350_520 rfl ?_
  refine zs_iconst (pc := 521) t350_521 (v := 3) (by decide) ?_
  refine zs_iadd (pc := 522) t350_522 (c := 3) (by decide) ?_
  refine zs_sald (pc := 523) t350_523 (j := 3) li3 (by rw [hL]; decide) rfl ?_
  refine zs_invV (pc := 524) (k := 336) (as' := [.int (X.2.2.2.2.2.2 1), .int (X.2.2.2.2.2.2 2), .int (X.2.2.2.2.2.2 3)]) (st := [.int v]) t350_524 mf314 rfl rfl (Or.inl ⟨by decide, zk1 hk⟩) ⟨by decide, by decide, Nat.le_of_ble_eq_true rfl, Nat.le_of_ble_eq_true rfl⟩ hm ?_
  rintro r M rfl
  show zGo X l 100 kc ks 350 527 [(3, .int (0 : Int32)), (2, .ref 336), (1, .ref 6), (0, .ref 0)] [.int v, .int v] M _
  refine zs_icmp_eqT (pc := 527) t350_527 rfl rfl rfl ?_
  exact law_t hL
theorem law12 (hL : X.2.2.2.2.2.1 = 6) : zGo X l 100 kc ks 350 532 [(3, .int (0 : Int32)), (2, .ref 336), (1, .ref 6), (0, .ref 0)] [] zMe (fun r _ => r = some (.int 1)) := by
  obtain ⟨v, h⟩ := pr12 (X := X) (l := l) (X.2.2.2.2.2.2 1) (X.2.2.2.2.2.2 2) (X.2.2.2.2.2.2 3)
  refine zs_aload_n (pc := 532) t350_532 rfl ?_
  refine zs_aload_n (pc := 533) t350_533 rfl ?_
  refine zs_iload_n (pc := 534) t350_534 rfl ?_
  refine zs_iconst (pc := 535) t350_535 (v := 1) (by decide) ?_
  refine zs_iadd (pc := 536) t350_536 (c := 1) (by decide) ?_
  refine zs_sald (pc := 537) t350_537 (j := 1) li1 (by rw [hL]; decide) rfl ?_
  refine zs_aload_n (pc := 538) t350_538 rfl ?_
  refine zs_iload_n (pc := 539) t350_539 rfl ?_
  refine zs_iconst (pc := 540) t350_540 (v := 2) (by decide) ?_
  refine zs_iadd (pc := 541) t350_541 (c := 2) (by decide) ?_
  refine zs_sald (pc := 542) t350_542 (j := 2) li2 (by rw [hL]; decide) rfl ?_
  refine zs_aload_n (pc := 543) t350_543 rfl ?_
  refine zs_iload_n (pc := 544) t350_544 rfl ?_
  refine zs_iconst (pc := 545) t350_545 (v := 3) (by decide) ?_
  refine zs_iadd (pc := 546) t350_546 (c := 3) (by decide) ?_
  refine zs_sald (pc := 547) t350_547 (j := 3) li3 (by rw [hL]; decide) rfl ?_
  refine zs_invV (pc := 548) (k := 6) (as' := [.int (X.2.2.2.2.2.2 1), .int (X.2.2.2.2.2.2 2), .int (X.2.2.2.2.2.2 3)]) (st := []) t350_548 mf148 rfl rfl (Or.inl ⟨by decide, zk1 zkc⟩) ⟨by decide, by decide, Nat.le_of_ble_eq_true rfl, Nat.le_of_ble_eq_true rfl⟩ h ?_
  rintro r M ⟨rfl, hk, hm⟩
  show zGo X l 100 kc ks 350 551 [(3, .int (0 : Int32)), (2, .ref 336), (1, .ref 6), (0, .ref 0)] [.int v] M _
  refine zs_aload_n (pc := 551) t350_551 rfl ?_
  refine zs_aload_n (pc := 552) t350_552 rfl ?_
  refine zs_iload_n (pc := 553) t350_553 rfl ?_
  refine zs_iconst (pc := 554) t350_554 (v := 1) (by decide) ?_
  refine zs_iadd (pc := 555) t350_555 (c := 1) (by decide) ?_
  refine zs_sald (pc := 556) t350_556 (j := 1) li1 (by rw [hL]; decide) rfl ?_
  refine zs_aload_n (pc := 557) t350_557 rfl ?_
  refine zs_iload_n (pc := 558) t350_558 rfl ?_
  refine zs_iconst (pc := 559) t350_559 (v := 2) (by decide) ?_
  refine zs_iadd (pc := 560) t350_560 (c := 2) (by decide) ?_
  refine zs_sald (pc := 561) t350_561 (j := 2) li2 (by rw [hL]; decide) rfl ?_
  refine zs_aload_n (pc := 562) t350_562 rfl ?_
  refine zs_iload_n (pc := 563) t350_563 rfl ?_
  refine zs_iconst (pc := 564) t350_564 (v := 3) (by decide) ?_
  refine zs_iadd (pc := 565) t350_565 (c := 3) (by decide) ?_
  refine zs_sald (pc := 566) t350_566 (j := 3) li3 (by rw [hL]; decide) rfl ?_
  refine zs_invV (pc := 567) (k := 336) (as' := [.int (X.2.2.2.2.2.2 1), .int (X.2.2.2.2.2.2 2), .int (X.2.2.2.2.2.2 3)]) (st := [.int v]) t350_567 mf315 rfl rfl (Or.inl ⟨by decide, zk1 hk⟩) ⟨by decide, by decide, Nat.le_of_ble_eq_true rfl, Nat.le_of_ble_eq_true rfl⟩ hm ?_
  rintro r M rfl
  show zGo X l 100 kc ks 350 570 [(3, .int (0 : Int32)), (2, .ref 336), (1, .ref 6), (0, .ref 0)] [.int v, .int v] M _
  refine zs_icmp_eqT (pc := 570) t350_570 rfl rfl rfl ?_
  exact law_t hL
theorem law13 (hL : X.2.2.2.2.2.1 = 6) : zGo X l 100 kc ks 350 575 [(3, .int (0 : Int32)), (2, .ref 336), (1, .ref 6), (0, .ref 0)] [] zMe (fun r _ => r = some (.int 1)) := by
  obtain ⟨v, h⟩ := pr13 (X := X) (l := l) (X.2.2.2.2.2.2 1)
  refine zs_aload_n (pc := 575) t350_575 rfl ?_
  refine zs_aload_n (pc := 576) t350_576 rfl ?_
  refine zs_iload_n (pc := 577) t350_577 rfl ?_
  refine zs_iconst (pc := 578) t350_578 (v := 1) (by decide) ?_
  refine zs_iadd (pc := 579) t350_579 (c := 1) (by decide) ?_
  refine zs_sald (pc := 580) t350_580 (j := 1) li1 (by rw [hL]; decide) rfl ?_
  refine zs_invV (pc := 581) (k := 6) (as' := [.int (X.2.2.2.2.2.2 1)]) (st := []) t350_581 mf150 rfl rfl (Or.inl ⟨by decide, zk1 zkc⟩) ⟨by decide, by decide, Nat.le_of_ble_eq_true rfl, Nat.le_of_ble_eq_true rfl⟩ h ?_
  rintro r M ⟨rfl, hk, hm⟩
  show zGo X l 100 kc ks 350 584 [(3, .int (0 : Int32)), (2, .ref 336), (1, .ref 6), (0, .ref 0)] [.int v] M _
  refine zs_aload_n (pc := 584) t350_584 rfl ?_
  refine zs_aload_n (pc := 585) t350_585 rfl ?_
  refine zs_iload_n (pc := 586) t350_586 rfl ?_
  refine zs_iconst (pc := 587) t350_587 (v := 1) (by decide) ?_
  refine zs_iadd (pc := 588) t350_588 (c := 1) (by decide) ?_
  refine zs_sald (pc := 589) t350_589 (j := 1) li1 (by rw [hL]; decide) rfl ?_
  refine zs_invV (pc := 590) (k := 336) (as' := [.int (X.2.2.2.2.2.2 1)]) (st := [.int v]) t350_590 mf316 rfl rfl (Or.inl ⟨by decide, zk1 hk⟩) ⟨by decide, by decide, Nat.le_of_ble_eq_true rfl, Nat.le_of_ble_eq_true rfl⟩ hm ?_
  rintro r M rfl
  show zGo X l 100 kc ks 350 593 [(3, .int (0 : Int32)), (2, .ref 336), (1, .ref 6), (0, .ref 0)] [.int v, .int v] M _
  refine zs_icmp_eqT (pc := 593) t350_593 rfl rfl rfl ?_
  exact law_t hL
theorem law14 (hL : X.2.2.2.2.2.1 = 6) : zGo X l 100 kc ks 350 598 [(3, .int (0 : Int32)), (2, .ref 336), (1, .ref 6), (0, .ref 0)] [] zMe (fun r _ => r = some (.int 1)) := by
  obtain ⟨v, h⟩ := pr14 (X := X) (l := l) (X.2.2.2.2.2.2 1) (X.2.2.2.2.2.2 2)
  refine zs_aload_n (pc := 598) t350_598 rfl ?_
  refine zs_aload_n (pc := 599) t350_599 rfl ?_
  refine zs_iload_n (pc := 600) t350_600 rfl ?_
  refine zs_iconst (pc := 601) t350_601 (v := 1) (by decide) ?_
  refine zs_iadd (pc := 602) t350_602 (c := 1) (by decide) ?_
  refine zs_sald (pc := 603) t350_603 (j := 1) li1 (by rw [hL]; decide) rfl ?_
  refine zs_aload_n (pc := 604) t350_604 rfl ?_
  refine zs_iload_n (pc := 605) t350_605 rfl ?_
  refine zs_iconst (pc := 606) t350_606 (v := 2) (by decide) ?_
  refine zs_iadd (pc := 607) t350_607 (c := 2) (by decide) ?_
  refine zs_sald (pc := 608) t350_608 (j := 2) li2 (by rw [hL]; decide) rfl ?_
  refine zs_invV (pc := 609) (k := 6) (as' := [.int (X.2.2.2.2.2.2 1), .int (X.2.2.2.2.2.2 2)]) (st := []) t350_609 mf169 rfl rfl (Or.inl ⟨by decide, zk1 zkc⟩) ⟨by decide, by decide, Nat.le_of_ble_eq_true rfl, Nat.le_of_ble_eq_true rfl⟩ h ?_
  rintro r M ⟨rfl, hk, hm⟩
  show zGo X l 100 kc ks 350 612 [(3, .int (0 : Int32)), (2, .ref 336), (1, .ref 6), (0, .ref 0)] [.int v] M _
  refine zs_aload_n (pc := 612) t350_612 rfl ?_
  refine zs_aload_n (pc := 613) t350_613 rfl ?_
  refine zs_iload_n (pc := 614) t350_614 rfl ?_
  refine zs_iconst (pc := 615) t350_615 (v := 1) (by decide) ?_
  refine zs_iadd (pc := 616) t350_616 (c := 1) (by decide) ?_
  refine zs_sald (pc := 617) t350_617 (j := 1) li1 (by rw [hL]; decide) rfl ?_
  refine zs_aload_n (pc := 618) t350_618 rfl ?_
  refine zs_iload_n (pc := 619) t350_619 rfl ?_
  refine zs_iconst (pc := 620) t350_620 (v := 2) (by decide) ?_
  refine zs_iadd (pc := 621) t350_621 (c := 2) (by decide) ?_
  refine zs_sald (pc := 622) t350_622 (j := 2) li2 (by rw [hL]; decide) rfl ?_
  refine zs_invV (pc := 623) (k := 336) (as' := [.int (X.2.2.2.2.2.2 1), .int (X.2.2.2.2.2.2 2)]) (st := [.int v]) t350_623 mf317 rfl rfl (Or.inl ⟨by decide, zk1 hk⟩) ⟨by decide, by decide, Nat.le_of_ble_eq_true rfl, Nat.le_of_ble_eq_true rfl⟩ hm ?_
  rintro r M rfl
  show zGo X l 100 kc ks 350 626 [(3, .int (0 : Int32)), (2, .ref 336), (1, .ref 6), (0, .ref 0)] [.int v, .int v] M _
  refine zs_icmp_eqT (pc := 626) t350_626 rfl rfl rfl ?_
  exact law_t hL
theorem law15 (hL : X.2.2.2.2.2.1 = 6) : zGo X l 100 kc ks 350 631 [(3, .int (0 : Int32)), (2, .ref 336), (1, .ref 6), (0, .ref 0)] [] zMe (fun r _ => r = some (.int 1)) := by
  obtain ⟨v, h⟩ := pr15 (X := X) (l := l) (X.2.2.2.2.2.2 1) (X.2.2.2.2.2.2 2)
  refine zs_aload_n (pc := 631) t350_631 rfl ?_
  refine zs_aload_n (pc := 632) t350_632 rfl ?_
  refine zs_iload_n (pc := 633) t350_633 rfl ?_
  refine zs_iconst (pc := 634) t350_634 (v := 1) (by decide) ?_
  refine zs_iadd (pc := 635) t350_635 (c := 1) (by decide) ?_
  refine zs_sald (pc := 636) t350_636 (j := 1) li1 (by rw [hL]; decide) rfl ?_
  refine zs_aload_n (pc := 637) t350_637 rfl ?_
  refine zs_iload_n (pc := 638) t350_638 rfl ?_
  refine zs_iconst (pc := 639) t350_639 (v := 2) (by decide) ?_
  refine zs_iadd (pc := 640) t350_640 (c := 2) (by decide) ?_
  refine zs_sald (pc := 641) t350_641 (j := 2) li2 (by rw [hL]; decide) rfl ?_
  refine zs_invV (pc := 642) (k := 6) (as' := [.int (X.2.2.2.2.2.2 1), .int (X.2.2.2.2.2.2 2)]) (st := []) t350_642 mf172 rfl rfl (Or.inl ⟨by decide, zk1 zkc⟩) ⟨by decide, by decide, Nat.le_of_ble_eq_true rfl, Nat.le_of_ble_eq_true rfl⟩ h ?_
  rintro r M ⟨rfl, hk, hm⟩
  show zGo X l 100 kc ks 350 645 [(3, .int (0 : Int32)), (2, .ref 336), (1, .ref 6), (0, .ref 0)] [.int v] M _
  refine zs_aload_n (pc := 645) t350_645 rfl ?_
  refine zs_aload_n (pc := 646) t350_646 rfl ?_
  refine zs_iload_n (pc := 647) t350_647 rfl ?_
  refine zs_iconst (pc := 648) t350_648 (v := 1) (by decide) ?_
  refine zs_iadd (pc := 649) t350_649 (c := 1) (by decide) ?_
  refine zs_sald (pc := 650) t350_650 (j := 1) li1 (by rw [hL]; decide) rfl ?_
  refine zs_aload_n (pc := 651) t350_651 rfl ?_
  refine zs_iload_n (pc := 652) t350_652 rfl ?_
  refine zs_iconst (pc := 653) t350_653 (v := 2) (by decide) ?_
  refine zs_iadd (pc := 654) t350_654 (c := 2) (by decide) ?_
  refine zs_sald (pc := 655) t350_655 (j := 2) li2 (by rw [hL]; decide) rfl ?_
  refine zs_invV (pc := 656) (k := 336) (as' := [.int (X.2.2.2.2.2.2 1), .int (X.2.2.2.2.2.2 2)]) (st := [.int v]) t350_656 mf321 rfl rfl (Or.inl ⟨by decide, zk1 hk⟩) ⟨by decide, by decide, Nat.le_of_ble_eq_true rfl, Nat.le_of_ble_eq_true rfl⟩ hm ?_
  rintro r M rfl
  show zGo X l 100 kc ks 350 659 [(3, .int (0 : Int32)), (2, .ref 336), (1, .ref 6), (0, .ref 0)] [.int v, .int v] M _
  refine zs_icmp_eqT (pc := 659) t350_659 rfl rfl rfl ?_
  exact law_t hL
theorem law16 (hL : X.2.2.2.2.2.1 = 6) : zGo X l 100 kc ks 350 664 [(3, .int (0 : Int32)), (2, .ref 336), (1, .ref 6), (0, .ref 0)] [] zMe (fun r _ => r = some (.int 1)) := by
  obtain ⟨v, h⟩ := pr16 (X := X) (l := l) (X.2.2.2.2.2.2 1) (X.2.2.2.2.2.2 2)
  refine zs_aload_n (pc := 664) t350_664 rfl ?_
  refine zs_aload_n (pc := 665) t350_665 rfl ?_
  refine zs_iload_n (pc := 666) t350_666 rfl ?_
  refine zs_iconst (pc := 667) t350_667 (v := 1) (by decide) ?_
  refine zs_iadd (pc := 668) t350_668 (c := 1) (by decide) ?_
  refine zs_sald (pc := 669) t350_669 (j := 1) li1 (by rw [hL]; decide) rfl ?_
  refine zs_aload_n (pc := 670) t350_670 rfl ?_
  refine zs_iload_n (pc := 671) t350_671 rfl ?_
  refine zs_iconst (pc := 672) t350_672 (v := 2) (by decide) ?_
  refine zs_iadd (pc := 673) t350_673 (c := 2) (by decide) ?_
  refine zs_sald (pc := 674) t350_674 (j := 2) li2 (by rw [hL]; decide) rfl ?_
  refine zs_invV (pc := 675) (k := 6) (as' := [.int (X.2.2.2.2.2.2 1), .int (X.2.2.2.2.2.2 2)]) (st := []) t350_675 mf173 rfl rfl (Or.inl ⟨by decide, zk1 zkc⟩) ⟨by decide, by decide, Nat.le_of_ble_eq_true rfl, Nat.le_of_ble_eq_true rfl⟩ h ?_
  rintro r M ⟨rfl, hk, hm⟩
  show zGo X l 100 kc ks 350 678 [(3, .int (0 : Int32)), (2, .ref 336), (1, .ref 6), (0, .ref 0)] [.long v] M _
  refine zs_aload_n (pc := 678) t350_678 rfl ?_
  refine zs_aload_n (pc := 679) t350_679 rfl ?_
  refine zs_iload_n (pc := 680) t350_680 rfl ?_
  refine zs_iconst (pc := 681) t350_681 (v := 1) (by decide) ?_
  refine zs_iadd (pc := 682) t350_682 (c := 1) (by decide) ?_
  refine zs_sald (pc := 683) t350_683 (j := 1) li1 (by rw [hL]; decide) rfl ?_
  refine zs_aload_n (pc := 684) t350_684 rfl ?_
  refine zs_iload_n (pc := 685) t350_685 rfl ?_
  refine zs_iconst (pc := 686) t350_686 (v := 2) (by decide) ?_
  refine zs_iadd (pc := 687) t350_687 (c := 2) (by decide) ?_
  refine zs_sald (pc := 688) t350_688 (j := 2) li2 (by rw [hL]; decide) rfl ?_
  refine zs_invV (pc := 689) (k := 336) (as' := [.int (X.2.2.2.2.2.2 1), .int (X.2.2.2.2.2.2 2)]) (st := [.long v]) t350_689 mf296 rfl rfl (Or.inl ⟨by decide, zk1 hk⟩) ⟨by decide, by decide, Nat.le_of_ble_eq_true rfl, Nat.le_of_ble_eq_true rfl⟩ hm ?_
  rintro r M rfl
  show zGo X l 100 kc ks 350 692 [(3, .int (0 : Int32)), (2, .ref 336), (1, .ref 6), (0, .ref 0)] [.long v, .long v] M _
  refine zs_lcmp (pc := 692) t350_692 (c := 0) (zlcE rfl rfl rfl) ?_
  refine zs_if_eqT (pc := 693) t350_693 li0 rfl ?_
  exact law_t hL
theorem law17 (hL : X.2.2.2.2.2.1 = 6) : zGo X l 100 kc ks 350 698 [(3, .int (0 : Int32)), (2, .ref 336), (1, .ref 6), (0, .ref 0)] [] zMe (fun r _ => r = some (.int 1)) := by
  obtain ⟨v, h⟩ := pr17 (X := X) (l := l) (X.2.2.2.2.2.2 1) (X.2.2.2.2.2.2 2)
  refine zs_aload_n (pc := 698) t350_698 rfl ?_
  refine zs_aload_n (pc := 699) t350_699 rfl ?_
  refine zs_iload_n (pc := 700) t350_700 rfl ?_
  refine zs_iconst (pc := 701) t350_701 (v := 1) (by decide) ?_
  refine zs_iadd (pc := 702) t350_702 (c := 1) (by decide) ?_
  refine zs_sald (pc := 703) t350_703 (j := 1) li1 (by rw [hL]; decide) rfl ?_
  refine zs_aload_n (pc := 704) t350_704 rfl ?_
  refine zs_iload_n (pc := 705) t350_705 rfl ?_
  refine zs_iconst (pc := 706) t350_706 (v := 2) (by decide) ?_
  refine zs_iadd (pc := 707) t350_707 (c := 2) (by decide) ?_
  refine zs_sald (pc := 708) t350_708 (j := 2) li2 (by rw [hL]; decide) rfl ?_
  refine zs_invV (pc := 709) (k := 6) (as' := [.int (X.2.2.2.2.2.2 1), .int (X.2.2.2.2.2.2 2)]) (st := []) t350_709 mf177 rfl rfl (Or.inl ⟨by decide, zk1 zkc⟩) ⟨by decide, by decide, Nat.le_of_ble_eq_true rfl, Nat.le_of_ble_eq_true rfl⟩ h ?_
  rintro r M ⟨rfl, hk, hm⟩
  show zGo X l 100 kc ks 350 712 [(3, .int (0 : Int32)), (2, .ref 336), (1, .ref 6), (0, .ref 0)] [.int v] M _
  refine zs_aload_n (pc := 712) t350_712 rfl ?_
  refine zs_aload_n (pc := 713) t350_713 rfl ?_
  refine zs_iload_n (pc := 714) t350_714 rfl ?_
  refine zs_iconst (pc := 715) t350_715 (v := 1) (by decide) ?_
  refine zs_iadd (pc := 716) t350_716 (c := 1) (by decide) ?_
  refine zs_sald (pc := 717) t350_717 (j := 1) li1 (by rw [hL]; decide) rfl ?_
  refine zs_aload_n (pc := 718) t350_718 rfl ?_
  refine zs_iload_n (pc := 719) t350_719 rfl ?_
  refine zs_iconst (pc := 720) t350_720 (v := 2) (by decide) ?_
  refine zs_iadd (pc := 721) t350_721 (c := 2) (by decide) ?_
  refine zs_sald (pc := 722) t350_722 (j := 2) li2 (by rw [hL]; decide) rfl ?_
  refine zs_invV (pc := 723) (k := 336) (as' := [.int (X.2.2.2.2.2.2 1), .int (X.2.2.2.2.2.2 2)]) (st := [.int v]) t350_723 mf301 rfl rfl (Or.inl ⟨by decide, zk1 hk⟩) ⟨by decide, by decide, Nat.le_of_ble_eq_true rfl, Nat.le_of_ble_eq_true rfl⟩ hm ?_
  rintro r M rfl
  show zGo X l 100 kc ks 350 726 [(3, .int (0 : Int32)), (2, .ref 336), (1, .ref 6), (0, .ref 0)] [.int v, .int v] M _
  refine zs_icmp_eqT (pc := 726) t350_726 rfl rfl rfl ?_
  exact law_t hL
theorem law18 (hL : X.2.2.2.2.2.1 = 6) : zGo X l 100 kc ks 350 731 [(3, .int (0 : Int32)), (2, .ref 336), (1, .ref 6), (0, .ref 0)] [] zMe (fun r _ => r = some (.int 1)) := by
  obtain ⟨v, h⟩ := pr18 (X := X) (l := l) 
  refine zs_aload_n (pc := 731) t350_731 rfl ?_
  refine zs_invV9 (d := 100) (pc := 732) (k := 6) (as' := []) (st := []) t350_732 mf180 rfl rfl (Or.inl ⟨by decide, zk1 zkc⟩) ⟨by decide, Nat.le_of_ble_eq_true rfl, Nat.le_of_ble_eq_true rfl⟩ h ?_
  rintro r M ⟨rfl, hk, hm⟩
  show zGo X l 100 kc ks 350 735 [(3, .int (0 : Int32)), (2, .ref 336), (1, .ref 6), (0, .ref 0)] [.int v] M _
  refine zs_aload_n (pc := 735) t350_735 rfl ?_
  refine zs_invV (pc := 736) (k := 336) (as' := []) (st := [.int v]) t350_736 mf266 rfl rfl (Or.inl ⟨by decide, zk1 hk⟩) ⟨by decide, by decide, Nat.le_of_ble_eq_true rfl, Nat.le_of_ble_eq_true rfl⟩ hm ?_
  rintro r M rfl
  show zGo X l 100 kc ks 350 739 [(3, .int (0 : Int32)), (2, .ref 336), (1, .ref 6), (0, .ref 0)] [.int v, .int v] M _
  refine zs_icmp_eqT (pc := 739) t350_739 rfl rfl rfl ?_
  exact law_t hL
theorem law19 (hL : X.2.2.2.2.2.1 = 6) : zGo X l 100 kc ks 350 744 [(3, .int (0 : Int32)), (2, .ref 336), (1, .ref 6), (0, .ref 0)] [] zMe (fun r _ => r = some (.int 1)) := by
  obtain ⟨v, h⟩ := pr19 (X := X) (l := l) (X.2.2.2.2.2.2 1)
  refine zs_aload_n (pc := 744) t350_744 rfl ?_
  refine zs_aload_n (pc := 745) t350_745 rfl ?_
  refine zs_iload_n (pc := 746) t350_746 rfl ?_
  refine zs_iconst (pc := 747) t350_747 (v := 1) (by decide) ?_
  refine zs_iadd (pc := 748) t350_748 (c := 1) (by decide) ?_
  refine zs_sald (pc := 749) t350_749 (j := 1) li1 (by rw [hL]; decide) rfl ?_
  refine zs_invV (pc := 750) (k := 6) (as' := [.int (X.2.2.2.2.2.2 1)]) (st := []) t350_750 mf151 rfl rfl (Or.inl ⟨by decide, zk1 zkc⟩) ⟨by decide, by decide, Nat.le_of_ble_eq_true rfl, Nat.le_of_ble_eq_true rfl⟩ h ?_
  rintro r M ⟨rfl, hk, hm⟩
  show zGo X l 100 kc ks 350 753 [(3, .int (0 : Int32)), (2, .ref 336), (1, .ref 6), (0, .ref 0)] [.int v] M _
  refine zs_aload_n (pc := 753) t350_753 rfl ?_
  refine zs_aload_n (pc := 754) t350_754 rfl ?_
  refine zs_iload_n (pc := 755) t350_755 rfl ?_
  refine zs_iconst (pc := 756) t350_756 (v := 1) (by decide) ?_
  refine zs_iadd (pc := 757) t350_757 (c := 1) (by decide) ?_
  refine zs_sald (pc := 758) t350_758 (j := 1) li1 (by rw [hL]; decide) rfl ?_
  refine zs_invV (pc := 759) (k := 336) (as' := [.int (X.2.2.2.2.2.2 1)]) (st := [.int v]) t350_759 mf295 rfl rfl (Or.inl ⟨by decide, zk1 hk⟩) ⟨by decide, by decide, Nat.le_of_ble_eq_true rfl, Nat.le_of_ble_eq_true rfl⟩ hm ?_
  rintro r M rfl
  show zGo X l 100 kc ks 350 762 [(3, .int (0 : Int32)), (2, .ref 336), (1, .ref 6), (0, .ref 0)] [.int v, .int v] M _
  refine zs_icmp_eqT (pc := 762) t350_762 rfl rfl rfl ?_
  exact law_t hL
theorem law20 (hL : X.2.2.2.2.2.1 = 6) : zGo X l 100 kc ks 350 767 [(3, .int (0 : Int32)), (2, .ref 336), (1, .ref 6), (0, .ref 0)] [] zMe (fun r _ => r = some (.int 1)) := by
  obtain ⟨v, h⟩ := pr20 (X := X) (l := l) 
  refine zs_aload_n (pc := 767) t350_767 rfl ?_
  refine zs_invV (pc := 768) (k := 6) (as' := []) (st := []) t350_768 mf187 rfl rfl (Or.inl ⟨by decide, zk1 zkc⟩) ⟨by decide, by decide, Nat.le_of_ble_eq_true rfl, Nat.le_of_ble_eq_true rfl⟩ h ?_
  rintro r M ⟨rfl, hk, hm⟩
  show zGo X l 100 kc ks 350 771 [(3, .int (0 : Int32)), (2, .ref 336), (1, .ref 6), (0, .ref 0)] [.int v] M _
  refine zs_aload_n (pc := 771) t350_771 rfl ?_
  refine zs_invV (pc := 772) (k := 336) (as' := []) (st := [.int v]) t350_772 mf322 rfl rfl (Or.inl ⟨by decide, zk1 hk⟩) ⟨by decide, by decide, Nat.le_of_ble_eq_true rfl, Nat.le_of_ble_eq_true rfl⟩ hm ?_
  rintro r M rfl
  show zGo X l 100 kc ks 350 775 [(3, .int (0 : Int32)), (2, .ref 336), (1, .ref 6), (0, .ref 0)] [.int v, .int v] M _
  refine zs_icmp_eqT (pc := 775) t350_775 rfl rfl rfl ?_
  exact law_t hL
theorem law21 (hL : X.2.2.2.2.2.1 = 6) : zGo X l 100 kc ks 350 780 [(3, .int (0 : Int32)), (2, .ref 336), (1, .ref 6), (0, .ref 0)] [] zMe (fun r _ => r = some (.int 1)) := by
  obtain ⟨v, h⟩ := pr21 (X := X) (l := l) (X.2.2.2.2.2.2 1) (X.2.2.2.2.2.2 2) (X.2.2.2.2.2.2 3) (X.2.2.2.2.2.2 4) (X.2.2.2.2.2.2 5)
  refine zs_aload_n (pc := 780) t350_780 rfl ?_
  refine zs_aload_n (pc := 781) t350_781 rfl ?_
  refine zs_iload_n (pc := 782) t350_782 rfl ?_
  refine zs_iconst (pc := 783) t350_783 (v := 1) (by decide) ?_
  refine zs_iadd (pc := 784) t350_784 (c := 1) (by decide) ?_
  refine zs_sald (pc := 785) t350_785 (j := 1) li1 (by rw [hL]; decide) rfl ?_
  refine zs_aload_n (pc := 786) t350_786 rfl ?_
  refine zs_iload_n (pc := 787) t350_787 rfl ?_
  refine zs_iconst (pc := 788) t350_788 (v := 2) (by decide) ?_
  refine zs_iadd (pc := 789) t350_789 (c := 2) (by decide) ?_
  refine zs_sald (pc := 790) t350_790 (j := 2) li2 (by rw [hL]; decide) rfl ?_
  refine zs_aload_n (pc := 791) t350_791 rfl ?_
  refine zs_iload_n (pc := 792) t350_792 rfl ?_
  refine zs_iconst (pc := 793) t350_793 (v := 3) (by decide) ?_
  refine zs_iadd (pc := 794) t350_794 (c := 3) (by decide) ?_
  refine zs_sald (pc := 795) t350_795 (j := 3) li3 (by rw [hL]; decide) rfl ?_
  refine zs_aload_n (pc := 796) t350_796 rfl ?_
  refine zs_iload_n (pc := 797) t350_797 rfl ?_
  refine zs_iconst (pc := 798) t350_798 (v := 4) (by decide) ?_
  refine zs_iadd (pc := 799) t350_799 (c := 4) (by decide) ?_
  refine zs_sald (pc := 800) t350_800 (j := 4) li4 (by rw [hL]; decide) rfl ?_
  refine zs_aload_n (pc := 801) t350_801 rfl ?_
  refine zs_iload_n (pc := 802) t350_802 rfl ?_
  refine zs_iconst (pc := 803) t350_803 (v := 5) (by decide) ?_
  refine zs_iadd (pc := 804) t350_804 (c := 5) (by decide) ?_
  refine zs_sald (pc := 805) t350_805 (j := 5) li5 (by rw [hL]; decide) rfl ?_
  refine zs_invV (pc := 806) (k := 6) (as' := [.int (X.2.2.2.2.2.2 1), .int (X.2.2.2.2.2.2 2), .int (X.2.2.2.2.2.2 3), .int (X.2.2.2.2.2.2 4), .int (X.2.2.2.2.2.2 5)]) (st := []) t350_806 mf188 rfl rfl (Or.inl ⟨by decide, zk1 zkc⟩) ⟨by decide, by decide, Nat.le_of_ble_eq_true rfl, Nat.le_of_ble_eq_true rfl⟩ h ?_
  rintro r M ⟨rfl, hk, hm⟩
  show zGo X l 100 kc ks 350 809 [(3, .int (0 : Int32)), (2, .ref 336), (1, .ref 6), (0, .ref 0)] [.int v] M _
  refine zs_aload_n (pc := 809) t350_809 rfl ?_
  refine zs_aload_n (pc := 810) t350_810 rfl ?_
  refine zs_iload_n (pc := 811) t350_811 rfl ?_
  refine zs_iconst (pc := 812) t350_812 (v := 1) (by decide) ?_
  refine zs_iadd (pc := 813) t350_813 (c := 1) (by decide) ?_
  refine zs_sald (pc := 814) t350_814 (j := 1) li1 (by rw [hL]; decide) rfl ?_
  refine zs_aload_n (pc := 815) t350_815 rfl ?_
  refine zs_iload_n (pc := 816) t350_816 rfl ?_
  refine zs_iconst (pc := 817) t350_817 (v := 2) (by decide) ?_
  refine zs_iadd (pc := 818) t350_818 (c := 2) (by decide) ?_
  refine zs_sald (pc := 819) t350_819 (j := 2) li2 (by rw [hL]; decide) rfl ?_
  refine zs_aload_n (pc := 820) t350_820 rfl ?_
  refine zs_iload_n (pc := 821) t350_821 rfl ?_
  refine zs_iconst (pc := 822) t350_822 (v := 3) (by decide) ?_
  refine zs_iadd (pc := 823) t350_823 (c := 3) (by decide) ?_
  refine zs_sald (pc := 824) t350_824 (j := 3) li3 (by rw [hL]; decide) rfl ?_
  refine zs_aload_n (pc := 825) t350_825 rfl ?_
  refine zs_iload_n (pc := 826) t350_826 rfl ?_
  refine zs_iconst (pc := 827) t350_827 (v := 4) (by decide) ?_
  refine zs_iadd (pc := 828) t350_828 (c := 4) (by decide) ?_
  refine zs_sald (pc := 829) t350_829 (j := 4) li4 (by rw [hL]; decide) rfl ?_
  refine zs_aload_n (pc := 830) t350_830 rfl ?_
  refine zs_iload_n (pc := 831) t350_831 rfl ?_
  refine zs_iconst (pc := 832) t350_832 (v := 5) (by decide) ?_
  refine zs_iadd (pc := 833) t350_833 (c := 5) (by decide) ?_
  refine zs_sald (pc := 834) t350_834 (j := 5) li5 (by rw [hL]; decide) rfl ?_
  refine zs_invV (pc := 835) (k := 336) (as' := [.int (X.2.2.2.2.2.2 1), .int (X.2.2.2.2.2.2 2), .int (X.2.2.2.2.2.2 3), .int (X.2.2.2.2.2.2 4), .int (X.2.2.2.2.2.2 5)]) (st := [.int v]) t350_835 mf323 rfl rfl (Or.inl ⟨by decide, zk1 hk⟩) ⟨by decide, by decide, Nat.le_of_ble_eq_true rfl, Nat.le_of_ble_eq_true rfl⟩ hm ?_
  rintro r M rfl
  show zGo X l 100 kc ks 350 838 [(3, .int (0 : Int32)), (2, .ref 336), (1, .ref 6), (0, .ref 0)] [.int v, .int v] M _
  refine zs_icmp_eqT (pc := 838) t350_838 rfl rfl rfl ?_
  exact law_t hL
theorem law22 (hL : X.2.2.2.2.2.1 = 6) : zGo X l 100 kc ks 350 843 [(3, .int (0 : Int32)), (2, .ref 336), (1, .ref 6), (0, .ref 0)] [] zMe (fun r _ => r = some (.int 1)) := by
  obtain ⟨v, h⟩ := pr22 (X := X) (l := l) (X.2.2.2.2.2.2 1) (X.2.2.2.2.2.2 2) (X.2.2.2.2.2.2 3)
  refine zs_aload_n (pc := 843) t350_843 rfl ?_
  refine zs_aload_n (pc := 844) t350_844 rfl ?_
  refine zs_iload_n (pc := 845) t350_845 rfl ?_
  refine zs_iconst (pc := 846) t350_846 (v := 1) (by decide) ?_
  refine zs_iadd (pc := 847) t350_847 (c := 1) (by decide) ?_
  refine zs_sald (pc := 848) t350_848 (j := 1) li1 (by rw [hL]; decide) rfl ?_
  refine zs_aload_n (pc := 849) t350_849 rfl ?_
  refine zs_iload_n (pc := 850) t350_850 rfl ?_
  refine zs_iconst (pc := 851) t350_851 (v := 2) (by decide) ?_
  refine zs_iadd (pc := 852) t350_852 (c := 2) (by decide) ?_
  refine zs_sald (pc := 853) t350_853 (j := 2) li2 (by rw [hL]; decide) rfl ?_
  refine zs_aload_n (pc := 854) t350_854 rfl ?_
  refine zs_iload_n (pc := 855) t350_855 rfl ?_
  refine zs_iconst (pc := 856) t350_856 (v := 3) (by decide) ?_
  refine zs_iadd (pc := 857) t350_857 (c := 3) (by decide) ?_
  refine zs_sald (pc := 858) t350_858 (j := 3) li3 (by rw [hL]; decide) rfl ?_
  refine zs_invV (pc := 859) (k := 6) (as' := [.int (X.2.2.2.2.2.2 1), .int (X.2.2.2.2.2.2 2), .int (X.2.2.2.2.2.2 3)]) (st := []) t350_859 mf193 rfl rfl (Or.inl ⟨by decide, zk1 zkc⟩) ⟨by decide, by decide, Nat.le_of_ble_eq_true rfl, Nat.le_of_ble_eq_true rfl⟩ h ?_
  rintro r M ⟨rfl, hk, hm⟩
  show zGo X l 100 kc ks 350 862 [(3, .int (0 : Int32)), (2, .ref 336), (1, .ref 6), (0, .ref 0)] [.int v] M _
  refine zs_aload_n (pc := 862) t350_862 rfl ?_
  refine zs_aload_n (pc := 863) t350_863 rfl ?_
  refine zs_iload_n (pc := 864) t350_864 rfl ?_
  refine zs_iconst (pc := 865) t350_865 (v := 1) (by decide) ?_
  refine zs_iadd (pc := 866) t350_866 (c := 1) (by decide) ?_
  refine zs_sald (pc := 867) t350_867 (j := 1) li1 (by rw [hL]; decide) rfl ?_
  refine zs_aload_n (pc := 868) t350_868 rfl ?_
  refine zs_iload_n (pc := 869) t350_869 rfl ?_
  refine zs_iconst (pc := 870) t350_870 (v := 2) (by decide) ?_
  refine zs_iadd (pc := 871) t350_871 (c := 2) (by decide) ?_
  refine zs_sald (pc := 872) t350_872 (j := 2) li2 (by rw [hL]; decide) rfl ?_
  refine zs_aload_n (pc := 873) t350_873 rfl ?_
  refine zs_iload_n (pc := 874) t350_874 rfl ?_
  refine zs_iconst (pc := 875) t350_875 (v := 3) (by decide) ?_
  refine zs_iadd (pc := 876) t350_876 (c := 3) (by decide) ?_
  refine zs_sald (pc := 877) t350_877 (j := 3) li3 (by rw [hL]; decide) rfl ?_
  refine zs_invV (pc := 878) (k := 336) (as' := [.int (X.2.2.2.2.2.2 1), .int (X.2.2.2.2.2.2 2), .int (X.2.2.2.2.2.2 3)]) (st := [.int v]) t350_878 mf326 rfl rfl (Or.inl ⟨by decide, zk1 hk⟩) ⟨by decide, by decide, Nat.le_of_ble_eq_true rfl, Nat.le_of_ble_eq_true rfl⟩ hm ?_
  rintro r M rfl
  show zGo X l 100 kc ks 350 881 [(3, .int (0 : Int32)), (2, .ref 336), (1, .ref 6), (0, .ref 0)] [.int v, .int v] M _
  refine zs_icmp_eqT (pc := 881) t350_881 rfl rfl rfl ?_
  exact law_t hL
theorem law23 (hL : X.2.2.2.2.2.1 = 6) : zGo X l 100 kc ks 350 886 [(3, .int (0 : Int32)), (2, .ref 336), (1, .ref 6), (0, .ref 0)] [] zMe (fun r _ => r = some (.int 1)) := by
  obtain ⟨v, h⟩ := pr23 (X := X) (l := l) (X.2.2.2.2.2.2 1)
  refine zs_aload_n (pc := 886) t350_886 rfl ?_
  refine zs_aload_n (pc := 887) t350_887 rfl ?_
  refine zs_iload_n (pc := 888) t350_888 rfl ?_
  refine zs_iconst (pc := 889) t350_889 (v := 1) (by decide) ?_
  refine zs_iadd (pc := 890) t350_890 (c := 1) (by decide) ?_
  refine zs_sald (pc := 891) t350_891 (j := 1) li1 (by rw [hL]; decide) rfl ?_
  refine zs_invV (pc := 892) (k := 6) (as' := [.int (X.2.2.2.2.2.2 1)]) (st := []) t350_892 mf194 rfl rfl (Or.inl ⟨by decide, zk1 zkc⟩) ⟨by decide, by decide, Nat.le_of_ble_eq_true rfl, Nat.le_of_ble_eq_true rfl⟩ h ?_
  rintro r M ⟨rfl, hk, hm⟩
  show zGo X l 100 kc ks 350 895 [(3, .int (0 : Int32)), (2, .ref 336), (1, .ref 6), (0, .ref 0)] [.int v] M _
  refine zs_aload_n (pc := 895) t350_895 rfl ?_
  refine zs_aload_n (pc := 896) t350_896 rfl ?_
  refine zs_iload_n (pc := 897) t350_897 rfl ?_
  refine zs_iconst (pc := 898) t350_898 (v := 1) (by decide) ?_
  refine zs_iadd (pc := 899) t350_899 (c := 1) (by decide) ?_
  refine zs_sald (pc := 900) t350_900 (j := 1) li1 (by rw [hL]; decide) rfl ?_
  refine zs_invV (pc := 901) (k := 336) (as' := [.int (X.2.2.2.2.2.2 1)]) (st := [.int v]) t350_901 mf327 rfl rfl (Or.inl ⟨by decide, zk1 hk⟩) ⟨by decide, by decide, Nat.le_of_ble_eq_true rfl, Nat.le_of_ble_eq_true rfl⟩ hm ?_
  rintro r M rfl
  show zGo X l 100 kc ks 350 904 [(3, .int (0 : Int32)), (2, .ref 336), (1, .ref 6), (0, .ref 0)] [.int v, .int v] M _
  refine zs_icmp_eqT (pc := 904) t350_904 rfl rfl rfl ?_
  exact law_t hL
theorem law24 (hL : X.2.2.2.2.2.1 = 6) : zGo X l 100 kc ks 350 909 [(3, .int (0 : Int32)), (2, .ref 336), (1, .ref 6), (0, .ref 0)] [] zMe (fun r _ => r = some (.int 1)) := by
  obtain ⟨v, h⟩ := pr24 (X := X) (l := l) (X.2.2.2.2.2.2 1)
  refine zs_aload_n (pc := 909) t350_909 rfl ?_
  refine zs_aload_n (pc := 910) t350_910 rfl ?_
  refine zs_iload_n (pc := 911) t350_911 rfl ?_
  refine zs_iconst (pc := 912) t350_912 (v := 1) (by decide) ?_
  refine zs_iadd (pc := 913) t350_913 (c := 1) (by decide) ?_
  refine zs_sald (pc := 914) t350_914 (j := 1) li1 (by rw [hL]; decide) rfl ?_
  refine zs_invV (pc := 915) (k := 6) (as' := [.int (X.2.2.2.2.2.2 1)]) (st := []) t350_915 mf196 rfl rfl (Or.inl ⟨by decide, zk1 zkc⟩) ⟨by decide, by decide, Nat.le_of_ble_eq_true rfl, Nat.le_of_ble_eq_true rfl⟩ h ?_
  rintro r M ⟨rfl, hk, hm⟩
  show zGo X l 100 kc ks 350 918 [(3, .int (0 : Int32)), (2, .ref 336), (1, .ref 6), (0, .ref 0)] [.int v] M _
  refine zs_aload_n (pc := 918) t350_918 rfl ?_
  refine zs_aload_n (pc := 919) t350_919 rfl ?_
  refine zs_iload_n (pc := 920) t350_920 rfl ?_
  refine zs_iconst (pc := 921) t350_921 (v := 1) (by decide) ?_
  refine zs_iadd (pc := 922) t350_922 (c := 1) (by decide) ?_
  refine zs_sald (pc := 923) t350_923 (j := 1) li1 (by rw [hL]; decide) rfl ?_
  refine zs_invV (pc := 924) (k := 336) (as' := [.int (X.2.2.2.2.2.2 1)]) (st := [.int v]) t350_924 mf328 rfl rfl (Or.inl ⟨by decide, zk1 hk⟩) ⟨by decide, by decide, Nat.le_of_ble_eq_true rfl, Nat.le_of_ble_eq_true rfl⟩ hm ?_
  rintro r M rfl
  show zGo X l 100 kc ks 350 927 [(3, .int (0 : Int32)), (2, .ref 336), (1, .ref 6), (0, .ref 0)] [.int v, .int v] M _
  refine zs_icmp_eqT (pc := 927) t350_927 rfl rfl rfl ?_
  exact law_t hL
theorem law25 (hL : X.2.2.2.2.2.1 = 6) : zGo X l 100 kc ks 350 932 [(3, .int (0 : Int32)), (2, .ref 336), (1, .ref 6), (0, .ref 0)] [] zMe (fun r _ => r = some (.int 1)) := by
  obtain ⟨v, h⟩ := pr25 (X := X) (l := l) (X.2.2.2.2.2.2 1) (X.2.2.2.2.2.2 2) (X.2.2.2.2.2.2 3)
  refine zs_aload_n (pc := 932) t350_932 rfl ?_
  refine zs_aload_n (pc := 933) t350_933 rfl ?_
  refine zs_iload_n (pc := 934) t350_934 rfl ?_
  refine zs_iconst (pc := 935) t350_935 (v := 1) (by decide) ?_
  refine zs_iadd (pc := 936) t350_936 (c := 1) (by decide) ?_
  refine zs_sald (pc := 937) t350_937 (j := 1) li1 (by rw [hL]; decide) rfl ?_
  refine zs_aload_n (pc := 938) t350_938 rfl ?_
  refine zs_iload_n (pc := 939) t350_939 rfl ?_
  refine zs_iconst (pc := 940) t350_940 (v := 2) (by decide) ?_
  refine zs_iadd (pc := 941) t350_941 (c := 2) (by decide) ?_
  refine zs_sald (pc := 942) t350_942 (j := 2) li2 (by rw [hL]; decide) rfl ?_
  refine zs_aload_n (pc := 943) t350_943 rfl ?_
  refine zs_iload_n (pc := 944) t350_944 rfl ?_
  refine zs_iconst (pc := 945) t350_945 (v := 3) (by decide) ?_
  refine zs_iadd (pc := 946) t350_946 (c := 3) (by decide) ?_
  refine zs_sald (pc := 947) t350_947 (j := 3) li3 (by rw [hL]; decide) rfl ?_
  refine zs_invV (pc := 948) (k := 6) (as' := [.int (X.2.2.2.2.2.2 1), .int (X.2.2.2.2.2.2 2), .int (X.2.2.2.2.2.2 3)]) (st := []) t350_948 mf89 rfl rfl (Or.inl ⟨by decide, zk1 zkc⟩) ⟨by decide, by decide, Nat.le_of_ble_eq_true rfl, Nat.le_of_ble_eq_true rfl⟩ h ?_
  rintro r M ⟨rfl, hk, hm⟩
  show zGo X l 100 kc ks 350 951 [(3, .int (0 : Int32)), (2, .ref 336), (1, .ref 6), (0, .ref 0)] [.int v] M _
  refine zs_aload_n (pc := 951) t350_951 rfl ?_
  refine zs_aload_n (pc := 952) t350_952 rfl ?_
  refine zs_iload_n (pc := 953) t350_953 rfl ?_
  refine zs_iconst (pc := 954) t350_954 (v := 1) (by decide) ?_
  refine zs_iadd (pc := 955) t350_955 (c := 1) (by decide) ?_
  refine zs_sald (pc := 956) t350_956 (j := 1) li1 (by rw [hL]; decide) rfl ?_
  refine zs_aload_n (pc := 957) t350_957 rfl ?_
  refine zs_iload_n (pc := 958) t350_958 rfl ?_
  refine zs_iconst (pc := 959) t350_959 (v := 2) (by decide) ?_
  refine zs_iadd (pc := 960) t350_960 (c := 2) (by decide) ?_
  refine zs_sald (pc := 961) t350_961 (j := 2) li2 (by rw [hL]; decide) rfl ?_
  refine zs_aload_n (pc := 962) t350_962 rfl ?_
  refine zs_iload_n (pc := 963) t350_963 rfl ?_
  refine zs_iconst (pc := 964) t350_964 (v := 3) (by decide) ?_
  refine zs_iadd (pc := 965) t350_965 (c := 3) (by decide) ?_
  refine zs_sald (pc := 966) t350_966 (j := 3) li3 (by rw [hL]; decide) rfl ?_
  refine zs_invV (pc := 967) (k := 336) (as' := [.int (X.2.2.2.2.2.2 1), .int (X.2.2.2.2.2.2 2), .int (X.2.2.2.2.2.2 3)]) (st := [.int v]) t350_967 mf331 rfl rfl (Or.inl ⟨by decide, zk1 hk⟩) ⟨by decide, by decide, Nat.le_of_ble_eq_true rfl, Nat.le_of_ble_eq_true rfl⟩ hm ?_
  rintro r M rfl
  show zGo X l 100 kc ks 350 970 [(3, .int (0 : Int32)), (2, .ref 336), (1, .ref 6), (0, .ref 0)] [.int v, .int v] M _
  refine zs_icmp_eqT (pc := 970) t350_970 rfl rfl rfl ?_
  exact law_t hL
theorem law26 (hL : X.2.2.2.2.2.1 = 6) : zGo X l 100 kc ks 350 975 [(3, .int (0 : Int32)), (2, .ref 336), (1, .ref 6), (0, .ref 0)] [] zMe (fun r _ => r = some (.int 1)) := by
  obtain ⟨v, h⟩ := pr26 (X := X) (l := l) (X.2.2.2.2.2.2 1)
  refine zs_aload_n (pc := 975) t350_975 rfl ?_
  refine zs_aload_n (pc := 976) t350_976 rfl ?_
  refine zs_iload_n (pc := 977) t350_977 rfl ?_
  refine zs_iconst (pc := 978) t350_978 (v := 1) (by decide) ?_
  refine zs_iadd (pc := 979) t350_979 (c := 1) (by decide) ?_
  refine zs_sald (pc := 980) t350_980 (j := 1) li1 (by rw [hL]; decide) rfl ?_
  refine zs_invV (pc := 981) (k := 6) (as' := [.int (X.2.2.2.2.2.2 1)]) (st := []) t350_981 mf90 rfl rfl (Or.inl ⟨by decide, zk1 zkc⟩) ⟨by decide, by decide, Nat.le_of_ble_eq_true rfl, Nat.le_of_ble_eq_true rfl⟩ h ?_
  rintro r M ⟨rfl, hk, hm⟩
  show zGo X l 100 kc ks 350 984 [(3, .int (0 : Int32)), (2, .ref 336), (1, .ref 6), (0, .ref 0)] [.int v] M _
  refine zs_aload_n (pc := 984) t350_984 rfl ?_
  refine zs_aload_n (pc := 985) t350_985 rfl ?_
  refine zs_iload_n (pc := 986) t350_986 rfl ?_
  refine zs_iconst (pc := 987) t350_987 (v := 1) (by decide) ?_
  refine zs_iadd (pc := 988) t350_988 (c := 1) (by decide) ?_
  refine zs_sald (pc := 989) t350_989 (j := 1) li1 (by rw [hL]; decide) rfl ?_
  refine zs_invV (pc := 990) (k := 336) (as' := [.int (X.2.2.2.2.2.2 1)]) (st := [.int v]) t350_990 mf332 rfl rfl (Or.inl ⟨by decide, zk1 hk⟩) ⟨by decide, by decide, Nat.le_of_ble_eq_true rfl, Nat.le_of_ble_eq_true rfl⟩ hm ?_
  rintro r M rfl
  show zGo X l 100 kc ks 350 993 [(3, .int (0 : Int32)), (2, .ref 336), (1, .ref 6), (0, .ref 0)] [.int v, .int v] M _
  refine zs_icmp_eqT (pc := 993) t350_993 rfl rfl rfl ?_
  exact law_t hL
theorem law27 (hL : X.2.2.2.2.2.1 = 6) : zGo X l 100 kc ks 350 998 [(3, .int (0 : Int32)), (2, .ref 336), (1, .ref 6), (0, .ref 0)] [] zMe (fun r _ => r = some (.int 1)) := by
  obtain ⟨v, h⟩ := pr27 (X := X) (l := l) (X.2.2.2.2.2.2 1)
  refine zs_aload_n (pc := 998) t350_998 rfl ?_
  refine zs_aload_n (pc := 999) t350_999 rfl ?_
  refine zs_iload_n (pc := 1000) t350_1000 rfl ?_
  refine zs_iconst (pc := 1001) t350_1001 (v := 1) (by decide) ?_
  refine zs_iadd (pc := 1002) t350_1002 (c := 1) (by decide) ?_
  refine zs_sald (pc := 1003) t350_1003 (j := 1) li1 (by rw [hL]; decide) rfl ?_
  refine zs_invV (pc := 1004) (k := 6) (as' := [.int (X.2.2.2.2.2.2 1)]) (st := []) t350_1004 mf94 rfl rfl (Or.inl ⟨by decide, zk1 zkc⟩) ⟨by decide, by decide, Nat.le_of_ble_eq_true rfl, Nat.le_of_ble_eq_true rfl⟩ h ?_
  rintro r M ⟨rfl, hk, hm⟩
  show zGo X l 100 kc ks 350 1007 [(3, .int (0 : Int32)), (2, .ref 336), (1, .ref 6), (0, .ref 0)] [.int v] M _
  refine zs_aload_n (pc := 1007) t350_1007 rfl ?_
  refine zs_aload_n (pc := 1008) t350_1008 rfl ?_
  refine zs_iload_n (pc := 1009) t350_1009 rfl ?_
  refine zs_iconst (pc := 1010) t350_1010 (v := 1) (by decide) ?_
  refine zs_iadd (pc := 1011) t350_1011 (c := 1) (by decide) ?_
  refine zs_sald (pc := 1012) t350_1012 (j := 1) li1 (by rw [hL]; decide) rfl ?_
  refine zs_invV (pc := 1013) (k := 336) (as' := [.int (X.2.2.2.2.2.2 1)]) (st := [.int v]) t350_1013 mf333 rfl rfl (Or.inl ⟨by decide, zk1 hk⟩) ⟨by decide, by decide, Nat.le_of_ble_eq_true rfl, Nat.le_of_ble_eq_true rfl⟩ hm ?_
  rintro r M rfl
  show zGo X l 100 kc ks 350 1016 [(3, .int (0 : Int32)), (2, .ref 336), (1, .ref 6), (0, .ref 0)] [.int v, .int v] M _
  refine zs_icmp_eqT (pc := 1016) t350_1016 rfl rfl rfl ?_
  exact law_t hL
theorem law28 (hL : X.2.2.2.2.2.1 = 6) : zGo X l 100 kc ks 350 1021 [(3, .int (0 : Int32)), (2, .ref 336), (1, .ref 6), (0, .ref 0)] [] zMe (fun r _ => r = some (.int 1)) := by
  obtain ⟨v, h⟩ := pr28 (X := X) (l := l) (X.2.2.2.2.2.2 1)
  refine zs_aload_n (pc := 1021) t350_1021 rfl ?_
  refine zs_aload_n (pc := 1022) t350_1022 rfl ?_
  refine zs_iload_n (pc := 1023) t350_1023 rfl ?_
  refine zs_iconst (pc := 1024) t350_1024 (v := 1) (by decide) ?_
  refine zs_iadd (pc := 1025) t350_1025 (c := 1) (by decide) ?_
  refine zs_sald (pc := 1026) t350_1026 (j := 1) li1 (by rw [hL]; decide) rfl ?_
  refine zs_invV (pc := 1027) (k := 6) (as' := [.int (X.2.2.2.2.2.2 1)]) (st := []) t350_1027 mf95 rfl rfl (Or.inl ⟨by decide, zk1 zkc⟩) ⟨by decide, by decide, Nat.le_of_ble_eq_true rfl, Nat.le_of_ble_eq_true rfl⟩ h ?_
  rintro r M ⟨rfl, hk, hm⟩
  show zGo X l 100 kc ks 350 1030 [(3, .int (0 : Int32)), (2, .ref 336), (1, .ref 6), (0, .ref 0)] [.int v] M _
  refine zs_aload_n (pc := 1030) t350_1030 rfl ?_
  refine zs_aload_n (pc := 1031) t350_1031 rfl ?_
  refine zs_iload_n (pc := 1032) t350_1032 rfl ?_
  refine zs_iconst (pc := 1033) t350_1033 (v := 1) (by decide) ?_
  refine zs_iadd (pc := 1034) t350_1034 (c := 1) (by decide) ?_
  refine zs_sald (pc := 1035) t350_1035 (j := 1) li1 (by rw [hL]; decide) rfl ?_
  refine zs_invV (pc := 1036) (k := 336) (as' := [.int (X.2.2.2.2.2.2 1)]) (st := [.int v]) t350_1036 mf334 rfl rfl (Or.inl ⟨by decide, zk1 hk⟩) ⟨by decide, by decide, Nat.le_of_ble_eq_true rfl, Nat.le_of_ble_eq_true rfl⟩ hm ?_
  rintro r M rfl
  show zGo X l 100 kc ks 350 1039 [(3, .int (0 : Int32)), (2, .ref 336), (1, .ref 6), (0, .ref 0)] [.int v, .int v] M _
  refine zs_icmp_eqT (pc := 1039) t350_1039 rfl rfl rfl ?_
  exact law_t hL
theorem law29 (hL : X.2.2.2.2.2.1 = 6) : zGo X l 100 kc ks 350 1044 [(3, .int (0 : Int32)), (2, .ref 336), (1, .ref 6), (0, .ref 0)] [] zMe (fun r _ => r = some (.int 1)) := by
  obtain ⟨v, h⟩ := pr29 (X := X) (l := l) (X.2.2.2.2.2.2 1) (X.2.2.2.2.2.2 2) (X.2.2.2.2.2.2 3)
  refine zs_aload_n (pc := 1044) t350_1044 rfl ?_
  refine zs_aload_n (pc := 1045) t350_1045 rfl ?_
  refine zs_iload_n (pc := 1046) t350_1046 rfl ?_
  refine zs_iconst (pc := 1047) t350_1047 (v := 1) (by decide) ?_
  refine zs_iadd (pc := 1048) t350_1048 (c := 1) (by decide) ?_
  refine zs_sald (pc := 1049) t350_1049 (j := 1) li1 (by rw [hL]; decide) rfl ?_
  refine zs_aload_n (pc := 1050) t350_1050 rfl ?_
  refine zs_iload_n (pc := 1051) t350_1051 rfl ?_
  refine zs_iconst (pc := 1052) t350_1052 (v := 2) (by decide) ?_
  refine zs_iadd (pc := 1053) t350_1053 (c := 2) (by decide) ?_
  refine zs_sald (pc := 1054) t350_1054 (j := 2) li2 (by rw [hL]; decide) rfl ?_
  refine zs_aload_n (pc := 1055) t350_1055 rfl ?_
  refine zs_iload_n (pc := 1056) t350_1056 rfl ?_
  refine zs_iconst (pc := 1057) t350_1057 (v := 3) (by decide) ?_
  refine zs_iadd (pc := 1058) t350_1058 (c := 3) (by decide) ?_
  refine zs_sald (pc := 1059) t350_1059 (j := 3) li3 (by rw [hL]; decide) rfl ?_
  refine zs_invV (pc := 1060) (k := 6) (as' := [.int (X.2.2.2.2.2.2 1), .int (X.2.2.2.2.2.2 2), .int (X.2.2.2.2.2.2 3)]) (st := []) t350_1060 mf200 rfl rfl (Or.inl ⟨by decide, zk1 zkc⟩) ⟨by decide, by decide, Nat.le_of_ble_eq_true rfl, Nat.le_of_ble_eq_true rfl⟩ h ?_
  rintro r M ⟨rfl, hk, hm⟩
  show zGo X l 100 kc ks 350 1063 [(3, .int (0 : Int32)), (2, .ref 336), (1, .ref 6), (0, .ref 0)] [.long v] M _
  refine zs_aload_n (pc := 1063) t350_1063 rfl ?_
  refine zs_aload_n (pc := 1064) t350_1064 rfl ?_
  refine zs_iload_n (pc := 1065) t350_1065 rfl ?_
  refine zs_iconst (pc := 1066) t350_1066 (v := 1) (by decide) ?_
  refine zs_iadd (pc := 1067) t350_1067 (c := 1) (by decide) ?_
  refine zs_sald (pc := 1068) t350_1068 (j := 1) li1 (by rw [hL]; decide) rfl ?_
  refine zs_aload_n (pc := 1069) t350_1069 rfl ?_
  refine zs_iload_n (pc := 1070) t350_1070 rfl ?_
  refine zs_iconst (pc := 1071) t350_1071 (v := 2) (by decide) ?_
  refine zs_iadd (pc := 1072) t350_1072 (c := 2) (by decide) ?_
  refine zs_sald (pc := 1073) t350_1073 (j := 2) li2 (by rw [hL]; decide) rfl ?_
  refine zs_aload_n (pc := 1074) t350_1074 rfl ?_
  refine zs_iload_n (pc := 1075) t350_1075 rfl ?_
  refine zs_iconst (pc := 1076) t350_1076 (v := 3) (by decide) ?_
  refine zs_iadd (pc := 1077) t350_1077 (c := 3) (by decide) ?_
  refine zs_sald (pc := 1078) t350_1078 (j := 3) li3 (by rw [hL]; decide) rfl ?_
  refine zs_invV (pc := 1079) (k := 336) (as' := [.int (X.2.2.2.2.2.2 1), .int (X.2.2.2.2.2.2 2), .int (X.2.2.2.2.2.2 3)]) (st := [.long v]) t350_1079 mf300 rfl rfl (Or.inl ⟨by decide, zk1 hk⟩) ⟨by decide, by decide, Nat.le_of_ble_eq_true rfl, Nat.le_of_ble_eq_true rfl⟩ hm ?_
  rintro r M rfl
  show zGo X l 100 kc ks 350 1082 [(3, .int (0 : Int32)), (2, .ref 336), (1, .ref 6), (0, .ref 0)] [.long v, .long v] M _
  refine zs_lcmp (pc := 1082) t350_1082 (c := 0) (zlcE rfl rfl rfl) ?_
  refine zs_if_eqT (pc := 1083) t350_1083 li0 rfl ?_
  exact law_t hL
theorem law30 (hL : X.2.2.2.2.2.1 = 6) : zGo X l 100 kc ks 350 1088 [(3, .int (0 : Int32)), (2, .ref 336), (1, .ref 6), (0, .ref 0)] [] zMe (fun r _ => r = some (.int 1)) := by
  obtain ⟨v, h⟩ := pr30 (X := X) (l := l) (X.2.2.2.2.2.2 1) (X.2.2.2.2.2.2 2)
  refine zs_aload_n (pc := 1088) t350_1088 rfl ?_
  refine zs_aload_n (pc := 1089) t350_1089 rfl ?_
  refine zs_iload_n (pc := 1090) t350_1090 rfl ?_
  refine zs_iconst (pc := 1091) t350_1091 (v := 1) (by decide) ?_
  refine zs_iadd (pc := 1092) t350_1092 (c := 1) (by decide) ?_
  refine zs_sald (pc := 1093) t350_1093 (j := 1) li1 (by rw [hL]; decide) rfl ?_
  refine zs_aload_n (pc := 1094) t350_1094 rfl ?_
  refine zs_iload_n (pc := 1095) t350_1095 rfl ?_
  refine zs_iconst (pc := 1096) t350_1096 (v := 2) (by decide) ?_
  refine zs_iadd (pc := 1097) t350_1097 (c := 2) (by decide) ?_
  refine zs_sald (pc := 1098) t350_1098 (j := 2) li2 (by rw [hL]; decide) rfl ?_
  refine zs_invV (pc := 1099) (k := 6) (as' := [.int (X.2.2.2.2.2.2 1), .int (X.2.2.2.2.2.2 2)]) (st := []) t350_1099 mf201 rfl rfl (Or.inl ⟨by decide, zk1 zkc⟩) ⟨by decide, by decide, Nat.le_of_ble_eq_true rfl, Nat.le_of_ble_eq_true rfl⟩ h ?_
  rintro r M ⟨rfl, hk, hm⟩
  show zGo X l 100 kc ks 350 1102 [(3, .int (0 : Int32)), (2, .ref 336), (1, .ref 6), (0, .ref 0)] [.int v] M _
  refine zs_aload_n (pc := 1102) t350_1102 rfl ?_
  refine zs_aload_n (pc := 1103) t350_1103 rfl ?_
  refine zs_iload_n (pc := 1104) t350_1104 rfl ?_
  refine zs_iconst (pc := 1105) t350_1105 (v := 1) (by decide) ?_
  refine zs_iadd (pc := 1106) t350_1106 (c := 1) (by decide) ?_
  refine zs_sald (pc := 1107) t350_1107 (j := 1) li1 (by rw [hL]; decide) rfl ?_
  refine zs_aload_n (pc := 1108) t350_1108 rfl ?_
  refine zs_iload_n (pc := 1109) t350_1109 rfl ?_
  refine zs_iconst (pc := 1110) t350_1110 (v := 2) (by decide) ?_
  refine zs_iadd (pc := 1111) t350_1111 (c := 2) (by decide) ?_
  refine zs_sald (pc := 1112) t350_1112 (j := 2) li2 (by rw [hL]; decide) rfl ?_
  refine zs_invV (pc := 1113) (k := 336) (as' := [.int (X.2.2.2.2.2.2 1), .int (X.2.2.2.2.2.2 2)]) (st := [.int v]) t350_1113 mf336 rfl rfl (Or.inl ⟨by decide, zk1 hk⟩) ⟨by decide, by decide, Nat.le_of_ble_eq_true rfl, Nat.le_of_ble_eq_true rfl⟩ hm ?_
  rintro r M rfl
  show zGo X l 100 kc ks 350 1116 [(3, .int (0 : Int32)), (2, .ref 336), (1, .ref 6), (0, .ref 0)] [.int v, .int v] M _
  refine zs_icmp_eqT (pc := 1116) t350_1116 rfl rfl rfl ?_
  exact law_t hL
theorem law31 (hL : X.2.2.2.2.2.1 = 6) : zGo X l 100 kc ks 350 1121 [(3, .int (0 : Int32)), (2, .ref 336), (1, .ref 6), (0, .ref 0)] [] zMe (fun r _ => r = some (.int 1)) := by
  obtain ⟨v, h⟩ := pr31 (X := X) (l := l) (X.2.2.2.2.2.2 1)
  refine zs_aload_n (pc := 1121) t350_1121 rfl ?_
  refine zs_aload_n (pc := 1122) t350_1122 rfl ?_
  refine zs_iload_n (pc := 1123) t350_1123 rfl ?_
  refine zs_iconst (pc := 1124) t350_1124 (v := 1) (by decide) ?_
  refine zs_iadd (pc := 1125) t350_1125 (c := 1) (by decide) ?_
  refine zs_sald (pc := 1126) t350_1126 (j := 1) li1 (by rw [hL]; decide) rfl ?_
  refine zs_invV (pc := 1127) (k := 6) (as' := [.int (X.2.2.2.2.2.2 1)]) (st := []) t350_1127 mf203 rfl rfl (Or.inl ⟨by decide, zk1 zkc⟩) ⟨by decide, by decide, Nat.le_of_ble_eq_true rfl, Nat.le_of_ble_eq_true rfl⟩ h ?_
  rintro r M ⟨rfl, hk, hm⟩
  show zGo X l 100 kc ks 350 1130 [(3, .int (0 : Int32)), (2, .ref 336), (1, .ref 6), (0, .ref 0)] [.int v] M _
  refine zs_aload_n (pc := 1130) t350_1130 rfl ?_
  refine zs_aload_n (pc := 1131) t350_1131 rfl ?_
  refine zs_iload_n (pc := 1132) t350_1132 rfl ?_
  refine zs_iconst (pc := 1133) t350_1133 (v := 1) (by decide) ?_
  refine zs_iadd (pc := 1134) t350_1134 (c := 1) (by decide) ?_
  refine zs_sald (pc := 1135) t350_1135 (j := 1) li1 (by rw [hL]; decide) rfl ?_
  refine zs_invV (pc := 1136) (k := 336) (as' := [.int (X.2.2.2.2.2.2 1)]) (st := [.int v]) t350_1136 mf338 rfl rfl (Or.inl ⟨by decide, zk1 hk⟩) ⟨by decide, by decide, Nat.le_of_ble_eq_true rfl, Nat.le_of_ble_eq_true rfl⟩ hm ?_
  rintro r M rfl
  show zGo X l 100 kc ks 350 1139 [(3, .int (0 : Int32)), (2, .ref 336), (1, .ref 6), (0, .ref 0)] [.int v, .int v] M _
  refine zs_icmp_eqT (pc := 1139) t350_1139 rfl rfl rfl ?_
  exact law_t hL
theorem law32 (hL : X.2.2.2.2.2.1 = 6) : zGo X l 100 kc ks 350 1144 [(3, .int (0 : Int32)), (2, .ref 336), (1, .ref 6), (0, .ref 0)] [] zMe (fun r _ => r = some (.int 1)) := by
  obtain ⟨v, h⟩ := pr32 (X := X) (l := l) (X.2.2.2.2.2.2 1) (X.2.2.2.2.2.2 2)
  refine zs_aload_n (pc := 1144) t350_1144 rfl ?_
  refine zs_aload_n (pc := 1145) t350_1145 rfl ?_
  refine zs_iload_n (pc := 1146) t350_1146 rfl ?_
  refine zs_iconst (pc := 1147) t350_1147 (v := 1) (by decide) ?_
  refine zs_iadd (pc := 1148) t350_1148 (c := 1) (by decide) ?_
  refine zs_sald (pc := 1149) t350_1149 (j := 1) li1 (by rw [hL]; decide) rfl ?_
  refine zs_aload_n (pc := 1150) t350_1150 rfl ?_
  refine zs_iload_n (pc := 1151) t350_1151 rfl ?_
  refine zs_iconst (pc := 1152) t350_1152 (v := 2) (by decide) ?_
  refine zs_iadd (pc := 1153) t350_1153 (c := 2) (by decide) ?_
  refine zs_sald (pc := 1154) t350_1154 (j := 2) li2 (by rw [hL]; decide) rfl ?_
  refine zs_invV (pc := 1155) (k := 6) (as' := [.int (X.2.2.2.2.2.2 1), .int (X.2.2.2.2.2.2 2)]) (st := []) t350_1155 mf204 rfl rfl (Or.inl ⟨by decide, zk1 zkc⟩) ⟨by decide, by decide, Nat.le_of_ble_eq_true rfl, Nat.le_of_ble_eq_true rfl⟩ h ?_
  rintro r M ⟨rfl, hk, hm⟩
  show zGo X l 100 kc ks 350 1158 [(3, .int (0 : Int32)), (2, .ref 336), (1, .ref 6), (0, .ref 0)] [.int v] M _
  refine zs_aload_n (pc := 1158) t350_1158 rfl ?_
  refine zs_aload_n (pc := 1159) t350_1159 rfl ?_
  refine zs_iload_n (pc := 1160) t350_1160 rfl ?_
  refine zs_iconst (pc := 1161) t350_1161 (v := 1) (by decide) ?_
  refine zs_iadd (pc := 1162) t350_1162 (c := 1) (by decide) ?_
  refine zs_sald (pc := 1163) t350_1163 (j := 1) li1 (by rw [hL]; decide) rfl ?_
  refine zs_aload_n (pc := 1164) t350_1164 rfl ?_
  refine zs_iload_n (pc := 1165) t350_1165 rfl ?_
  refine zs_iconst (pc := 1166) t350_1166 (v := 2) (by decide) ?_
  refine zs_iadd (pc := 1167) t350_1167 (c := 2) (by decide) ?_
  refine zs_sald (pc := 1168) t350_1168 (j := 2) li2 (by rw [hL]; decide) rfl ?_
  refine zs_invV (pc := 1169) (k := 336) (as' := [.int (X.2.2.2.2.2.2 1), .int (X.2.2.2.2.2.2 2)]) (st := [.int v]) t350_1169 mf339 rfl rfl (Or.inl ⟨by decide, zk1 hk⟩) ⟨by decide, by decide, Nat.le_of_ble_eq_true rfl, Nat.le_of_ble_eq_true rfl⟩ hm ?_
  rintro r M rfl
  show zGo X l 100 kc ks 350 1172 [(3, .int (0 : Int32)), (2, .ref 336), (1, .ref 6), (0, .ref 0)] [.int v, .int v] M _
  refine zs_icmp_eqT (pc := 1172) t350_1172 rfl rfl rfl ?_
  exact law_t hL
theorem law33 (hL : X.2.2.2.2.2.1 = 6) : zGo X l 100 kc ks 350 1177 [(3, .int (0 : Int32)), (2, .ref 336), (1, .ref 6), (0, .ref 0)] [] zMe (fun r _ => r = some (.int 1)) := by
  obtain ⟨v, h⟩ := pr33 (X := X) (l := l) (X.2.2.2.2.2.2 1) (X.2.2.2.2.2.2 2)
  refine zs_aload_n (pc := 1177) t350_1177 rfl ?_
  refine zs_aload_n (pc := 1178) t350_1178 rfl ?_
  refine zs_iload_n (pc := 1179) t350_1179 rfl ?_
  refine zs_iconst (pc := 1180) t350_1180 (v := 1) (by decide) ?_
  refine zs_iadd (pc := 1181) t350_1181 (c := 1) (by decide) ?_
  refine zs_sald (pc := 1182) t350_1182 (j := 1) li1 (by rw [hL]; decide) rfl ?_
  refine zs_aload_n (pc := 1183) t350_1183 rfl ?_
  refine zs_iload_n (pc := 1184) t350_1184 rfl ?_
  refine zs_iconst (pc := 1185) t350_1185 (v := 2) (by decide) ?_
  refine zs_iadd (pc := 1186) t350_1186 (c := 2) (by decide) ?_
  refine zs_sald (pc := 1187) t350_1187 (j := 2) li2 (by rw [hL]; decide) rfl ?_
  refine zs_invV (pc := 1188) (k := 6) (as' := [.int (X.2.2.2.2.2.2 1), .int (X.2.2.2.2.2.2 2)]) (st := []) t350_1188 mf205 rfl rfl (Or.inl ⟨by decide, zk1 zkc⟩) ⟨by decide, by decide, Nat.le_of_ble_eq_true rfl, Nat.le_of_ble_eq_true rfl⟩ h ?_
  rintro r M ⟨rfl, hk, hm⟩
  show zGo X l 100 kc ks 350 1191 [(3, .int (0 : Int32)), (2, .ref 336), (1, .ref 6), (0, .ref 0)] [.int v] M _
  refine zs_aload_n (pc := 1191) t350_1191 rfl ?_
  refine zs_aload_n (pc := 1192) t350_1192 rfl ?_
  refine zs_iload_n (pc := 1193) t350_1193 rfl ?_
  refine zs_iconst (pc := 1194) t350_1194 (v := 1) (by decide) ?_
  refine zs_iadd (pc := 1195) t350_1195 (c := 1) (by decide) ?_
  refine zs_sald (pc := 1196) t350_1196 (j := 1) li1 (by rw [hL]; decide) rfl ?_
  refine zs_aload_n (pc := 1197) t350_1197 rfl ?_
  refine zs_iload_n (pc := 1198) t350_1198 rfl ?_
  refine zs_iconst (pc := 1199) t350_1199 (v := 2) (by decide) ?_
  refine zs_iadd (pc := 1200) t350_1200 (c := 2) (by decide) ?_
  refine zs_sald (pc := 1201) t350_1201 (j := 2) li2 (by rw [hL]; decide) rfl ?_
  refine zs_invV (pc := 1202) (k := 336) (as' := [.int (X.2.2.2.2.2.2 1), .int (X.2.2.2.2.2.2 2)]) (st := [.int v]) t350_1202 mf340 rfl rfl (Or.inl ⟨by decide, zk1 hk⟩) ⟨by decide, by decide, Nat.le_of_ble_eq_true rfl, Nat.le_of_ble_eq_true rfl⟩ hm ?_
  rintro r M rfl
  show zGo X l 100 kc ks 350 1205 [(3, .int (0 : Int32)), (2, .ref 336), (1, .ref 6), (0, .ref 0)] [.int v, .int v] M _
  refine zs_icmp_eqT (pc := 1205) t350_1205 rfl rfl rfl ?_
  exact law_t hL
theorem law34 (hL : X.2.2.2.2.2.1 = 6) : zGo X l 100 kc ks 350 1210 [(3, .int (0 : Int32)), (2, .ref 336), (1, .ref 6), (0, .ref 0)] [] zMe (fun r _ => r = some (.int 1)) := by
  obtain ⟨v, h⟩ := pr34 (X := X) (l := l) (X.2.2.2.2.2.2 1) (X.2.2.2.2.2.2 2)
  refine zs_aload_n (pc := 1210) t350_1210 rfl ?_
  refine zs_aload_n (pc := 1211) t350_1211 rfl ?_
  refine zs_iload_n (pc := 1212) t350_1212 rfl ?_
  refine zs_iconst (pc := 1213) t350_1213 (v := 1) (by decide) ?_
  refine zs_iadd (pc := 1214) t350_1214 (c := 1) (by decide) ?_
  refine zs_sald (pc := 1215) t350_1215 (j := 1) li1 (by rw [hL]; decide) rfl ?_
  refine zs_aload_n (pc := 1216) t350_1216 rfl ?_
  refine zs_iload_n (pc := 1217) t350_1217 rfl ?_
  refine zs_iconst (pc := 1218) t350_1218 (v := 2) (by decide) ?_
  refine zs_iadd (pc := 1219) t350_1219 (c := 2) (by decide) ?_
  refine zs_sald (pc := 1220) t350_1220 (j := 2) li2 (by rw [hL]; decide) rfl ?_
  refine zs_invV (pc := 1221) (k := 6) (as' := [.int (X.2.2.2.2.2.2 1), .int (X.2.2.2.2.2.2 2)]) (st := []) t350_1221 mf206 rfl rfl (Or.inl ⟨by decide, zk1 zkc⟩) ⟨by decide, by decide, Nat.le_of_ble_eq_true rfl, Nat.le_of_ble_eq_true rfl⟩ h ?_
  rintro r M ⟨rfl, hk, hm⟩
  show zGo X l 100 kc ks 350 1224 [(3, .int (0 : Int32)), (2, .ref 336), (1, .ref 6), (0, .ref 0)] [.int v] M _
  refine zs_aload_n (pc := 1224) t350_1224 rfl ?_
  refine zs_aload_n (pc := 1225) t350_1225 rfl ?_
  refine zs_iload_n (pc := 1226) t350_1226 rfl ?_
  refine zs_iconst (pc := 1227) t350_1227 (v := 1) (by decide) ?_
  refine zs_iadd (pc := 1228) t350_1228 (c := 1) (by decide) ?_
  refine zs_sald (pc := 1229) t350_1229 (j := 1) li1 (by rw [hL]; decide) rfl ?_
  refine zs_aload_n (pc := 1230) t350_1230 rfl ?_
  refine zs_iload_n (pc := 1231) t350_1231 rfl ?_
  refine zs_iconst (pc := 1232) t350_1232 (v := 2) (by decide) ?_
  refine zs_iadd (pc := 1233) t350_1233 (c := 2) (by decide) ?_
  refine zs_sald (pc := 1234) t350_1234 (j := 2) li2 (by rw [hL]; decide) rfl ?_
  refine zs_invV (pc := 1235) (k := 336) (as' := [.int (X.2.2.2.2.2.2 1), .int (X.2.2.2.2.2.2 2)]) (st := [.int v]) t350_1235 mf335 rfl rfl (Or.inl ⟨by decide, zk1 hk⟩) ⟨by decide, by decide, Nat.le_of_ble_eq_true rfl, Nat.le_of_ble_eq_true rfl⟩ hm ?_
  rintro r M rfl
  show zGo X l 100 kc ks 350 1238 [(3, .int (0 : Int32)), (2, .ref 336), (1, .ref 6), (0, .ref 0)] [.int v, .int v] M _
  refine zs_icmp_eqT (pc := 1238) t350_1238 rfl rfl rfl ?_
  exact law_t hL
theorem law35 (hL : X.2.2.2.2.2.1 = 6) : zGo X l 100 kc ks 350 1243 [(3, .int (0 : Int32)), (2, .ref 336), (1, .ref 6), (0, .ref 0)] [] zMe (fun r _ => r = some (.int 1)) := by
  obtain ⟨v, h⟩ := pr35 (X := X) (l := l) (X.2.2.2.2.2.2 1) (X.2.2.2.2.2.2 2)
  refine zs_aload_n (pc := 1243) t350_1243 rfl ?_
  refine zs_aload_n (pc := 1244) t350_1244 rfl ?_
  refine zs_iload_n (pc := 1245) t350_1245 rfl ?_
  refine zs_iconst (pc := 1246) t350_1246 (v := 1) (by decide) ?_
  refine zs_iadd (pc := 1247) t350_1247 (c := 1) (by decide) ?_
  refine zs_sald (pc := 1248) t350_1248 (j := 1) li1 (by rw [hL]; decide) rfl ?_
  refine zs_aload_n (pc := 1249) t350_1249 rfl ?_
  refine zs_iload_n (pc := 1250) t350_1250 rfl ?_
  refine zs_iconst (pc := 1251) t350_1251 (v := 2) (by decide) ?_
  refine zs_iadd (pc := 1252) t350_1252 (c := 2) (by decide) ?_
  refine zs_sald (pc := 1253) t350_1253 (j := 2) li2 (by rw [hL]; decide) rfl ?_
  refine zs_invV (pc := 1254) (k := 6) (as' := [.int (X.2.2.2.2.2.2 1), .int (X.2.2.2.2.2.2 2)]) (st := []) t350_1254 mf207 rfl rfl (Or.inl ⟨by decide, zk1 zkc⟩) ⟨by decide, by decide, Nat.le_of_ble_eq_true rfl, Nat.le_of_ble_eq_true rfl⟩ h ?_
  rintro r M ⟨rfl, hk, hm⟩
  show zGo X l 100 kc ks 350 1257 [(3, .int (0 : Int32)), (2, .ref 336), (1, .ref 6), (0, .ref 0)] [.int v] M _
  refine zs_aload_n (pc := 1257) t350_1257 rfl ?_
  refine zs_aload_n (pc := 1258) t350_1258 rfl ?_
  refine zs_iload_n (pc := 1259) t350_1259 rfl ?_
  refine zs_iconst (pc := 1260) t350_1260 (v := 1) (by decide) ?_
  refine zs_iadd (pc := 1261) t350_1261 (c := 1) (by decide) ?_
  refine zs_sald (pc := 1262) t350_1262 (j := 1) li1 (by rw [hL]; decide) rfl ?_
  refine zs_aload_n (pc := 1263) t350_1263 rfl ?_
  refine zs_iload_n (pc := 1264) t350_1264 rfl ?_
  refine zs_iconst (pc := 1265) t350_1265 (v := 2) (by decide) ?_
  refine zs_iadd (pc := 1266) t350_1266 (c := 2) (by decide) ?_
  refine zs_sald (pc := 1267) t350_1267 (j := 2) li2 (by rw [hL]; decide) rfl ?_
  refine zs_invV (pc := 1268) (k := 336) (as' := [.int (X.2.2.2.2.2.2 1), .int (X.2.2.2.2.2.2 2)]) (st := [.int v]) t350_1268 mf302 rfl rfl (Or.inl ⟨by decide, zk1 hk⟩) ⟨by decide, by decide, Nat.le_of_ble_eq_true rfl, Nat.le_of_ble_eq_true rfl⟩ hm ?_
  rintro r M rfl
  show zGo X l 100 kc ks 350 1271 [(3, .int (0 : Int32)), (2, .ref 336), (1, .ref 6), (0, .ref 0)] [.int v, .int v] M _
  refine zs_icmp_eqT (pc := 1271) t350_1271 rfl rfl rfl ?_
  exact law_t hL
theorem law36 (hL : X.2.2.2.2.2.1 = 6) : zGo X l 100 kc ks 350 1276 [(3, .int (0 : Int32)), (2, .ref 336), (1, .ref 6), (0, .ref 0)] [] zMe (fun r _ => r = some (.int 1)) := by
  obtain ⟨v, h⟩ := pr36 (X := X) (l := l) (X.2.2.2.2.2.2 1) (X.2.2.2.2.2.2 2)
  refine zs_aload_n (pc := 1276) t350_1276 rfl ?_
  refine zs_aload_n (pc := 1277) t350_1277 rfl ?_
  refine zs_iload_n (pc := 1278) t350_1278 rfl ?_
  refine zs_iconst (pc := 1279) t350_1279 (v := 1) (by decide) ?_
  refine zs_iadd (pc := 1280) t350_1280 (c := 1) (by decide) ?_
  refine zs_sald (pc := 1281) t350_1281 (j := 1) li1 (by rw [hL]; decide) rfl ?_
  refine zs_aload_n (pc := 1282) t350_1282 rfl ?_
  refine zs_iload_n (pc := 1283) t350_1283 rfl ?_
  refine zs_iconst (pc := 1284) t350_1284 (v := 2) (by decide) ?_
  refine zs_iadd (pc := 1285) t350_1285 (c := 2) (by decide) ?_
  refine zs_sald (pc := 1286) t350_1286 (j := 2) li2 (by rw [hL]; decide) rfl ?_
  refine zs_invV (pc := 1287) (k := 6) (as' := [.int (X.2.2.2.2.2.2 1), .int (X.2.2.2.2.2.2 2)]) (st := []) t350_1287 mf210 rfl rfl (Or.inl ⟨by decide, zk1 zkc⟩) ⟨by decide, by decide, Nat.le_of_ble_eq_true rfl, Nat.le_of_ble_eq_true rfl⟩ h ?_
  rintro r M ⟨rfl, hk, hm⟩
  show zGo X l 100 kc ks 350 1290 [(3, .int (0 : Int32)), (2, .ref 336), (1, .ref 6), (0, .ref 0)] [.int v] M _
  refine zs_aload_n (pc := 1290) t350_1290 rfl ?_
  refine zs_aload_n (pc := 1291) t350_1291 rfl ?_
  refine zs_iload_n (pc := 1292) t350_1292 rfl ?_
  refine zs_iconst (pc := 1293) t350_1293 (v := 1) (by decide) ?_
  refine zs_iadd (pc := 1294) t350_1294 (c := 1) (by decide) ?_
  refine zs_sald (pc := 1295) t350_1295 (j := 1) li1 (by rw [hL]; decide) rfl ?_
  refine zs_aload_n (pc := 1296) t350_1296 rfl ?_
  refine zs_iload_n (pc := 1297) t350_1297 rfl ?_
  refine zs_iconst (pc := 1298) t350_1298 (v := 2) (by decide) ?_
  refine zs_iadd (pc := 1299) t350_1299 (c := 2) (by decide) ?_
  refine zs_sald (pc := 1300) t350_1300 (j := 2) li2 (by rw [hL]; decide) rfl ?_
  refine zs_invV (pc := 1301) (k := 336) (as' := [.int (X.2.2.2.2.2.2 1), .int (X.2.2.2.2.2.2 2)]) (st := [.int v]) t350_1301 mf341 rfl rfl (Or.inl ⟨by decide, zk1 hk⟩) ⟨by decide, by decide, Nat.le_of_ble_eq_true rfl, Nat.le_of_ble_eq_true rfl⟩ hm ?_
  rintro r M rfl
  show zGo X l 100 kc ks 350 1304 [(3, .int (0 : Int32)), (2, .ref 336), (1, .ref 6), (0, .ref 0)] [.int v, .int v] M _
  refine zs_icmp_eqT (pc := 1304) t350_1304 rfl rfl rfl ?_
  exact law_t hL
theorem law37 (hL : X.2.2.2.2.2.1 = 6) : zGo X l 100 kc ks 350 1309 [(3, .int (0 : Int32)), (2, .ref 336), (1, .ref 6), (0, .ref 0)] [] zMe (fun r _ => r = some (.int 1)) := by
  obtain ⟨v, h⟩ := pr37 (X := X) (l := l) 
  refine zs_aload_n (pc := 1309) t350_1309 rfl ?_
  refine zs_invV (pc := 1310) (k := 6) (as' := []) (st := []) t350_1310 mf212 rfl rfl (Or.inl ⟨by decide, zk1 zkc⟩) ⟨by decide, by decide, Nat.le_of_ble_eq_true rfl, Nat.le_of_ble_eq_true rfl⟩ h ?_
  rintro r M ⟨rfl, hk, hm⟩
  show zGo X l 100 kc ks 350 1313 [(3, .int (0 : Int32)), (2, .ref 336), (1, .ref 6), (0, .ref 0)] [.int v] M _
  refine zs_aload_n (pc := 1313) t350_1313 rfl ?_
  refine zs_invV (pc := 1314) (k := 336) (as' := []) (st := [.int v]) t350_1314 mf225 rfl rfl (Or.inl ⟨by decide, zk1 hk⟩) ⟨by decide, by decide, Nat.le_of_ble_eq_true rfl, Nat.le_of_ble_eq_true rfl⟩ hm ?_
  rintro r M rfl
  show zGo X l 100 kc ks 350 1317 [(3, .int (0 : Int32)), (2, .ref 336), (1, .ref 6), (0, .ref 0)] [.int v, .int v] M _
  refine zs_icmp_eqT (pc := 1317) t350_1317 rfl rfl rfl ?_
  exact law_t hL
theorem law38 (hL : X.2.2.2.2.2.1 = 6) : zGo X l 100 kc ks 350 1322 [(3, .int (0 : Int32)), (2, .ref 336), (1, .ref 6), (0, .ref 0)] [] zMe (fun r _ => r = some (.int 1)) := by
  obtain ⟨v, h⟩ := pr38 (X := X) (l := l) (X.2.2.2.2.2.2 1)
  refine zs_aload_n (pc := 1322) t350_1322 rfl ?_
  refine zs_aload_n (pc := 1323) t350_1323 rfl ?_
  refine zs_iload_n (pc := 1324) t350_1324 rfl ?_
  refine zs_iconst (pc := 1325) t350_1325 (v := 1) (by decide) ?_
  refine zs_iadd (pc := 1326) t350_1326 (c := 1) (by decide) ?_
  refine zs_sald (pc := 1327) t350_1327 (j := 1) li1 (by rw [hL]; decide) rfl ?_
  refine zs_invV (pc := 1328) (k := 6) (as' := [.int (X.2.2.2.2.2.2 1)]) (st := []) t350_1328 mf214 rfl rfl (Or.inl ⟨by decide, zk1 zkc⟩) ⟨by decide, by decide, Nat.le_of_ble_eq_true rfl, Nat.le_of_ble_eq_true rfl⟩ h ?_
  rintro r M ⟨rfl, hk, hm⟩
  show zGo X l 100 kc ks 350 1331 [(3, .int (0 : Int32)), (2, .ref 336), (1, .ref 6), (0, .ref 0)] [.int v] M _
  refine zs_aload_n (pc := 1331) t350_1331 rfl ?_
  refine zs_aload_n (pc := 1332) t350_1332 rfl ?_
  refine zs_iload_n (pc := 1333) t350_1333 rfl ?_
  refine zs_iconst (pc := 1334) t350_1334 (v := 1) (by decide) ?_
  refine zs_iadd (pc := 1335) t350_1335 (c := 1) (by decide) ?_
  refine zs_sald (pc := 1336) t350_1336 (j := 1) li1 (by rw [hL]; decide) rfl ?_
  refine zs_invV (pc := 1337) (k := 336) (as' := [.int (X.2.2.2.2.2.2 1)]) (st := [.int v]) t350_1337 mf227 rfl rfl (Or.inl ⟨by decide, zk1 hk⟩) ⟨by decide, by decide, Nat.le_of_ble_eq_true rfl, Nat.le_of_ble_eq_true rfl⟩ hm ?_
  rintro r M rfl
  show zGo X l 100 kc ks 350 1340 [(3, .int (0 : Int32)), (2, .ref 336), (1, .ref 6), (0, .ref 0)] [.int v, .int v] M _
  refine zs_icmp_eqT (pc := 1340) t350_1340 rfl rfl rfl ?_
  exact law_t hL
theorem law39 (hL : X.2.2.2.2.2.1 = 6) : zGo X l 100 kc ks 350 1345 [(3, .int (0 : Int32)), (2, .ref 336), (1, .ref 6), (0, .ref 0)] [] zMe (fun r _ => r = some (.int 1)) := by
  obtain ⟨v, h⟩ := pr39 (X := X) (l := l) (X.2.2.2.2.2.2 1)
  refine zs_aload_n (pc := 1345) t350_1345 rfl ?_
  refine zs_aload_n (pc := 1346) t350_1346 rfl ?_
  refine zs_iload_n (pc := 1347) t350_1347 rfl ?_
  refine zs_iconst (pc := 1348) t350_1348 (v := 1) (by decide) ?_
  refine zs_iadd (pc := 1349) t350_1349 (c := 1) (by decide) ?_
  refine zs_sald (pc := 1350) t350_1350 (j := 1) li1 (by rw [hL]; decide) rfl ?_
  refine zs_invV (pc := 1351) (k := 6) (as' := [.int (X.2.2.2.2.2.2 1)]) (st := []) t350_1351 mf216 rfl rfl (Or.inl ⟨by decide, zk1 zkc⟩) ⟨by decide, by decide, Nat.le_of_ble_eq_true rfl, Nat.le_of_ble_eq_true rfl⟩ h ?_
  rintro r M ⟨rfl, hk, hm⟩
  show zGo X l 100 kc ks 350 1354 [(3, .int (0 : Int32)), (2, .ref 336), (1, .ref 6), (0, .ref 0)] [.int v] M _
  refine zs_aload_n (pc := 1354) t350_1354 rfl ?_
  refine zs_aload_n (pc := 1355) t350_1355 rfl ?_
  refine zs_iload_n (pc := 1356) t350_1356 rfl ?_
  refine zs_iconst (pc := 1357) t350_1357 (v := 1) (by decide) ?_
  refine zs_iadd (pc := 1358) t350_1358 (c := 1) (by decide) ?_
  refine zs_sald (pc := 1359) t350_1359 (j := 1) li1 (by rw [hL]; decide) rfl ?_
  refine zs_invV (pc := 1360) (k := 336) (as' := [.int (X.2.2.2.2.2.2 1)]) (st := [.int v]) t350_1360 mf229 rfl rfl (Or.inl ⟨by decide, zk1 hk⟩) ⟨by decide, by decide, Nat.le_of_ble_eq_true rfl, Nat.le_of_ble_eq_true rfl⟩ hm ?_
  rintro r M rfl
  show zGo X l 100 kc ks 350 1363 [(3, .int (0 : Int32)), (2, .ref 336), (1, .ref 6), (0, .ref 0)] [.int v, .int v] M _
  refine zs_icmp_eqT (pc := 1363) t350_1363 rfl rfl rfl ?_
  exact law_t hL
theorem law40 (hL : X.2.2.2.2.2.1 = 6) : zGo X l 100 kc ks 350 1368 [(3, .int (0 : Int32)), (2, .ref 336), (1, .ref 6), (0, .ref 0)] [] zMe (fun r _ => r = some (.int 1)) := by
  obtain ⟨v, h⟩ := pr40 (X := X) (l := l) 
  refine zs_aload_n (pc := 1368) t350_1368 rfl ?_
  refine zs_invV (pc := 1369) (k := 6) (as' := []) (st := []) t350_1369 mf219 rfl rfl (Or.inl ⟨by decide, zk1 zkc⟩) ⟨by decide, by decide, Nat.le_of_ble_eq_true rfl, Nat.le_of_ble_eq_true rfl⟩ h ?_
  rintro r M ⟨rfl, hk, hm⟩
  show zGo X l 100 kc ks 350 1372 [(3, .int (0 : Int32)), (2, .ref 336), (1, .ref 6), (0, .ref 0)] [.int v] M _
  refine zs_aload_n (pc := 1372) t350_1372 rfl ?_
  refine zs_invV (pc := 1373) (k := 336) (as' := []) (st := [.int v]) t350_1373 mf346 rfl rfl (Or.inl ⟨by decide, zk1 hk⟩) ⟨by decide, by decide, Nat.le_of_ble_eq_true rfl, Nat.le_of_ble_eq_true rfl⟩ hm ?_
  rintro r M rfl
  show zGo X l 100 kc ks 350 1376 [(3, .int (0 : Int32)), (2, .ref 336), (1, .ref 6), (0, .ref 0)] [.int v, .int v] M _
  refine zs_icmp_eqT (pc := 1376) t350_1376 rfl rfl rfl ?_
  exact law_t hL
theorem law41 (hL : X.2.2.2.2.2.1 = 6) : zGo X l 100 kc ks 350 1381 [(3, .int (0 : Int32)), (2, .ref 336), (1, .ref 6), (0, .ref 0)] [] zMe (fun r _ => r = some (.int 1)) := by
  obtain ⟨v, h⟩ := pr41 (X := X) (l := l) (X.2.2.2.2.2.2 1)
  refine zs_aload_n (pc := 1381) t350_1381 rfl ?_
  refine zs_aload_n (pc := 1382) t350_1382 rfl ?_
  refine zs_iload_n (pc := 1383) t350_1383 rfl ?_
  refine zs_iconst (pc := 1384) t350_1384 (v := 1) (by decide) ?_
  refine zs_iadd (pc := 1385) t350_1385 (c := 1) (by decide) ?_
  refine zs_sald (pc := 1386) t350_1386 (j := 1) li1 (by rw [hL]; decide) rfl ?_
  refine zs_invV (pc := 1387) (k := 6) (as' := [.int (X.2.2.2.2.2.2 1)]) (st := []) t350_1387 mf223 rfl rfl (Or.inl ⟨by decide, zk1 zkc⟩) ⟨by decide, by decide, Nat.le_of_ble_eq_true rfl, Nat.le_of_ble_eq_true rfl⟩ h ?_
  rintro r M ⟨rfl, hk, hm⟩
  show zGo X l 100 kc ks 350 1390 [(3, .int (0 : Int32)), (2, .ref 336), (1, .ref 6), (0, .ref 0)] [.int v] M _
  refine zs_aload_n (pc := 1390) t350_1390 rfl ?_
  refine zs_aload_n (pc := 1391) t350_1391 rfl ?_
  refine zs_iload_n (pc := 1392) t350_1392 rfl ?_
  refine zs_iconst (pc := 1393) t350_1393 (v := 1) (by decide) ?_
  refine zs_iadd (pc := 1394) t350_1394 (c := 1) (by decide) ?_
  refine zs_sald (pc := 1395) t350_1395 (j := 1) li1 (by rw [hL]; decide) rfl ?_
  refine zs_invV (pc := 1396) (k := 336) (as' := [.int (X.2.2.2.2.2.2 1)]) (st := [.int v]) t350_1396 mf349 rfl rfl (Or.inl ⟨by decide, zk1 hk⟩) ⟨by decide, by decide, Nat.le_of_ble_eq_true rfl, Nat.le_of_ble_eq_true rfl⟩ hm ?_
  rintro r M rfl
  show zGo X l 100 kc ks 350 1399 [(3, .int (0 : Int32)), (2, .ref 336), (1, .ref 6), (0, .ref 0)] [.int v, .int v] M _
  refine zs_icmp_eqT (pc := 1399) t350_1399 rfl rfl rfl ?_
  exact law_t hL
theorem law_h (hL : X.2.2.2.2.2.1 ≤ 6) : zGo X l 100 kc ks 350 18 [(3, .int (0 : Int32)), (2, .ref 336), (1, .ref 6), (0, .ref 0)] [] zMe (fun r _ => r = some (.int 1)) := by
  refine zs_iload_n (pc := 18) t350_18 rfl ?_
  refine zs_aload_n (pc := 19) t350_19 rfl ?_
  refine zs_slen (pc := 20) t350_20 rfl ?_
  refine zs_bipush (pc := 21) t350_21 (v := 6) (by decide) ?_
  have hl : (Int32.ofNat X.2.2.2.2.2.1).toInt = (X.2.2.2.2.2.1 : Int) := Int32.toInt_ofNat_of_lt (by omega)
  obtain ⟨v, hv, hv2⟩ := zisub (b := 6) hl li6 (by omega) (by omega)
  refine zs_isub (pc := 23) t350_23 (c := v) hv ?_
  by_cases h6 : X.2.2.2.2.2.1 = 6
  · refine zs_icmp_gtF (pc := 24) t350_24 li0 hv2 (by omega) ?_
    refine zs_aload_n (pc := 27) t350_27 rfl ?_
    refine zs_iload_n (pc := 28) t350_28 rfl ?_
    refine zs_sald (pc := 29) t350_29 (j := 0) li0 (by rw [h6]; decide) rfl ?_
    refine zs_bipush (pc := 30) t350_30 (v := 63) (by decide) ?_
    refine zs_iand (pc := 32) t350_32 rfl ?_
    generalize (X.2.2.2.2.2.2 0 &&& 63) = x
    by_cases q0 : x.toInt = 0
    · exact zs_tswI (pc := 33) t350_33 q0 (by decide) rfl (pc2 := 216) rfl (law0 h6)
    by_cases q1 : x.toInt = 1
    · exact zs_tswI (pc := 33) t350_33 q1 (by decide) rfl (pc2 := 279) rfl (law1 h6)
    by_cases q2 : x.toInt = 2
    · exact zs_tswI (pc := 33) t350_33 q2 (by decide) rfl (pc2 := 302) rfl (law2 h6)
    by_cases q3 : x.toInt = 3
    · exact zs_tswI (pc := 33) t350_33 q3 (by decide) rfl (pc2 := 315) rfl (law3 h6)
    by_cases q4 : x.toInt = 4
    · exact zs_tswI (pc := 33) t350_33 q4 (by decide) rfl (pc2 := 328) rfl (law4 h6)
    by_cases q5 : x.toInt = 5
    · exact zs_tswI (pc := 33) t350_33 q5 (by decide) rfl (pc2 := 341) rfl (law5 h6)
    by_cases q6 : x.toInt = 6
    · exact zs_tswI (pc := 33) t350_33 q6 (by decide) rfl (pc2 := 354) rfl (law6 h6)
    by_cases q7 : x.toInt = 7
    · exact zs_tswI (pc := 33) t350_33 q7 (by decide) rfl (pc2 := 367) rfl (law7 h6)
    by_cases q8 : x.toInt = 8
    · exact zs_tswI (pc := 33) t350_33 q8 (by decide) rfl (pc2 := 390) rfl (law8 h6)
    by_cases q9 : x.toInt = 9
    · exact zs_tswI (pc := 33) t350_33 q9 (by decide) rfl (pc2 := 423) rfl (law9 h6)
    by_cases q10 : x.toInt = 10
    · exact zs_tswI (pc := 33) t350_33 q10 (by decide) rfl (pc2 := 456) rfl (law10 h6)
    by_cases q11 : x.toInt = 11
    · exact zs_tswI (pc := 33) t350_33 q11 (by decide) rfl (pc2 := 489) rfl (law11 h6)
    by_cases q12 : x.toInt = 12
    · exact zs_tswI (pc := 33) t350_33 q12 (by decide) rfl (pc2 := 532) rfl (law12 h6)
    by_cases q13 : x.toInt = 13
    · exact zs_tswI (pc := 33) t350_33 q13 (by decide) rfl (pc2 := 575) rfl (law13 h6)
    by_cases q14 : x.toInt = 14
    · exact zs_tswI (pc := 33) t350_33 q14 (by decide) rfl (pc2 := 598) rfl (law14 h6)
    by_cases q15 : x.toInt = 15
    · exact zs_tswI (pc := 33) t350_33 q15 (by decide) rfl (pc2 := 631) rfl (law15 h6)
    by_cases q16 : x.toInt = 16
    · exact zs_tswI (pc := 33) t350_33 q16 (by decide) rfl (pc2 := 664) rfl (law16 h6)
    by_cases q17 : x.toInt = 17
    · exact zs_tswI (pc := 33) t350_33 q17 (by decide) rfl (pc2 := 698) rfl (law17 h6)
    by_cases q18 : x.toInt = 18
    · exact zs_tswI (pc := 33) t350_33 q18 (by decide) rfl (pc2 := 731) rfl (law18 h6)
    by_cases q19 : x.toInt = 19
    · exact zs_tswI (pc := 33) t350_33 q19 (by decide) rfl (pc2 := 744) rfl (law19 h6)
    by_cases q20 : x.toInt = 20
    · exact zs_tswI (pc := 33) t350_33 q20 (by decide) rfl (pc2 := 767) rfl (law20 h6)
    by_cases q21 : x.toInt = 21
    · exact zs_tswI (pc := 33) t350_33 q21 (by decide) rfl (pc2 := 780) rfl (law21 h6)
    by_cases q22 : x.toInt = 22
    · exact zs_tswI (pc := 33) t350_33 q22 (by decide) rfl (pc2 := 843) rfl (law22 h6)
    by_cases q23 : x.toInt = 23
    · exact zs_tswI (pc := 33) t350_33 q23 (by decide) rfl (pc2 := 886) rfl (law23 h6)
    by_cases q24 : x.toInt = 24
    · exact zs_tswI (pc := 33) t350_33 q24 (by decide) rfl (pc2 := 909) rfl (law24 h6)
    by_cases q25 : x.toInt = 25
    · exact zs_tswI (pc := 33) t350_33 q25 (by decide) rfl (pc2 := 932) rfl (law25 h6)
    by_cases q26 : x.toInt = 26
    · exact zs_tswI (pc := 33) t350_33 q26 (by decide) rfl (pc2 := 975) rfl (law26 h6)
    by_cases q27 : x.toInt = 27
    · exact zs_tswI (pc := 33) t350_33 q27 (by decide) rfl (pc2 := 998) rfl (law27 h6)
    by_cases q28 : x.toInt = 28
    · exact zs_tswI (pc := 33) t350_33 q28 (by decide) rfl (pc2 := 1021) rfl (law28 h6)
    by_cases q29 : x.toInt = 29
    · exact zs_tswI (pc := 33) t350_33 q29 (by decide) rfl (pc2 := 1044) rfl (law29 h6)
    by_cases q30 : x.toInt = 30
    · exact zs_tswI (pc := 33) t350_33 q30 (by decide) rfl (pc2 := 1088) rfl (law30 h6)
    by_cases q31 : x.toInt = 31
    · exact zs_tswI (pc := 33) t350_33 q31 (by decide) rfl (pc2 := 1121) rfl (law31 h6)
    by_cases q32 : x.toInt = 32
    · exact zs_tswI (pc := 33) t350_33 q32 (by decide) rfl (pc2 := 1144) rfl (law32 h6)
    by_cases q33 : x.toInt = 33
    · exact zs_tswI (pc := 33) t350_33 q33 (by decide) rfl (pc2 := 1177) rfl (law33 h6)
    by_cases q34 : x.toInt = 34
    · exact zs_tswI (pc := 33) t350_33 q34 (by decide) rfl (pc2 := 1210) rfl (law34 h6)
    by_cases q35 : x.toInt = 35
    · exact zs_tswI (pc := 33) t350_33 q35 (by decide) rfl (pc2 := 1243) rfl (law35 h6)
    by_cases q36 : x.toInt = 36
    · exact zs_tswI (pc := 33) t350_33 q36 (by decide) rfl (pc2 := 1276) rfl (law36 h6)
    by_cases q37 : x.toInt = 37
    · exact zs_tswI (pc := 33) t350_33 q37 (by decide) rfl (pc2 := 1309) rfl (law37 h6)
    by_cases q38 : x.toInt = 38
    · exact zs_tswI (pc := 33) t350_33 q38 (by decide) rfl (pc2 := 1322) rfl (law38 h6)
    by_cases q39 : x.toInt = 39
    · exact zs_tswI (pc := 33) t350_33 q39 (by decide) rfl (pc2 := 1345) rfl (law39 h6)
    by_cases q40 : x.toInt = 40
    · exact zs_tswI (pc := 33) t350_33 q40 (by decide) rfl (pc2 := 1368) rfl (law40 h6)
    by_cases q41 : x.toInt = 41
    · exact zs_tswI (pc := 33) t350_33 q41 (by decide) rfl (pc2 := 1381) rfl (law41 h6)
    exact zs_tswD (pc := 33) t350_33 (e := x.toInt) rfl (by omega) (pc2 := 1404) rfl (law_t h6)
  · refine zs_icmp_gtT (pc := 24) t350_24 li0 hv2 (by omega) ?_
    exact law_e
end LAW
