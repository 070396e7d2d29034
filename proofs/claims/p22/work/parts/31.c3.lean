theorem zrowN {M : zM} {k j r : Nat} {v : Int32} (h : 337 ≠ k) : zrow (zsI M k j v) r = zrow M r := funext fun _ => zIo h
theorem K226 {X : zX} {l : Launch} {M : zM} {Q : Option Value → zM → Prop} {a b : Int32} {na nb : Nat} (hs : zSk zMm M) (hI : zIv mLo mHi M) (ha : a.toInt = (na : Int)) (hb : b.toInt = (nb : Int)) (h1 : na ≤ 11) (h2 : nb ≤ 11) (hab : na ≠ nb) (hk : zRk (zrow M na)) (hQ : ∀ M', zSk zMm M' → zIv mLo mHi M' → zFr [(337, 337, none)] M M' → zJ M' 351 = zJ M 351 → zCp M M' na nb 506 → Q none M') : zCall X l 0 0 0 226 [.ref 336, .int a, .int b] M Q := by
  refine zs_in (by decide) mf226 (Nat.le_of_ble_eq_true rfl) ?_
  show zGo X l 0 0 0 226 0 [(0, .ref 336), (1, .int a), (2, .int b)] [] M _
  refine zs_iconst (pc := 0) t226_0 (v := 0) (by decide) ?_
  refine zs_istore_n (pc := 1) t226_1 (ls' := [(3, .int (0 : Int32)), (0, .ref 336), (1, .int a), (2, .int b)]) (zml mf226 (by decide)) rfl ?_
  have w1L : ∀ (m : Nat) (w1x3 : Int32) (w1M : zM), (0 ≤ w1x3.toInt ∧ w1x3.toInt ≤ 506) → zSk zMm w1M → zIv mLo mHi w1M → zFr [(337, 337, none)] M w1M → zJ w1M 351 = zJ M 351 → (zCp M w1M na nb (w1x3.toInt).toNat) → 506 - w1x3.toInt ≤ (m : Int) → zGo X l 0 0 0 226 2 [(0, .ref 336), (1, .int a), (2, .int b), (3, .int w1x3)] [] w1M Q := by
    intro m
    induction m using Nat.strongRecOn with
    | ind w1m w1ih =>
      intro w1x3 w1M w1b3 w1s w1I w1F w1J w1t0 w1q
      refine zs_iload_n (pc := 2) t226_2 rfl ?_
      refine zs_sipush (pc := 3) t226_3 (v := 506) (by decide) ?_
      by_cases w2 : 506 ≤ w1x3.toInt
      · refine zs_icmp_geT (pc := 6) t226_6 rfl li506 (by omega) ?_
        exact zs_vret (pc := 39) t226_39 mr226 (hQ _ w1s w1I ((zFr.refl).trans (w1F.mono rfl)) w1J (by rw [show 506 = w1x3.toInt.toNat by omega]; exact w1t0))
      · refine zs_icmp_geF (pc := 6) t226_6 rfl li506 (by omega) ?_
        refine zs_aload_n (pc := 9) t226_9 rfl ?_
        refine zs_get (pc := 10) t226_10 (by decide) (zk1 (w1s.k fk_zMm_336)) (w1s.p rfl fv_zMm_336_0) ?_
        refine zs_sipush (pc := 13) t226_13 (v := 506) (by decide) ?_
        refine zs_iload_n (pc := 16) t226_16 rfl ?_
        obtain ⟨w3v, w3⟩ : ∃ v, (506 : Int32) * b = v := ⟨_, rfl⟩
        have w3g : w3v.toInt = 506 * b.toInt := by rw [← w3]; exact zmulc li506 rfl (by omega) (by omega)
        refine zs_imul (pc := 17) t226_17 (c := w3v) w3 ?_
        refine zs_iload_n (pc := 18) t226_18 rfl ?_
        obtain ⟨w4v, w4e, w4⟩ := ziadd (a := w3v) (b := w1x3) w3g rfl (by omega) (by omega)
        refine zs_iadd (pc := 19) t226_19 (c := w4v) w4e ?_
        refine zs_aload_n (pc := 20) t226_20 rfl ?_
        refine zs_get (pc := 21) t226_21 (by decide) (zk1 (w1s.k fk_zMm_336)) (w1s.p rfl fv_zMm_336_0) ?_
        refine zs_sipush (pc := 24) t226_24 (v := 506) (by decide) ?_
        refine zs_iload_n (pc := 27) t226_27 rfl ?_
        obtain ⟨w5v, w5⟩ : ∃ v, (506 : Int32) * a = v := ⟨_, rfl⟩
        have w5g : w5v.toInt = 506 * a.toInt := by rw [← w5]; exact zmulc li506 rfl (by omega) (by omega)
        refine zs_imul (pc := 28) t226_28 (c := w5v) w5 ?_
        refine zs_iload_n (pc := 29) t226_29 rfl ?_
        obtain ⟨w6v, w6e, w6⟩ := ziadd (a := w5v) (b := w1x3) w5g rfl (by omega) (by omega)
        refine zs_iadd (pc := 30) t226_30 (c := w6v) w6e ?_
        obtain ⟨w7n, w7⟩ : ∃ n : Nat, w1x3.toInt = (n : Int) := ⟨(w1x3.toInt).toNat, by omega⟩
        have w8 := zrg (zI w1M 337 (506 * na + w7n))
        refine zs_iald (pc := 31) t226_31 (j := (506 * na + w7n)) (by decide) (zk1 (w1s.k fk_zMm_337)) (show w6v.toInt = (((506 * na + w7n) : Nat) : Int) by omega) (zk2 (w1s.k fk_zMm_337) (by omega)) rfl ?_
        have w9 : zIv mLo mHi (zsI w1M 337 (506 * nb + w7n) (zI w1M 337 (506 * na + w7n))) := zIv.putB w1I (zCp.bd (n := w1x3.toInt.toNat) w1t0 hk hab (by omega) (by omega) (by omega))
        refine zs_iast (pc := 32) t226_32 (j := (506 * nb + w7n)) (by decide) (zk1 (w1s.k fk_zMm_337)) (show w4v.toInt = (((506 * nb + w7n) : Nat) : Int) by omega) (zk2 (w1s.k fk_zMm_337) (by omega)) ?_
        obtain ⟨w10v, w10e, w10⟩ := ziadd (a := w1x3) (b := Int32.ofInt 1) rfl (show (Int32.ofInt 1).toInt = 1 by decide) (by omega) (by omega)
        refine zs_iinc (pc := 33) t226_33 (ls' := [(3, .int w10v), (0, .ref 336), (1, .int a), (2, .int b)]) (zml mf226 (by decide)) rfl (c := w10v) w10e rfl ?_
        refine zs_goto (pc := 36) t226_36 ?_
        refine zGo.locals (ls' := [(0, .ref 336), (1, .int a), (2, .int b), (3, .int w10v)]) (by simp) ?_
        have w11 := w10
        exact w1ih (w1m - 1) (by omega) w10v (zsI w1M 337 (506 * nb + w7n) (zI w1M 337 (506 * na + w7n))) ⟨by omega, by omega⟩ w1s w9 (((zFr.refl).trans (w1F.mono rfl)).put rfl) w1J (zCp.step w1t0 hab (by omega) (by omega) (by omega) (by omega)) (by omega)
  refine zGo.locals (ls' := [(0, .ref 336), (1, .int a), (2, .int b), (3, .int (0 : Int32))]) (by simp) ?_
  have w12 := li0
  exact w1L ((506 - 0 : Int).toNat) (0 : Int32) M ⟨by decide, by decide⟩ hs hI zFr.refl rfl (zCp.nil (by omega)) (by omega)
