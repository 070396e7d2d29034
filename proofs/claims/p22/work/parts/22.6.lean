theorem C113 {X : zX} {l : Launch} {M : zM} {Q : Option Value → zM → Prop} {a : Int32} (hs : zSk zMc M) (hI : zIv cLo cHi M) (hQ : ∀ v : Int32, (-2147483648) ≤ v.toInt → v.toInt ≤ 2147483647 → Q (some (.int v)) M) : zCall X l 0 0 0 113 [.int a] M Q := by
  have ga := zrg a
  refine zs_in (by decide) mf113 (Nat.le_of_ble_eq_true rfl) ?_
  show zGo X l 0 0 0 113 0 [(0, .int a)] [] M _
  refine zs_iload_n (pc := 0) t113_0 rfl ?_
  refine zs_iload_n (pc := 1) t113_1 rfl ?_
  refine zs_iconst (pc := 2) t113_2 (v := 1) (by decide) ?_
  obtain ⟨w1v, w1⟩ : ∃ v, (a.toUInt32 >>> ((1 : Int32).toUInt32 &&& Int32.toUInt32 31)).toInt32 = v := ⟨_, rfl⟩
  have w1g := zrg w1v
  refine zs_iushr (pc := 3) t113_3 (c := w1v) w1 ?_
  refine zs_ldc_w (pc := 4) t113_4 (v := 1431655765) rfl (by decide) ?_
  obtain ⟨w2v, w2⟩ : ∃ v, w1v &&& (1431655765 : Int32) = v := ⟨_, rfl⟩
  have w2g : 0 ≤ w2v.toInt ∧ w2v.toInt ≤ 1431655765 := by rw [← w2]; exact zand li1431655765 (by decide)
  refine zs_iand (pc := 7) t113_7 (c := w2v) w2 ?_
  obtain ⟨w3v, w3⟩ : ∃ v, v = a - w2v := ⟨_, rfl⟩
  have w3g := zrg w3v
  refine zs_isub (pc := 8) t113_8 (c := w3v) w3.symm ?_
  refine zs_istore_n (pc := 9) t113_9 (ls' := [(0, .int w3v)]) (zml mf113 (by decide)) rfl ?_
  refine zs_iload_n (pc := 10) t113_10 rfl ?_
  refine zs_ldc_w (pc := 11) t113_11 (v := 858993459) rfl (by decide) ?_
  obtain ⟨w4v, w4⟩ : ∃ v, w3v &&& (858993459 : Int32) = v := ⟨_, rfl⟩
  have w4g : 0 ≤ w4v.toInt ∧ w4v.toInt ≤ 858993459 := by rw [← w4]; exact zand li858993459 (by decide)
  refine zs_iand (pc := 14) t113_14 (c := w4v) w4 ?_
  refine zs_iload_n (pc := 15) t113_15 rfl ?_
  refine zs_iconst (pc := 16) t113_16 (v := 2) (by decide) ?_
  obtain ⟨w5v, w5⟩ : ∃ v, (w3v.toUInt32 >>> ((2 : Int32).toUInt32 &&& Int32.toUInt32 31)).toInt32 = v := ⟨_, rfl⟩
  have w5g := zrg w5v
  refine zs_iushr (pc := 17) t113_17 (c := w5v) w5 ?_
  refine zs_ldc_w (pc := 18) t113_18 (v := 858993459) rfl (by decide) ?_
  obtain ⟨w6v, w6⟩ : ∃ v, w5v &&& (858993459 : Int32) = v := ⟨_, rfl⟩
  have w6g : 0 ≤ w6v.toInt ∧ w6v.toInt ≤ 858993459 := by rw [← w6]; exact zand li858993459 (by decide)
  refine zs_iand (pc := 21) t113_21 (c := w6v) w6 ?_
  obtain ⟨w7v, w7e, w7⟩ := ziadd (a := w4v) (b := w6v) rfl rfl (by omega) (by omega)
  refine zs_iadd (pc := 22) t113_22 (c := w7v) w7e ?_
  refine zs_istore_n (pc := 23) t113_23 (ls' := [(0, .int w7v)]) (zml mf113 (by decide)) rfl ?_
  refine zs_iload_n (pc := 24) t113_24 rfl ?_
  refine zs_iload_n (pc := 25) t113_25 rfl ?_
  refine zs_iconst (pc := 26) t113_26 (v := 4) (by decide) ?_
  obtain ⟨w8v, w8⟩ : ∃ v, (w7v.toUInt32 >>> ((4 : Int32).toUInt32 &&& Int32.toUInt32 31)).toInt32 = v := ⟨_, rfl⟩
  have w8g := zrg w8v
  refine zs_iushr (pc := 27) t113_27 (c := w8v) w8 ?_
  obtain ⟨w9v, w9⟩ : ∃ v, v = w7v + w8v := ⟨_, rfl⟩
  have w9g := zrg w9v
  refine zs_iadd (pc := 28) t113_28 (c := w9v) w9.symm ?_
  refine zs_ldc_w (pc := 29) t113_29 (v := 252645135) rfl (by decide) ?_
  obtain ⟨w10v, w10⟩ : ∃ v, w9v &&& (252645135 : Int32) = v := ⟨_, rfl⟩
  have w10g : 0 ≤ w10v.toInt ∧ w10v.toInt ≤ 252645135 := by rw [← w10]; exact zand li252645135 (by decide)
  refine zs_iand (pc := 32) t113_32 (c := w10v) w10 ?_
  refine zs_istore_n (pc := 33) t113_33 (ls' := [(0, .int w10v)]) (zml mf113 (by decide)) rfl ?_
  refine zs_iload_n (pc := 34) t113_34 rfl ?_
  refine zs_iload_n (pc := 35) t113_35 rfl ?_
  refine zs_bipush (pc := 36) t113_36 (v := 8) (by decide) ?_
  obtain ⟨w11v, w11⟩ : ∃ v, (w10v.toUInt32 >>> ((8 : Int32).toUInt32 &&& Int32.toUInt32 31)).toInt32 = v := ⟨_, rfl⟩
  have w11g := zrg w11v
  refine zs_iushr (pc := 38) t113_38 (c := w11v) w11 ?_
  obtain ⟨w12v, w12⟩ : ∃ v, v = w10v + w11v := ⟨_, rfl⟩
  have w12g := zrg w12v
  refine zs_iadd (pc := 39) t113_39 (c := w12v) w12.symm ?_
  refine zs_istore_n (pc := 40) t113_40 (ls' := [(0, .int w12v)]) (zml mf113 (by decide)) rfl ?_
  refine zs_iload_n (pc := 41) t113_41 rfl ?_
  refine zs_iload_n (pc := 42) t113_42 rfl ?_
  refine zs_bipush (pc := 43) t113_43 (v := 16) (by decide) ?_
  obtain ⟨w13v, w13⟩ : ∃ v, (w12v.toUInt32 >>> ((16 : Int32).toUInt32 &&& Int32.toUInt32 31)).toInt32 = v := ⟨_, rfl⟩
  have w13g := zrg w13v
  refine zs_iushr (pc := 45) t113_45 (c := w13v) w13 ?_
  obtain ⟨w14v, w14⟩ : ∃ v, v = w12v + w13v := ⟨_, rfl⟩
  have w14g := zrg w14v
  refine zs_iadd (pc := 46) t113_46 (c := w14v) w14.symm ?_
  refine zs_istore_n (pc := 47) t113_47 (ls' := [(0, .int w14v)]) (zml mf113 (by decide)) rfl ?_
  refine zs_iload_n (pc := 48) t113_48 rfl ?_
  refine zs_bipush (pc := 49) t113_49 (v := 63) (by decide) ?_
  obtain ⟨w15v, w15⟩ : ∃ v, w14v &&& (63 : Int32) = v := ⟨_, rfl⟩
  have w15g : 0 ≤ w15v.toInt ∧ w15v.toInt ≤ 63 := by rw [← w15]; exact zand li63 (by decide)
  refine zs_iand (pc := 51) t113_51 (c := w15v) w15 ?_
  exact zs_iret (pc := 52) t113_52 mr113 rfl (hQ _ (zrg _).1 (zrg _).2)
