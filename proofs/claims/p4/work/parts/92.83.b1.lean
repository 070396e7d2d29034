theorem W278 {X : zX} {l : Launch} {M : zM} {Q : Option Value → zM → Prop} {a : Int32} (hs : zSk zMm M) (hI : zIv mLo mHi M) (hQ : ∀ v : Int32, (v = zbm a) → Q (some (.int v)) M) : zCall X l 0 0 0 278 [.int a] M Q := by
  have ga := zrg a
  refine zs_in (by decide) mf278 (Nat.le_of_ble_eq_true rfl) ?_
  show zGo X l 0 0 0 278 0 [(0, .int a)] [] M _
  refine zs_iconst (pc := 0) t278_0 (v := 0) (by decide) ?_
  refine zs_istore_n (pc := 1) t278_1 (ls' := [(1, .int (0 : Int32)), (0, .int a)]) (zml mf278 (by decide)) rfl ?_
  refine zs_iconst (pc := 2) t278_2 (v := 0) (by decide) ?_
  refine zs_istore_n (pc := 3) t278_3 (ls' := [(2, .int (0 : Int32)), (1, .int (0 : Int32)), (0, .int a)]) (zml mf278 (by decide)) rfl ?_
  refine zs_iload_n (pc := 4) t278_4 rfl ?_
  refine zs_bipush (pc := 5) t278_5 (v := 8) (by decide) ?_
  refine zs_icmp_geF (pc := 7) t278_7 li0 li8 (by decide) ?_
  refine zs_iload_n (pc := 10) t278_10 rfl ?_
  refine zs_iload_n (pc := 11) t278_11 rfl ?_
  refine zs_iload_n (pc := 12) t278_12 rfl ?_
  obtain ⟨w1v, w1⟩ : ∃ v, a >>> ((0 : Int32) &&& 31) = v := ⟨_, rfl⟩
  have w1g := zrg w1v
  refine zs_ishr (pc := 13) t278_13 (c := w1v) w1 ?_
  refine zs_iconst (pc := 14) t278_14 (v := 1) (by decide) ?_
  obtain ⟨w2v, w2⟩ : ∃ v, w1v &&& (1 : Int32) = v := ⟨_, rfl⟩
  have w2g : 0 ≤ w2v.toInt ∧ w2v.toInt ≤ 1 := by rw [← w2]; exact zand li1 (by decide)
  refine zs_iand (pc := 15) t278_15 (c := w2v) w2 ?_
  obtain ⟨w3v, w3e, w3⟩ := ziadd (a := (0 : Int32)) (b := w2v) li0 rfl (by omega) (by omega)
  refine zs_iadd (pc := 16) t278_16 (c := w3v) w3e ?_
  refine zs_istore_n (pc := 17) t278_17 (ls' := [(1, .int w3v), (2, .int (0 : Int32)), (0, .int a)]) (zml mf278 (by decide)) rfl ?_
  refine zs_iinc (pc := 18) t278_18 (ls' := [(2, .int (1 : Int32)), (1, .int w3v), (0, .int a)]) (zml mf278 (by decide)) rfl (c := 1) (by decide) rfl ?_
  refine zs_goto (pc := 21) t278_21 ?_
  refine zs_iload_n (pc := 4) t278_4 rfl ?_
  refine zs_bipush (pc := 5) t278_5 (v := 8) (by decide) ?_
  refine zs_icmp_geF (pc := 7) t278_7 li1 li8 (by decide) ?_
  refine zs_iload_n (pc := 10) t278_10 rfl ?_
  refine zs_iload_n (pc := 11) t278_11 rfl ?_
  refine zs_iload_n (pc := 12) t278_12 rfl ?_
  obtain ⟨w4v, w4⟩ : ∃ v, a >>> ((1 : Int32) &&& 31) = v := ⟨_, rfl⟩
  have w4g := zrg w4v
  refine zs_ishr (pc := 13) t278_13 (c := w4v) w4 ?_
  refine zs_iconst (pc := 14) t278_14 (v := 1) (by decide) ?_
  obtain ⟨w5v, w5⟩ : ∃ v, w4v &&& (1 : Int32) = v := ⟨_, rfl⟩
  have w5g : 0 ≤ w5v.toInt ∧ w5v.toInt ≤ 1 := by rw [← w5]; exact zand li1 (by decide)
  refine zs_iand (pc := 15) t278_15 (c := w5v) w5 ?_
  obtain ⟨w6v, w6e, w6⟩ := ziadd (a := w3v) (b := w5v) w3 rfl (by omega) (by omega)
  refine zs_iadd (pc := 16) t278_16 (c := w6v) w6e ?_
  refine zs_istore_n (pc := 17) t278_17 (ls' := [(1, .int w6v), (2, .int (1 : Int32)), (0, .int a)]) (zml mf278 (by decide)) rfl ?_
  refine zs_iinc (pc := 18) t278_18 (ls' := [(2, .int (2 : Int32)), (1, .int w6v), (0, .int a)]) (zml mf278 (by decide)) rfl (c := 2) (by decide) rfl ?_
  refine zs_goto (pc := 21) t278_21 ?_
  refine zs_iload_n (pc := 4) t278_4 rfl ?_
  refine zs_bipush (pc := 5) t278_5 (v := 8) (by decide) ?_
  refine zs_icmp_geF (pc := 7) t278_7 li2 li8 (by decide) ?_
  refine zs_iload_n (pc := 10) t278_10 rfl ?_
  refine zs_iload_n (pc := 11) t278_11 rfl ?_
  refine zs_iload_n (pc := 12) t278_12 rfl ?_
  obtain ⟨w7v, w7⟩ : ∃ v, a >>> ((2 : Int32) &&& 31) = v := ⟨_, rfl⟩
  have w7g := zrg w7v
  refine zs_ishr (pc := 13) t278_13 (c := w7v) w7 ?_
  refine zs_iconst (pc := 14) t278_14 (v := 1) (by decide) ?_
  obtain ⟨w8v, w8⟩ : ∃ v, w7v &&& (1 : Int32) = v := ⟨_, rfl⟩
  have w8g : 0 ≤ w8v.toInt ∧ w8v.toInt ≤ 1 := by rw [← w8]; exact zand li1 (by decide)
  refine zs_iand (pc := 15) t278_15 (c := w8v) w8 ?_
  obtain ⟨w9v, w9e, w9⟩ := ziadd (a := w6v) (b := w8v) w6 rfl (by omega) (by omega)
  refine zs_iadd (pc := 16) t278_16 (c := w9v) w9e ?_
  refine zs_istore_n (pc := 17) t278_17 (ls' := [(1, .int w9v), (2, .int (2 : Int32)), (0, .int a)]) (zml mf278 (by decide)) rfl ?_
  refine zs_iinc (pc := 18) t278_18 (ls' := [(2, .int (3 : Int32)), (1, .int w9v), (0, .int a)]) (zml mf278 (by decide)) rfl (c := 3) (by decide) rfl ?_
  refine zs_goto (pc := 21) t278_21 ?_
  refine zs_iload_n (pc := 4) t278_4 rfl ?_
  refine zs_bipush (pc := 5) t278_5 (v := 8) (by decide) ?_
  refine zs_icmp_geF (pc := 7) t278_7 li3 li8 (by decide) ?_
  refine zs_iload_n (pc := 10) t278_10 rfl ?_
  refine zs_iload_n (pc := 11) t278_11 rfl ?_
  refine zs_iload_n (pc := 12) t278_12 rfl ?_
  obtain ⟨w10v, w10⟩ : ∃ v, a >>> ((3 : Int32) &&& 31) = v := ⟨_, rfl⟩
  have w10g := zrg w10v
  refine zs_ishr (pc := 13) t278_13 (c := w10v) w10 ?_
  refine zs_iconst (pc := 14) t278_14 (v := 1) (by decide) ?_
  obtain ⟨w11v, w11⟩ : ∃ v, w10v &&& (1 : Int32) = v := ⟨_, rfl⟩
  have w11g : 0 ≤ w11v.toInt ∧ w11v.toInt ≤ 1 := by rw [← w11]; exact zand li1 (by decide)
  refine zs_iand (pc := 15) t278_15 (c := w11v) w11 ?_
  obtain ⟨w12v, w12e, w12⟩ := ziadd (a := w9v) (b := w11v) w9 rfl (by omega) (by omega)
  refine zs_iadd (pc := 16) t278_16 (c := w12v) w12e ?_
  refine zs_istore_n (pc := 17) t278_17 (ls' := [(1, .int w12v), (2, .int (3 : Int32)), (0, .int a)]) (zml mf278 (by decide)) rfl ?_
  refine zs_iinc (pc := 18) t278_18 (ls' := [(2, .int (4 : Int32)), (1, .int w12v), (0, .int a)]) (zml mf278 (by decide)) rfl (c := 4) (by decide) rfl ?_
  refine zs_goto (pc := 21) t278_21 ?_
  refine zs_iload_n (pc := 4) t278_4 rfl ?_
  refine zs_bipush (pc := 5) t278_5 (v := 8) (by decide) ?_
  refine zs_icmp_geF (pc := 7) t278_7 li4 li8 (by decide) ?_
  refine zs_iload_n (pc := 10) t278_10 rfl ?_
  refine zs_iload_n (pc := 11) t278_11 rfl ?_
  refine zs_iload_n (pc := 12) t278_12 rfl ?_
  obtain ⟨w13v, w13⟩ : ∃ v, a >>> ((4 : Int32) &&& 31) = v := ⟨_, rfl⟩
  have w13g := zrg w13v
  refine zs_ishr (pc := 13) t278_13 (c := w13v) w13 ?_
  refine zs_iconst (pc := 14) t278_14 (v := 1) (by decide) ?_
  obtain ⟨w14v, w14⟩ : ∃ v, w13v &&& (1 : Int32) = v := ⟨_, rfl⟩
  have w14g : 0 ≤ w14v.toInt ∧ w14v.toInt ≤ 1 := by rw [← w14]; exact zand li1 (by decide)
  refine zs_iand (pc := 15) t278_15 (c := w14v) w14 ?_
  obtain ⟨w15v, w15e, w15⟩ := ziadd (a := w12v) (b := w14v) w12 rfl (by omega) (by omega)
  refine zs_iadd (pc := 16) t278_16 (c := w15v) w15e ?_
  refine zs_istore_n (pc := 17) t278_17 (ls' := [(1, .int w15v), (2, .int (4 : Int32)), (0, .int a)]) (zml mf278 (by decide)) rfl ?_
  refine zs_iinc (pc := 18) t278_18 (ls' := [(2, .int (5 : Int32)), (1, .int w15v), (0, .int a)]) (zml mf278 (by decide)) rfl (c := 5) (by decide) rfl ?_
  refine zs_goto (pc := 21) t278_21 ?_
  refine zs_iload_n (pc := 4) t278_4 rfl ?_
  refine zs_bipush (pc := 5) t278_5 (v := 8) (by decide) ?_
  refine zs_icmp_geF (pc := 7) t278_7 li5 li8 (by decide) ?_
  refine zs_iload_n (pc := 10) t278_10 rfl ?_
  refine zs_iload_n (pc := 11) t278_11 rfl ?_
  refine zs_iload_n (pc := 12) t278_12 rfl ?_
  obtain ⟨w16v, w16⟩ : ∃ v, a >>> ((5 : Int32) &&& 31) = v := ⟨_, rfl⟩
  have w16g := zrg w16v
  refine zs_ishr (pc := 13) t278_13 (c := w16v) w16 ?_
  refine zs_iconst (pc := 14) t278_14 (v := 1) (by decide) ?_
  obtain ⟨w17v, w17⟩ : ∃ v, w16v &&& (1 : Int32) = v := ⟨_, rfl⟩
  have w17g : 0 ≤ w17v.toInt ∧ w17v.toInt ≤ 1 := by rw [← w17]; exact zand li1 (by decide)
  refine zs_iand (pc := 15) t278_15 (c := w17v) w17 ?_
  obtain ⟨w18v, w18e, w18⟩ := ziadd (a := w15v) (b := w17v) w15 rfl (by omega) (by omega)
  refine zs_iadd (pc := 16) t278_16 (c := w18v) w18e ?_
  refine zs_istore_n (pc := 17) t278_17 (ls' := [(1, .int w18v), (2, .int (5 : Int32)), (0, .int a)]) (zml mf278 (by decide)) rfl ?_
  refine zs_iinc (pc := 18) t278_18 (ls' := [(2, .int (6 : Int32)), (1, .int w18v), (0, .int a)]) (zml mf278 (by decide)) rfl (c := 6) (by decide) rfl ?_
  refine zs_goto (pc := 21) t278_21 ?_
  refine zs_iload_n (pc := 4) t278_4 rfl ?_
  refine zs_bipush (pc := 5) t278_5 (v := 8) (by decide) ?_
  refine zs_icmp_geF (pc := 7) t278_7 li6 li8 (by decide) ?_
  refine zs_iload_n (pc := 10) t278_10 rfl ?_
  refine zs_iload_n (pc := 11) t278_11 rfl ?_
  refine zs_iload_n (pc := 12) t278_12 rfl ?_
  obtain ⟨w19v, w19⟩ : ∃ v, a >>> ((6 : Int32) &&& 31) = v := ⟨_, rfl⟩
  have w19g := zrg w19v
  refine zs_ishr (pc := 13) t278_13 (c := w19v) w19 ?_
  refine zs_iconst (pc := 14) t278_14 (v := 1) (by decide) ?_
  obtain ⟨w20v, w20⟩ : ∃ v, w19v &&& (1 : Int32) = v := ⟨_, rfl⟩
  have w20g : 0 ≤ w20v.toInt ∧ w20v.toInt ≤ 1 := by rw [← w20]; exact zand li1 (by decide)
  refine zs_iand (pc := 15) t278_15 (c := w20v) w20 ?_
  obtain ⟨w21v, w21e, w21⟩ := ziadd (a := w18v) (b := w20v) w18 rfl (by omega) (by omega)
  refine zs_iadd (pc := 16) t278_16 (c := w21v) w21e ?_
  refine zs_istore_n (pc := 17) t278_17 (ls' := [(1, .int w21v), (2, .int (6 : Int32)), (0, .int a)]) (zml mf278 (by decide)) rfl ?_
  refine zs_iinc (pc := 18) t278_18 (ls' := [(2, .int (7 : Int32)), (1, .int w21v), (0, .int a)]) (zml mf278 (by decide)) rfl (c := 7) (by decide) rfl ?_
  refine zs_goto (pc := 21) t278_21 ?_
  refine zs_iload_n (pc := 4) t278_4 rfl ?_
  refine zs_bipush (pc := 5) t278_5 (v := 8) (by decide) ?_
  refine zs_icmp_geF (pc := 7) t278_7 li7 li8 (by decide) ?_
  refine zs_iload_n (pc := 10) t278_10 rfl ?_
  refine zs_iload_n (pc := 11) t278_11 rfl ?_
  refine zs_iload_n (pc := 12) t278_12 rfl ?_
  obtain ⟨w22v, w22⟩ : ∃ v, a >>> ((7 : Int32) &&& 31) = v := ⟨_, rfl⟩
  have w22g := zrg w22v
  refine zs_ishr (pc := 13) t278_13 (c := w22v) w22 ?_
  refine zs_iconst (pc := 14) t278_14 (v := 1) (by decide) ?_
  obtain ⟨w23v, w23⟩ : ∃ v, w22v &&& (1 : Int32) = v := ⟨_, rfl⟩
  have w23g : 0 ≤ w23v.toInt ∧ w23v.toInt ≤ 1 := by rw [← w23]; exact zand li1 (by decide)
  refine zs_iand (pc := 15) t278_15 (c := w23v) w23 ?_
  obtain ⟨w24v, w24e, w24⟩ := ziadd (a := w21v) (b := w23v) w21 rfl (by omega) (by omega)
  refine zs_iadd (pc := 16) t278_16 (c := w24v) w24e ?_
  refine zs_istore_n (pc := 17) t278_17 (ls' := [(1, .int w24v), (2, .int (7 : Int32)), (0, .int a)]) (zml mf278 (by decide)) rfl ?_
  refine zs_iinc (pc := 18) t278_18 (ls' := [(2, .int (8 : Int32)), (1, .int w24v), (0, .int a)]) (zml mf278 (by decide)) rfl (c := 8) (by decide) rfl ?_
  refine zs_goto (pc := 21) t278_21 ?_
  refine zs_iload_n (pc := 4) t278_4 rfl ?_
  refine zs_bipush (pc := 5) t278_5 (v := 8) (by decide) ?_
  refine zs_icmp_geT (pc := 7) t278_7 li8 li8 (by decide) ?_
  refine zs_iload_n (pc := 24) t278_24 rfl ?_
  exact zs_iret (pc := 25) t278_25 mr278 rfl (hQ _ (by subst_vars; rfl))

