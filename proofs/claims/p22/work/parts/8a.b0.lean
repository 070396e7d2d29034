theorem V120_181 {X : zX} {l : Launch} {M : zM} {Q : Option Value → zM → Prop} {a b c d : Int32} (hs : zSk zMc M) (hI : zIv cLo cHi M) {i0 : Nat} (hi0 : i0 < 20) (ha : (-3) ≤ a.toInt ∧ a.toInt ≤ 3) (hb : (-20) ≤ b.toInt ∧ b.toInt ≤ 20) (hQ : ∀ M', zSk zMc M' → zIv cLo cHi M' → zFr [(181, 240, none)] M M' → ((zI M' (181 + 3 * i0) 0).toInt = a.toInt ∧ (zI M' (181 + 3 * i0) 1).toInt = b.toInt ∧ (zI M' (181 + 3 * i0) 2).toInt = c.toInt ∧ (zI M' (181 + 3 * i0) 3).toInt = d.toInt) → (∀ l : Nat, l < 8 → (zI M' (181 + 3 * i0 + 1) l).toInt = -2) → (∀ k j : Nat, k ≠ (181 + 3 * i0) → k ≠ (181 + 3 * i0 + 1) → zI M' k j = zI M k j) → Q none M') : zCall X l 0 0 0 120 [.ref (181 + 3 * i0), .int a, .int b, .int c, .int d] M Q := by
  have ga := zrg a
  have gb := zrg b
  have gc := zrg c
  have gd := zrg d
  refine zs_in (by decide) mf120 (Nat.le_of_ble_eq_true rfl) ?_
  show zGo X l 0 0 0 120 0 [(0, .ref (181 + 3 * i0)), (1, .int a), (2, .int b), (3, .int c), (4, .int d)] [] M _
  refine zs_aload_n (pc := 0) t120_0 rfl ?_
  refine zs_iload_n (pc := 1) t120_1 rfl ?_
  have w1 : zIv cLo cHi (zsI M (181 + 3 * i0) 0 a) := zIv.put hI (by rw [(cT181_0_0 i0 hi0).1, (cT181_0_0 i0 hi0).2]; exact ⟨by omega, by omega⟩)
  refine zs_putI (pc := 2) t120_2 (zk1 (hs.k (fT181_0 i0 hi0))) rfl ?_
  refine zs_aload_n (pc := 5) t120_5 rfl ?_
  refine zs_iload_n (pc := 6) t120_6 rfl ?_
  have w2 : zIv cLo cHi (zsI (zsI M (181 + 3 * i0) 0 a) (181 + 3 * i0) 1 b) := zIv.put w1 (by rw [(cT181_0_1 i0 hi0).1, (cT181_0_1 i0 hi0).2]; exact ⟨by omega, by omega⟩)
  refine zs_putI (pc := 7) t120_7 (zk1 (hs.k (fT181_0 i0 hi0))) rfl ?_
  refine zs_aload_n (pc := 10) t120_10 rfl ?_
  refine zs_iload_n (pc := 11) t120_11 rfl ?_
  have w3 : zIv cLo cHi (zsI (zsI (zsI M (181 + 3 * i0) 0 a) (181 + 3 * i0) 1 b) (181 + 3 * i0) 2 c) := zIv.put w2 (by rw [(cT181_0_2 i0 hi0).1, (cT181_0_2 i0 hi0).2]; exact zrg c)
  refine zs_putI (pc := 12) t120_12 (zk1 (hs.k (fT181_0 i0 hi0))) rfl ?_
  refine zs_aload_n (pc := 15) t120_15 rfl ?_
  refine zs_iload (pc := 16) t120_16 rfl ?_
  have w4 : zIv cLo cHi (zsI (zsI (zsI (zsI M (181 + 3 * i0) 0 a) (181 + 3 * i0) 1 b) (181 + 3 * i0) 2 c) (181 + 3 * i0) 3 d) := zIv.put w3 (by rw [(cT181_0_3 i0 hi0).1, (cT181_0_3 i0 hi0).2]; exact zrg d)
  refine zs_putI (pc := 18) t120_18 (zk1 (hs.k (fT181_0 i0 hi0))) rfl ?_
  refine zs_iconst (pc := 21) t120_21 (v := 0) (by decide) ?_
  refine zs_istore (pc := 22) t120_22 (ls' := [(5, .int (0 : Int32)), (0, .ref (181 + 3 * i0)), (1, .int a), (2, .int b), (3, .int c), (4, .int d)]) (zml mf120 (by decide)) rfl ?_
  refine zs_iload (pc := 24) t120_24 rfl ?_
  refine zs_bipush (pc := 26) t120_26 (v := 8) (by decide) ?_
  refine zs_icmp_geF (pc := 28) t120_28 li0 li8 (by decide) ?_
  refine zs_aload_n (pc := 31) t120_31 rfl ?_
  refine zs_get (pc := 32) t120_32 (by decide) (zk1 (hs.k (fT181_0 i0 hi0))) (hs.p rfl (fvT181_6 i0 hi0)) ?_
  refine zs_iload (pc := 35) t120_35 rfl ?_
  refine zs_bipush (pc := 37) t120_37 (v := -2) (by decide) ?_
  have w5 : zIv cLo cHi (zsI (zsI (zsI (zsI (zsI M (181 + 3 * i0) 0 a) (181 + 3 * i0) 1 b) (181 + 3 * i0) 2 c) (181 + 3 * i0) 3 d) (181 + 3 * i0 + 1) 0 (-2 : Int32)) := zIv.put w4 (by rw [(cT181_1 i0 hi0 0).1, (cT181_1 i0 hi0 0).2]; exact ⟨by decide, by decide⟩)
  refine zs_iast (pc := 39) t120_39 (j := 0) (by omega) (zk1 (hs.k (fT181_1 i0 hi0))) li0 (zk2 (hs.k (fT181_1 i0 hi0)) (by decide)) ?_
  refine zs_iinc (pc := 40) t120_40 (ls' := [(5, .int (1 : Int32)), (0, .ref (181 + 3 * i0)), (1, .int a), (2, .int b), (3, .int c), (4, .int d)]) (zml mf120 (by decide)) rfl (c := 1) (by decide) rfl ?_
  refine zs_goto (pc := 43) t120_43 ?_
  refine zs_iload (pc := 24) t120_24 rfl ?_
  refine zs_bipush (pc := 26) t120_26 (v := 8) (by decide) ?_
  refine zs_icmp_geF (pc := 28) t120_28 li1 li8 (by decide) ?_
  refine zs_aload_n (pc := 31) t120_31 rfl ?_
  refine zs_get (pc := 32) t120_32 (by decide) (zk1 (hs.k (fT181_0 i0 hi0))) (hs.p rfl (fvT181_6 i0 hi0)) ?_
  refine zs_iload (pc := 35) t120_35 rfl ?_
  refine zs_bipush (pc := 37) t120_37 (v := -2) (by decide) ?_
  have w6 : zIv cLo cHi (zsI (zsI (zsI (zsI (zsI (zsI M (181 + 3 * i0) 0 a) (181 + 3 * i0) 1 b) (181 + 3 * i0) 2 c) (181 + 3 * i0) 3 d) (181 + 3 * i0 + 1) 0 (-2 : Int32)) (181 + 3 * i0 + 1) 1 (-2 : Int32)) := zIv.put w5 (by rw [(cT181_1 i0 hi0 1).1, (cT181_1 i0 hi0 1).2]; exact ⟨by decide, by decide⟩)
  refine zs_iast (pc := 39) t120_39 (j := 1) (by omega) (zk1 (hs.k (fT181_1 i0 hi0))) li1 (zk2 (hs.k (fT181_1 i0 hi0)) (by decide)) ?_
  refine zs_iinc (pc := 40) t120_40 (ls' := [(5, .int (2 : Int32)), (0, .ref (181 + 3 * i0)), (1, .int a), (2, .int b), (3, .int c), (4, .int d)]) (zml mf120 (by decide)) rfl (c := 2) (by decide) rfl ?_
  refine zs_goto (pc := 43) t120_43 ?_
  refine zs_iload (pc := 24) t120_24 rfl ?_
  refine zs_bipush (pc := 26) t120_26 (v := 8) (by decide) ?_
  refine zs_icmp_geF (pc := 28) t120_28 li2 li8 (by decide) ?_
  refine zs_aload_n (pc := 31) t120_31 rfl ?_
  refine zs_get (pc := 32) t120_32 (by decide) (zk1 (hs.k (fT181_0 i0 hi0))) (hs.p rfl (fvT181_6 i0 hi0)) ?_
  refine zs_iload (pc := 35) t120_35 rfl ?_
  refine zs_bipush (pc := 37) t120_37 (v := -2) (by decide) ?_
  have w7 : zIv cLo cHi (zsI (zsI (zsI (zsI (zsI (zsI (zsI M (181 + 3 * i0) 0 a) (181 + 3 * i0) 1 b) (181 + 3 * i0) 2 c) (181 + 3 * i0) 3 d) (181 + 3 * i0 + 1) 0 (-2 : Int32)) (181 + 3 * i0 + 1) 1 (-2 : Int32)) (181 + 3 * i0 + 1) 2 (-2 : Int32)) := zIv.put w6 (by rw [(cT181_1 i0 hi0 2).1, (cT181_1 i0 hi0 2).2]; exact ⟨by decide, by decide⟩)
  refine zs_iast (pc := 39) t120_39 (j := 2) (by omega) (zk1 (hs.k (fT181_1 i0 hi0))) li2 (zk2 (hs.k (fT181_1 i0 hi0)) (by decide)) ?_
  refine zs_iinc (pc := 40) t120_40 (ls' := [(5, .int (3 : Int32)), (0, .ref (181 + 3 * i0)), (1, .int a), (2, .int b), (3, .int c), (4, .int d)]) (zml mf120 (by decide)) rfl (c := 3) (by decide) rfl ?_
  refine zs_goto (pc := 43) t120_43 ?_
  refine zs_iload (pc := 24) t120_24 rfl ?_
  refine zs_bipush (pc := 26) t120_26 (v := 8) (by decide) ?_
  refine zs_icmp_geF (pc := 28) t120_28 li3 li8 (by decide) ?_
  refine zs_aload_n (pc := 31) t120_31 rfl ?_
  refine zs_get (pc := 32) t120_32 (by decide) (zk1 (hs.k (fT181_0 i0 hi0))) (hs.p rfl (fvT181_6 i0 hi0)) ?_
  refine zs_iload (pc := 35) t120_35 rfl ?_
  refine zs_bipush (pc := 37) t120_37 (v := -2) (by decide) ?_
  have w8 : zIv cLo cHi (zsI (zsI (zsI (zsI (zsI (zsI (zsI (zsI M (181 + 3 * i0) 0 a) (181 + 3 * i0) 1 b) (181 + 3 * i0) 2 c) (181 + 3 * i0) 3 d) (181 + 3 * i0 + 1) 0 (-2 : Int32)) (181 + 3 * i0 + 1) 1 (-2 : Int32)) (181 + 3 * i0 + 1) 2 (-2 : Int32)) (181 + 3 * i0 + 1) 3 (-2 : Int32)) := zIv.put w7 (by rw [(cT181_1 i0 hi0 3).1, (cT181_1 i0 hi0 3).2]; exact ⟨by decide, by decide⟩)
  refine zs_iast (pc := 39) t120_39 (j := 3) (by omega) (zk1 (hs.k (fT181_1 i0 hi0))) li3 (zk2 (hs.k (fT181_1 i0 hi0)) (by decide)) ?_
  refine zs_iinc (pc := 40) t120_40 (ls' := [(5, .int (4 : Int32)), (0, .ref (181 + 3 * i0)), (1, .int a), (2, .int b), (3, .int c), (4, .int d)]) (zml mf120 (by decide)) rfl (c := 4) (by decide) rfl ?_
  refine zs_goto (pc := 43) t120_43 ?_
  refine zs_iload (pc := 24) t120_24 rfl ?_
  refine zs_bipush (pc := 26) t120_26 (v := 8) (by decide) ?_
  refine zs_icmp_geF (pc := 28) t120_28 li4 li8 (by decide) ?_
  refine zs_aload_n (pc := 31) t120_31 rfl ?_
  refine zs_get (pc := 32) t120_32 (by decide) (zk1 (hs.k (fT181_0 i0 hi0))) (hs.p rfl (fvT181_6 i0 hi0)) ?_
  refine zs_iload (pc := 35) t120_35 rfl ?_
  refine zs_bipush (pc := 37) t120_37 (v := -2) (by decide) ?_
  have w9 : zIv cLo cHi (zsI (zsI (zsI (zsI (zsI (zsI (zsI (zsI (zsI M (181 + 3 * i0) 0 a) (181 + 3 * i0) 1 b) (181 + 3 * i0) 2 c) (181 + 3 * i0) 3 d) (181 + 3 * i0 + 1) 0 (-2 : Int32)) (181 + 3 * i0 + 1) 1 (-2 : Int32)) (181 + 3 * i0 + 1) 2 (-2 : Int32)) (181 + 3 * i0 + 1) 3 (-2 : Int32)) (181 + 3 * i0 + 1) 4 (-2 : Int32)) := zIv.put w8 (by rw [(cT181_1 i0 hi0 4).1, (cT181_1 i0 hi0 4).2]; exact ⟨by decide, by decide⟩)
  refine zs_iast (pc := 39) t120_39 (j := 4) (by omega) (zk1 (hs.k (fT181_1 i0 hi0))) li4 (zk2 (hs.k (fT181_1 i0 hi0)) (by decide)) ?_
  refine zs_iinc (pc := 40) t120_40 (ls' := [(5, .int (5 : Int32)), (0, .ref (181 + 3 * i0)), (1, .int a), (2, .int b), (3, .int c), (4, .int d)]) (zml mf120 (by decide)) rfl (c := 5) (by decide) rfl ?_
  refine zs_goto (pc := 43) t120_43 ?_
  refine zs_iload (pc := 24) t120_24 rfl ?_
  refine zs_bipush (pc := 26) t120_26 (v := 8) (by decide) ?_
  refine zs_icmp_geF (pc := 28) t120_28 li5 li8 (by decide) ?_
  refine zs_aload_n (pc := 31) t120_31 rfl ?_
  refine zs_get (pc := 32) t120_32 (by decide) (zk1 (hs.k (fT181_0 i0 hi0))) (hs.p rfl (fvT181_6 i0 hi0)) ?_
  refine zs_iload (pc := 35) t120_35 rfl ?_
  refine zs_bipush (pc := 37) t120_37 (v := -2) (by decide) ?_
  have w10 : zIv cLo cHi (zsI (zsI (zsI (zsI (zsI (zsI (zsI (zsI (zsI (zsI M (181 + 3 * i0) 0 a) (181 + 3 * i0) 1 b) (181 + 3 * i0) 2 c) (181 + 3 * i0) 3 d) (181 + 3 * i0 + 1) 0 (-2 : Int32)) (181 + 3 * i0 + 1) 1 (-2 : Int32)) (181 + 3 * i0 + 1) 2 (-2 : Int32)) (181 + 3 * i0 + 1) 3 (-2 : Int32)) (181 + 3 * i0 + 1) 4 (-2 : Int32)) (181 + 3 * i0 + 1) 5 (-2 : Int32)) := zIv.put w9 (by rw [(cT181_1 i0 hi0 5).1, (cT181_1 i0 hi0 5).2]; exact ⟨by decide, by decide⟩)
  refine zs_iast (pc := 39) t120_39 (j := 5) (by omega) (zk1 (hs.k (fT181_1 i0 hi0))) li5 (zk2 (hs.k (fT181_1 i0 hi0)) (by decide)) ?_
  refine zs_iinc (pc := 40) t120_40 (ls' := [(5, .int (6 : Int32)), (0, .ref (181 + 3 * i0)), (1, .int a), (2, .int b), (3, .int c), (4, .int d)]) (zml mf120 (by decide)) rfl (c := 6) (by decide) rfl ?_
  refine zs_goto (pc := 43) t120_43 ?_
  refine zs_iload (pc := 24) t120_24 rfl ?_
  refine zs_bipush (pc := 26) t120_26 (v := 8) (by decide) ?_
  refine zs_icmp_geF (pc := 28) t120_28 li6 li8 (by decide) ?_
  refine zs_aload_n (pc := 31) t120_31 rfl ?_
  refine zs_get (pc := 32) t120_32 (by decide) (zk1 (hs.k (fT181_0 i0 hi0))) (hs.p rfl (fvT181_6 i0 hi0)) ?_
  refine zs_iload (pc := 35) t120_35 rfl ?_
  refine zs_bipush (pc := 37) t120_37 (v := -2) (by decide) ?_
  have w11 : zIv cLo cHi (zsI (zsI (zsI (zsI (zsI (zsI (zsI (zsI (zsI (zsI (zsI M (181 + 3 * i0) 0 a) (181 + 3 * i0) 1 b) (181 + 3 * i0) 2 c) (181 + 3 * i0) 3 d) (181 + 3 * i0 + 1) 0 (-2 : Int32)) (181 + 3 * i0 + 1) 1 (-2 : Int32)) (181 + 3 * i0 + 1) 2 (-2 : Int32)) (181 + 3 * i0 + 1) 3 (-2 : Int32)) (181 + 3 * i0 + 1) 4 (-2 : Int32)) (181 + 3 * i0 + 1) 5 (-2 : Int32)) (181 + 3 * i0 + 1) 6 (-2 : Int32)) := zIv.put w10 (by rw [(cT181_1 i0 hi0 6).1, (cT181_1 i0 hi0 6).2]; exact ⟨by decide, by decide⟩)
  refine zs_iast (pc := 39) t120_39 (j := 6) (by omega) (zk1 (hs.k (fT181_1 i0 hi0))) li6 (zk2 (hs.k (fT181_1 i0 hi0)) (by decide)) ?_
  refine zs_iinc (pc := 40) t120_40 (ls' := [(5, .int (7 : Int32)), (0, .ref (181 + 3 * i0)), (1, .int a), (2, .int b), (3, .int c), (4, .int d)]) (zml mf120 (by decide)) rfl (c := 7) (by decide) rfl ?_
  refine zs_goto (pc := 43) t120_43 ?_
  refine zs_iload (pc := 24) t120_24 rfl ?_
  refine zs_bipush (pc := 26) t120_26 (v := 8) (by decide) ?_
  refine zs_icmp_geF (pc := 28) t120_28 li7 li8 (by decide) ?_
  refine zs_aload_n (pc := 31) t120_31 rfl ?_
  refine zs_get (pc := 32) t120_32 (by decide) (zk1 (hs.k (fT181_0 i0 hi0))) (hs.p rfl (fvT181_6 i0 hi0)) ?_
  refine zs_iload (pc := 35) t120_35 rfl ?_
  refine zs_bipush (pc := 37) t120_37 (v := -2) (by decide) ?_
  have w12 : zIv cLo cHi (zsI (zsI (zsI (zsI (zsI (zsI (zsI (zsI (zsI (zsI (zsI (zsI M (181 + 3 * i0) 0 a) (181 + 3 * i0) 1 b) (181 + 3 * i0) 2 c) (181 + 3 * i0) 3 d) (181 + 3 * i0 + 1) 0 (-2 : Int32)) (181 + 3 * i0 + 1) 1 (-2 : Int32)) (181 + 3 * i0 + 1) 2 (-2 : Int32)) (181 + 3 * i0 + 1) 3 (-2 : Int32)) (181 + 3 * i0 + 1) 4 (-2 : Int32)) (181 + 3 * i0 + 1) 5 (-2 : Int32)) (181 + 3 * i0 + 1) 6 (-2 : Int32)) (181 + 3 * i0 + 1) 7 (-2 : Int32)) := zIv.put w11 (by rw [(cT181_1 i0 hi0 7).1, (cT181_1 i0 hi0 7).2]; exact ⟨by decide, by decide⟩)
  refine zs_iast (pc := 39) t120_39 (j := 7) (by omega) (zk1 (hs.k (fT181_1 i0 hi0))) li7 (zk2 (hs.k (fT181_1 i0 hi0)) (by decide)) ?_
  refine zs_iinc (pc := 40) t120_40 (ls' := [(5, .int (8 : Int32)), (0, .ref (181 + 3 * i0)), (1, .int a), (2, .int b), (3, .int c), (4, .int d)]) (zml mf120 (by decide)) rfl (c := 8) (by decide) rfl ?_
  refine zs_goto (pc := 43) t120_43 ?_
  refine zs_iload (pc := 24) t120_24 rfl ?_
  refine zs_bipush (pc := 26) t120_26 (v := 8) (by decide) ?_
  refine zs_icmp_geT (pc := 28) t120_28 li8 li8 (by decide) ?_
  have w13 : (zI (zsI (zsI (zsI (zsI (zsI (zsI (zsI (zsI (zsI (zsI (zsI (zsI M (181 + 3 * i0) 0 a) (181 + 3 * i0) 1 b) (181 + 3 * i0) 2 c) (181 + 3 * i0) 3 d) (181 + 3 * i0 + 1) 0 (-2 : Int32)) (181 + 3 * i0 + 1) 1 (-2 : Int32)) (181 + 3 * i0 + 1) 2 (-2 : Int32)) (181 + 3 * i0 + 1) 3 (-2 : Int32)) (181 + 3 * i0 + 1) 4 (-2 : Int32)) (181 + 3 * i0 + 1) 5 (-2 : Int32)) (181 + 3 * i0 + 1) 6 (-2 : Int32)) (181 + 3 * i0 + 1) 7 (-2 : Int32)) (181 + 3 * i0 + 1) 0).toInt = -2 := (congrArg Int32.toInt (((zIoj (by decide)).trans ((zIoj (by decide)).trans ((zIoj (by decide)).trans ((zIoj (by decide)).trans ((zIoj (by decide)).trans ((zIoj (by decide)).trans ((zIoj (by decide)).trans zIs))))))))).trans (by decide)
  have w14 : (zI (zsI (zsI (zsI (zsI (zsI (zsI (zsI (zsI (zsI (zsI (zsI (zsI M (181 + 3 * i0) 0 a) (181 + 3 * i0) 1 b) (181 + 3 * i0) 2 c) (181 + 3 * i0) 3 d) (181 + 3 * i0 + 1) 0 (-2 : Int32)) (181 + 3 * i0 + 1) 1 (-2 : Int32)) (181 + 3 * i0 + 1) 2 (-2 : Int32)) (181 + 3 * i0 + 1) 3 (-2 : Int32)) (181 + 3 * i0 + 1) 4 (-2 : Int32)) (181 + 3 * i0 + 1) 5 (-2 : Int32)) (181 + 3 * i0 + 1) 6 (-2 : Int32)) (181 + 3 * i0 + 1) 7 (-2 : Int32)) (181 + 3 * i0 + 1) 1).toInt = -2 := (congrArg Int32.toInt (((zIoj (by decide)).trans ((zIoj (by decide)).trans ((zIoj (by decide)).trans ((zIoj (by decide)).trans ((zIoj (by decide)).trans ((zIoj (by decide)).trans zIs)))))))).trans (by decide)
  have w15 : (zI (zsI (zsI (zsI (zsI (zsI (zsI (zsI (zsI (zsI (zsI (zsI (zsI M (181 + 3 * i0) 0 a) (181 + 3 * i0) 1 b) (181 + 3 * i0) 2 c) (181 + 3 * i0) 3 d) (181 + 3 * i0 + 1) 0 (-2 : Int32)) (181 + 3 * i0 + 1) 1 (-2 : Int32)) (181 + 3 * i0 + 1) 2 (-2 : Int32)) (181 + 3 * i0 + 1) 3 (-2 : Int32)) (181 + 3 * i0 + 1) 4 (-2 : Int32)) (181 + 3 * i0 + 1) 5 (-2 : Int32)) (181 + 3 * i0 + 1) 6 (-2 : Int32)) (181 + 3 * i0 + 1) 7 (-2 : Int32)) (181 + 3 * i0 + 1) 2).toInt = -2 := (congrArg Int32.toInt (((zIoj (by decide)).trans ((zIoj (by decide)).trans ((zIoj (by decide)).trans ((zIoj (by decide)).trans ((zIoj (by decide)).trans zIs))))))).trans (by decide)
  have w16 : (zI (zsI (zsI (zsI (zsI (zsI (zsI (zsI (zsI (zsI (zsI (zsI (zsI M (181 + 3 * i0) 0 a) (181 + 3 * i0) 1 b) (181 + 3 * i0) 2 c) (181 + 3 * i0) 3 d) (181 + 3 * i0 + 1) 0 (-2 : Int32)) (181 + 3 * i0 + 1) 1 (-2 : Int32)) (181 + 3 * i0 + 1) 2 (-2 : Int32)) (181 + 3 * i0 + 1) 3 (-2 : Int32)) (181 + 3 * i0 + 1) 4 (-2 : Int32)) (181 + 3 * i0 + 1) 5 (-2 : Int32)) (181 + 3 * i0 + 1) 6 (-2 : Int32)) (181 + 3 * i0 + 1) 7 (-2 : Int32)) (181 + 3 * i0 + 1) 3).toInt = -2 := (congrArg Int32.toInt (((zIoj (by decide)).trans ((zIoj (by decide)).trans ((zIoj (by decide)).trans ((zIoj (by decide)).trans zIs)))))).trans (by decide)
  have w17 : (zI (zsI (zsI (zsI (zsI (zsI (zsI (zsI (zsI (zsI (zsI (zsI (zsI M (181 + 3 * i0) 0 a) (181 + 3 * i0) 1 b) (181 + 3 * i0) 2 c) (181 + 3 * i0) 3 d) (181 + 3 * i0 + 1) 0 (-2 : Int32)) (181 + 3 * i0 + 1) 1 (-2 : Int32)) (181 + 3 * i0 + 1) 2 (-2 : Int32)) (181 + 3 * i0 + 1) 3 (-2 : Int32)) (181 + 3 * i0 + 1) 4 (-2 : Int32)) (181 + 3 * i0 + 1) 5 (-2 : Int32)) (181 + 3 * i0 + 1) 6 (-2 : Int32)) (181 + 3 * i0 + 1) 7 (-2 : Int32)) (181 + 3 * i0 + 1) 4).toInt = -2 := (congrArg Int32.toInt (((zIoj (by decide)).trans ((zIoj (by decide)).trans ((zIoj (by decide)).trans zIs))))).trans (by decide)
  have w18 : (zI (zsI (zsI (zsI (zsI (zsI (zsI (zsI (zsI (zsI (zsI (zsI (zsI M (181 + 3 * i0) 0 a) (181 + 3 * i0) 1 b) (181 + 3 * i0) 2 c) (181 + 3 * i0) 3 d) (181 + 3 * i0 + 1) 0 (-2 : Int32)) (181 + 3 * i0 + 1) 1 (-2 : Int32)) (181 + 3 * i0 + 1) 2 (-2 : Int32)) (181 + 3 * i0 + 1) 3 (-2 : Int32)) (181 + 3 * i0 + 1) 4 (-2 : Int32)) (181 + 3 * i0 + 1) 5 (-2 : Int32)) (181 + 3 * i0 + 1) 6 (-2 : Int32)) (181 + 3 * i0 + 1) 7 (-2 : Int32)) (181 + 3 * i0 + 1) 5).toInt = -2 := (congrArg Int32.toInt (((zIoj (by decide)).trans ((zIoj (by decide)).trans zIs)))).trans (by decide)
  have w19 : (zI (zsI (zsI (zsI (zsI (zsI (zsI (zsI (zsI (zsI (zsI (zsI (zsI M (181 + 3 * i0) 0 a) (181 + 3 * i0) 1 b) (181 + 3 * i0) 2 c) (181 + 3 * i0) 3 d) (181 + 3 * i0 + 1) 0 (-2 : Int32)) (181 + 3 * i0 + 1) 1 (-2 : Int32)) (181 + 3 * i0 + 1) 2 (-2 : Int32)) (181 + 3 * i0 + 1) 3 (-2 : Int32)) (181 + 3 * i0 + 1) 4 (-2 : Int32)) (181 + 3 * i0 + 1) 5 (-2 : Int32)) (181 + 3 * i0 + 1) 6 (-2 : Int32)) (181 + 3 * i0 + 1) 7 (-2 : Int32)) (181 + 3 * i0 + 1) 6).toInt = -2 := (congrArg Int32.toInt (((zIoj (by decide)).trans zIs))).trans (by decide)
  have w20 : (zI (zsI (zsI (zsI (zsI (zsI (zsI (zsI (zsI (zsI (zsI (zsI (zsI M (181 + 3 * i0) 0 a) (181 + 3 * i0) 1 b) (181 + 3 * i0) 2 c) (181 + 3 * i0) 3 d) (181 + 3 * i0 + 1) 0 (-2 : Int32)) (181 + 3 * i0 + 1) 1 (-2 : Int32)) (181 + 3 * i0 + 1) 2 (-2 : Int32)) (181 + 3 * i0 + 1) 3 (-2 : Int32)) (181 + 3 * i0 + 1) 4 (-2 : Int32)) (181 + 3 * i0 + 1) 5 (-2 : Int32)) (181 + 3 * i0 + 1) 6 (-2 : Int32)) (181 + 3 * i0 + 1) 7 (-2 : Int32)) (181 + 3 * i0 + 1) 7).toInt = -2 := (congrArg Int32.toInt (zIs)).trans (by decide)
  exact zs_vret (pc := 46) t120_46 mr120 (hQ _ hs w12 (((((((((((((zFr.refl).put (zinW_r (lo := 181) (hi := 240) (by decide) (by omega) (by omega))).put (zinW_r (lo := 181) (hi := 240) (by decide) (by omega) (by omega))).put (zinW_r (lo := 181) (hi := 240) (by decide) (by omega) (by omega))).put (zinW_r (lo := 181) (hi := 240) (by decide) (by omega) (by omega))).put (zinW_r (lo := 181) (hi := 240) (by decide) (by omega) (by omega))).put (zinW_r (lo := 181) (hi := 240) (by decide) (by omega) (by omega))).put (zinW_r (lo := 181) (hi := 240) (by decide) (by omega) (by omega))).put (zinW_r (lo := 181) (hi := 240) (by decide) (by omega) (by omega))).put (zinW_r (lo := 181) (hi := 240) (by decide) (by omega) (by omega))).put (zinW_r (lo := 181) (hi := 240) (by decide) (by omega) (by omega))).put (zinW_r (lo := 181) (hi := 240) (by decide) (by omega) (by omega))).put (zinW_r (lo := 181) (hi := 240) (by decide) (by omega) (by omega))) ⟨congrArg Int32.toInt (((zIo (by omega)).trans ((zIo (by omega)).trans ((zIo (by omega)).trans ((zIo (by omega)).trans ((zIo (by omega)).trans ((zIo (by omega)).trans ((zIo (by omega)).trans ((zIo (by omega)).trans ((zIoj (by decide)).trans ((zIoj (by decide)).trans ((zIoj (by decide)).trans zIs)))))))))))), congrArg Int32.toInt (((zIo (by omega)).trans ((zIo (by omega)).trans ((zIo (by omega)).trans ((zIo (by omega)).trans ((zIo (by omega)).trans ((zIo (by omega)).trans ((zIo (by omega)).trans ((zIo (by omega)).trans ((zIoj (by decide)).trans ((zIoj (by decide)).trans zIs))))))))))), congrArg Int32.toInt (((zIo (by omega)).trans ((zIo (by omega)).trans ((zIo (by omega)).trans ((zIo (by omega)).trans ((zIo (by omega)).trans ((zIo (by omega)).trans ((zIo (by omega)).trans ((zIo (by omega)).trans ((zIoj (by decide)).trans zIs)))))))))), congrArg Int32.toInt (((zIo (by omega)).trans ((zIo (by omega)).trans ((zIo (by omega)).trans ((zIo (by omega)).trans ((zIo (by omega)).trans ((zIo (by omega)).trans ((zIo (by omega)).trans ((zIo (by omega)).trans zIs)))))))))⟩ (fun l hl => by rcases (show l = 0 ∨ l = 1 ∨ l = 2 ∨ l = 3 ∨ l = 4 ∨ l = 5 ∨ l = 6 ∨ l = 7 by omega) with q | q | q | q | q | q | q | q <;> (subst q; assumption)) (fun k j q1 q2 => ((zIo (by omega)).trans ((zIo (by omega)).trans ((zIo (by omega)).trans ((zIo (by omega)).trans ((zIo (by omega)).trans ((zIo (by omega)).trans ((zIo (by omega)).trans ((zIo (by omega)).trans ((zIo (by omega)).trans ((zIo (by omega)).trans ((zIo (by omega)).trans ((zIo (by omega)).trans rfl))))))))))))))
set_option maxHeartbeats 8000000 in
theorem V121_181 {X : zX} {l : Launch} {M : zM} {Q : Option Value → zM → Prop} (hs : zSk zMc M) (hI : zIv cLo cHi M) {i0 : Nat} (hi0 : i0 < 20) {F : Nat → Int} {L : Nat → Bool} {φ : Nat → Nat} {n : Nat} {v0 : Int} (x0 : zWF F) (x1 : zPn M 166 169 170 F) (x2 : zVt M 166 171 172 173 F L n φ) (x3 : zBe F L ((zI M (181 + 3 * i0) 0).toInt, (zI M (181 + 3 * i0) 1).toInt, (zI M (181 + 3 * i0) 2).toInt) v0) (x4 : ∀ l : Nat, l < 8 → (zI M (181 + 3 * i0 + 1) l).toInt = -2) (hQ : ∀ M', zSk zMc M' → zIv cLo cHi M' → zFr [(181, 240, none)] M M' → (zTo M M' (181 + 3 * i0) ∧ ∀ l : Nat, l < 8 → zNr F L ((zI M (181 + 3 * i0) 0).toInt, (zI M (181 + 3 * i0) 1).toInt, (zI M (181 + 3 * i0) 2).toInt) l (zI M' (181 + 3 * i0 + 1) l).toInt) → Q none M') : zCall X l 1 0 0 121 [.ref 166, .ref (181 + 3 * i0)] M Q := by
  refine zs_in (by decide) mf121 (Nat.le_of_ble_eq_true rfl) ?_
  show zGo X l 1 0 0 121 0 [(0, .ref 166), (1, .ref (181 + 3 * i0))] [] M _
  have f1 := x0.1
  have f3 := x0.2.2.2
  have xw := x1.1
  have xm := x2.1
  have xl := x2.2.1
  have xr : -F 5 ≤ (zI M (181 + 3 * i0) 0).toInt ∧ (zI M (181 + 3 * i0) 0).toInt ≤ F 5 ∧ -F 6 ≤ (zI M (181 + 3 * i0) 1).toInt ∧ (zI M (181 + 3 * i0) 1).toInt ≤ F 6 := x3.1
  have hb : -150000000 ≤ (zI M (181 + 3 * i0) 2).toInt * F 7 ∧ (zI M (181 + 3 * i0) 2).toInt * F 7 ≤ 150000000 := x3.b x0
  refine zs_aload_n (pc := 0) t121_0 rfl ?_
  have w1 := ibT181_0_0 hI hi0
  refine zs_get (pc := 1) t121_1 (by decide) (zk1 (hs.k (fT181_0 i0 hi0))) (zfvi rfl rfl) ?_
  refine zs_iconst (pc := 4) t121_4 (v := 3) (by decide) ?_
  obtain ⟨w2v, w2e, w2⟩ := ziadd (a := (zI M (181 + 3 * i0) 0)) (b := (3 : Int32)) rfl li3 (by omega) (by omega)
  refine zs_iadd (pc := 5) t121_5 (c := w2v) w2e ?_
  refine zs_bipush (pc := 6) t121_6 (v := 8) (by decide) ?_
  obtain ⟨w3v, w3⟩ : ∃ v, w2v * (8 : Int32) = v := ⟨_, rfl⟩
  have w3g : w3v.toInt = ((zI M (181 + 3 * i0) 0).toInt + 3) * 8 := by rw [← w3]; exact zmulc w2 li8 (by omega) (by omega)
  refine zs_imul (pc := 8) t121_8 (c := w3v) w3 ?_
  refine zs_istore_n (pc := 9) t121_9 (ls' := [(2, .int w3v), (0, .ref 166), (1, .ref (181 + 3 * i0))]) (zml mf121 (by decide)) rfl ?_
  refine zs_aload_n (pc := 10) t121_10 rfl ?_
  have w4 := ibT181_0_1 hI hi0
  refine zs_get (pc := 11) t121_11 (by decide) (zk1 (hs.k (fT181_0 i0 hi0))) (zfvi rfl rfl) ?_
  refine zs_bipush (pc := 14) t121_14 (v := 20) (by decide) ?_
  obtain ⟨w5v, w5e, w5⟩ := ziadd (a := (zI M (181 + 3 * i0) 1)) (b := (20 : Int32)) rfl li20 (by omega) (by omega)
  refine zs_iadd (pc := 16) t121_16 (c := w5v) w5e ?_
  refine zs_bipush (pc := 17) t121_17 (v := 8) (by decide) ?_
  obtain ⟨w6v, w6⟩ : ∃ v, w5v * (8 : Int32) = v := ⟨_, rfl⟩
  have w6g : w6v.toInt = ((zI M (181 + 3 * i0) 1).toInt + 20) * 8 := by rw [← w6]; exact zmulc w5 li8 (by omega) (by omega)
  refine zs_imul (pc := 19) t121_19 (c := w6v) w6 ?_
  refine zs_istore_n (pc := 20) t121_20 (ls' := [(3, .int w6v), (2, .int w3v), (0, .ref 166), (1, .ref (181 + 3 * i0))]) (zml mf121 (by decide)) rfl ?_
  refine zs_aload_n (pc := 21) t121_21 rfl ?_
  have w7 := zrg (zI M (181 + 3 * i0) 2)
  refine zs_get (pc := 22) t121_22 (by decide) (zk1 (hs.k (fT181_0 i0 hi0))) (zfvi rfl rfl) ?_
  refine zs_aload_n (pc := 25) t121_25 rfl ?_
  have w8 := ib166_5 hI
  refine zs_get (pc := 26) t121_26 (by decide) (zk1 (hs.k fk_zMc_166)) (zfvi rfl rfl) ?_
  obtain ⟨w9v, w9⟩ : ∃ v, (zI M (181 + 3 * i0) 2) * (zI M 166 5) = v := ⟨_, rfl⟩
  have w9g := zrg w9v
  refine zs_imul (pc := 29) t121_29 (c := w9v) w9 ?_
  refine zs_aload_n (pc := 30) t121_30 rfl ?_
  refine zs_get (pc := 31) t121_31 (by decide) (zk1 (hs.k fk_zMc_166)) (zfvi rfl rfl) ?_
  refine zs_iconst (pc := 34) t121_34 (v := 2) (by decide) ?_
  obtain ⟨w10v, w10⟩ : ∃ v, (zI M 166 5) / (2 : Int32) = v := ⟨_, rfl⟩
  have w10g : w10v.toInt = (zI M 166 5).toInt / 2 := by rw [← w10]; exact zdivp rfl li2 (by omega) (by decide)
  refine zs_idiv (pc := 35) t121_35 (by decide) (c := w10v) w10 ?_
  obtain ⟨w11v, w11⟩ : ∃ v, v = w9v + w10v := ⟨_, rfl⟩
  have w11g := zrg w11v
  refine zs_iadd (pc := 36) t121_36 (c := w11v) w11.symm ?_
  refine zs_istore (pc := 37) t121_37 (ls' := [(4, .int w11v), (3, .int w6v), (2, .int w3v), (0, .ref 166), (1, .ref (181 + 3 * i0))]) (zml mf121 (by decide)) rfl ?_
  refine zs_aload_n (pc := 39) t121_39 rfl ?_
  refine zs_get (pc := 40) t121_40 (by decide) (zk1 (hs.k (fT181_0 i0 hi0))) (hs.p rfl (fvT181_7 i0 hi0)) ?_
  refine zs_astore (pc := 43) t121_43 (ls' := [(5, .ref (181 + 3 * i0 + 2)), (4, .int w11v), (3, .int w6v), (2, .int w3v), (0, .ref 166), (1, .ref (181 + 3 * i0))]) (zml mf121 (by decide)) rfl ?_
  refine zs_iconst (pc := 45) t121_45 (v := 0) (by decide) ?_
  refine zs_istore (pc := 46) t121_46 (ls' := [(6, .int (0 : Int32)), (5, .ref (181 + 3 * i0 + 2)), (4, .int w11v), (3, .int w6v), (2, .int w3v), (0, .ref 166), (1, .ref (181 + 3 * i0))]) (zml mf121 (by decide)) rfl ?_
  have hmid : w11v.toInt = (zI M (181 + 3 * i0) 2).toInt * F 7 + F 7 / 2 := mid.mk w9 w10g w11 rfl xw hb.1 hb.2 (by omega) (by omega)
  have hmb : -150001000 ≤ w11v.toInt ∧ w11v.toInt ≤ 150001000 := by omega
  have w12L : ∀ (m : Nat) (w12x6 : Int32) (w12M : zM), (0 ≤ w12x6.toInt ∧ w12x6.toInt ≤ 60) → zSk zMc w12M → zIv cLo cHi w12M → zFr [(181, 240, none)] M w12M → (w12x6.toInt ≤ n) → (∀ i : Nat, (i : Int) = w12x6.toInt → zNh M w12M F φ ((zI M (181 + 3 * i0) 0).toInt, (zI M (181 + 3 * i0) 1).toInt, (zI M (181 + 3 * i0) 2).toInt) (181 + 3 * i0) i) → 60 - w12x6.toInt ≤ (m : Int) → zGo X l 1 0 0 121 48 [(0, .ref 166), (1, .ref (181 + 3 * i0)), (2, .int w3v), (3, .int w6v), (4, .int w11v), (5, .ref (181 + 3 * i0 + 2)), (6, .int w12x6)] [] w12M Q := by
    intro m
    induction m using Nat.strongRecOn with
    | ind w12m w12ih =>
      intro w12x6 w12M w12b6 w12s w12I w12F w12r0 w12t0 w12q
      obtain ⟨w13n, w13⟩ : ∃ n : Nat, w12x6.toInt = (n : Int) := ⟨(w12x6.toInt).toNat, by omega⟩
      have hT := w12t0 w13n (by omega)
      have hc2 : (zI w12M (181 + 3 * i0) 2).toInt = (zI M (181 + 3 * i0) 2).toInt := congrArg Int32.toInt (hT.1 _ 2 (by omega) (by omega))
      refine zs_iload (pc := 48) t121_48 rfl ?_
      refine zs_aload_n (pc := 50) t121_50 rfl ?_
      have w14 := ib166_6 hI
      refine zs_get (pc := 51) t121_51 (by decide) (zk1 (w12s.k fk_zMc_166)) (zfvi rfl ((w12F 166 6 rfl).trans rfl)) ?_
      by_cases w15 : (zI M 166 6).toInt ≤ w12x6.toInt
      · refine zs_icmp_geT (pc := 54) t121_54 rfl rfl (by omega) ?_
        exact zs_vret (pc := 171) t121_171 mr121 (hQ _ w12s w12I ((zFr.refl).trans (w12F.mono rfl)) ((w12t0 n (by omega)).end rfl x2))
      · refine zs_icmp_geF (pc := 54) t121_54 rfl rfl (by omega) ?_
        refine zs_aload_n (pc := 57) t121_57 rfl ?_
        refine zs_get (pc := 58) t121_58 (by decide) (zk1 (w12s.k fk_zMc_166)) (w12s.p rfl fv_zMc_166_8) ?_
        refine zs_iload (pc := 61) t121_61 rfl ?_
        have w16 := ib172 hI w13n
        have hv := x2.2.2.1 w13n (by omega)
        have hv1 := hv.1
        have hv3 := hv.2.2.1
        have hv4 := hv.2.2.2.1
        have hv5 := hv.2.2.2.2
        have hw := x0.2.2.1 (φ w13n) hv1
        obtain ⟨w17n, w17⟩ : ∃ n : Nat, (zI M 172 w13n).toInt = (n : Int) := ⟨((zI M 172 w13n).toInt).toNat, by omega⟩
        have hx := x0.2.1 w17n (by omega)
        have hb := pLf.b (F := F) (l := w17n) (t := (zI M (181 + 3 * i0) 1).toInt) (k := (zI M (181 + 3 * i0) 0).toInt) hx.1 hx.2.1 (by omega) (by omega) (by omega) (by omega)
        refine zs_iald (pc := 63) t121_63 (j := w13n) (by decide) (zk1 (w12s.k fk_zMc_172)) (show w12x6.toInt = ((w13n : Nat) : Int) by omega) (zk2 (w12s.k fk_zMc_172) (by omega)) ((w12F 172 w13n rfl).trans rfl) ?_
        refine zs_istore (pc := 64) t121_64 (ls' := [(7, .int (zI M 172 w13n)), (0, .ref 166), (1, .ref (181 + 3 * i0)), (2, .int w3v), (3, .int w6v), (4, .int w11v), (5, .ref (181 + 3 * i0 + 2)), (6, .int w12x6)]) (zml mf121 (by decide)) rfl ?_
        refine zs_aload_n (pc := 66) t121_66 rfl ?_
        refine zs_get (pc := 67) t121_67 (by decide) (zk1 (w12s.k fk_zMc_166)) (w12s.p rfl fv_zMc_166_9) ?_
        refine zs_iload (pc := 70) t121_70 rfl ?_
        have w18 := zrg (zI M 173 w13n)
        refine zs_iald (pc := 72) t121_72 (j := w13n) (by decide) (zk1 (w12s.k fk_zMc_173)) (show w12x6.toInt = ((w13n : Nat) : Int) by omega) (zk2 (w12s.k fk_zMc_173) (by omega)) ((w12F 173 w13n rfl).trans rfl) ?_
        refine zs_aload_n (pc := 73) t121_73 rfl ?_
        refine zs_get (pc := 74) t121_74 (by decide) (zk1 (w12s.k fk_zMc_166)) (w12s.p rfl fv_zMc_166_3) ?_
        refine zs_iload_n (pc := 77) t121_77 rfl ?_
        refine zs_iload (pc := 78) t121_78 rfl ?_
        obtain ⟨w19v, w19e, w19⟩ := ziadd (a := w3v) (b := (zI M 172 w13n)) w3g rfl (by omega) (by omega)
        refine zs_iadd (pc := 80) t121_80 (c := w19v) w19e ?_
        obtain ⟨w20n, w20⟩ : ∃ n : Nat, w19v.toInt = (n : Int) := ⟨w19v.toInt.toNat, by omega⟩
        have w21 := zrg (zI M 169 w20n)
        have w22 := x1.2.1 w17n w20n (zI M (181 + 3 * i0) 0).toInt (by omega) (by omega) (by omega) (by omega)
        have w23 : -98802099 ≤ (zI M 169 w20n).toInt ∧ (zI M 169 w20n).toInt ≤ 98802099 := by omega
        refine zs_iald (pc := 81) t121_81 (j := w20n) (by decide) (zk1 (w12s.k fk_zMc_169)) w20 (zk2 (w12s.k fk_zMc_169) (by omega)) ((w12F 169 w20n rfl).trans rfl) ?_
        obtain ⟨w24v, w24e, w24⟩ := zisub (a := (zI M 173 w13n)) (b := (zI M 169 w20n)) rfl rfl (by omega) (by omega)
        refine zs_isub (pc := 82) t121_82 (c := w24v) w24e ?_
        refine zs_aload_n (pc := 83) t121_83 rfl ?_
        refine zs_get (pc := 84) t121_84 (by decide) (zk1 (w12s.k fk_zMc_166)) (w12s.p rfl fv_zMc_166_4) ?_
        refine zs_iload_n (pc := 87) t121_87 rfl ?_
        refine zs_iload (pc := 88) t121_88 rfl ?_
        obtain ⟨w25v, w25e, w25⟩ := ziadd (a := w6v) (b := (zI M 172 w13n)) w6g rfl (by omega) (by omega)
        refine zs_iadd (pc := 90) t121_90 (c := w25v) w25e ?_
        obtain ⟨w26n, w26⟩ : ∃ n : Nat, w25v.toInt = (n : Int) := ⟨w25v.toInt.toNat, by omega⟩
        have w27 := zrg (zI M 170 w26n)
        have w28 := x1.2.2 w17n w26n (zI M (181 + 3 * i0) 1).toInt (by omega) (by omega) (by omega) (by omega)
        have w29 : -98901 ≤ (zI M 170 w26n).toInt ∧ (zI M 170 w26n).toInt ≤ 98901 := by omega
        refine zs_iald (pc := 91) t121_91 (j := w26n) (by decide) (zk1 (w12s.k fk_zMc_170)) w26 (zk2 (w12s.k fk_zMc_170) (by omega)) ((w12F 170 w26n rfl).trans rfl) ?_
        obtain ⟨w30v, w30e, w30⟩ := zisub (a := w24v) (b := (zI M 170 w26n)) w24 rfl (by omega) (by omega)
        refine zs_isub (pc := 92) t121_92 (c := w30v) w30e ?_
        refine zs_istore (pc := 93) t121_93 (ls' := [(8, .int w30v), (7, .int (zI M 172 w13n)), (0, .ref 166), (1, .ref (181 + 3 * i0)), (2, .int w3v), (3, .int w6v), (4, .int w11v), (5, .ref (181 + 3 * i0 + 2)), (6, .int w12x6)]) (zml mf121 (by decide)) rfl ?_
        refine zs_iload (pc := 95) t121_95 rfl ?_
        refine zs_aload_n (pc := 97) t121_97 rfl ?_
        refine zs_get (pc := 98) t121_98 (by decide) (zk1 (w12s.k fk_zMc_166)) (zfvi rfl ((w12F 166 5 rfl).trans rfl)) ?_
        have w31 : w30v.toInt = (((zI M 173 w13n).toInt - (zI M 169 w20n).toInt) - (zI M 170 w26n).toInt) := w30
        have w32 : w30v.toInt = (((zI M 173 w13n).toInt - (zI M 169 w20n).toInt) - (zI M 170 w26n).toInt) := w30
        refine zs_invS (pc := 101) (as := [.int w30v, .int (zI M 166 5)]) (st := []) t121_101 (by decide) mf54 rfl rfl ⟨by decide, by decide, Nat.le_of_ble_eq_true rfl, Nat.le_of_ble_eq_true rfl⟩ (X54 w12s w12I ⟨by omega, by omega⟩ ?_) (fun _ _ q => q)
        intro w33v w33x0
        have w33g := zrg w33v
        have hf : w30v.toInt = F (31 + 4 * φ w13n) - pLf F w17n (zI M (181 + 3 * i0) 1).toInt (zI M (181 + 3 * i0) 0).toInt := by unfold pLf; omega
        have hc : w33v.toInt = cel F (zI M (181 + 3 * i0) 0).toInt (zI M (181 + 3 * i0) 1).toInt (φ w13n) := by
          rw [w33x0, hf, show (zI M 166 5).toInt = F 7 by omega]
          unfold cel
          rw [show (F (30 + 4 * φ w13n)).toNat = w17n by omega]
        show zGo X l 1 0 0 121 104 [(8, .int w30v), (7, .int (zI M 172 w13n)), (0, .ref 166), (1, .ref (181 + 3 * i0)), (2, .int w3v), (3, .int w6v), (4, .int w11v), (5, .ref (181 + 3 * i0 + 2)), (6, .int w12x6)] [.int w33v] w12M _
        refine zs_aload_n (pc := 104) t121_104 rfl ?_
        have w34 := zrg (zI w12M (181 + 3 * i0) 2)
        refine zs_get (pc := 105) t121_105 (by decide) (zk1 (w12s.k (fT181_0 i0 hi0))) (zfvi rfl rfl) ?_
        by_cases w35 : w33v.toInt = (zI w12M (181 + 3 * i0) 2).toInt
        · refine zs_icmp_eqT (pc := 108) t121_108 rfl rfl (by omega) ?_
          refine zs_iload (pc := 114) t121_114 rfl ?_
          refine zs_iload (pc := 116) t121_116 rfl ?_
          obtain ⟨w36v, w36e, w36⟩ := zisub (a := w30v) (b := w11v) w30 rfl (by omega) (by omega)
          refine zs_isub (pc := 118) t121_118 (c := w36v) w36e ?_
          refine zs_invS (pc := 119) (as := [.int w36v]) (st := []) t121_119 (by decide) mf122 rfl rfl ⟨by decide, by decide, Nat.le_of_ble_eq_true rfl, Nat.le_of_ble_eq_true rfl⟩ (zs_in (by decide) mf122 (Nat.le_of_ble_eq_true rfl) ?_) (fun _ _ q => q)
          show zGo X l 0 0 0 122 0 [(0, .int w36v)] [] w12M _
          refine zs_iload_n (pc := 0) t122_0 rfl ?_
          by_cases w37 : 0 ≤ ((((zI M 173 w13n).toInt - (zI M 169 w20n).toInt) - (zI M 170 w26n).toInt) - w11v.toInt)
          · refine zs_if_geT (pc := 1) t122_1 w36 (by omega) ?_
            refine zs_iload_n (pc := 9) t122_9 rfl ?_
            refine zs_iret (pc := 10) t122_10 mr122 rfl ?_
            show zGo X l 1 0 0 121 122 [(8, .int w30v), (7, .int (zI M 172 w13n)), (0, .ref 166), (1, .ref (181 + 3 * i0)), (2, .int w3v), (3, .int w6v), (4, .int w11v), (5, .ref (181 + 3 * i0 + 2)), (6, .int w12x6)] [.int w36v] w12M _
            refine zs_istore (pc := 122) t121_122 (ls' := [(9, .int w36v), (8, .int w30v), (7, .int (zI M 172 w13n)), (0, .ref 166), (1, .ref (181 + 3 * i0)), (2, .int w3v), (3, .int w6v), (4, .int w11v), (5, .ref (181 + 3 * i0 + 2)), (6, .int w12x6)]) (zml mf121 (by decide)) rfl ?_
            refine zs_aload_n (pc := 124) t121_124 rfl ?_
            refine zs_get (pc := 125) t121_125 (by decide) (zk1 (w12s.k (fT181_0 i0 hi0))) (w12s.p rfl (fvT181_6 i0 hi0)) ?_
            refine zs_iload (pc := 128) t121_128 rfl ?_
            have w38 := ibT181_1 w12I hi0 w17n
            refine zs_iald (pc := 130) t121_130 (j := w17n) (by omega) (zk1 (w12s.k (fT181_1 i0 hi0))) (show (zI M 172 w13n).toInt = ((w17n : Nat) : Int) by omega) (zk2 (w12s.k (fT181_1 i0 hi0)) (by omega)) rfl ?_
            by_cases w39 : (zI w12M (181 + 3 * i0 + 1) w17n).toInt < 0
            · refine zs_if_ltT (pc := 131) t121_131 rfl (by omega) ?_
              refine zs_aload_n (pc := 144) t121_144 rfl ?_
              refine zs_get (pc := 145) t121_145 (by decide) (zk1 (w12s.k (fT181_0 i0 hi0))) (w12s.p rfl (fvT181_6 i0 hi0)) ?_
              refine zs_iload (pc := 148) t121_148 rfl ?_
              refine zs_aload_n (pc := 150) t121_150 rfl ?_
              refine zs_get (pc := 151) t121_151 (by decide) (zk1 (w12s.k fk_zMc_166)) (w12s.p rfl fv_zMc_166_7) ?_
              refine zs_iload (pc := 154) t121_154 rfl ?_
              have w40 := ib171 hI w13n
              refine zs_iald (pc := 156) t121_156 (j := w13n) (by decide) (zk1 (w12s.k fk_zMc_171)) (show w12x6.toInt = ((w13n : Nat) : Int) by omega) (zk2 (w12s.k fk_zMc_171) (by omega)) ((w12F 171 w13n rfl).trans rfl) ?_
              have w41 : zIv cLo cHi (zsI w12M (181 + 3 * i0 + 1) w17n (zI M 171 w13n)) := zIv.put w12I (by rw [(cT181_1 i0 hi0 w17n).1, (cT181_1 i0 hi0 w17n).2]; exact ⟨by omega, by omega⟩)
              refine zs_iast (pc := 157) t121_157 (j := w17n) (by omega) (zk1 (w12s.k (fT181_1 i0 hi0))) (show (zI M 172 w13n).toInt = ((w17n : Nat) : Int) by omega) (zk2 (w12s.k (fT181_1 i0 hi0)) (by omega)) ?_
              refine zs_aload (pc := 158) t121_158 rfl ?_
              refine zs_iload (pc := 160) t121_160 rfl ?_
              refine zs_iload (pc := 162) t121_162 rfl ?_
              have w42 : zIv cLo cHi (zsI (zsI w12M (181 + 3 * i0 + 1) w17n (zI M 171 w13n)) (181 + 3 * i0 + 2) w17n w36v) := zIv.put w41 (by rw [(cT181_2 i0 hi0 w17n).1, (cT181_2 i0 hi0 w17n).2]; exact zrg w36v)
              refine zs_iast (pc := 164) t121_164 (j := w17n) (by omega) (zk1 (w12s.k (fT181_2 i0 hi0))) (show (zI M 172 w13n).toInt = ((w17n : Nat) : Int) by omega) (zk2 (w12s.k (fT181_2 i0 hi0)) (by omega)) ?_
              obtain ⟨w43v, w43e, w43⟩ := ziadd (a := w12x6) (b := Int32.ofInt 1) rfl (show (Int32.ofInt 1).toInt = 1 by decide) (by omega) (by omega)
              refine zs_iinc (pc := 165) t121_165 (ls' := [(6, .int w43v), (9, .int w36v), (8, .int w30v), (7, .int (zI M 172 w13n)), (0, .ref 166), (1, .ref (181 + 3 * i0)), (2, .int w3v), (3, .int w6v), (4, .int w11v), (5, .ref (181 + 3 * i0 + 2))]) (zml mf121 (by decide)) rfl (c := w43v) w43e rfl ?_
              refine zs_goto (pc := 168) t121_168 ?_
              refine zGo.locals (ls' := [(0, .ref 166), (1, .ref (181 + 3 * i0)), (2, .int w3v), (3, .int w6v), (4, .int w11v), (5, .ref (181 + 3 * i0 + 2)), (6, .int w43v)]) (by simp) ?_
              have w44 := w43
              have w45 : w36v.toInt = ((((zI M 173 w13n).toInt - (zI M 169 w20n).toInt) - (zI M 170 w26n).toInt) - w11v.toInt) := w36
              exact w12ih (w12m - 1) (by omega) w43v (zsI (zsI w12M (181 + 3 * i0 + 1) w17n (zI M 171 w13n)) (181 + 3 * i0 + 2) w17n w36v) ⟨by omega, by omega⟩ w12s w42 ((((zFr.refl).trans (w12F.mono rfl)).put (zinW_r (lo := 181) (hi := 240) (by decide) (by omega) (by omega))).put (zinW_r (lo := 181) (hi := 240) (by decide) (by omega) (by omega))) (by omega) (fun i hi => by obtain rfl : i = w13n + 1 := (by omega); exact hT.put (show cel F (zI M (181 + 3 * i0) 0).toInt (zI M (181 + 3 * i0) 1).toInt (φ w13n) = (zI M (181 + 3 * i0) 2).toInt by omega) (show F (30 + 4 * φ w13n) = (w17n : Int) by omega) (show (zI M 171 w13n).toInt = (φ w13n : Int) by omega) (show w36v.toInt = aw F (zI M (181 + 3 * i0) 0).toInt (zI M (181 + 3 * i0) 1).toInt (zI M (181 + 3 * i0) 2).toInt w17n (φ w13n) by unfold aw; omega) (by omega) (x2.ho (by omega))) (by omega)
            · refine zs_if_ltF (pc := 131) t121_131 rfl (by omega) ?_
              refine zs_iload (pc := 134) t121_134 rfl ?_
              refine zs_aload (pc := 136) t121_136 rfl ?_
              refine zs_iload (pc := 138) t121_138 rfl ?_
              have w46 := zrg (zI w12M (181 + 3 * i0 + 2) w17n)
              refine zs_iald (pc := 140) t121_140 (j := w17n) (by omega) (zk1 (w12s.k (fT181_2 i0 hi0))) (show (zI M 172 w13n).toInt = ((w17n : Nat) : Int) by omega) (zk2 (w12s.k (fT181_2 i0 hi0)) (by omega)) rfl ?_
              by_cases w47 : (zI w12M (181 + 3 * i0 + 2) w17n).toInt ≤ ((((zI M 173 w13n).toInt - (zI M 169 w20n).toInt) - (zI M 170 w26n).toInt) - w11v.toInt)
              · refine zs_icmp_geT (pc := 141) t121_141 w36 rfl (by omega) ?_
                obtain ⟨w48v, w48e, w48⟩ := ziadd (a := w12x6) (b := Int32.ofInt 1) rfl (show (Int32.ofInt 1).toInt = 1 by decide) (by omega) (by omega)
                refine zs_iinc (pc := 165) t121_165 (ls' := [(6, .int w48v), (9, .int w36v), (8, .int w30v), (7, .int (zI M 172 w13n)), (0, .ref 166), (1, .ref (181 + 3 * i0)), (2, .int w3v), (3, .int w6v), (4, .int w11v), (5, .ref (181 + 3 * i0 + 2))]) (zml mf121 (by decide)) rfl (c := w48v) w48e rfl ?_
                refine zs_goto (pc := 168) t121_168 ?_
                refine zGo.locals (ls' := [(0, .ref 166), (1, .ref (181 + 3 * i0)), (2, .int w3v), (3, .int w6v), (4, .int w11v), (5, .ref (181 + 3 * i0 + 2)), (6, .int w48v)]) (by simp) ?_
                have w49 := w48
                have w50 : w36v.toInt = ((((zI M 173 w13n).toInt - (zI M 169 w20n).toInt) - (zI M 170 w26n).toInt) - w11v.toInt) := w36
                exact w12ih (w12m - 1) (by omega) w48v w12M ⟨by omega, by omega⟩ w12s w12I ((zFr.refl).trans (w12F.mono rfl)) (by omega) (fun i hi => by obtain rfl : i = w13n + 1 := (by omega); exact hT.keep (show F (30 + 4 * φ w13n) = (w17n : Int) by omega) (show ((((zI M 173 w13n).toInt - (zI M 169 w20n).toInt) - (zI M 170 w26n).toInt) - w11v.toInt) = aw F (zI M (181 + 3 * i0) 0).toInt (zI M (181 + 3 * i0) 1).toInt (zI M (181 + 3 * i0) 2).toInt w17n (φ w13n) by unfold aw; omega) (by omega) (by omega) (x2.ho (by omega))) (by omega)
              · refine zs_icmp_geF (pc := 141) t121_141 w36 rfl (by omega) ?_
                refine zs_aload_n (pc := 144) t121_144 rfl ?_
                refine zs_get (pc := 145) t121_145 (by decide) (zk1 (w12s.k (fT181_0 i0 hi0))) (w12s.p rfl (fvT181_6 i0 hi0)) ?_
                refine zs_iload (pc := 148) t121_148 rfl ?_
                refine zs_aload_n (pc := 150) t121_150 rfl ?_
                refine zs_get (pc := 151) t121_151 (by decide) (zk1 (w12s.k fk_zMc_166)) (w12s.p rfl fv_zMc_166_7) ?_
                refine zs_iload (pc := 154) t121_154 rfl ?_
                refine zs_iald (pc := 156) t121_156 (j := w13n) (by decide) (zk1 (w12s.k fk_zMc_171)) (show w12x6.toInt = ((w13n : Nat) : Int) by omega) (zk2 (w12s.k fk_zMc_171) (by omega)) ((w12F 171 w13n rfl).trans rfl) ?_
                have w51 : zIv cLo cHi (zsI w12M (181 + 3 * i0 + 1) w17n (zI M 171 w13n)) := zIv.put w12I (by rw [(cT181_1 i0 hi0 w17n).1, (cT181_1 i0 hi0 w17n).2]; exact ⟨by omega, by omega⟩)
                refine zs_iast (pc := 157) t121_157 (j := w17n) (by omega) (zk1 (w12s.k (fT181_1 i0 hi0))) (show (zI M 172 w13n).toInt = ((w17n : Nat) : Int) by omega) (zk2 (w12s.k (fT181_1 i0 hi0)) (by omega)) ?_
                refine zs_aload (pc := 158) t121_158 rfl ?_
                refine zs_iload (pc := 160) t121_160 rfl ?_
                refine zs_iload (pc := 162) t121_162 rfl ?_
                have w52 : zIv cLo cHi (zsI (zsI w12M (181 + 3 * i0 + 1) w17n (zI M 171 w13n)) (181 + 3 * i0 + 2) w17n w36v) := zIv.put w51 (by rw [(cT181_2 i0 hi0 w17n).1, (cT181_2 i0 hi0 w17n).2]; exact zrg w36v)
                refine zs_iast (pc := 164) t121_164 (j := w17n) (by omega) (zk1 (w12s.k (fT181_2 i0 hi0))) (show (zI M 172 w13n).toInt = ((w17n : Nat) : Int) by omega) (zk2 (w12s.k (fT181_2 i0 hi0)) (by omega)) ?_
                obtain ⟨w53v, w53e, w53⟩ := ziadd (a := w12x6) (b := Int32.ofInt 1) rfl (show (Int32.ofInt 1).toInt = 1 by decide) (by omega) (by omega)
                refine zs_iinc (pc := 165) t121_165 (ls' := [(6, .int w53v), (9, .int w36v), (8, .int w30v), (7, .int (zI M 172 w13n)), (0, .ref 166), (1, .ref (181 + 3 * i0)), (2, .int w3v), (3, .int w6v), (4, .int w11v), (5, .ref (181 + 3 * i0 + 2))]) (zml mf121 (by decide)) rfl (c := w53v) w53e rfl ?_
                refine zs_goto (pc := 168) t121_168 ?_
                refine zGo.locals (ls' := [(0, .ref 166), (1, .ref (181 + 3 * i0)), (2, .int w3v), (3, .int w6v), (4, .int w11v), (5, .ref (181 + 3 * i0 + 2)), (6, .int w53v)]) (by simp) ?_
                have w54 := w53
                have w55 : w36v.toInt = ((((zI M 173 w13n).toInt - (zI M 169 w20n).toInt) - (zI M 170 w26n).toInt) - w11v.toInt) := w36
                exact w12ih (w12m - 1) (by omega) w53v (zsI (zsI w12M (181 + 3 * i0 + 1) w17n (zI M 171 w13n)) (181 + 3 * i0 + 2) w17n w36v) ⟨by omega, by omega⟩ w12s w52 ((((zFr.refl).trans (w12F.mono rfl)).put (zinW_r (lo := 181) (hi := 240) (by decide) (by omega) (by omega))).put (zinW_r (lo := 181) (hi := 240) (by decide) (by omega) (by omega))) (by omega) (fun i hi => by obtain rfl : i = w13n + 1 := (by omega); exact hT.put (show cel F (zI M (181 + 3 * i0) 0).toInt (zI M (181 + 3 * i0) 1).toInt (φ w13n) = (zI M (181 + 3 * i0) 2).toInt by omega) (show F (30 + 4 * φ w13n) = (w17n : Int) by omega) (show (zI M 171 w13n).toInt = (φ w13n : Int) by omega) (show w36v.toInt = aw F (zI M (181 + 3 * i0) 0).toInt (zI M (181 + 3 * i0) 1).toInt (zI M (181 + 3 * i0) 2).toInt w17n (φ w13n) by unfold aw; omega) (by omega) (x2.ho (by omega))) (by omega)
          · refine zs_if_geF (pc := 1) t122_1 w36 (by omega) ?_
            refine zs_iload_n (pc := 4) t122_4 rfl ?_
            obtain ⟨w56v, w56e⟩ : ∃ v, -w36v = v := ⟨_, rfl⟩
            have w56 : w56v.toInt = -((((zI M 173 w13n).toInt - (zI M 169 w20n).toInt) - (zI M 170 w26n).toInt) - w11v.toInt) := by rw [← w56e]; exact zneg w36 (by omega)
            refine zs_ineg (pc := 5) t122_5 (c := w56v) w56e ?_
            refine zs_goto (pc := 6) t122_6 ?_
            refine zs_iret (pc := 10) t122_10 mr122 rfl ?_
            show zGo X l 1 0 0 121 122 [(8, .int w30v), (7, .int (zI M 172 w13n)), (0, .ref 166), (1, .ref (181 + 3 * i0)), (2, .int w3v), (3, .int w6v), (4, .int w11v), (5, .ref (181 + 3 * i0 + 2)), (6, .int w12x6)] [.int w56v] w12M _
            refine zs_istore (pc := 122) t121_122 (ls' := [(9, .int w56v), (8, .int w30v), (7, .int (zI M 172 w13n)), (0, .ref 166), (1, .ref (181 + 3 * i0)), (2, .int w3v), (3, .int w6v), (4, .int w11v), (5, .ref (181 + 3 * i0 + 2)), (6, .int w12x6)]) (zml mf121 (by decide)) rfl ?_
            refine zs_aload_n (pc := 124) t121_124 rfl ?_
            refine zs_get (pc := 125) t121_125 (by decide) (zk1 (w12s.k (fT181_0 i0 hi0))) (w12s.p rfl (fvT181_6 i0 hi0)) ?_
            refine zs_iload (pc := 128) t121_128 rfl ?_
            have w57 := ibT181_1 w12I hi0 w17n
            refine zs_iald (pc := 130) t121_130 (j := w17n) (by omega) (zk1 (w12s.k (fT181_1 i0 hi0))) (show (zI M 172 w13n).toInt = ((w17n : Nat) : Int) by omega) (zk2 (w12s.k (fT181_1 i0 hi0)) (by omega)) rfl ?_
            by_cases w58 : (zI w12M (181 + 3 * i0 + 1) w17n).toInt < 0
            · refine zs_if_ltT (pc := 131) t121_131 rfl (by omega) ?_
              refine zs_aload_n (pc := 144) t121_144 rfl ?_
              refine zs_get (pc := 145) t121_145 (by decide) (zk1 (w12s.k (fT181_0 i0 hi0))) (w12s.p rfl (fvT181_6 i0 hi0)) ?_
              refine zs_iload (pc := 148) t121_148 rfl ?_
              refine zs_aload_n (pc := 150) t121_150 rfl ?_
              refine zs_get (pc := 151) t121_151 (by decide) (zk1 (w12s.k fk_zMc_166)) (w12s.p rfl fv_zMc_166_7) ?_
              refine zs_iload (pc := 154) t121_154 rfl ?_
              refine zs_iald (pc := 156) t121_156 (j := w13n) (by decide) (zk1 (w12s.k fk_zMc_171)) (show w12x6.toInt = ((w13n : Nat) : Int) by omega) (zk2 (w12s.k fk_zMc_171) (by omega)) ((w12F 171 w13n rfl).trans rfl) ?_
              have w59 : zIv cLo cHi (zsI w12M (181 + 3 * i0 + 1) w17n (zI M 171 w13n)) := zIv.put w12I (by rw [(cT181_1 i0 hi0 w17n).1, (cT181_1 i0 hi0 w17n).2]; exact ⟨by omega, by omega⟩)
              refine zs_iast (pc := 157) t121_157 (j := w17n) (by omega) (zk1 (w12s.k (fT181_1 i0 hi0))) (show (zI M 172 w13n).toInt = ((w17n : Nat) : Int) by omega) (zk2 (w12s.k (fT181_1 i0 hi0)) (by omega)) ?_
              refine zs_aload (pc := 158) t121_158 rfl ?_
              refine zs_iload (pc := 160) t121_160 rfl ?_
              refine zs_iload (pc := 162) t121_162 rfl ?_
              have w60 : zIv cLo cHi (zsI (zsI w12M (181 + 3 * i0 + 1) w17n (zI M 171 w13n)) (181 + 3 * i0 + 2) w17n w56v) := zIv.put w59 (by rw [(cT181_2 i0 hi0 w17n).1, (cT181_2 i0 hi0 w17n).2]; exact zrg w56v)
              refine zs_iast (pc := 164) t121_164 (j := w17n) (by omega) (zk1 (w12s.k (fT181_2 i0 hi0))) (show (zI M 172 w13n).toInt = ((w17n : Nat) : Int) by omega) (zk2 (w12s.k (fT181_2 i0 hi0)) (by omega)) ?_
              obtain ⟨w61v, w61e, w61⟩ := ziadd (a := w12x6) (b := Int32.ofInt 1) rfl (show (Int32.ofInt 1).toInt = 1 by decide) (by omega) (by omega)
              refine zs_iinc (pc := 165) t121_165 (ls' := [(6, .int w61v), (9, .int w56v), (8, .int w30v), (7, .int (zI M 172 w13n)), (0, .ref 166), (1, .ref (181 + 3 * i0)), (2, .int w3v), (3, .int w6v), (4, .int w11v), (5, .ref (181 + 3 * i0 + 2))]) (zml mf121 (by decide)) rfl (c := w61v) w61e rfl ?_
              refine zs_goto (pc := 168) t121_168 ?_
              refine zGo.locals (ls' := [(0, .ref 166), (1, .ref (181 + 3 * i0)), (2, .int w3v), (3, .int w6v), (4, .int w11v), (5, .ref (181 + 3 * i0 + 2)), (6, .int w61v)]) (by simp) ?_
              have w62 := w61
              have w63 : w56v.toInt = (-((((zI M 173 w13n).toInt - (zI M 169 w20n).toInt) - (zI M 170 w26n).toInt) - w11v.toInt)) := w56
              exact w12ih (w12m - 1) (by omega) w61v (zsI (zsI w12M (181 + 3 * i0 + 1) w17n (zI M 171 w13n)) (181 + 3 * i0 + 2) w17n w56v) ⟨by omega, by omega⟩ w12s w60 ((((zFr.refl).trans (w12F.mono rfl)).put (zinW_r (lo := 181) (hi := 240) (by decide) (by omega) (by omega))).put (zinW_r (lo := 181) (hi := 240) (by decide) (by omega) (by omega))) (by omega) (fun i hi => by obtain rfl : i = w13n + 1 := (by omega); exact hT.put (show cel F (zI M (181 + 3 * i0) 0).toInt (zI M (181 + 3 * i0) 1).toInt (φ w13n) = (zI M (181 + 3 * i0) 2).toInt by omega) (show F (30 + 4 * φ w13n) = (w17n : Int) by omega) (show (zI M 171 w13n).toInt = (φ w13n : Int) by omega) (show w56v.toInt = aw F (zI M (181 + 3 * i0) 0).toInt (zI M (181 + 3 * i0) 1).toInt (zI M (181 + 3 * i0) 2).toInt w17n (φ w13n) by unfold aw; omega) (by omega) (x2.ho (by omega))) (by omega)
            · refine zs_if_ltF (pc := 131) t121_131 rfl (by omega) ?_
              refine zs_iload (pc := 134) t121_134 rfl ?_
              refine zs_aload (pc := 136) t121_136 rfl ?_
              refine zs_iload (pc := 138) t121_138 rfl ?_
              have w64 := zrg (zI w12M (181 + 3 * i0 + 2) w17n)
              refine zs_iald (pc := 140) t121_140 (j := w17n) (by omega) (zk1 (w12s.k (fT181_2 i0 hi0))) (show (zI M 172 w13n).toInt = ((w17n : Nat) : Int) by omega) (zk2 (w12s.k (fT181_2 i0 hi0)) (by omega)) rfl ?_
              by_cases w65 : (zI w12M (181 + 3 * i0 + 2) w17n).toInt ≤ (-((((zI M 173 w13n).toInt - (zI M 169 w20n).toInt) - (zI M 170 w26n).toInt) - w11v.toInt))
              · refine zs_icmp_geT (pc := 141) t121_141 w56 rfl (by omega) ?_
                obtain ⟨w66v, w66e, w66⟩ := ziadd (a := w12x6) (b := Int32.ofInt 1) rfl (show (Int32.ofInt 1).toInt = 1 by decide) (by omega) (by omega)
                refine zs_iinc (pc := 165) t121_165 (ls' := [(6, .int w66v), (9, .int w56v), (8, .int w30v), (7, .int (zI M 172 w13n)), (0, .ref 166), (1, .ref (181 + 3 * i0)), (2, .int w3v), (3, .int w6v), (4, .int w11v), (5, .ref (181 + 3 * i0 + 2))]) (zml mf121 (by decide)) rfl (c := w66v) w66e rfl ?_
                refine zs_goto (pc := 168) t121_168 ?_
                refine zGo.locals (ls' := [(0, .ref 166), (1, .ref (181 + 3 * i0)), (2, .int w3v), (3, .int w6v), (4, .int w11v), (5, .ref (181 + 3 * i0 + 2)), (6, .int w66v)]) (by simp) ?_
                have w67 := w66
                have w68 : w56v.toInt = (-((((zI M 173 w13n).toInt - (zI M 169 w20n).toInt) - (zI M 170 w26n).toInt) - w11v.toInt)) := w56
                exact w12ih (w12m - 1) (by omega) w66v w12M ⟨by omega, by omega⟩ w12s w12I ((zFr.refl).trans (w12F.mono rfl)) (by omega) (fun i hi => by obtain rfl : i = w13n + 1 := (by omega); exact hT.keep (show F (30 + 4 * φ w13n) = (w17n : Int) by omega) (show (-((((zI M 173 w13n).toInt - (zI M 169 w20n).toInt) - (zI M 170 w26n).toInt) - w11v.toInt)) = aw F (zI M (181 + 3 * i0) 0).toInt (zI M (181 + 3 * i0) 1).toInt (zI M (181 + 3 * i0) 2).toInt w17n (φ w13n) by unfold aw; omega) (by omega) (by omega) (x2.ho (by omega))) (by omega)
              · refine zs_icmp_geF (pc := 141) t121_141 w56 rfl (by omega) ?_
                refine zs_aload_n (pc := 144) t121_144 rfl ?_
                refine zs_get (pc := 145) t121_145 (by decide) (zk1 (w12s.k (fT181_0 i0 hi0))) (w12s.p rfl (fvT181_6 i0 hi0)) ?_
                refine zs_iload (pc := 148) t121_148 rfl ?_
                refine zs_aload_n (pc := 150) t121_150 rfl ?_
                refine zs_get (pc := 151) t121_151 (by decide) (zk1 (w12s.k fk_zMc_166)) (w12s.p rfl fv_zMc_166_7) ?_
                refine zs_iload (pc := 154) t121_154 rfl ?_
                refine zs_iald (pc := 156) t121_156 (j := w13n) (by decide) (zk1 (w12s.k fk_zMc_171)) (show w12x6.toInt = ((w13n : Nat) : Int) by omega) (zk2 (w12s.k fk_zMc_171) (by omega)) ((w12F 171 w13n rfl).trans rfl) ?_
                have w69 : zIv cLo cHi (zsI w12M (181 + 3 * i0 + 1) w17n (zI M 171 w13n)) := zIv.put w12I (by rw [(cT181_1 i0 hi0 w17n).1, (cT181_1 i0 hi0 w17n).2]; exact ⟨by omega, by omega⟩)
                refine zs_iast (pc := 157) t121_157 (j := w17n) (by omega) (zk1 (w12s.k (fT181_1 i0 hi0))) (show (zI M 172 w13n).toInt = ((w17n : Nat) : Int) by omega) (zk2 (w12s.k (fT181_1 i0 hi0)) (by omega)) ?_
                refine zs_aload (pc := 158) t121_158 rfl ?_
                refine zs_iload (pc := 160) t121_160 rfl ?_
                refine zs_iload (pc := 162) t121_162 rfl ?_
                have w70 : zIv cLo cHi (zsI (zsI w12M (181 + 3 * i0 + 1) w17n (zI M 171 w13n)) (181 + 3 * i0 + 2) w17n w56v) := zIv.put w69 (by rw [(cT181_2 i0 hi0 w17n).1, (cT181_2 i0 hi0 w17n).2]; exact zrg w56v)
                refine zs_iast (pc := 164) t121_164 (j := w17n) (by omega) (zk1 (w12s.k (fT181_2 i0 hi0))) (show (zI M 172 w13n).toInt = ((w17n : Nat) : Int) by omega) (zk2 (w12s.k (fT181_2 i0 hi0)) (by omega)) ?_
                obtain ⟨w71v, w71e, w71⟩ := ziadd (a := w12x6) (b := Int32.ofInt 1) rfl (show (Int32.ofInt 1).toInt = 1 by decide) (by omega) (by omega)
                refine zs_iinc (pc := 165) t121_165 (ls' := [(6, .int w71v), (9, .int w56v), (8, .int w30v), (7, .int (zI M 172 w13n)), (0, .ref 166), (1, .ref (181 + 3 * i0)), (2, .int w3v), (3, .int w6v), (4, .int w11v), (5, .ref (181 + 3 * i0 + 2))]) (zml mf121 (by decide)) rfl (c := w71v) w71e rfl ?_
                refine zs_goto (pc := 168) t121_168 ?_
                refine zGo.locals (ls' := [(0, .ref 166), (1, .ref (181 + 3 * i0)), (2, .int w3v), (3, .int w6v), (4, .int w11v), (5, .ref (181 + 3 * i0 + 2)), (6, .int w71v)]) (by simp) ?_
                have w72 := w71
                have w73 : w56v.toInt = (-((((zI M 173 w13n).toInt - (zI M 169 w20n).toInt) - (zI M 170 w26n).toInt) - w11v.toInt)) := w56
                exact w12ih (w12m - 1) (by omega) w71v (zsI (zsI w12M (181 + 3 * i0 + 1) w17n (zI M 171 w13n)) (181 + 3 * i0 + 2) w17n w56v) ⟨by omega, by omega⟩ w12s w70 ((((zFr.refl).trans (w12F.mono rfl)).put (zinW_r (lo := 181) (hi := 240) (by decide) (by omega) (by omega))).put (zinW_r (lo := 181) (hi := 240) (by decide) (by omega) (by omega))) (by omega) (fun i hi => by obtain rfl : i = w13n + 1 := (by omega); exact hT.put (show cel F (zI M (181 + 3 * i0) 0).toInt (zI M (181 + 3 * i0) 1).toInt (φ w13n) = (zI M (181 + 3 * i0) 2).toInt by omega) (show F (30 + 4 * φ w13n) = (w17n : Int) by omega) (show (zI M 171 w13n).toInt = (φ w13n : Int) by omega) (show w56v.toInt = aw F (zI M (181 + 3 * i0) 0).toInt (zI M (181 + 3 * i0) 1).toInt (zI M (181 + 3 * i0) 2).toInt w17n (φ w13n) by unfold aw; omega) (by omega) (x2.ho (by omega))) (by omega)
        · refine zs_icmp_eqF (pc := 108) t121_108 rfl rfl (by omega) ?_
          refine zs_goto (pc := 111) t121_111 ?_
          obtain ⟨w74v, w74e, w74⟩ := ziadd (a := w12x6) (b := Int32.ofInt 1) rfl (show (Int32.ofInt 1).toInt = 1 by decide) (by omega) (by omega)
          refine zs_iinc (pc := 165) t121_165 (ls' := [(6, .int w74v), (8, .int w30v), (7, .int (zI M 172 w13n)), (0, .ref 166), (1, .ref (181 + 3 * i0)), (2, .int w3v), (3, .int w6v), (4, .int w11v), (5, .ref (181 + 3 * i0 + 2))]) (zml mf121 (by decide)) rfl (c := w74v) w74e rfl ?_
          refine zs_goto (pc := 168) t121_168 ?_
          refine zGo.locals (ls' := [(0, .ref 166), (1, .ref (181 + 3 * i0)), (2, .int w3v), (3, .int w6v), (4, .int w11v), (5, .ref (181 + 3 * i0 + 2)), (6, .int w74v)]) (by simp) ?_
          have w75 := w74
          exact w12ih (w12m - 1) (by omega) w74v w12M ⟨by omega, by omega⟩ w12s w12I ((zFr.refl).trans (w12F.mono rfl)) (by omega) (fun i hi => by obtain rfl : i = w13n + 1 := (by omega); exact hT.skip (show cel F (zI M (181 + 3 * i0) 0).toInt (zI M (181 + 3 * i0) 1).toInt (φ w13n) ≠ (zI M (181 + 3 * i0) 2).toInt by omega)) (by omega)
  refine zGo.locals (ls' := [(0, .ref 166), (1, .ref (181 + 3 * i0)), (2, .int w3v), (3, .int w6v), (4, .int w11v), (5, .ref (181 + 3 * i0 + 2)), (6, .int (0 : Int32))]) (by simp) ?_
  have w76 := li0
  exact w12L ((60 - 0 : Int).toNat) (0 : Int32) M ⟨by decide, by decide⟩ hs hI zFr.refl (by omega) (fun i hi => by obtain rfl : i = 0 := (by omega); exact zNh.zero rfl x4) (by omega)
theorem V123_181 {X : zX} {l : Launch} {M : zM} {Q : Option Value → zM → Prop} (hs : zSk zMc M) (hI : zIv cLo cHi M) {i0 : Nat} (hi0 : i0 < 20) {F : Nat → Int} {L : Nat → Bool} {φ : Nat → Nat} {n : Nat} (x0 : zWF F) (x1 : zVt M 166 171 172 173 F L n φ) (hQ : ∀ M', zSk zMc M' → zIv cLo cHi M' → zFr [(166, 166, some 6), (171, 173, none)] M M' → (∃ (m : Nat) (ψ : Nat → Nat), zVt M' 166 171 172 173 F (zrmv F L (hsO M (181 + 3 * i0))) m ψ) → Q none M') : zCall X l 0 0 0 123 [.ref 166, .ref (181 + 3 * i0)] M Q := by
  refine zs_in (by decide) mf123 (Nat.le_of_ble_eq_true rfl) ?_
  show zGo X l 0 0 0 123 0 [(0, .ref 166), (1, .ref (181 + 3 * i0))] [] M _
  have f1 := x0.1
  have xm := x1.1
  have xl := x1.2.1
  refine zs_iconst (pc := 0) t123_0 (v := 0) (by decide) ?_
  refine zs_istore_n (pc := 1) t123_1 (ls' := [(2, .int (0 : Int32)), (0, .ref 166), (1, .ref (181 + 3 * i0))]) (zml mf123 (by decide)) rfl ?_
  refine zs_iconst (pc := 2) t123_2 (v := 0) (by decide) ?_
  refine zs_istore_n (pc := 3) t123_3 (ls' := [(3, .int (0 : Int32)), (2, .int (0 : Int32)), (0, .ref 166), (1, .ref (181 + 3 * i0))]) (zml mf123 (by decide)) rfl ?_
  have w1L : ∀ (m : Nat) (w1x2 : Int32) (w1x3 : Int32) (w1M : zM), (0 ≤ w1x2.toInt ∧ w1x2.toInt ≤ 60) → (0 ≤ w1x3.toInt ∧ w1x3.toInt ≤ 60) → zSk zMc w1M → zIv cLo cHi w1M → zFr [(171, 173, none)] M w1M → (w1x2.toInt ≤ w1x3.toInt) → (w1x3.toInt ≤ n) → (∀ i m : Nat, (i : Int) = w1x3.toInt → (m : Int) = w1x2.toInt → ∃ ψ : Nat → Nat, zSi M w1M 171 172 173 F (zrmv F L (hsO M (181 + 3 * i0))) φ m i ψ) → 60 - w1x3.toInt ≤ (m : Int) → zGo X l 0 0 0 123 4 [(0, .ref 166), (1, .ref (181 + 3 * i0)), (2, .int w1x2), (3, .int w1x3)] [] w1M Q := by
    intro m
    induction m using Nat.strongRecOn with
    | ind w1m w1ih =>
      intro w1x2 w1x3 w1M w1b2 w1b3 w1s w1I w1F w1r0 w1r1 w1t0 w1q
      obtain ⟨w2n, w2⟩ : ∃ n : Nat, w1x3.toInt = (n : Int) := ⟨(w1x3.toInt).toNat, by omega⟩
      obtain ⟨w3n, w3⟩ : ∃ n : Nat, w1x2.toInt = (n : Int) := ⟨(w1x2.toInt).toNat, by omega⟩
      obtain ⟨w1ψ, hT⟩ := w1t0 w2n w3n (by omega) (by omega)
      have hu := hT.2.2.2.2 w2n (Nat.le_refl _)
      refine zs_iload_n (pc := 4) t123_4 rfl ?_
      refine zs_aload_n (pc := 5) t123_5 rfl ?_
      have w4 := ib166_6 hI
      refine zs_get (pc := 6) t123_6 (by decide) (zk1 (w1s.k fk_zMc_166)) (zfvi rfl ((w1F 166 6 rfl).trans rfl)) ?_
      by_cases w5 : (zI M 166 6).toInt ≤ w1x3.toInt
      · refine zs_icmp_geT (pc := 9) t123_9 rfl rfl (by omega) ?_
        refine zs_aload_n (pc := 77) t123_77 rfl ?_
        refine zs_iload_n (pc := 78) t123_78 rfl ?_
        have w6 : zIv cLo cHi (zsI w1M 166 6 w1x2) := zIv.put w1I (show 0 ≤ w1x2.toInt ∧ w1x2.toInt ≤ 60 from ⟨by omega, by omega⟩)
        refine zs_putI (pc := 79) t123_79 (zk1 (w1s.k fk_zMc_166)) rfl ?_
        have hX : w1x2.toInt = (w3n : Int) := by omega
        exact zs_vret (pc := 82) t123_82 mr123 (hQ _ w1s w6 (((zFr.refl).trans (w1F.mono rfl)).put rfl) ⟨w3n, w1ψ, hT.vt (by omega) x1 (fun y hy => zrmv.le hy) ((congrArg Int32.toInt (zIs (M := w1M))).trans hX) (fun j => zIo (by decide)) (fun j => zIo (by decide)) (fun j => zIo (by decide))⟩)
      · refine zs_icmp_geF (pc := 9) t123_9 rfl rfl (by omega) ?_
        refine zs_aload_n (pc := 12) t123_12 rfl ?_
        refine zs_get (pc := 13) t123_13 (by decide) (zk1 (w1s.k (fT181_0 i0 hi0))) (w1s.p rfl (fvT181_6 i0 hi0)) ?_
        refine zs_aload_n (pc := 16) t123_16 rfl ?_
        refine zs_get (pc := 17) t123_17 (by decide) (zk1 (w1s.k fk_zMc_166)) (w1s.p rfl fv_zMc_166_8) ?_
        refine zs_iload_n (pc := 20) t123_20 rfl ?_
        have w7 := ib172 w1I w2n
        have w8 : (zI w1M 172 w2n) = (zI M 172 w2n) := hu.2.1
        have w9 : (zI w1M 172 w2n).toInt = (zI M 172 w2n).toInt := congrArg Int32.toInt hu.2.1
        have hv := x1.2.2.1 w2n (by omega)
        have hv1 := hv.1
        have hv3 := hv.2.2.1
        have hv4 := hv.2.2.2.1
        have hv5 := hv.2.2.2.2
        have hw := x0.2.2.1 (φ w2n) hv1
        have w10 : 0 ≤ (zI w1M 172 w2n).toInt ∧ (zI w1M 172 w2n).toInt ≤ 7 := by omega
        obtain ⟨w11n, w11⟩ : ∃ n : Nat, (zI w1M 172 w2n).toInt = (n : Int) := ⟨((zI w1M 172 w2n).toInt).toNat, by omega⟩
        refine zs_iald (pc := 21) t123_21 (j := w2n) (by decide) (zk1 (w1s.k fk_zMc_172)) (show w1x3.toInt = ((w2n : Nat) : Int) by omega) (zk2 (w1s.k fk_zMc_172) (by omega)) rfl ?_
        have w12 := ibT181_1 hI hi0 w11n
        refine zs_iald (pc := 22) t123_22 (j := w11n) (by omega) (zk1 (w1s.k (fT181_1 i0 hi0))) (show (zI w1M 172 w2n).toInt = ((w11n : Nat) : Int) by omega) (zk2 (w1s.k (fT181_1 i0 hi0)) (by omega)) ((w1F (181 + 3 * i0 + 1) w11n (zoC (by omega) rfl)).trans rfl) ?_
        refine zs_aload_n (pc := 23) t123_23 rfl ?_
        refine zs_get (pc := 24) t123_24 (by decide) (zk1 (w1s.k fk_zMc_166)) (w1s.p rfl fv_zMc_166_7) ?_
        refine zs_iload_n (pc := 27) t123_27 rfl ?_
        have w13 := ib171 w1I w2n
        have w14 : (zI w1M 171 w2n) = (zI M 171 w2n) := hu.1
        have w15 : (zI w1M 171 w2n).toInt = (zI M 171 w2n).toInt := congrArg Int32.toInt hu.1
        refine zs_iald (pc := 28) t123_28 (j := w2n) (by decide) (zk1 (w1s.k fk_zMc_171)) (show w1x3.toInt = ((w2n : Nat) : Int) by omega) (zk2 (w1s.k fk_zMc_171) (by omega)) rfl ?_
        by_cases w16 : (zI M (181 + 3 * i0 + 1) w11n).toInt = (zI w1M 171 w2n).toInt
        · refine zs_icmp_eqT (pc := 29) t123_29 rfl rfl (by omega) ?_
          obtain ⟨w17v, w17e, w17⟩ := ziadd (a := w1x3) (b := Int32.ofInt 1) rfl (show (Int32.ofInt 1).toInt = 1 by decide) (by omega) (by omega)
          refine zs_iinc (pc := 71) t123_71 (ls' := [(3, .int w17v), (0, .ref 166), (1, .ref (181 + 3 * i0)), (2, .int w1x2)]) (zml mf123 (by decide)) rfl (c := w17v) w17e rfl ?_
          refine zs_goto (pc := 74) t123_74 ?_
          refine zGo.locals (ls' := [(0, .ref 166), (1, .ref (181 + 3 * i0)), (2, .int w1x2), (3, .int w17v)]) (by simp) ?_
          have w18 := w17
          exact w1ih (w1m - 1) (by omega) w1x2 w17v w1M ⟨by omega, by omega⟩ ⟨by omega, by omega⟩ w1s w1I ((zFr.refl).trans (w1F.mono rfl)) (by omega) (by omega) (fun i m q1 q2 => by obtain rfl : i = w2n + 1 := (by omega); obtain rfl : m = w3n := (by omega); exact ⟨_, hT.skip (rmv.n (l := w11n) (by omega) (by omega) (by omega))⟩) (by omega)
        · refine zs_icmp_eqF (pc := 29) t123_29 rfl rfl (by omega) ?_
          refine zs_aload_n (pc := 32) t123_32 rfl ?_
          refine zs_get (pc := 33) t123_33 (by decide) (zk1 (w1s.k fk_zMc_166)) (w1s.p rfl fv_zMc_166_7) ?_
          refine zs_iload_n (pc := 36) t123_36 rfl ?_
          refine zs_aload_n (pc := 37) t123_37 rfl ?_
          refine zs_get (pc := 38) t123_38 (by decide) (zk1 (w1s.k fk_zMc_166)) (w1s.p rfl fv_zMc_166_7) ?_
          refine zs_iload_n (pc := 41) t123_41 rfl ?_
          have w19 : (zI w1M 171 w2n) = (zI M 171 w2n) := hu.1
          have w20 : (zI w1M 171 w2n).toInt = (zI M 171 w2n).toInt := congrArg Int32.toInt hu.1
          refine zs_iald (pc := 42) t123_42 (j := w2n) (by decide) (zk1 (w1s.k fk_zMc_171)) (show w1x3.toInt = ((w2n : Nat) : Int) by omega) (zk2 (w1s.k fk_zMc_171) (by omega)) rfl ?_
          have w21 : zIv cLo cHi (zsI w1M 171 w3n (zI w1M 171 w2n)) := zIv.put w1I (show 0 ≤ (zI w1M 171 w2n).toInt ∧ (zI w1M 171 w2n).toInt ≤ 59 from ⟨by omega, by omega⟩)
          refine zs_iast (pc := 43) t123_43 (j := w3n) (by decide) (zk1 (w1s.k fk_zMc_171)) (show w1x2.toInt = ((w3n : Nat) : Int) by omega) (zk2 (w1s.k fk_zMc_171) (by omega)) ?_
          refine zs_aload_n (pc := 44) t123_44 rfl ?_
          refine zs_get (pc := 45) t123_45 (by decide) (zk1 (w1s.k fk_zMc_166)) (w1s.p rfl fv_zMc_166_8) ?_
          refine zs_iload_n (pc := 48) t123_48 rfl ?_
          refine zs_aload_n (pc := 49) t123_49 rfl ?_
          refine zs_get (pc := 50) t123_50 (by decide) (zk1 (w1s.k fk_zMc_166)) (w1s.p rfl fv_zMc_166_8) ?_
          refine zs_iload_n (pc := 53) t123_53 rfl ?_
          have w22 : (zI w1M 172 w2n) = (zI M 172 w2n) := hu.2.1
          have w23 : (zI w1M 172 w2n).toInt = (zI M 172 w2n).toInt := congrArg Int32.toInt hu.2.1
          have hv := x1.2.2.1 w2n (by omega)
          have hv1 := hv.1
          have hv3 := hv.2.2.1
          have hv4 := hv.2.2.2.1
          have hv5 := hv.2.2.2.2
          have hw := x0.2.2.1 (φ w2n) hv1
          have w24 : 0 ≤ (zI w1M 172 w2n).toInt ∧ (zI w1M 172 w2n).toInt ≤ 7 := by omega
          refine zs_iald (pc := 54) t123_54 (j := w2n) (by decide) (zk1 (w1s.k fk_zMc_172)) (show w1x3.toInt = ((w2n : Nat) : Int) by omega) (zk2 (w1s.k fk_zMc_172) (by omega)) ((zIo (by decide)).trans rfl) ?_
          have w25 : zIv cLo cHi (zsI (zsI w1M 171 w3n (zI w1M 171 w2n)) 172 w3n (zI w1M 172 w2n)) := zIv.put w21 (show 0 ≤ (zI w1M 172 w2n).toInt ∧ (zI w1M 172 w2n).toInt ≤ 7 from ⟨by omega, by omega⟩)
          refine zs_iast (pc := 55) t123_55 (j := w3n) (by decide) (zk1 (w1s.k fk_zMc_172)) (show w1x2.toInt = ((w3n : Nat) : Int) by omega) (zk2 (w1s.k fk_zMc_172) (by omega)) ?_
          refine zs_aload_n (pc := 56) t123_56 rfl ?_
          refine zs_get (pc := 57) t123_57 (by decide) (zk1 (w1s.k fk_zMc_166)) (w1s.p rfl fv_zMc_166_9) ?_
          refine zs_iload_n (pc := 60) t123_60 rfl ?_
          refine zs_aload_n (pc := 61) t123_61 rfl ?_
          refine zs_get (pc := 62) t123_62 (by decide) (zk1 (w1s.k fk_zMc_166)) (w1s.p rfl fv_zMc_166_9) ?_
          refine zs_iload_n (pc := 65) t123_65 rfl ?_
          have w26 := zrg (zI w1M 173 w2n)
          have w27 : (zI w1M 173 w2n) = (zI M 173 w2n) := hu.2.2
          have w28 : (zI w1M 173 w2n).toInt = (zI M 173 w2n).toInt := congrArg Int32.toInt hu.2.2
          refine zs_iald (pc := 66) t123_66 (j := w2n) (by decide) (zk1 (w1s.k fk_zMc_173)) (show w1x3.toInt = ((w2n : Nat) : Int) by omega) (zk2 (w1s.k fk_zMc_173) (by omega)) ((zIo (by decide)).trans ((zIo (by decide)).trans rfl)) ?_
          have w29 : zIv cLo cHi (zsI (zsI (zsI w1M 171 w3n (zI w1M 171 w2n)) 172 w3n (zI w1M 172 w2n)) 173 w3n (zI w1M 173 w2n)) := zIv.put w25 (show (-2147483648) ≤ (zI w1M 173 w2n).toInt ∧ (zI w1M 173 w2n).toInt ≤ 2147483647 from zrg (zI w1M 173 w2n))
          refine zs_iast (pc := 67) t123_67 (j := w3n) (by decide) (zk1 (w1s.k fk_zMc_173)) (show w1x2.toInt = ((w3n : Nat) : Int) by omega) (zk2 (w1s.k fk_zMc_173) (by omega)) ?_
          obtain ⟨w30v, w30e, w30⟩ := ziadd (a := w1x2) (b := Int32.ofInt 1) rfl (show (Int32.ofInt 1).toInt = 1 by decide) (by omega) (by omega)
          refine zs_iinc (pc := 68) t123_68 (ls' := [(2, .int w30v), (0, .ref 166), (1, .ref (181 + 3 * i0)), (3, .int w1x3)]) (zml mf123 (by decide)) rfl (c := w30v) w30e rfl ?_
          obtain ⟨w31v, w31e, w31⟩ := ziadd (a := w1x3) (b := Int32.ofInt 1) rfl (show (Int32.ofInt 1).toInt = 1 by decide) (by omega) (by omega)
          refine zs_iinc (pc := 71) t123_71 (ls' := [(3, .int w31v), (2, .int w30v), (0, .ref 166), (1, .ref (181 + 3 * i0))]) (zml mf123 (by decide)) rfl (c := w31v) w31e rfl ?_
          refine zs_goto (pc := 74) t123_74 ?_
          refine zGo.locals (ls' := [(0, .ref 166), (1, .ref (181 + 3 * i0)), (2, .int w30v), (3, .int w31v)]) (by simp) ?_
          have w32 := w30
          have w33 := w31
          exact w1ih (w1m - 1) (by omega) w30v w31v (zsI (zsI (zsI w1M 171 w3n (zI w1M 171 w2n)) 172 w3n (zI w1M 172 w2n)) 173 w3n (zI w1M 173 w2n)) ⟨by omega, by omega⟩ ⟨by omega, by omega⟩ w1s w29 (((((zFr.refl).trans (w1F.mono rfl)).put rfl).put rfl).put rfl) (by omega) (by omega) (fun i m q1 q2 => by obtain rfl : i = w2n + 1 := (by omega); obtain rfl : m = w3n + 1 := (by omega); exact ⟨_, hT.put (by decide) (by decide) (by decide) x1.2.2.2.1 (by omega) (rmv.y (l := w11n) hv.2.1 (by omega) (by omega) (by omega)) (by omega) (by omega) (by omega)⟩) (by omega)
  refine zGo.locals (ls' := [(0, .ref 166), (1, .ref (181 + 3 * i0)), (2, .int (0 : Int32)), (3, .int (0 : Int32))]) (by simp) ?_
  have w34 := li0
  have w35 := li0
  exact w1L ((60 - 0 : Int).toNat) (0 : Int32) (0 : Int32) M ⟨by decide, by decide⟩ ⟨by decide, by decide⟩ hs hI zFr.refl (by omega) (by omega) (fun i m q1 q2 => ⟨fun _ => 0, zSi.zero (by first | omega | (simp at q2; omega)) (by first | omega | (simp at q1; omega))⟩) (by omega)
theorem V120_257 {X : zX} {l : Launch} {M : zM} {Q : Option Value → zM → Prop} {a b c d : Int32} (hs : zSk zMc M) (hI : zIv cLo cHi M) {i0 : Nat} (hi0 : i0 < 20) (ha : (-3) ≤ a.toInt ∧ a.toInt ≤ 3) (hb : (-20) ≤ b.toInt ∧ b.toInt ≤ 20) (hQ : ∀ M', zSk zMc M' → zIv cLo cHi M' → zFr [(257, 316, none)] M M' → ((zI M' (257 + 3 * i0) 0).toInt = a.toInt ∧ (zI M' (257 + 3 * i0) 1).toInt = b.toInt ∧ (zI M' (257 + 3 * i0) 2).toInt = c.toInt ∧ (zI M' (257 + 3 * i0) 3).toInt = d.toInt) → (∀ l : Nat, l < 8 → (zI M' (257 + 3 * i0 + 1) l).toInt = -2) → (∀ k j : Nat, k ≠ (257 + 3 * i0) → k ≠ (257 + 3 * i0 + 1) → zI M' k j = zI M k j) → Q none M') : zCall X l 0 0 0 120 [.ref (257 + 3 * i0), .int a, .int b, .int c, .int d] M Q := by
  have ga := zrg a
  have gb := zrg b
  have gc := zrg c
  have gd := zrg d
  refine zs_in (by decide) mf120 (Nat.le_of_ble_eq_true rfl) ?_
  show zGo X l 0 0 0 120 0 [(0, .ref (257 + 3 * i0)), (1, .int a), (2, .int b), (3, .int c), (4, .int d)] [] M _
  refine zs_aload_n (pc := 0) t120_0 rfl ?_
  refine zs_iload_n (pc := 1) t120_1 rfl ?_
  have w1 : zIv cLo cHi (zsI M (257 + 3 * i0) 0 a) := zIv.put hI (by rw [(cT257_0_0 i0 hi0).1, (cT257_0_0 i0 hi0).2]; exact ⟨by omega, by omega⟩)
  refine zs_putI (pc := 2) t120_2 (zk1 (hs.k (fT257_0 i0 hi0))) rfl ?_
  refine zs_aload_n (pc := 5) t120_5 rfl ?_
  refine zs_iload_n (pc := 6) t120_6 rfl ?_
  have w2 : zIv cLo cHi (zsI (zsI M (257 + 3 * i0) 0 a) (257 + 3 * i0) 1 b) := zIv.put w1 (by rw [(cT257_0_1 i0 hi0).1, (cT257_0_1 i0 hi0).2]; exact ⟨by omega, by omega⟩)
  refine zs_putI (pc := 7) t120_7 (zk1 (hs.k (fT257_0 i0 hi0))) rfl ?_
  refine zs_aload_n (pc := 10) t120_10 rfl ?_
  refine zs_iload_n (pc := 11) t120_11 rfl ?_
  have w3 : zIv cLo cHi (zsI (zsI (zsI M (257 + 3 * i0) 0 a) (257 + 3 * i0) 1 b) (257 + 3 * i0) 2 c) := zIv.put w2 (by rw [(cT257_0_2 i0 hi0).1, (cT257_0_2 i0 hi0).2]; exact zrg c)
  refine zs_putI (pc := 12) t120_12 (zk1 (hs.k (fT257_0 i0 hi0))) rfl ?_
  refine zs_aload_n (pc := 15) t120_15 rfl ?_
  refine zs_iload (pc := 16) t120_16 rfl ?_
  have w4 : zIv cLo cHi (zsI (zsI (zsI (zsI M (257 + 3 * i0) 0 a) (257 + 3 * i0) 1 b) (257 + 3 * i0) 2 c) (257 + 3 * i0) 3 d) := zIv.put w3 (by rw [(cT257_0_3 i0 hi0).1, (cT257_0_3 i0 hi0).2]; exact zrg d)
  refine zs_putI (pc := 18) t120_18 (zk1 (hs.k (fT257_0 i0 hi0))) rfl ?_
  refine zs_iconst (pc := 21) t120_21 (v := 0) (by decide) ?_
  refine zs_istore (pc := 22) t120_22 (ls' := [(5, .int (0 : Int32)), (0, .ref (257 + 3 * i0)), (1, .int a), (2, .int b), (3, .int c), (4, .int d)]) (zml mf120 (by decide)) rfl ?_
  refine zs_iload (pc := 24) t120_24 rfl ?_
  refine zs_bipush (pc := 26) t120_26 (v := 8) (by decide) ?_
  refine zs_icmp_geF (pc := 28) t120_28 li0 li8 (by decide) ?_
  refine zs_aload_n (pc := 31) t120_31 rfl ?_
  refine zs_get (pc := 32) t120_32 (by decide) (zk1 (hs.k (fT257_0 i0 hi0))) (hs.p rfl (fvT257_6 i0 hi0)) ?_
  refine zs_iload (pc := 35) t120_35 rfl ?_
  refine zs_bipush (pc := 37) t120_37 (v := -2) (by decide) ?_
  have w5 : zIv cLo cHi (zsI (zsI (zsI (zsI (zsI M (257 + 3 * i0) 0 a) (257 + 3 * i0) 1 b) (257 + 3 * i0) 2 c) (257 + 3 * i0) 3 d) (257 + 3 * i0 + 1) 0 (-2 : Int32)) := zIv.put w4 (by rw [(cT257_1 i0 hi0 0).1, (cT257_1 i0 hi0 0).2]; exact ⟨by decide, by decide⟩)
  refine zs_iast (pc := 39) t120_39 (j := 0) (by omega) (zk1 (hs.k (fT257_1 i0 hi0))) li0 (zk2 (hs.k (fT257_1 i0 hi0)) (by decide)) ?_
  refine zs_iinc (pc := 40) t120_40 (ls' := [(5, .int (1 : Int32)), (0, .ref (257 + 3 * i0)), (1, .int a), (2, .int b), (3, .int c), (4, .int d)]) (zml mf120 (by decide)) rfl (c := 1) (by decide) rfl ?_
  refine zs_goto (pc := 43) t120_43 ?_
  refine zs_iload (pc := 24) t120_24 rfl ?_
  refine zs_bipush (pc := 26) t120_26 (v := 8) (by decide) ?_
  refine zs_icmp_geF (pc := 28) t120_28 li1 li8 (by decide) ?_
  refine zs_aload_n (pc := 31) t120_31 rfl ?_
  refine zs_get (pc := 32) t120_32 (by decide) (zk1 (hs.k (fT257_0 i0 hi0))) (hs.p rfl (fvT257_6 i0 hi0)) ?_
  refine zs_iload (pc := 35) t120_35 rfl ?_
  refine zs_bipush (pc := 37) t120_37 (v := -2) (by decide) ?_
  have w6 : zIv cLo cHi (zsI (zsI (zsI (zsI (zsI (zsI M (257 + 3 * i0) 0 a) (257 + 3 * i0) 1 b) (257 + 3 * i0) 2 c) (257 + 3 * i0) 3 d) (257 + 3 * i0 + 1) 0 (-2 : Int32)) (257 + 3 * i0 + 1) 1 (-2 : Int32)) := zIv.put w5 (by rw [(cT257_1 i0 hi0 1).1, (cT257_1 i0 hi0 1).2]; exact ⟨by decide, by decide⟩)
  refine zs_iast (pc := 39) t120_39 (j := 1) (by omega) (zk1 (hs.k (fT257_1 i0 hi0))) li1 (zk2 (hs.k (fT257_1 i0 hi0)) (by decide)) ?_
  refine zs_iinc (pc := 40) t120_40 (ls' := [(5, .int (2 : Int32)), (0, .ref (257 + 3 * i0)), (1, .int a), (2, .int b), (3, .int c), (4, .int d)]) (zml mf120 (by decide)) rfl (c := 2) (by decide) rfl ?_
  refine zs_goto (pc := 43) t120_43 ?_
  refine zs_iload (pc := 24) t120_24 rfl ?_
  refine zs_bipush (pc := 26) t120_26 (v := 8) (by decide) ?_
  refine zs_icmp_geF (pc := 28) t120_28 li2 li8 (by decide) ?_
  refine zs_aload_n (pc := 31) t120_31 rfl ?_
  refine zs_get (pc := 32) t120_32 (by decide) (zk1 (hs.k (fT257_0 i0 hi0))) (hs.p rfl (fvT257_6 i0 hi0)) ?_
  refine zs_iload (pc := 35) t120_35 rfl ?_
  refine zs_bipush (pc := 37) t120_37 (v := -2) (by decide) ?_
  have w7 : zIv cLo cHi (zsI (zsI (zsI (zsI (zsI (zsI (zsI M (257 + 3 * i0) 0 a) (257 + 3 * i0) 1 b) (257 + 3 * i0) 2 c) (257 + 3 * i0) 3 d) (257 + 3 * i0 + 1) 0 (-2 : Int32)) (257 + 3 * i0 + 1) 1 (-2 : Int32)) (257 + 3 * i0 + 1) 2 (-2 : Int32)) := zIv.put w6 (by rw [(cT257_1 i0 hi0 2).1, (cT257_1 i0 hi0 2).2]; exact ⟨by decide, by decide⟩)
  refine zs_iast (pc := 39) t120_39 (j := 2) (by omega) (zk1 (hs.k (fT257_1 i0 hi0))) li2 (zk2 (hs.k (fT257_1 i0 hi0)) (by decide)) ?_
  refine zs_iinc (pc := 40) t120_40 (ls' := [(5, .int (3 : Int32)), (0, .ref (257 + 3 * i0)), (1, .int a), (2, .int b), (3, .int c), (4, .int d)]) (zml mf120 (by decide)) rfl (c := 3) (by decide) rfl ?_
  refine zs_goto (pc := 43) t120_43 ?_
  refine zs_iload (pc := 24) t120_24 rfl ?_
  refine zs_bipush (pc := 26) t120_26 (v := 8) (by decide) ?_
  refine zs_icmp_geF (pc := 28) t120_28 li3 li8 (by decide) ?_
  refine zs_aload_n (pc := 31) t120_31 rfl ?_
  refine zs_get (pc := 32) t120_32 (by decide) (zk1 (hs.k (fT257_0 i0 hi0))) (hs.p rfl (fvT257_6 i0 hi0)) ?_
  refine zs_iload (pc := 35) t120_35 rfl ?_
  refine zs_bipush (pc := 37) t120_37 (v := -2) (by decide) ?_
  have w8 : zIv cLo cHi (zsI (zsI (zsI (zsI (zsI (zsI (zsI (zsI M (257 + 3 * i0) 0 a) (257 + 3 * i0) 1 b) (257 + 3 * i0) 2 c) (257 + 3 * i0) 3 d) (257 + 3 * i0 + 1) 0 (-2 : Int32)) (257 + 3 * i0 + 1) 1 (-2 : Int32)) (257 + 3 * i0 + 1) 2 (-2 : Int32)) (257 + 3 * i0 + 1) 3 (-2 : Int32)) := zIv.put w7 (by rw [(cT257_1 i0 hi0 3).1, (cT257_1 i0 hi0 3).2]; exact ⟨by decide, by decide⟩)
  refine zs_iast (pc := 39) t120_39 (j := 3) (by omega) (zk1 (hs.k (fT257_1 i0 hi0))) li3 (zk2 (hs.k (fT257_1 i0 hi0)) (by decide)) ?_
  refine zs_iinc (pc := 40) t120_40 (ls' := [(5, .int (4 : Int32)), (0, .ref (257 + 3 * i0)), (1, .int a), (2, .int b), (3, .int c), (4, .int d)]) (zml mf120 (by decide)) rfl (c := 4) (by decide) rfl ?_
  refine zs_goto (pc := 43) t120_43 ?_
  refine zs_iload (pc := 24) t120_24 rfl ?_
  refine zs_bipush (pc := 26) t120_26 (v := 8) (by decide) ?_
  refine zs_icmp_geF (pc := 28) t120_28 li4 li8 (by decide) ?_
  refine zs_aload_n (pc := 31) t120_31 rfl ?_
  refine zs_get (pc := 32) t120_32 (by decide) (zk1 (hs.k (fT257_0 i0 hi0))) (hs.p rfl (fvT257_6 i0 hi0)) ?_
  refine zs_iload (pc := 35) t120_35 rfl ?_
  refine zs_bipush (pc := 37) t120_37 (v := -2) (by decide) ?_
  have w9 : zIv cLo cHi (zsI (zsI (zsI (zsI (zsI (zsI (zsI (zsI (zsI M (257 + 3 * i0) 0 a) (257 + 3 * i0) 1 b) (257 + 3 * i0) 2 c) (257 + 3 * i0) 3 d) (257 + 3 * i0 + 1) 0 (-2 : Int32)) (257 + 3 * i0 + 1) 1 (-2 : Int32)) (257 + 3 * i0 + 1) 2 (-2 : Int32)) (257 + 3 * i0 + 1) 3 (-2 : Int32)) (257 + 3 * i0 + 1) 4 (-2 : Int32)) := zIv.put w8 (by rw [(cT257_1 i0 hi0 4).1, (cT257_1 i0 hi0 4).2]; exact ⟨by decide, by decide⟩)
  refine zs_iast (pc := 39) t120_39 (j := 4) (by omega) (zk1 (hs.k (fT257_1 i0 hi0))) li4 (zk2 (hs.k (fT257_1 i0 hi0)) (by decide)) ?_
  refine zs_iinc (pc := 40) t120_40 (ls' := [(5, .int (5 : Int32)), (0, .ref (257 + 3 * i0)), (1, .int a), (2, .int b), (3, .int c), (4, .int d)]) (zml mf120 (by decide)) rfl (c := 5) (by decide) rfl ?_
  refine zs_goto (pc := 43) t120_43 ?_
  refine zs_iload (pc := 24) t120_24 rfl ?_
  refine zs_bipush (pc := 26) t120_26 (v := 8) (by decide) ?_
  refine zs_icmp_geF (pc := 28) t120_28 li5 li8 (by decide) ?_
  refine zs_aload_n (pc := 31) t120_31 rfl ?_
  refine zs_get (pc := 32) t120_32 (by decide) (zk1 (hs.k (fT257_0 i0 hi0))) (hs.p rfl (fvT257_6 i0 hi0)) ?_
  refine zs_iload (pc := 35) t120_35 rfl ?_
  refine zs_bipush (pc := 37) t120_37 (v := -2) (by decide) ?_
  have w10 : zIv cLo cHi (zsI (zsI (zsI (zsI (zsI (zsI (zsI (zsI (zsI (zsI M (257 + 3 * i0) 0 a) (257 + 3 * i0) 1 b) (257 + 3 * i0) 2 c) (257 + 3 * i0) 3 d) (257 + 3 * i0 + 1) 0 (-2 : Int32)) (257 + 3 * i0 + 1) 1 (-2 : Int32)) (257 + 3 * i0 + 1) 2 (-2 : Int32)) (257 + 3 * i0 + 1) 3 (-2 : Int32)) (257 + 3 * i0 + 1) 4 (-2 : Int32)) (257 + 3 * i0 + 1) 5 (-2 : Int32)) := zIv.put w9 (by rw [(cT257_1 i0 hi0 5).1, (cT257_1 i0 hi0 5).2]; exact ⟨by decide, by decide⟩)
  refine zs_iast (pc := 39) t120_39 (j := 5) (by omega) (zk1 (hs.k (fT257_1 i0 hi0))) li5 (zk2 (hs.k (fT257_1 i0 hi0)) (by decide)) ?_
  refine zs_iinc (pc := 40) t120_40 (ls' := [(5, .int (6 : Int32)), (0, .ref (257 + 3 * i0)), (1, .int a), (2, .int b), (3, .int c), (4, .int d)]) (zml mf120 (by decide)) rfl (c := 6) (by decide) rfl ?_
  refine zs_goto (pc := 43) t120_43 ?_
  refine zs_iload (pc := 24) t120_24 rfl ?_
  refine zs_bipush (pc := 26) t120_26 (v := 8) (by decide) ?_
  refine zs_icmp_geF (pc := 28) t120_28 li6 li8 (by decide) ?_
  refine zs_aload_n (pc := 31) t120_31 rfl ?_
  refine zs_get (pc := 32) t120_32 (by decide) (zk1 (hs.k (fT257_0 i0 hi0))) (hs.p rfl (fvT257_6 i0 hi0)) ?_
  refine zs_iload (pc := 35) t120_35 rfl ?_
  refine zs_bipush (pc := 37) t120_37 (v := -2) (by decide) ?_
  have w11 : zIv cLo cHi (zsI (zsI (zsI (zsI (zsI (zsI (zsI (zsI (zsI (zsI (zsI M (257 + 3 * i0) 0 a) (257 + 3 * i0) 1 b) (257 + 3 * i0) 2 c) (257 + 3 * i0) 3 d) (257 + 3 * i0 + 1) 0 (-2 : Int32)) (257 + 3 * i0 + 1) 1 (-2 : Int32)) (257 + 3 * i0 + 1) 2 (-2 : Int32)) (257 + 3 * i0 + 1) 3 (-2 : Int32)) (257 + 3 * i0 + 1) 4 (-2 : Int32)) (257 + 3 * i0 + 1) 5 (-2 : Int32)) (257 + 3 * i0 + 1) 6 (-2 : Int32)) := zIv.put w10 (by rw [(cT257_1 i0 hi0 6).1, (cT257_1 i0 hi0 6).2]; exact ⟨by decide, by decide⟩)
  refine zs_iast (pc := 39) t120_39 (j := 6) (by omega) (zk1 (hs.k (fT257_1 i0 hi0))) li6 (zk2 (hs.k (fT257_1 i0 hi0)) (by decide)) ?_
  refine zs_iinc (pc := 40) t120_40 (ls' := [(5, .int (7 : Int32)), (0, .ref (257 + 3 * i0)), (1, .int a), (2, .int b), (3, .int c), (4, .int d)]) (zml mf120 (by decide)) rfl (c := 7) (by decide) rfl ?_
  refine zs_goto (pc := 43) t120_43 ?_
  refine zs_iload (pc := 24) t120_24 rfl ?_
  refine zs_bipush (pc := 26) t120_26 (v := 8) (by decide) ?_
  refine zs_icmp_geF (pc := 28) t120_28 li7 li8 (by decide) ?_
  refine zs_aload_n (pc := 31) t120_31 rfl ?_
  refine zs_get (pc := 32) t120_32 (by decide) (zk1 (hs.k (fT257_0 i0 hi0))) (hs.p rfl (fvT257_6 i0 hi0)) ?_
  refine zs_iload (pc := 35) t120_35 rfl ?_
  refine zs_bipush (pc := 37) t120_37 (v := -2) (by decide) ?_
  have w12 : zIv cLo cHi (zsI (zsI (zsI (zsI (zsI (zsI (zsI (zsI (zsI (zsI (zsI (zsI M (257 + 3 * i0) 0 a) (257 + 3 * i0) 1 b) (257 + 3 * i0) 2 c) (257 + 3 * i0) 3 d) (257 + 3 * i0 + 1) 0 (-2 : Int32)) (257 + 3 * i0 + 1) 1 (-2 : Int32)) (257 + 3 * i0 + 1) 2 (-2 : Int32)) (257 + 3 * i0 + 1) 3 (-2 : Int32)) (257 + 3 * i0 + 1) 4 (-2 : Int32)) (257 + 3 * i0 + 1) 5 (-2 : Int32)) (257 + 3 * i0 + 1) 6 (-2 : Int32)) (257 + 3 * i0 + 1) 7 (-2 : Int32)) := zIv.put w11 (by rw [(cT257_1 i0 hi0 7).1, (cT257_1 i0 hi0 7).2]; exact ⟨by decide, by decide⟩)
  refine zs_iast (pc := 39) t120_39 (j := 7) (by omega) (zk1 (hs.k (fT257_1 i0 hi0))) li7 (zk2 (hs.k (fT257_1 i0 hi0)) (by decide)) ?_
  refine zs_iinc (pc := 40) t120_40 (ls' := [(5, .int (8 : Int32)), (0, .ref (257 + 3 * i0)), (1, .int a), (2, .int b), (3, .int c), (4, .int d)]) (zml mf120 (by decide)) rfl (c := 8) (by decide) rfl ?_
  refine zs_goto (pc := 43) t120_43 ?_
  refine zs_iload (pc := 24) t120_24 rfl ?_
  refine zs_bipush (pc := 26) t120_26 (v := 8) (by decide) ?_
  refine zs_icmp_geT (pc := 28) t120_28 li8 li8 (by decide) ?_
  have w13 : (zI (zsI (zsI (zsI (zsI (zsI (zsI (zsI (zsI (zsI (zsI (zsI (zsI M (257 + 3 * i0) 0 a) (257 + 3 * i0) 1 b) (257 + 3 * i0) 2 c) (257 + 3 * i0) 3 d) (257 + 3 * i0 + 1) 0 (-2 : Int32)) (257 + 3 * i0 + 1) 1 (-2 : Int32)) (257 + 3 * i0 + 1) 2 (-2 : Int32)) (257 + 3 * i0 + 1) 3 (-2 : Int32)) (257 + 3 * i0 + 1) 4 (-2 : Int32)) (257 + 3 * i0 + 1) 5 (-2 : Int32)) (257 + 3 * i0 + 1) 6 (-2 : Int32)) (257 + 3 * i0 + 1) 7 (-2 : Int32)) (257 + 3 * i0 + 1) 0).toInt = -2 := (congrArg Int32.toInt (((zIoj (by decide)).trans ((zIoj (by decide)).trans ((zIoj (by decide)).trans ((zIoj (by decide)).trans ((zIoj (by decide)).trans ((zIoj (by decide)).trans ((zIoj (by decide)).trans zIs))))))))).trans (by decide)
  have w14 : (zI (zsI (zsI (zsI (zsI (zsI (zsI (zsI (zsI (zsI (zsI (zsI (zsI M (257 + 3 * i0) 0 a) (257 + 3 * i0) 1 b) (257 + 3 * i0) 2 c) (257 + 3 * i0) 3 d) (257 + 3 * i0 + 1) 0 (-2 : Int32)) (257 + 3 * i0 + 1) 1 (-2 : Int32)) (257 + 3 * i0 + 1) 2 (-2 : Int32)) (257 + 3 * i0 + 1) 3 (-2 : Int32)) (257 + 3 * i0 + 1) 4 (-2 : Int32)) (257 + 3 * i0 + 1) 5 (-2 : Int32)) (257 + 3 * i0 + 1) 6 (-2 : Int32)) (257 + 3 * i0 + 1) 7 (-2 : Int32)) (257 + 3 * i0 + 1) 1).toInt = -2 := (congrArg Int32.toInt (((zIoj (by decide)).trans ((zIoj (by decide)).trans ((zIoj (by decide)).trans ((zIoj (by decide)).trans ((zIoj (by decide)).trans ((zIoj (by decide)).trans zIs)))))))).trans (by decide)
  have w15 : (zI (zsI (zsI (zsI (zsI (zsI (zsI (zsI (zsI (zsI (zsI (zsI (zsI M (257 + 3 * i0) 0 a) (257 + 3 * i0) 1 b) (257 + 3 * i0) 2 c) (257 + 3 * i0) 3 d) (257 + 3 * i0 + 1) 0 (-2 : Int32)) (257 + 3 * i0 + 1) 1 (-2 : Int32)) (257 + 3 * i0 + 1) 2 (-2 : Int32)) (257 + 3 * i0 + 1) 3 (-2 : Int32)) (257 + 3 * i0 + 1) 4 (-2 : Int32)) (257 + 3 * i0 + 1) 5 (-2 : Int32)) (257 + 3 * i0 + 1) 6 (-2 : Int32)) (257 + 3 * i0 + 1) 7 (-2 : Int32)) (257 + 3 * i0 + 1) 2).toInt = -2 := (congrArg Int32.toInt (((zIoj (by decide)).trans ((zIoj (by decide)).trans ((zIoj (by decide)).trans ((zIoj (by decide)).trans ((zIoj (by decide)).trans zIs))))))).trans (by decide)
  have w16 : (zI (zsI (zsI (zsI (zsI (zsI (zsI (zsI (zsI (zsI (zsI (zsI (zsI M (257 + 3 * i0) 0 a) (257 + 3 * i0) 1 b) (257 + 3 * i0) 2 c) (257 + 3 * i0) 3 d) (257 + 3 * i0 + 1) 0 (-2 : Int32)) (257 + 3 * i0 + 1) 1 (-2 : Int32)) (257 + 3 * i0 + 1) 2 (-2 : Int32)) (257 + 3 * i0 + 1) 3 (-2 : Int32)) (257 + 3 * i0 + 1) 4 (-2 : Int32)) (257 + 3 * i0 + 1) 5 (-2 : Int32)) (257 + 3 * i0 + 1) 6 (-2 : Int32)) (257 + 3 * i0 + 1) 7 (-2 : Int32)) (257 + 3 * i0 + 1) 3).toInt = -2 := (congrArg Int32.toInt (((zIoj (by decide)).trans ((zIoj (by decide)).trans ((zIoj (by decide)).trans ((zIoj (by decide)).trans zIs)))))).trans (by decide)
  have w17 : (zI (zsI (zsI (zsI (zsI (zsI (zsI (zsI (zsI (zsI (zsI (zsI (zsI M (257 + 3 * i0) 0 a) (257 + 3 * i0) 1 b) (257 + 3 * i0) 2 c) (257 + 3 * i0) 3 d) (257 + 3 * i0 + 1) 0 (-2 : Int32)) (257 + 3 * i0 + 1) 1 (-2 : Int32)) (257 + 3 * i0 + 1) 2 (-2 : Int32)) (257 + 3 * i0 + 1) 3 (-2 : Int32)) (257 + 3 * i0 + 1) 4 (-2 : Int32)) (257 + 3 * i0 + 1) 5 (-2 : Int32)) (257 + 3 * i0 + 1) 6 (-2 : Int32)) (257 + 3 * i0 + 1) 7 (-2 : Int32)) (257 + 3 * i0 + 1) 4).toInt = -2 := (congrArg Int32.toInt (((zIoj (by decide)).trans ((zIoj (by decide)).trans ((zIoj (by decide)).trans zIs))))).trans (by decide)
  have w18 : (zI (zsI (zsI (zsI (zsI (zsI (zsI (zsI (zsI (zsI (zsI (zsI (zsI M (257 + 3 * i0) 0 a) (257 + 3 * i0) 1 b) (257 + 3 * i0) 2 c) (257 + 3 * i0) 3 d) (257 + 3 * i0 + 1) 0 (-2 : Int32)) (257 + 3 * i0 + 1) 1 (-2 : Int32)) (257 + 3 * i0 + 1) 2 (-2 : Int32)) (257 + 3 * i0 + 1) 3 (-2 : Int32)) (257 + 3 * i0 + 1) 4 (-2 : Int32)) (257 + 3 * i0 + 1) 5 (-2 : Int32)) (257 + 3 * i0 + 1) 6 (-2 : Int32)) (257 + 3 * i0 + 1) 7 (-2 : Int32)) (257 + 3 * i0 + 1) 5).toInt = -2 := (congrArg Int32.toInt (((zIoj (by decide)).trans ((zIoj (by decide)).trans zIs)))).trans (by decide)
  have w19 : (zI (zsI (zsI (zsI (zsI (zsI (zsI (zsI (zsI (zsI (zsI (zsI (zsI M (257 + 3 * i0) 0 a) (257 + 3 * i0) 1 b) (257 + 3 * i0) 2 c) (257 + 3 * i0) 3 d) (257 + 3 * i0 + 1) 0 (-2 : Int32)) (257 + 3 * i0 + 1) 1 (-2 : Int32)) (257 + 3 * i0 + 1) 2 (-2 : Int32)) (257 + 3 * i0 + 1) 3 (-2 : Int32)) (257 + 3 * i0 + 1) 4 (-2 : Int32)) (257 + 3 * i0 + 1) 5 (-2 : Int32)) (257 + 3 * i0 + 1) 6 (-2 : Int32)) (257 + 3 * i0 + 1) 7 (-2 : Int32)) (257 + 3 * i0 + 1) 6).toInt = -2 := (congrArg Int32.toInt (((zIoj (by decide)).trans zIs))).trans (by decide)
  have w20 : (zI (zsI (zsI (zsI (zsI (zsI (zsI (zsI (zsI (zsI (zsI (zsI (zsI M (257 + 3 * i0) 0 a) (257 + 3 * i0) 1 b) (257 + 3 * i0) 2 c) (257 + 3 * i0) 3 d) (257 + 3 * i0 + 1) 0 (-2 : Int32)) (257 + 3 * i0 + 1) 1 (-2 : Int32)) (257 + 3 * i0 + 1) 2 (-2 : Int32)) (257 + 3 * i0 + 1) 3 (-2 : Int32)) (257 + 3 * i0 + 1) 4 (-2 : Int32)) (257 + 3 * i0 + 1) 5 (-2 : Int32)) (257 + 3 * i0 + 1) 6 (-2 : Int32)) (257 + 3 * i0 + 1) 7 (-2 : Int32)) (257 + 3 * i0 + 1) 7).toInt = -2 := (congrArg Int32.toInt (zIs)).trans (by decide)
  exact zs_vret (pc := 46) t120_46 mr120 (hQ _ hs w12 (((((((((((((zFr.refl).put (zinW_r (lo := 257) (hi := 316) (by decide) (by omega) (by omega))).put (zinW_r (lo := 257) (hi := 316) (by decide) (by omega) (by omega))).put (zinW_r (lo := 257) (hi := 316) (by decide) (by omega) (by omega))).put (zinW_r (lo := 257) (hi := 316) (by decide) (by omega) (by omega))).put (zinW_r (lo := 257) (hi := 316) (by decide) (by omega) (by omega))).put (zinW_r (lo := 257) (hi := 316) (by decide) (by omega) (by omega))).put (zinW_r (lo := 257) (hi := 316) (by decide) (by omega) (by omega))).put (zinW_r (lo := 257) (hi := 316) (by decide) (by omega) (by omega))).put (zinW_r (lo := 257) (hi := 316) (by decide) (by omega) (by omega))).put (zinW_r (lo := 257) (hi := 316) (by decide) (by omega) (by omega))).put (zinW_r (lo := 257) (hi := 316) (by decide) (by omega) (by omega))).put (zinW_r (lo := 257) (hi := 316) (by decide) (by omega) (by omega))) ⟨congrArg Int32.toInt (((zIo (by omega)).trans ((zIo (by omega)).trans ((zIo (by omega)).trans ((zIo (by omega)).trans ((zIo (by omega)).trans ((zIo (by omega)).trans ((zIo (by omega)).trans ((zIo (by omega)).trans ((zIoj (by decide)).trans ((zIoj (by decide)).trans ((zIoj (by decide)).trans zIs)))))))))))), congrArg Int32.toInt (((zIo (by omega)).trans ((zIo (by omega)).trans ((zIo (by omega)).trans ((zIo (by omega)).trans ((zIo (by omega)).trans ((zIo (by omega)).trans ((zIo (by omega)).trans ((zIo (by omega)).trans ((zIoj (by decide)).trans ((zIoj (by decide)).trans zIs))))))))))), congrArg Int32.toInt (((zIo (by omega)).trans ((zIo (by omega)).trans ((zIo (by omega)).trans ((zIo (by omega)).trans ((zIo (by omega)).trans ((zIo (by omega)).trans ((zIo (by omega)).trans ((zIo (by omega)).trans ((zIoj (by decide)).trans zIs)))))))))), congrArg Int32.toInt (((zIo (by omega)).trans ((zIo (by omega)).trans ((zIo (by omega)).trans ((zIo (by omega)).trans ((zIo (by omega)).trans ((zIo (by omega)).trans ((zIo (by omega)).trans ((zIo (by omega)).trans zIs)))))))))⟩ (fun l hl => by rcases (show l = 0 ∨ l = 1 ∨ l = 2 ∨ l = 3 ∨ l = 4 ∨ l = 5 ∨ l = 6 ∨ l = 7 by omega) with q | q | q | q | q | q | q | q <;> (subst q; assumption)) (fun k j q1 q2 => ((zIo (by omega)).trans ((zIo (by omega)).trans ((zIo (by omega)).trans ((zIo (by omega)).trans ((zIo (by omega)).trans ((zIo (by omega)).trans ((zIo (by omega)).trans ((zIo (by omega)).trans ((zIo (by omega)).trans ((zIo (by omega)).trans ((zIo (by omega)).trans ((zIo (by omega)).trans rfl))))))))))))))
