theorem K278_1 {X : zX} {l : Launch} {M : zM} {Q : Option Value → zM → Prop} (hs : zSk zMm M) (hI : zIv mLo mHi M) (hQ : ∀ v : Int32, 0 ≤ v.toInt → v.toInt ≤ 1 → Q (some (.int v)) M) : zCall X l 0 0 0 278 [.int (1 : Int32)] M Q := by
  refine zs_in (by decide) mf278 (Nat.le_of_ble_eq_true rfl) ?_
  show zGo X l 0 0 0 278 0 [(0, .int (1 : Int32))] [] M _
  refine zs_iconst (pc := 0) t278_0 (v := 0) (by decide) ?_
  refine zs_istore_n (pc := 1) t278_1 (ls' := [(1, .int (0 : Int32)), (0, .int (1 : Int32))]) (zml mf278 (by decide)) rfl ?_
  refine zs_iconst (pc := 2) t278_2 (v := 0) (by decide) ?_
  refine zs_istore_n (pc := 3) t278_3 (ls' := [(2, .int (0 : Int32)), (1, .int (0 : Int32)), (0, .int (1 : Int32))]) (zml mf278 (by decide)) rfl ?_
  refine zs_iload_n (pc := 4) t278_4 rfl ?_
  refine zs_bipush (pc := 5) t278_5 (v := 8) (by decide) ?_
  refine zs_icmp_geF (pc := 7) t278_7 li0 li8 (by decide) ?_
  refine zs_iload_n (pc := 10) t278_10 rfl ?_
  refine zs_iload_n (pc := 11) t278_11 rfl ?_
  refine zs_iload_n (pc := 12) t278_12 rfl ?_
  refine zs_ishr (pc := 13) t278_13 (c := 1) (by decide) ?_
  refine zs_iconst (pc := 14) t278_14 (v := 1) (by decide) ?_
  refine zs_iand (pc := 15) t278_15 (c := 1) (by decide) ?_
  refine zs_iadd (pc := 16) t278_16 (c := 1) (by decide) ?_
  refine zs_istore_n (pc := 17) t278_17 (ls' := [(1, .int (1 : Int32)), (2, .int (0 : Int32)), (0, .int (1 : Int32))]) (zml mf278 (by decide)) rfl ?_
  refine zs_iinc (pc := 18) t278_18 (ls' := [(2, .int (1 : Int32)), (1, .int (1 : Int32)), (0, .int (1 : Int32))]) (zml mf278 (by decide)) rfl (c := 1) (by decide) rfl ?_
  refine zs_goto (pc := 21) t278_21 ?_
  refine zs_iload_n (pc := 4) t278_4 rfl ?_
  refine zs_bipush (pc := 5) t278_5 (v := 8) (by decide) ?_
  refine zs_icmp_geF (pc := 7) t278_7 li1 li8 (by decide) ?_
  refine zs_iload_n (pc := 10) t278_10 rfl ?_
  refine zs_iload_n (pc := 11) t278_11 rfl ?_
  refine zs_iload_n (pc := 12) t278_12 rfl ?_
  refine zs_ishr (pc := 13) t278_13 (c := 0) (by decide) ?_
  refine zs_iconst (pc := 14) t278_14 (v := 1) (by decide) ?_
  refine zs_iand (pc := 15) t278_15 (c := 0) (by decide) ?_
  refine zs_iadd (pc := 16) t278_16 (c := 1) (by decide) ?_
  refine zs_istore_n (pc := 17) t278_17 (ls' := [(1, .int (1 : Int32)), (2, .int (1 : Int32)), (0, .int (1 : Int32))]) (zml mf278 (by decide)) rfl ?_
  refine zs_iinc (pc := 18) t278_18 (ls' := [(2, .int (2 : Int32)), (1, .int (1 : Int32)), (0, .int (1 : Int32))]) (zml mf278 (by decide)) rfl (c := 2) (by decide) rfl ?_
  refine zs_goto (pc := 21) t278_21 ?_
  refine zs_iload_n (pc := 4) t278_4 rfl ?_
  refine zs_bipush (pc := 5) t278_5 (v := 8) (by decide) ?_
  refine zs_icmp_geF (pc := 7) t278_7 li2 li8 (by decide) ?_
  refine zs_iload_n (pc := 10) t278_10 rfl ?_
  refine zs_iload_n (pc := 11) t278_11 rfl ?_
  refine zs_iload_n (pc := 12) t278_12 rfl ?_
  refine zs_ishr (pc := 13) t278_13 (c := 0) (by decide) ?_
  refine zs_iconst (pc := 14) t278_14 (v := 1) (by decide) ?_
  refine zs_iand (pc := 15) t278_15 (c := 0) (by decide) ?_
  refine zs_iadd (pc := 16) t278_16 (c := 1) (by decide) ?_
  refine zs_istore_n (pc := 17) t278_17 (ls' := [(1, .int (1 : Int32)), (2, .int (2 : Int32)), (0, .int (1 : Int32))]) (zml mf278 (by decide)) rfl ?_
  refine zs_iinc (pc := 18) t278_18 (ls' := [(2, .int (3 : Int32)), (1, .int (1 : Int32)), (0, .int (1 : Int32))]) (zml mf278 (by decide)) rfl (c := 3) (by decide) rfl ?_
  refine zs_goto (pc := 21) t278_21 ?_
  refine zs_iload_n (pc := 4) t278_4 rfl ?_
  refine zs_bipush (pc := 5) t278_5 (v := 8) (by decide) ?_
  refine zs_icmp_geF (pc := 7) t278_7 li3 li8 (by decide) ?_
  refine zs_iload_n (pc := 10) t278_10 rfl ?_
  refine zs_iload_n (pc := 11) t278_11 rfl ?_
  refine zs_iload_n (pc := 12) t278_12 rfl ?_
  refine zs_ishr (pc := 13) t278_13 (c := 0) (by decide) ?_
  refine zs_iconst (pc := 14) t278_14 (v := 1) (by decide) ?_
  refine zs_iand (pc := 15) t278_15 (c := 0) (by decide) ?_
  refine zs_iadd (pc := 16) t278_16 (c := 1) (by decide) ?_
  refine zs_istore_n (pc := 17) t278_17 (ls' := [(1, .int (1 : Int32)), (2, .int (3 : Int32)), (0, .int (1 : Int32))]) (zml mf278 (by decide)) rfl ?_
  refine zs_iinc (pc := 18) t278_18 (ls' := [(2, .int (4 : Int32)), (1, .int (1 : Int32)), (0, .int (1 : Int32))]) (zml mf278 (by decide)) rfl (c := 4) (by decide) rfl ?_
  refine zs_goto (pc := 21) t278_21 ?_
  refine zs_iload_n (pc := 4) t278_4 rfl ?_
  refine zs_bipush (pc := 5) t278_5 (v := 8) (by decide) ?_
  refine zs_icmp_geF (pc := 7) t278_7 li4 li8 (by decide) ?_
  refine zs_iload_n (pc := 10) t278_10 rfl ?_
  refine zs_iload_n (pc := 11) t278_11 rfl ?_
  refine zs_iload_n (pc := 12) t278_12 rfl ?_
  refine zs_ishr (pc := 13) t278_13 (c := 0) (by decide) ?_
  refine zs_iconst (pc := 14) t278_14 (v := 1) (by decide) ?_
  refine zs_iand (pc := 15) t278_15 (c := 0) (by decide) ?_
  refine zs_iadd (pc := 16) t278_16 (c := 1) (by decide) ?_
  refine zs_istore_n (pc := 17) t278_17 (ls' := [(1, .int (1 : Int32)), (2, .int (4 : Int32)), (0, .int (1 : Int32))]) (zml mf278 (by decide)) rfl ?_
  refine zs_iinc (pc := 18) t278_18 (ls' := [(2, .int (5 : Int32)), (1, .int (1 : Int32)), (0, .int (1 : Int32))]) (zml mf278 (by decide)) rfl (c := 5) (by decide) rfl ?_
  refine zs_goto (pc := 21) t278_21 ?_
  refine zs_iload_n (pc := 4) t278_4 rfl ?_
  refine zs_bipush (pc := 5) t278_5 (v := 8) (by decide) ?_
  refine zs_icmp_geF (pc := 7) t278_7 li5 li8 (by decide) ?_
  refine zs_iload_n (pc := 10) t278_10 rfl ?_
  refine zs_iload_n (pc := 11) t278_11 rfl ?_
  refine zs_iload_n (pc := 12) t278_12 rfl ?_
  refine zs_ishr (pc := 13) t278_13 (c := 0) (by decide) ?_
  refine zs_iconst (pc := 14) t278_14 (v := 1) (by decide) ?_
  refine zs_iand (pc := 15) t278_15 (c := 0) (by decide) ?_
  refine zs_iadd (pc := 16) t278_16 (c := 1) (by decide) ?_
  refine zs_istore_n (pc := 17) t278_17 (ls' := [(1, .int (1 : Int32)), (2, .int (5 : Int32)), (0, .int (1 : Int32))]) (zml mf278 (by decide)) rfl ?_
  refine zs_iinc (pc := 18) t278_18 (ls' := [(2, .int (6 : Int32)), (1, .int (1 : Int32)), (0, .int (1 : Int32))]) (zml mf278 (by decide)) rfl (c := 6) (by decide) rfl ?_
  refine zs_goto (pc := 21) t278_21 ?_
  refine zs_iload_n (pc := 4) t278_4 rfl ?_
  refine zs_bipush (pc := 5) t278_5 (v := 8) (by decide) ?_
  refine zs_icmp_geF (pc := 7) t278_7 li6 li8 (by decide) ?_
  refine zs_iload_n (pc := 10) t278_10 rfl ?_
  refine zs_iload_n (pc := 11) t278_11 rfl ?_
  refine zs_iload_n (pc := 12) t278_12 rfl ?_
  refine zs_ishr (pc := 13) t278_13 (c := 0) (by decide) ?_
  refine zs_iconst (pc := 14) t278_14 (v := 1) (by decide) ?_
  refine zs_iand (pc := 15) t278_15 (c := 0) (by decide) ?_
  refine zs_iadd (pc := 16) t278_16 (c := 1) (by decide) ?_
  refine zs_istore_n (pc := 17) t278_17 (ls' := [(1, .int (1 : Int32)), (2, .int (6 : Int32)), (0, .int (1 : Int32))]) (zml mf278 (by decide)) rfl ?_
  refine zs_iinc (pc := 18) t278_18 (ls' := [(2, .int (7 : Int32)), (1, .int (1 : Int32)), (0, .int (1 : Int32))]) (zml mf278 (by decide)) rfl (c := 7) (by decide) rfl ?_
  refine zs_goto (pc := 21) t278_21 ?_
  refine zs_iload_n (pc := 4) t278_4 rfl ?_
  refine zs_bipush (pc := 5) t278_5 (v := 8) (by decide) ?_
  refine zs_icmp_geF (pc := 7) t278_7 li7 li8 (by decide) ?_
  refine zs_iload_n (pc := 10) t278_10 rfl ?_
  refine zs_iload_n (pc := 11) t278_11 rfl ?_
  refine zs_iload_n (pc := 12) t278_12 rfl ?_
  refine zs_ishr (pc := 13) t278_13 (c := 0) (by decide) ?_
  refine zs_iconst (pc := 14) t278_14 (v := 1) (by decide) ?_
  refine zs_iand (pc := 15) t278_15 (c := 0) (by decide) ?_
  refine zs_iadd (pc := 16) t278_16 (c := 1) (by decide) ?_
  refine zs_istore_n (pc := 17) t278_17 (ls' := [(1, .int (1 : Int32)), (2, .int (7 : Int32)), (0, .int (1 : Int32))]) (zml mf278 (by decide)) rfl ?_
  refine zs_iinc (pc := 18) t278_18 (ls' := [(2, .int (8 : Int32)), (1, .int (1 : Int32)), (0, .int (1 : Int32))]) (zml mf278 (by decide)) rfl (c := 8) (by decide) rfl ?_
  refine zs_goto (pc := 21) t278_21 ?_
  refine zs_iload_n (pc := 4) t278_4 rfl ?_
  refine zs_bipush (pc := 5) t278_5 (v := 8) (by decide) ?_
  refine zs_icmp_geT (pc := 7) t278_7 li8 li8 (by decide) ?_
  refine zs_iload_n (pc := 24) t278_24 rfl ?_
  exact zs_iret (pc := 25) t278_25 mr278 (by decide) (hQ _ (by decide) (by decide))
theorem K278_2 {X : zX} {l : Launch} {M : zM} {Q : Option Value → zM → Prop} (hs : zSk zMm M) (hI : zIv mLo mHi M) (hQ : ∀ v : Int32, 0 ≤ v.toInt → v.toInt ≤ 1 → Q (some (.int v)) M) : zCall X l 0 0 0 278 [.int (2 : Int32)] M Q := by
  refine zs_in (by decide) mf278 (Nat.le_of_ble_eq_true rfl) ?_
  show zGo X l 0 0 0 278 0 [(0, .int (2 : Int32))] [] M _
  refine zs_iconst (pc := 0) t278_0 (v := 0) (by decide) ?_
  refine zs_istore_n (pc := 1) t278_1 (ls' := [(1, .int (0 : Int32)), (0, .int (2 : Int32))]) (zml mf278 (by decide)) rfl ?_
  refine zs_iconst (pc := 2) t278_2 (v := 0) (by decide) ?_
  refine zs_istore_n (pc := 3) t278_3 (ls' := [(2, .int (0 : Int32)), (1, .int (0 : Int32)), (0, .int (2 : Int32))]) (zml mf278 (by decide)) rfl ?_
  refine zs_iload_n (pc := 4) t278_4 rfl ?_
  refine zs_bipush (pc := 5) t278_5 (v := 8) (by decide) ?_
  refine zs_icmp_geF (pc := 7) t278_7 li0 li8 (by decide) ?_
  refine zs_iload_n (pc := 10) t278_10 rfl ?_
  refine zs_iload_n (pc := 11) t278_11 rfl ?_
  refine zs_iload_n (pc := 12) t278_12 rfl ?_
  refine zs_ishr (pc := 13) t278_13 (c := 2) (by decide) ?_
  refine zs_iconst (pc := 14) t278_14 (v := 1) (by decide) ?_
  refine zs_iand (pc := 15) t278_15 (c := 0) (by decide) ?_
  refine zs_iadd (pc := 16) t278_16 (c := 0) (by decide) ?_
  refine zs_istore_n (pc := 17) t278_17 (ls' := [(1, .int (0 : Int32)), (2, .int (0 : Int32)), (0, .int (2 : Int32))]) (zml mf278 (by decide)) rfl ?_
  refine zs_iinc (pc := 18) t278_18 (ls' := [(2, .int (1 : Int32)), (1, .int (0 : Int32)), (0, .int (2 : Int32))]) (zml mf278 (by decide)) rfl (c := 1) (by decide) rfl ?_
  refine zs_goto (pc := 21) t278_21 ?_
  refine zs_iload_n (pc := 4) t278_4 rfl ?_
  refine zs_bipush (pc := 5) t278_5 (v := 8) (by decide) ?_
  refine zs_icmp_geF (pc := 7) t278_7 li1 li8 (by decide) ?_
  refine zs_iload_n (pc := 10) t278_10 rfl ?_
  refine zs_iload_n (pc := 11) t278_11 rfl ?_
  refine zs_iload_n (pc := 12) t278_12 rfl ?_
  refine zs_ishr (pc := 13) t278_13 (c := 1) (by decide) ?_
  refine zs_iconst (pc := 14) t278_14 (v := 1) (by decide) ?_
  refine zs_iand (pc := 15) t278_15 (c := 1) (by decide) ?_
  refine zs_iadd (pc := 16) t278_16 (c := 1) (by decide) ?_
  refine zs_istore_n (pc := 17) t278_17 (ls' := [(1, .int (1 : Int32)), (2, .int (1 : Int32)), (0, .int (2 : Int32))]) (zml mf278 (by decide)) rfl ?_
  refine zs_iinc (pc := 18) t278_18 (ls' := [(2, .int (2 : Int32)), (1, .int (1 : Int32)), (0, .int (2 : Int32))]) (zml mf278 (by decide)) rfl (c := 2) (by decide) rfl ?_
  refine zs_goto (pc := 21) t278_21 ?_
  refine zs_iload_n (pc := 4) t278_4 rfl ?_
  refine zs_bipush (pc := 5) t278_5 (v := 8) (by decide) ?_
  refine zs_icmp_geF (pc := 7) t278_7 li2 li8 (by decide) ?_
  refine zs_iload_n (pc := 10) t278_10 rfl ?_
  refine zs_iload_n (pc := 11) t278_11 rfl ?_
  refine zs_iload_n (pc := 12) t278_12 rfl ?_
  refine zs_ishr (pc := 13) t278_13 (c := 0) (by decide) ?_
  refine zs_iconst (pc := 14) t278_14 (v := 1) (by decide) ?_
  refine zs_iand (pc := 15) t278_15 (c := 0) (by decide) ?_
  refine zs_iadd (pc := 16) t278_16 (c := 1) (by decide) ?_
  refine zs_istore_n (pc := 17) t278_17 (ls' := [(1, .int (1 : Int32)), (2, .int (2 : Int32)), (0, .int (2 : Int32))]) (zml mf278 (by decide)) rfl ?_
  refine zs_iinc (pc := 18) t278_18 (ls' := [(2, .int (3 : Int32)), (1, .int (1 : Int32)), (0, .int (2 : Int32))]) (zml mf278 (by decide)) rfl (c := 3) (by decide) rfl ?_
  refine zs_goto (pc := 21) t278_21 ?_
  refine zs_iload_n (pc := 4) t278_4 rfl ?_
  refine zs_bipush (pc := 5) t278_5 (v := 8) (by decide) ?_
  refine zs_icmp_geF (pc := 7) t278_7 li3 li8 (by decide) ?_
  refine zs_iload_n (pc := 10) t278_10 rfl ?_
  refine zs_iload_n (pc := 11) t278_11 rfl ?_
  refine zs_iload_n (pc := 12) t278_12 rfl ?_
  refine zs_ishr (pc := 13) t278_13 (c := 0) (by decide) ?_
  refine zs_iconst (pc := 14) t278_14 (v := 1) (by decide) ?_
  refine zs_iand (pc := 15) t278_15 (c := 0) (by decide) ?_
  refine zs_iadd (pc := 16) t278_16 (c := 1) (by decide) ?_
  refine zs_istore_n (pc := 17) t278_17 (ls' := [(1, .int (1 : Int32)), (2, .int (3 : Int32)), (0, .int (2 : Int32))]) (zml mf278 (by decide)) rfl ?_
  refine zs_iinc (pc := 18) t278_18 (ls' := [(2, .int (4 : Int32)), (1, .int (1 : Int32)), (0, .int (2 : Int32))]) (zml mf278 (by decide)) rfl (c := 4) (by decide) rfl ?_
  refine zs_goto (pc := 21) t278_21 ?_
  refine zs_iload_n (pc := 4) t278_4 rfl ?_
  refine zs_bipush (pc := 5) t278_5 (v := 8) (by decide) ?_
  refine zs_icmp_geF (pc := 7) t278_7 li4 li8 (by decide) ?_
  refine zs_iload_n (pc := 10) t278_10 rfl ?_
  refine zs_iload_n (pc := 11) t278_11 rfl ?_
  refine zs_iload_n (pc := 12) t278_12 rfl ?_
  refine zs_ishr (pc := 13) t278_13 (c := 0) (by decide) ?_
  refine zs_iconst (pc := 14) t278_14 (v := 1) (by decide) ?_
  refine zs_iand (pc := 15) t278_15 (c := 0) (by decide) ?_
  refine zs_iadd (pc := 16) t278_16 (c := 1) (by decide) ?_
  refine zs_istore_n (pc := 17) t278_17 (ls' := [(1, .int (1 : Int32)), (2, .int (4 : Int32)), (0, .int (2 : Int32))]) (zml mf278 (by decide)) rfl ?_
  refine zs_iinc (pc := 18) t278_18 (ls' := [(2, .int (5 : Int32)), (1, .int (1 : Int32)), (0, .int (2 : Int32))]) (zml mf278 (by decide)) rfl (c := 5) (by decide) rfl ?_
  refine zs_goto (pc := 21) t278_21 ?_
  refine zs_iload_n (pc := 4) t278_4 rfl ?_
  refine zs_bipush (pc := 5) t278_5 (v := 8) (by decide) ?_
  refine zs_icmp_geF (pc := 7) t278_7 li5 li8 (by decide) ?_
  refine zs_iload_n (pc := 10) t278_10 rfl ?_
  refine zs_iload_n (pc := 11) t278_11 rfl ?_
  refine zs_iload_n (pc := 12) t278_12 rfl ?_
  refine zs_ishr (pc := 13) t278_13 (c := 0) (by decide) ?_
  refine zs_iconst (pc := 14) t278_14 (v := 1) (by decide) ?_
  refine zs_iand (pc := 15) t278_15 (c := 0) (by decide) ?_
  refine zs_iadd (pc := 16) t278_16 (c := 1) (by decide) ?_
  refine zs_istore_n (pc := 17) t278_17 (ls' := [(1, .int (1 : Int32)), (2, .int (5 : Int32)), (0, .int (2 : Int32))]) (zml mf278 (by decide)) rfl ?_
  refine zs_iinc (pc := 18) t278_18 (ls' := [(2, .int (6 : Int32)), (1, .int (1 : Int32)), (0, .int (2 : Int32))]) (zml mf278 (by decide)) rfl (c := 6) (by decide) rfl ?_
  refine zs_goto (pc := 21) t278_21 ?_
  refine zs_iload_n (pc := 4) t278_4 rfl ?_
  refine zs_bipush (pc := 5) t278_5 (v := 8) (by decide) ?_
  refine zs_icmp_geF (pc := 7) t278_7 li6 li8 (by decide) ?_
  refine zs_iload_n (pc := 10) t278_10 rfl ?_
  refine zs_iload_n (pc := 11) t278_11 rfl ?_
  refine zs_iload_n (pc := 12) t278_12 rfl ?_
  refine zs_ishr (pc := 13) t278_13 (c := 0) (by decide) ?_
  refine zs_iconst (pc := 14) t278_14 (v := 1) (by decide) ?_
  refine zs_iand (pc := 15) t278_15 (c := 0) (by decide) ?_
  refine zs_iadd (pc := 16) t278_16 (c := 1) (by decide) ?_
  refine zs_istore_n (pc := 17) t278_17 (ls' := [(1, .int (1 : Int32)), (2, .int (6 : Int32)), (0, .int (2 : Int32))]) (zml mf278 (by decide)) rfl ?_
  refine zs_iinc (pc := 18) t278_18 (ls' := [(2, .int (7 : Int32)), (1, .int (1 : Int32)), (0, .int (2 : Int32))]) (zml mf278 (by decide)) rfl (c := 7) (by decide) rfl ?_
  refine zs_goto (pc := 21) t278_21 ?_
  refine zs_iload_n (pc := 4) t278_4 rfl ?_
  refine zs_bipush (pc := 5) t278_5 (v := 8) (by decide) ?_
  refine zs_icmp_geF (pc := 7) t278_7 li7 li8 (by decide) ?_
  refine zs_iload_n (pc := 10) t278_10 rfl ?_
  refine zs_iload_n (pc := 11) t278_11 rfl ?_
  refine zs_iload_n (pc := 12) t278_12 rfl ?_
  refine zs_ishr (pc := 13) t278_13 (c := 0) (by decide) ?_
  refine zs_iconst (pc := 14) t278_14 (v := 1) (by decide) ?_
  refine zs_iand (pc := 15) t278_15 (c := 0) (by decide) ?_
  refine zs_iadd (pc := 16) t278_16 (c := 1) (by decide) ?_
  refine zs_istore_n (pc := 17) t278_17 (ls' := [(1, .int (1 : Int32)), (2, .int (7 : Int32)), (0, .int (2 : Int32))]) (zml mf278 (by decide)) rfl ?_
  refine zs_iinc (pc := 18) t278_18 (ls' := [(2, .int (8 : Int32)), (1, .int (1 : Int32)), (0, .int (2 : Int32))]) (zml mf278 (by decide)) rfl (c := 8) (by decide) rfl ?_
  refine zs_goto (pc := 21) t278_21 ?_
  refine zs_iload_n (pc := 4) t278_4 rfl ?_
  refine zs_bipush (pc := 5) t278_5 (v := 8) (by decide) ?_
  refine zs_icmp_geT (pc := 7) t278_7 li8 li8 (by decide) ?_
  refine zs_iload_n (pc := 24) t278_24 rfl ?_
  exact zs_iret (pc := 25) t278_25 mr278 (by decide) (hQ _ (by decide) (by decide))
theorem K278_4 {X : zX} {l : Launch} {M : zM} {Q : Option Value → zM → Prop} (hs : zSk zMm M) (hI : zIv mLo mHi M) (hQ : ∀ v : Int32, 0 ≤ v.toInt → v.toInt ≤ 1 → Q (some (.int v)) M) : zCall X l 0 0 0 278 [.int (4 : Int32)] M Q := by
  refine zs_in (by decide) mf278 (Nat.le_of_ble_eq_true rfl) ?_
  show zGo X l 0 0 0 278 0 [(0, .int (4 : Int32))] [] M _
  refine zs_iconst (pc := 0) t278_0 (v := 0) (by decide) ?_
  refine zs_istore_n (pc := 1) t278_1 (ls' := [(1, .int (0 : Int32)), (0, .int (4 : Int32))]) (zml mf278 (by decide)) rfl ?_
  refine zs_iconst (pc := 2) t278_2 (v := 0) (by decide) ?_
  refine zs_istore_n (pc := 3) t278_3 (ls' := [(2, .int (0 : Int32)), (1, .int (0 : Int32)), (0, .int (4 : Int32))]) (zml mf278 (by decide)) rfl ?_
  refine zs_iload_n (pc := 4) t278_4 rfl ?_
  refine zs_bipush (pc := 5) t278_5 (v := 8) (by decide) ?_
  refine zs_icmp_geF (pc := 7) t278_7 li0 li8 (by decide) ?_
  refine zs_iload_n (pc := 10) t278_10 rfl ?_
  refine zs_iload_n (pc := 11) t278_11 rfl ?_
  refine zs_iload_n (pc := 12) t278_12 rfl ?_
  refine zs_ishr (pc := 13) t278_13 (c := 4) (by decide) ?_
  refine zs_iconst (pc := 14) t278_14 (v := 1) (by decide) ?_
  refine zs_iand (pc := 15) t278_15 (c := 0) (by decide) ?_
  refine zs_iadd (pc := 16) t278_16 (c := 0) (by decide) ?_
  refine zs_istore_n (pc := 17) t278_17 (ls' := [(1, .int (0 : Int32)), (2, .int (0 : Int32)), (0, .int (4 : Int32))]) (zml mf278 (by decide)) rfl ?_
  refine zs_iinc (pc := 18) t278_18 (ls' := [(2, .int (1 : Int32)), (1, .int (0 : Int32)), (0, .int (4 : Int32))]) (zml mf278 (by decide)) rfl (c := 1) (by decide) rfl ?_
  refine zs_goto (pc := 21) t278_21 ?_
  refine zs_iload_n (pc := 4) t278_4 rfl ?_
  refine zs_bipush (pc := 5) t278_5 (v := 8) (by decide) ?_
  refine zs_icmp_geF (pc := 7) t278_7 li1 li8 (by decide) ?_
  refine zs_iload_n (pc := 10) t278_10 rfl ?_
  refine zs_iload_n (pc := 11) t278_11 rfl ?_
  refine zs_iload_n (pc := 12) t278_12 rfl ?_
  refine zs_ishr (pc := 13) t278_13 (c := 2) (by decide) ?_
  refine zs_iconst (pc := 14) t278_14 (v := 1) (by decide) ?_
  refine zs_iand (pc := 15) t278_15 (c := 0) (by decide) ?_
  refine zs_iadd (pc := 16) t278_16 (c := 0) (by decide) ?_
  refine zs_istore_n (pc := 17) t278_17 (ls' := [(1, .int (0 : Int32)), (2, .int (1 : Int32)), (0, .int (4 : Int32))]) (zml mf278 (by decide)) rfl ?_
  refine zs_iinc (pc := 18) t278_18 (ls' := [(2, .int (2 : Int32)), (1, .int (0 : Int32)), (0, .int (4 : Int32))]) (zml mf278 (by decide)) rfl (c := 2) (by decide) rfl ?_
  refine zs_goto (pc := 21) t278_21 ?_
  refine zs_iload_n (pc := 4) t278_4 rfl ?_
  refine zs_bipush (pc := 5) t278_5 (v := 8) (by decide) ?_
  refine zs_icmp_geF (pc := 7) t278_7 li2 li8 (by decide) ?_
  refine zs_iload_n (pc := 10) t278_10 rfl ?_
  refine zs_iload_n (pc := 11) t278_11 rfl ?_
  refine zs_iload_n (pc := 12) t278_12 rfl ?_
  refine zs_ishr (pc := 13) t278_13 (c := 1) (by decide) ?_
  refine zs_iconst (pc := 14) t278_14 (v := 1) (by decide) ?_
  refine zs_iand (pc := 15) t278_15 (c := 1) (by decide) ?_
  refine zs_iadd (pc := 16) t278_16 (c := 1) (by decide) ?_
  refine zs_istore_n (pc := 17) t278_17 (ls' := [(1, .int (1 : Int32)), (2, .int (2 : Int32)), (0, .int (4 : Int32))]) (zml mf278 (by decide)) rfl ?_
  refine zs_iinc (pc := 18) t278_18 (ls' := [(2, .int (3 : Int32)), (1, .int (1 : Int32)), (0, .int (4 : Int32))]) (zml mf278 (by decide)) rfl (c := 3) (by decide) rfl ?_
  refine zs_goto (pc := 21) t278_21 ?_
  refine zs_iload_n (pc := 4) t278_4 rfl ?_
  refine zs_bipush (pc := 5) t278_5 (v := 8) (by decide) ?_
  refine zs_icmp_geF (pc := 7) t278_7 li3 li8 (by decide) ?_
  refine zs_iload_n (pc := 10) t278_10 rfl ?_
  refine zs_iload_n (pc := 11) t278_11 rfl ?_
  refine zs_iload_n (pc := 12) t278_12 rfl ?_
  refine zs_ishr (pc := 13) t278_13 (c := 0) (by decide) ?_
  refine zs_iconst (pc := 14) t278_14 (v := 1) (by decide) ?_
  refine zs_iand (pc := 15) t278_15 (c := 0) (by decide) ?_
  refine zs_iadd (pc := 16) t278_16 (c := 1) (by decide) ?_
  refine zs_istore_n (pc := 17) t278_17 (ls' := [(1, .int (1 : Int32)), (2, .int (3 : Int32)), (0, .int (4 : Int32))]) (zml mf278 (by decide)) rfl ?_
  refine zs_iinc (pc := 18) t278_18 (ls' := [(2, .int (4 : Int32)), (1, .int (1 : Int32)), (0, .int (4 : Int32))]) (zml mf278 (by decide)) rfl (c := 4) (by decide) rfl ?_
  refine zs_goto (pc := 21) t278_21 ?_
  refine zs_iload_n (pc := 4) t278_4 rfl ?_
  refine zs_bipush (pc := 5) t278_5 (v := 8) (by decide) ?_
  refine zs_icmp_geF (pc := 7) t278_7 li4 li8 (by decide) ?_
  refine zs_iload_n (pc := 10) t278_10 rfl ?_
  refine zs_iload_n (pc := 11) t278_11 rfl ?_
  refine zs_iload_n (pc := 12) t278_12 rfl ?_
  refine zs_ishr (pc := 13) t278_13 (c := 0) (by decide) ?_
  refine zs_iconst (pc := 14) t278_14 (v := 1) (by decide) ?_
  refine zs_iand (pc := 15) t278_15 (c := 0) (by decide) ?_
  refine zs_iadd (pc := 16) t278_16 (c := 1) (by decide) ?_
  refine zs_istore_n (pc := 17) t278_17 (ls' := [(1, .int (1 : Int32)), (2, .int (4 : Int32)), (0, .int (4 : Int32))]) (zml mf278 (by decide)) rfl ?_
  refine zs_iinc (pc := 18) t278_18 (ls' := [(2, .int (5 : Int32)), (1, .int (1 : Int32)), (0, .int (4 : Int32))]) (zml mf278 (by decide)) rfl (c := 5) (by decide) rfl ?_
  refine zs_goto (pc := 21) t278_21 ?_
  refine zs_iload_n (pc := 4) t278_4 rfl ?_
  refine zs_bipush (pc := 5) t278_5 (v := 8) (by decide) ?_
  refine zs_icmp_geF (pc := 7) t278_7 li5 li8 (by decide) ?_
  refine zs_iload_n (pc := 10) t278_10 rfl ?_
  refine zs_iload_n (pc := 11) t278_11 rfl ?_
  refine zs_iload_n (pc := 12) t278_12 rfl ?_
  refine zs_ishr (pc := 13) t278_13 (c := 0) (by decide) ?_
  refine zs_iconst (pc := 14) t278_14 (v := 1) (by decide) ?_
  refine zs_iand (pc := 15) t278_15 (c := 0) (by decide) ?_
  refine zs_iadd (pc := 16) t278_16 (c := 1) (by decide) ?_
  refine zs_istore_n (pc := 17) t278_17 (ls' := [(1, .int (1 : Int32)), (2, .int (5 : Int32)), (0, .int (4 : Int32))]) (zml mf278 (by decide)) rfl ?_
  refine zs_iinc (pc := 18) t278_18 (ls' := [(2, .int (6 : Int32)), (1, .int (1 : Int32)), (0, .int (4 : Int32))]) (zml mf278 (by decide)) rfl (c := 6) (by decide) rfl ?_
  refine zs_goto (pc := 21) t278_21 ?_
  refine zs_iload_n (pc := 4) t278_4 rfl ?_
  refine zs_bipush (pc := 5) t278_5 (v := 8) (by decide) ?_
  refine zs_icmp_geF (pc := 7) t278_7 li6 li8 (by decide) ?_
  refine zs_iload_n (pc := 10) t278_10 rfl ?_
  refine zs_iload_n (pc := 11) t278_11 rfl ?_
  refine zs_iload_n (pc := 12) t278_12 rfl ?_
  refine zs_ishr (pc := 13) t278_13 (c := 0) (by decide) ?_
  refine zs_iconst (pc := 14) t278_14 (v := 1) (by decide) ?_
  refine zs_iand (pc := 15) t278_15 (c := 0) (by decide) ?_
  refine zs_iadd (pc := 16) t278_16 (c := 1) (by decide) ?_
  refine zs_istore_n (pc := 17) t278_17 (ls' := [(1, .int (1 : Int32)), (2, .int (6 : Int32)), (0, .int (4 : Int32))]) (zml mf278 (by decide)) rfl ?_
  refine zs_iinc (pc := 18) t278_18 (ls' := [(2, .int (7 : Int32)), (1, .int (1 : Int32)), (0, .int (4 : Int32))]) (zml mf278 (by decide)) rfl (c := 7) (by decide) rfl ?_
  refine zs_goto (pc := 21) t278_21 ?_
  refine zs_iload_n (pc := 4) t278_4 rfl ?_
  refine zs_bipush (pc := 5) t278_5 (v := 8) (by decide) ?_
  refine zs_icmp_geF (pc := 7) t278_7 li7 li8 (by decide) ?_
  refine zs_iload_n (pc := 10) t278_10 rfl ?_
  refine zs_iload_n (pc := 11) t278_11 rfl ?_
  refine zs_iload_n (pc := 12) t278_12 rfl ?_
  refine zs_ishr (pc := 13) t278_13 (c := 0) (by decide) ?_
  refine zs_iconst (pc := 14) t278_14 (v := 1) (by decide) ?_
  refine zs_iand (pc := 15) t278_15 (c := 0) (by decide) ?_
  refine zs_iadd (pc := 16) t278_16 (c := 1) (by decide) ?_
  refine zs_istore_n (pc := 17) t278_17 (ls' := [(1, .int (1 : Int32)), (2, .int (7 : Int32)), (0, .int (4 : Int32))]) (zml mf278 (by decide)) rfl ?_
  refine zs_iinc (pc := 18) t278_18 (ls' := [(2, .int (8 : Int32)), (1, .int (1 : Int32)), (0, .int (4 : Int32))]) (zml mf278 (by decide)) rfl (c := 8) (by decide) rfl ?_
  refine zs_goto (pc := 21) t278_21 ?_
  refine zs_iload_n (pc := 4) t278_4 rfl ?_
  refine zs_bipush (pc := 5) t278_5 (v := 8) (by decide) ?_
  refine zs_icmp_geT (pc := 7) t278_7 li8 li8 (by decide) ?_
  refine zs_iload_n (pc := 24) t278_24 rfl ?_
  exact zs_iret (pc := 25) t278_25 mr278 (by decide) (hQ _ (by decide) (by decide))
theorem K278_8 {X : zX} {l : Launch} {M : zM} {Q : Option Value → zM → Prop} (hs : zSk zMm M) (hI : zIv mLo mHi M) (hQ : ∀ v : Int32, 0 ≤ v.toInt → v.toInt ≤ 1 → Q (some (.int v)) M) : zCall X l 0 0 0 278 [.int (8 : Int32)] M Q := by
  refine zs_in (by decide) mf278 (Nat.le_of_ble_eq_true rfl) ?_
  show zGo X l 0 0 0 278 0 [(0, .int (8 : Int32))] [] M _
  refine zs_iconst (pc := 0) t278_0 (v := 0) (by decide) ?_
  refine zs_istore_n (pc := 1) t278_1 (ls' := [(1, .int (0 : Int32)), (0, .int (8 : Int32))]) (zml mf278 (by decide)) rfl ?_
  refine zs_iconst (pc := 2) t278_2 (v := 0) (by decide) ?_
  refine zs_istore_n (pc := 3) t278_3 (ls' := [(2, .int (0 : Int32)), (1, .int (0 : Int32)), (0, .int (8 : Int32))]) (zml mf278 (by decide)) rfl ?_
  refine zs_iload_n (pc := 4) t278_4 rfl ?_
  refine zs_bipush (pc := 5) t278_5 (v := 8) (by decide) ?_
  refine zs_icmp_geF (pc := 7) t278_7 li0 li8 (by decide) ?_
  refine zs_iload_n (pc := 10) t278_10 rfl ?_
  refine zs_iload_n (pc := 11) t278_11 rfl ?_
  refine zs_iload_n (pc := 12) t278_12 rfl ?_
  refine zs_ishr (pc := 13) t278_13 (c := 8) (by decide) ?_
  refine zs_iconst (pc := 14) t278_14 (v := 1) (by decide) ?_
  refine zs_iand (pc := 15) t278_15 (c := 0) (by decide) ?_
  refine zs_iadd (pc := 16) t278_16 (c := 0) (by decide) ?_
  refine zs_istore_n (pc := 17) t278_17 (ls' := [(1, .int (0 : Int32)), (2, .int (0 : Int32)), (0, .int (8 : Int32))]) (zml mf278 (by decide)) rfl ?_
  refine zs_iinc (pc := 18) t278_18 (ls' := [(2, .int (1 : Int32)), (1, .int (0 : Int32)), (0, .int (8 : Int32))]) (zml mf278 (by decide)) rfl (c := 1) (by decide) rfl ?_
  refine zs_goto (pc := 21) t278_21 ?_
  refine zs_iload_n (pc := 4) t278_4 rfl ?_
  refine zs_bipush (pc := 5) t278_5 (v := 8) (by decide) ?_
  refine zs_icmp_geF (pc := 7) t278_7 li1 li8 (by decide) ?_
  refine zs_iload_n (pc := 10) t278_10 rfl ?_
  refine zs_iload_n (pc := 11) t278_11 rfl ?_
  refine zs_iload_n (pc := 12) t278_12 rfl ?_
  refine zs_ishr (pc := 13) t278_13 (c := 4) (by decide) ?_
  refine zs_iconst (pc := 14) t278_14 (v := 1) (by decide) ?_
  refine zs_iand (pc := 15) t278_15 (c := 0) (by decide) ?_
  refine zs_iadd (pc := 16) t278_16 (c := 0) (by decide) ?_
  refine zs_istore_n (pc := 17) t278_17 (ls' := [(1, .int (0 : Int32)), (2, .int (1 : Int32)), (0, .int (8 : Int32))]) (zml mf278 (by decide)) rfl ?_
  refine zs_iinc (pc := 18) t278_18 (ls' := [(2, .int (2 : Int32)), (1, .int (0 : Int32)), (0, .int (8 : Int32))]) (zml mf278 (by decide)) rfl (c := 2) (by decide) rfl ?_
  refine zs_goto (pc := 21) t278_21 ?_
  refine zs_iload_n (pc := 4) t278_4 rfl ?_
  refine zs_bipush (pc := 5) t278_5 (v := 8) (by decide) ?_
  refine zs_icmp_geF (pc := 7) t278_7 li2 li8 (by decide) ?_
  refine zs_iload_n (pc := 10) t278_10 rfl ?_
  refine zs_iload_n (pc := 11) t278_11 rfl ?_
  refine zs_iload_n (pc := 12) t278_12 rfl ?_
  refine zs_ishr (pc := 13) t278_13 (c := 2) (by decide) ?_
  refine zs_iconst (pc := 14) t278_14 (v := 1) (by decide) ?_
  refine zs_iand (pc := 15) t278_15 (c := 0) (by decide) ?_
  refine zs_iadd (pc := 16) t278_16 (c := 0) (by decide) ?_
  refine zs_istore_n (pc := 17) t278_17 (ls' := [(1, .int (0 : Int32)), (2, .int (2 : Int32)), (0, .int (8 : Int32))]) (zml mf278 (by decide)) rfl ?_
  refine zs_iinc (pc := 18) t278_18 (ls' := [(2, .int (3 : Int32)), (1, .int (0 : Int32)), (0, .int (8 : Int32))]) (zml mf278 (by decide)) rfl (c := 3) (by decide) rfl ?_
  refine zs_goto (pc := 21) t278_21 ?_
  refine zs_iload_n (pc := 4) t278_4 rfl ?_
  refine zs_bipush (pc := 5) t278_5 (v := 8) (by decide) ?_
  refine zs_icmp_geF (pc := 7) t278_7 li3 li8 (by decide) ?_
  refine zs_iload_n (pc := 10) t278_10 rfl ?_
  refine zs_iload_n (pc := 11) t278_11 rfl ?_
  refine zs_iload_n (pc := 12) t278_12 rfl ?_
  refine zs_ishr (pc := 13) t278_13 (c := 1) (by decide) ?_
  refine zs_iconst (pc := 14) t278_14 (v := 1) (by decide) ?_
  refine zs_iand (pc := 15) t278_15 (c := 1) (by decide) ?_
  refine zs_iadd (pc := 16) t278_16 (c := 1) (by decide) ?_
  refine zs_istore_n (pc := 17) t278_17 (ls' := [(1, .int (1 : Int32)), (2, .int (3 : Int32)), (0, .int (8 : Int32))]) (zml mf278 (by decide)) rfl ?_
  refine zs_iinc (pc := 18) t278_18 (ls' := [(2, .int (4 : Int32)), (1, .int (1 : Int32)), (0, .int (8 : Int32))]) (zml mf278 (by decide)) rfl (c := 4) (by decide) rfl ?_
  refine zs_goto (pc := 21) t278_21 ?_
  refine zs_iload_n (pc := 4) t278_4 rfl ?_
  refine zs_bipush (pc := 5) t278_5 (v := 8) (by decide) ?_
  refine zs_icmp_geF (pc := 7) t278_7 li4 li8 (by decide) ?_
  refine zs_iload_n (pc := 10) t278_10 rfl ?_
  refine zs_iload_n (pc := 11) t278_11 rfl ?_
  refine zs_iload_n (pc := 12) t278_12 rfl ?_
  refine zs_ishr (pc := 13) t278_13 (c := 0) (by decide) ?_
  refine zs_iconst (pc := 14) t278_14 (v := 1) (by decide) ?_
  refine zs_iand (pc := 15) t278_15 (c := 0) (by decide) ?_
  refine zs_iadd (pc := 16) t278_16 (c := 1) (by decide) ?_
  refine zs_istore_n (pc := 17) t278_17 (ls' := [(1, .int (1 : Int32)), (2, .int (4 : Int32)), (0, .int (8 : Int32))]) (zml mf278 (by decide)) rfl ?_
  refine zs_iinc (pc := 18) t278_18 (ls' := [(2, .int (5 : Int32)), (1, .int (1 : Int32)), (0, .int (8 : Int32))]) (zml mf278 (by decide)) rfl (c := 5) (by decide) rfl ?_
  refine zs_goto (pc := 21) t278_21 ?_
  refine zs_iload_n (pc := 4) t278_4 rfl ?_
  refine zs_bipush (pc := 5) t278_5 (v := 8) (by decide) ?_
  refine zs_icmp_geF (pc := 7) t278_7 li5 li8 (by decide) ?_
  refine zs_iload_n (pc := 10) t278_10 rfl ?_
  refine zs_iload_n (pc := 11) t278_11 rfl ?_
  refine zs_iload_n (pc := 12) t278_12 rfl ?_
  refine zs_ishr (pc := 13) t278_13 (c := 0) (by decide) ?_
  refine zs_iconst (pc := 14) t278_14 (v := 1) (by decide) ?_
  refine zs_iand (pc := 15) t278_15 (c := 0) (by decide) ?_
  refine zs_iadd (pc := 16) t278_16 (c := 1) (by decide) ?_
  refine zs_istore_n (pc := 17) t278_17 (ls' := [(1, .int (1 : Int32)), (2, .int (5 : Int32)), (0, .int (8 : Int32))]) (zml mf278 (by decide)) rfl ?_
  refine zs_iinc (pc := 18) t278_18 (ls' := [(2, .int (6 : Int32)), (1, .int (1 : Int32)), (0, .int (8 : Int32))]) (zml mf278 (by decide)) rfl (c := 6) (by decide) rfl ?_
  refine zs_goto (pc := 21) t278_21 ?_
  refine zs_iload_n (pc := 4) t278_4 rfl ?_
  refine zs_bipush (pc := 5) t278_5 (v := 8) (by decide) ?_
  refine zs_icmp_geF (pc := 7) t278_7 li6 li8 (by decide) ?_
  refine zs_iload_n (pc := 10) t278_10 rfl ?_
  refine zs_iload_n (pc := 11) t278_11 rfl ?_
  refine zs_iload_n (pc := 12) t278_12 rfl ?_
  refine zs_ishr (pc := 13) t278_13 (c := 0) (by decide) ?_
  refine zs_iconst (pc := 14) t278_14 (v := 1) (by decide) ?_
  refine zs_iand (pc := 15) t278_15 (c := 0) (by decide) ?_
  refine zs_iadd (pc := 16) t278_16 (c := 1) (by decide) ?_
  refine zs_istore_n (pc := 17) t278_17 (ls' := [(1, .int (1 : Int32)), (2, .int (6 : Int32)), (0, .int (8 : Int32))]) (zml mf278 (by decide)) rfl ?_
  refine zs_iinc (pc := 18) t278_18 (ls' := [(2, .int (7 : Int32)), (1, .int (1 : Int32)), (0, .int (8 : Int32))]) (zml mf278 (by decide)) rfl (c := 7) (by decide) rfl ?_
  refine zs_goto (pc := 21) t278_21 ?_
  refine zs_iload_n (pc := 4) t278_4 rfl ?_
  refine zs_bipush (pc := 5) t278_5 (v := 8) (by decide) ?_
  refine zs_icmp_geF (pc := 7) t278_7 li7 li8 (by decide) ?_
  refine zs_iload_n (pc := 10) t278_10 rfl ?_
  refine zs_iload_n (pc := 11) t278_11 rfl ?_
  refine zs_iload_n (pc := 12) t278_12 rfl ?_
  refine zs_ishr (pc := 13) t278_13 (c := 0) (by decide) ?_
  refine zs_iconst (pc := 14) t278_14 (v := 1) (by decide) ?_
  refine zs_iand (pc := 15) t278_15 (c := 0) (by decide) ?_
  refine zs_iadd (pc := 16) t278_16 (c := 1) (by decide) ?_
  refine zs_istore_n (pc := 17) t278_17 (ls' := [(1, .int (1 : Int32)), (2, .int (7 : Int32)), (0, .int (8 : Int32))]) (zml mf278 (by decide)) rfl ?_
  refine zs_iinc (pc := 18) t278_18 (ls' := [(2, .int (8 : Int32)), (1, .int (1 : Int32)), (0, .int (8 : Int32))]) (zml mf278 (by decide)) rfl (c := 8) (by decide) rfl ?_
  refine zs_goto (pc := 21) t278_21 ?_
  refine zs_iload_n (pc := 4) t278_4 rfl ?_
  refine zs_bipush (pc := 5) t278_5 (v := 8) (by decide) ?_
  refine zs_icmp_geT (pc := 7) t278_7 li8 li8 (by decide) ?_
  refine zs_iload_n (pc := 24) t278_24 rfl ?_
  exact zs_iret (pc := 25) t278_25 mr278 (by decide) (hQ _ (by decide) (by decide))
theorem K278_16 {X : zX} {l : Launch} {M : zM} {Q : Option Value → zM → Prop} (hs : zSk zMm M) (hI : zIv mLo mHi M) (hQ : ∀ v : Int32, 0 ≤ v.toInt → v.toInt ≤ 1 → Q (some (.int v)) M) : zCall X l 0 0 0 278 [.int (16 : Int32)] M Q := by
  refine zs_in (by decide) mf278 (Nat.le_of_ble_eq_true rfl) ?_
  show zGo X l 0 0 0 278 0 [(0, .int (16 : Int32))] [] M _
  refine zs_iconst (pc := 0) t278_0 (v := 0) (by decide) ?_
  refine zs_istore_n (pc := 1) t278_1 (ls' := [(1, .int (0 : Int32)), (0, .int (16 : Int32))]) (zml mf278 (by decide)) rfl ?_
  refine zs_iconst (pc := 2) t278_2 (v := 0) (by decide) ?_
  refine zs_istore_n (pc := 3) t278_3 (ls' := [(2, .int (0 : Int32)), (1, .int (0 : Int32)), (0, .int (16 : Int32))]) (zml mf278 (by decide)) rfl ?_
  refine zs_iload_n (pc := 4) t278_4 rfl ?_
  refine zs_bipush (pc := 5) t278_5 (v := 8) (by decide) ?_
  refine zs_icmp_geF (pc := 7) t278_7 li0 li8 (by decide) ?_
  refine zs_iload_n (pc := 10) t278_10 rfl ?_
  refine zs_iload_n (pc := 11) t278_11 rfl ?_
  refine zs_iload_n (pc := 12) t278_12 rfl ?_
  refine zs_ishr (pc := 13) t278_13 (c := 16) (by decide) ?_
  refine zs_iconst (pc := 14) t278_14 (v := 1) (by decide) ?_
  refine zs_iand (pc := 15) t278_15 (c := 0) (by decide) ?_
  refine zs_iadd (pc := 16) t278_16 (c := 0) (by decide) ?_
  refine zs_istore_n (pc := 17) t278_17 (ls' := [(1, .int (0 : Int32)), (2, .int (0 : Int32)), (0, .int (16 : Int32))]) (zml mf278 (by decide)) rfl ?_
  refine zs_iinc (pc := 18) t278_18 (ls' := [(2, .int (1 : Int32)), (1, .int (0 : Int32)), (0, .int (16 : Int32))]) (zml mf278 (by decide)) rfl (c := 1) (by decide) rfl ?_
  refine zs_goto (pc := 21) t278_21 ?_
  refine zs_iload_n (pc := 4) t278_4 rfl ?_
  refine zs_bipush (pc := 5) t278_5 (v := 8) (by decide) ?_
  refine zs_icmp_geF (pc := 7) t278_7 li1 li8 (by decide) ?_
  refine zs_iload_n (pc := 10) t278_10 rfl ?_
  refine zs_iload_n (pc := 11) t278_11 rfl ?_
  refine zs_iload_n (pc := 12) t278_12 rfl ?_
  refine zs_ishr (pc := 13) t278_13 (c := 8) (by decide) ?_
  refine zs_iconst (pc := 14) t278_14 (v := 1) (by decide) ?_
  refine zs_iand (pc := 15) t278_15 (c := 0) (by decide) ?_
  refine zs_iadd (pc := 16) t278_16 (c := 0) (by decide) ?_
  refine zs_istore_n (pc := 17) t278_17 (ls' := [(1, .int (0 : Int32)), (2, .int (1 : Int32)), (0, .int (16 : Int32))]) (zml mf278 (by decide)) rfl ?_
  refine zs_iinc (pc := 18) t278_18 (ls' := [(2, .int (2 : Int32)), (1, .int (0 : Int32)), (0, .int (16 : Int32))]) (zml mf278 (by decide)) rfl (c := 2) (by decide) rfl ?_
  refine zs_goto (pc := 21) t278_21 ?_
  refine zs_iload_n (pc := 4) t278_4 rfl ?_
  refine zs_bipush (pc := 5) t278_5 (v := 8) (by decide) ?_
  refine zs_icmp_geF (pc := 7) t278_7 li2 li8 (by decide) ?_
  refine zs_iload_n (pc := 10) t278_10 rfl ?_
  refine zs_iload_n (pc := 11) t278_11 rfl ?_
  refine zs_iload_n (pc := 12) t278_12 rfl ?_
  refine zs_ishr (pc := 13) t278_13 (c := 4) (by decide) ?_
  refine zs_iconst (pc := 14) t278_14 (v := 1) (by decide) ?_
  refine zs_iand (pc := 15) t278_15 (c := 0) (by decide) ?_
  refine zs_iadd (pc := 16) t278_16 (c := 0) (by decide) ?_
  refine zs_istore_n (pc := 17) t278_17 (ls' := [(1, .int (0 : Int32)), (2, .int (2 : Int32)), (0, .int (16 : Int32))]) (zml mf278 (by decide)) rfl ?_
  refine zs_iinc (pc := 18) t278_18 (ls' := [(2, .int (3 : Int32)), (1, .int (0 : Int32)), (0, .int (16 : Int32))]) (zml mf278 (by decide)) rfl (c := 3) (by decide) rfl ?_
  refine zs_goto (pc := 21) t278_21 ?_
  refine zs_iload_n (pc := 4) t278_4 rfl ?_
  refine zs_bipush (pc := 5) t278_5 (v := 8) (by decide) ?_
  refine zs_icmp_geF (pc := 7) t278_7 li3 li8 (by decide) ?_
  refine zs_iload_n (pc := 10) t278_10 rfl ?_
  refine zs_iload_n (pc := 11) t278_11 rfl ?_
  refine zs_iload_n (pc := 12) t278_12 rfl ?_
  refine zs_ishr (pc := 13) t278_13 (c := 2) (by decide) ?_
  refine zs_iconst (pc := 14) t278_14 (v := 1) (by decide) ?_
  refine zs_iand (pc := 15) t278_15 (c := 0) (by decide) ?_
  refine zs_iadd (pc := 16) t278_16 (c := 0) (by decide) ?_
  refine zs_istore_n (pc := 17) t278_17 (ls' := [(1, .int (0 : Int32)), (2, .int (3 : Int32)), (0, .int (16 : Int32))]) (zml mf278 (by decide)) rfl ?_
  refine zs_iinc (pc := 18) t278_18 (ls' := [(2, .int (4 : Int32)), (1, .int (0 : Int32)), (0, .int (16 : Int32))]) (zml mf278 (by decide)) rfl (c := 4) (by decide) rfl ?_
  refine zs_goto (pc := 21) t278_21 ?_
  refine zs_iload_n (pc := 4) t278_4 rfl ?_
  refine zs_bipush (pc := 5) t278_5 (v := 8) (by decide) ?_
  refine zs_icmp_geF (pc := 7) t278_7 li4 li8 (by decide) ?_
  refine zs_iload_n (pc := 10) t278_10 rfl ?_
  refine zs_iload_n (pc := 11) t278_11 rfl ?_
  refine zs_iload_n (pc := 12) t278_12 rfl ?_
  refine zs_ishr (pc := 13) t278_13 (c := 1) (by decide) ?_
  refine zs_iconst (pc := 14) t278_14 (v := 1) (by decide) ?_
  refine zs_iand (pc := 15) t278_15 (c := 1) (by decide) ?_
  refine zs_iadd (pc := 16) t278_16 (c := 1) (by decide) ?_
  refine zs_istore_n (pc := 17) t278_17 (ls' := [(1, .int (1 : Int32)), (2, .int (4 : Int32)), (0, .int (16 : Int32))]) (zml mf278 (by decide)) rfl ?_
  refine zs_iinc (pc := 18) t278_18 (ls' := [(2, .int (5 : Int32)), (1, .int (1 : Int32)), (0, .int (16 : Int32))]) (zml mf278 (by decide)) rfl (c := 5) (by decide) rfl ?_
  refine zs_goto (pc := 21) t278_21 ?_
  refine zs_iload_n (pc := 4) t278_4 rfl ?_
  refine zs_bipush (pc := 5) t278_5 (v := 8) (by decide) ?_
  refine zs_icmp_geF (pc := 7) t278_7 li5 li8 (by decide) ?_
  refine zs_iload_n (pc := 10) t278_10 rfl ?_
  refine zs_iload_n (pc := 11) t278_11 rfl ?_
  refine zs_iload_n (pc := 12) t278_12 rfl ?_
  refine zs_ishr (pc := 13) t278_13 (c := 0) (by decide) ?_
  refine zs_iconst (pc := 14) t278_14 (v := 1) (by decide) ?_
  refine zs_iand (pc := 15) t278_15 (c := 0) (by decide) ?_
  refine zs_iadd (pc := 16) t278_16 (c := 1) (by decide) ?_
  refine zs_istore_n (pc := 17) t278_17 (ls' := [(1, .int (1 : Int32)), (2, .int (5 : Int32)), (0, .int (16 : Int32))]) (zml mf278 (by decide)) rfl ?_
  refine zs_iinc (pc := 18) t278_18 (ls' := [(2, .int (6 : Int32)), (1, .int (1 : Int32)), (0, .int (16 : Int32))]) (zml mf278 (by decide)) rfl (c := 6) (by decide) rfl ?_
  refine zs_goto (pc := 21) t278_21 ?_
  refine zs_iload_n (pc := 4) t278_4 rfl ?_
  refine zs_bipush (pc := 5) t278_5 (v := 8) (by decide) ?_
  refine zs_icmp_geF (pc := 7) t278_7 li6 li8 (by decide) ?_
  refine zs_iload_n (pc := 10) t278_10 rfl ?_
  refine zs_iload_n (pc := 11) t278_11 rfl ?_
  refine zs_iload_n (pc := 12) t278_12 rfl ?_
  refine zs_ishr (pc := 13) t278_13 (c := 0) (by decide) ?_
  refine zs_iconst (pc := 14) t278_14 (v := 1) (by decide) ?_
  refine zs_iand (pc := 15) t278_15 (c := 0) (by decide) ?_
  refine zs_iadd (pc := 16) t278_16 (c := 1) (by decide) ?_
  refine zs_istore_n (pc := 17) t278_17 (ls' := [(1, .int (1 : Int32)), (2, .int (6 : Int32)), (0, .int (16 : Int32))]) (zml mf278 (by decide)) rfl ?_
  refine zs_iinc (pc := 18) t278_18 (ls' := [(2, .int (7 : Int32)), (1, .int (1 : Int32)), (0, .int (16 : Int32))]) (zml mf278 (by decide)) rfl (c := 7) (by decide) rfl ?_
  refine zs_goto (pc := 21) t278_21 ?_
  refine zs_iload_n (pc := 4) t278_4 rfl ?_
  refine zs_bipush (pc := 5) t278_5 (v := 8) (by decide) ?_
  refine zs_icmp_geF (pc := 7) t278_7 li7 li8 (by decide) ?_
  refine zs_iload_n (pc := 10) t278_10 rfl ?_
  refine zs_iload_n (pc := 11) t278_11 rfl ?_
  refine zs_iload_n (pc := 12) t278_12 rfl ?_
  refine zs_ishr (pc := 13) t278_13 (c := 0) (by decide) ?_
  refine zs_iconst (pc := 14) t278_14 (v := 1) (by decide) ?_
  refine zs_iand (pc := 15) t278_15 (c := 0) (by decide) ?_
  refine zs_iadd (pc := 16) t278_16 (c := 1) (by decide) ?_
  refine zs_istore_n (pc := 17) t278_17 (ls' := [(1, .int (1 : Int32)), (2, .int (7 : Int32)), (0, .int (16 : Int32))]) (zml mf278 (by decide)) rfl ?_
  refine zs_iinc (pc := 18) t278_18 (ls' := [(2, .int (8 : Int32)), (1, .int (1 : Int32)), (0, .int (16 : Int32))]) (zml mf278 (by decide)) rfl (c := 8) (by decide) rfl ?_
  refine zs_goto (pc := 21) t278_21 ?_
  refine zs_iload_n (pc := 4) t278_4 rfl ?_
  refine zs_bipush (pc := 5) t278_5 (v := 8) (by decide) ?_
  refine zs_icmp_geT (pc := 7) t278_7 li8 li8 (by decide) ?_
  refine zs_iload_n (pc := 24) t278_24 rfl ?_
  exact zs_iret (pc := 25) t278_25 mr278 (by decide) (hQ _ (by decide) (by decide))
theorem K278_32 {X : zX} {l : Launch} {M : zM} {Q : Option Value → zM → Prop} (hs : zSk zMm M) (hI : zIv mLo mHi M) (hQ : ∀ v : Int32, 0 ≤ v.toInt → v.toInt ≤ 1 → Q (some (.int v)) M) : zCall X l 0 0 0 278 [.int (32 : Int32)] M Q := by
  refine zs_in (by decide) mf278 (Nat.le_of_ble_eq_true rfl) ?_
  show zGo X l 0 0 0 278 0 [(0, .int (32 : Int32))] [] M _
  refine zs_iconst (pc := 0) t278_0 (v := 0) (by decide) ?_
  refine zs_istore_n (pc := 1) t278_1 (ls' := [(1, .int (0 : Int32)), (0, .int (32 : Int32))]) (zml mf278 (by decide)) rfl ?_
  refine zs_iconst (pc := 2) t278_2 (v := 0) (by decide) ?_
  refine zs_istore_n (pc := 3) t278_3 (ls' := [(2, .int (0 : Int32)), (1, .int (0 : Int32)), (0, .int (32 : Int32))]) (zml mf278 (by decide)) rfl ?_
  refine zs_iload_n (pc := 4) t278_4 rfl ?_
  refine zs_bipush (pc := 5) t278_5 (v := 8) (by decide) ?_
  refine zs_icmp_geF (pc := 7) t278_7 li0 li8 (by decide) ?_
  refine zs_iload_n (pc := 10) t278_10 rfl ?_
  refine zs_iload_n (pc := 11) t278_11 rfl ?_
  refine zs_iload_n (pc := 12) t278_12 rfl ?_
  refine zs_ishr (pc := 13) t278_13 (c := 32) (by decide) ?_
  refine zs_iconst (pc := 14) t278_14 (v := 1) (by decide) ?_
  refine zs_iand (pc := 15) t278_15 (c := 0) (by decide) ?_
  refine zs_iadd (pc := 16) t278_16 (c := 0) (by decide) ?_
  refine zs_istore_n (pc := 17) t278_17 (ls' := [(1, .int (0 : Int32)), (2, .int (0 : Int32)), (0, .int (32 : Int32))]) (zml mf278 (by decide)) rfl ?_
  refine zs_iinc (pc := 18) t278_18 (ls' := [(2, .int (1 : Int32)), (1, .int (0 : Int32)), (0, .int (32 : Int32))]) (zml mf278 (by decide)) rfl (c := 1) (by decide) rfl ?_
  refine zs_goto (pc := 21) t278_21 ?_
  refine zs_iload_n (pc := 4) t278_4 rfl ?_
  refine zs_bipush (pc := 5) t278_5 (v := 8) (by decide) ?_
  refine zs_icmp_geF (pc := 7) t278_7 li1 li8 (by decide) ?_
  refine zs_iload_n (pc := 10) t278_10 rfl ?_
  refine zs_iload_n (pc := 11) t278_11 rfl ?_
  refine zs_iload_n (pc := 12) t278_12 rfl ?_
  refine zs_ishr (pc := 13) t278_13 (c := 16) (by decide) ?_
  refine zs_iconst (pc := 14) t278_14 (v := 1) (by decide) ?_
  refine zs_iand (pc := 15) t278_15 (c := 0) (by decide) ?_
  refine zs_iadd (pc := 16) t278_16 (c := 0) (by decide) ?_
  refine zs_istore_n (pc := 17) t278_17 (ls' := [(1, .int (0 : Int32)), (2, .int (1 : Int32)), (0, .int (32 : Int32))]) (zml mf278 (by decide)) rfl ?_
  refine zs_iinc (pc := 18) t278_18 (ls' := [(2, .int (2 : Int32)), (1, .int (0 : Int32)), (0, .int (32 : Int32))]) (zml mf278 (by decide)) rfl (c := 2) (by decide) rfl ?_
  refine zs_goto (pc := 21) t278_21 ?_
  refine zs_iload_n (pc := 4) t278_4 rfl ?_
  refine zs_bipush (pc := 5) t278_5 (v := 8) (by decide) ?_
  refine zs_icmp_geF (pc := 7) t278_7 li2 li8 (by decide) ?_
  refine zs_iload_n (pc := 10) t278_10 rfl ?_
  refine zs_iload_n (pc := 11) t278_11 rfl ?_
  refine zs_iload_n (pc := 12) t278_12 rfl ?_
  refine zs_ishr (pc := 13) t278_13 (c := 8) (by decide) ?_
  refine zs_iconst (pc := 14) t278_14 (v := 1) (by decide) ?_
  refine zs_iand (pc := 15) t278_15 (c := 0) (by decide) ?_
  refine zs_iadd (pc := 16) t278_16 (c := 0) (by decide) ?_
  refine zs_istore_n (pc := 17) t278_17 (ls' := [(1, .int (0 : Int32)), (2, .int (2 : Int32)), (0, .int (32 : Int32))]) (zml mf278 (by decide)) rfl ?_
  refine zs_iinc (pc := 18) t278_18 (ls' := [(2, .int (3 : Int32)), (1, .int (0 : Int32)), (0, .int (32 : Int32))]) (zml mf278 (by decide)) rfl (c := 3) (by decide) rfl ?_
  refine zs_goto (pc := 21) t278_21 ?_
  refine zs_iload_n (pc := 4) t278_4 rfl ?_
  refine zs_bipush (pc := 5) t278_5 (v := 8) (by decide) ?_
  refine zs_icmp_geF (pc := 7) t278_7 li3 li8 (by decide) ?_
  refine zs_iload_n (pc := 10) t278_10 rfl ?_
  refine zs_iload_n (pc := 11) t278_11 rfl ?_
  refine zs_iload_n (pc := 12) t278_12 rfl ?_
  refine zs_ishr (pc := 13) t278_13 (c := 4) (by decide) ?_
  refine zs_iconst (pc := 14) t278_14 (v := 1) (by decide) ?_
  refine zs_iand (pc := 15) t278_15 (c := 0) (by decide) ?_
  refine zs_iadd (pc := 16) t278_16 (c := 0) (by decide) ?_
  refine zs_istore_n (pc := 17) t278_17 (ls' := [(1, .int (0 : Int32)), (2, .int (3 : Int32)), (0, .int (32 : Int32))]) (zml mf278 (by decide)) rfl ?_
  refine zs_iinc (pc := 18) t278_18 (ls' := [(2, .int (4 : Int32)), (1, .int (0 : Int32)), (0, .int (32 : Int32))]) (zml mf278 (by decide)) rfl (c := 4) (by decide) rfl ?_
  refine zs_goto (pc := 21) t278_21 ?_
  refine zs_iload_n (pc := 4) t278_4 rfl ?_
  refine zs_bipush (pc := 5) t278_5 (v := 8) (by decide) ?_
  refine zs_icmp_geF (pc := 7) t278_7 li4 li8 (by decide) ?_
  refine zs_iload_n (pc := 10) t278_10 rfl ?_
  refine zs_iload_n (pc := 11) t278_11 rfl ?_
  refine zs_iload_n (pc := 12) t278_12 rfl ?_
  refine zs_ishr (pc := 13) t278_13 (c := 2) (by decide) ?_
  refine zs_iconst (pc := 14) t278_14 (v := 1) (by decide) ?_
  refine zs_iand (pc := 15) t278_15 (c := 0) (by decide) ?_
  refine zs_iadd (pc := 16) t278_16 (c := 0) (by decide) ?_
  refine zs_istore_n (pc := 17) t278_17 (ls' := [(1, .int (0 : Int32)), (2, .int (4 : Int32)), (0, .int (32 : Int32))]) (zml mf278 (by decide)) rfl ?_
  refine zs_iinc (pc := 18) t278_18 (ls' := [(2, .int (5 : Int32)), (1, .int (0 : Int32)), (0, .int (32 : Int32))]) (zml mf278 (by decide)) rfl (c := 5) (by decide) rfl ?_
  refine zs_goto (pc := 21) t278_21 ?_
  refine zs_iload_n (pc := 4) t278_4 rfl ?_
  refine zs_bipush (pc := 5) t278_5 (v := 8) (by decide) ?_
  refine zs_icmp_geF (pc := 7) t278_7 li5 li8 (by decide) ?_
  refine zs_iload_n (pc := 10) t278_10 rfl ?_
  refine zs_iload_n (pc := 11) t278_11 rfl ?_
  refine zs_iload_n (pc := 12) t278_12 rfl ?_
  refine zs_ishr (pc := 13) t278_13 (c := 1) (by decide) ?_
  refine zs_iconst (pc := 14) t278_14 (v := 1) (by decide) ?_
  refine zs_iand (pc := 15) t278_15 (c := 1) (by decide) ?_
  refine zs_iadd (pc := 16) t278_16 (c := 1) (by decide) ?_
  refine zs_istore_n (pc := 17) t278_17 (ls' := [(1, .int (1 : Int32)), (2, .int (5 : Int32)), (0, .int (32 : Int32))]) (zml mf278 (by decide)) rfl ?_
  refine zs_iinc (pc := 18) t278_18 (ls' := [(2, .int (6 : Int32)), (1, .int (1 : Int32)), (0, .int (32 : Int32))]) (zml mf278 (by decide)) rfl (c := 6) (by decide) rfl ?_
  refine zs_goto (pc := 21) t278_21 ?_
  refine zs_iload_n (pc := 4) t278_4 rfl ?_
  refine zs_bipush (pc := 5) t278_5 (v := 8) (by decide) ?_
  refine zs_icmp_geF (pc := 7) t278_7 li6 li8 (by decide) ?_
  refine zs_iload_n (pc := 10) t278_10 rfl ?_
  refine zs_iload_n (pc := 11) t278_11 rfl ?_
  refine zs_iload_n (pc := 12) t278_12 rfl ?_
  refine zs_ishr (pc := 13) t278_13 (c := 0) (by decide) ?_
  refine zs_iconst (pc := 14) t278_14 (v := 1) (by decide) ?_
  refine zs_iand (pc := 15) t278_15 (c := 0) (by decide) ?_
  refine zs_iadd (pc := 16) t278_16 (c := 1) (by decide) ?_
  refine zs_istore_n (pc := 17) t278_17 (ls' := [(1, .int (1 : Int32)), (2, .int (6 : Int32)), (0, .int (32 : Int32))]) (zml mf278 (by decide)) rfl ?_
  refine zs_iinc (pc := 18) t278_18 (ls' := [(2, .int (7 : Int32)), (1, .int (1 : Int32)), (0, .int (32 : Int32))]) (zml mf278 (by decide)) rfl (c := 7) (by decide) rfl ?_
  refine zs_goto (pc := 21) t278_21 ?_
  refine zs_iload_n (pc := 4) t278_4 rfl ?_
  refine zs_bipush (pc := 5) t278_5 (v := 8) (by decide) ?_
  refine zs_icmp_geF (pc := 7) t278_7 li7 li8 (by decide) ?_
  refine zs_iload_n (pc := 10) t278_10 rfl ?_
  refine zs_iload_n (pc := 11) t278_11 rfl ?_
  refine zs_iload_n (pc := 12) t278_12 rfl ?_
  refine zs_ishr (pc := 13) t278_13 (c := 0) (by decide) ?_
  refine zs_iconst (pc := 14) t278_14 (v := 1) (by decide) ?_
  refine zs_iand (pc := 15) t278_15 (c := 0) (by decide) ?_
  refine zs_iadd (pc := 16) t278_16 (c := 1) (by decide) ?_
  refine zs_istore_n (pc := 17) t278_17 (ls' := [(1, .int (1 : Int32)), (2, .int (7 : Int32)), (0, .int (32 : Int32))]) (zml mf278 (by decide)) rfl ?_
  refine zs_iinc (pc := 18) t278_18 (ls' := [(2, .int (8 : Int32)), (1, .int (1 : Int32)), (0, .int (32 : Int32))]) (zml mf278 (by decide)) rfl (c := 8) (by decide) rfl ?_
  refine zs_goto (pc := 21) t278_21 ?_
  refine zs_iload_n (pc := 4) t278_4 rfl ?_
  refine zs_bipush (pc := 5) t278_5 (v := 8) (by decide) ?_
  refine zs_icmp_geT (pc := 7) t278_7 li8 li8 (by decide) ?_
  refine zs_iload_n (pc := 24) t278_24 rfl ?_
  exact zs_iret (pc := 25) t278_25 mr278 (by decide) (hQ _ (by decide) (by decide))
theorem K278_64 {X : zX} {l : Launch} {M : zM} {Q : Option Value → zM → Prop} (hs : zSk zMm M) (hI : zIv mLo mHi M) (hQ : ∀ v : Int32, 0 ≤ v.toInt → v.toInt ≤ 1 → Q (some (.int v)) M) : zCall X l 0 0 0 278 [.int (64 : Int32)] M Q := by
  refine zs_in (by decide) mf278 (Nat.le_of_ble_eq_true rfl) ?_
  show zGo X l 0 0 0 278 0 [(0, .int (64 : Int32))] [] M _
  refine zs_iconst (pc := 0) t278_0 (v := 0) (by decide) ?_
  refine zs_istore_n (pc := 1) t278_1 (ls' := [(1, .int (0 : Int32)), (0, .int (64 : Int32))]) (zml mf278 (by decide)) rfl ?_
  refine zs_iconst (pc := 2) t278_2 (v := 0) (by decide) ?_
  refine zs_istore_n (pc := 3) t278_3 (ls' := [(2, .int (0 : Int32)), (1, .int (0 : Int32)), (0, .int (64 : Int32))]) (zml mf278 (by decide)) rfl ?_
  refine zs_iload_n (pc := 4) t278_4 rfl ?_
  refine zs_bipush (pc := 5) t278_5 (v := 8) (by decide) ?_
  refine zs_icmp_geF (pc := 7) t278_7 li0 li8 (by decide) ?_
  refine zs_iload_n (pc := 10) t278_10 rfl ?_
  refine zs_iload_n (pc := 11) t278_11 rfl ?_
  refine zs_iload_n (pc := 12) t278_12 rfl ?_
  refine zs_ishr (pc := 13) t278_13 (c := 64) (by decide) ?_
  refine zs_iconst (pc := 14) t278_14 (v := 1) (by decide) ?_
  refine zs_iand (pc := 15) t278_15 (c := 0) (by decide) ?_
  refine zs_iadd (pc := 16) t278_16 (c := 0) (by decide) ?_
  refine zs_istore_n (pc := 17) t278_17 (ls' := [(1, .int (0 : Int32)), (2, .int (0 : Int32)), (0, .int (64 : Int32))]) (zml mf278 (by decide)) rfl ?_
  refine zs_iinc (pc := 18) t278_18 (ls' := [(2, .int (1 : Int32)), (1, .int (0 : Int32)), (0, .int (64 : Int32))]) (zml mf278 (by decide)) rfl (c := 1) (by decide) rfl ?_
  refine zs_goto (pc := 21) t278_21 ?_
  refine zs_iload_n (pc := 4) t278_4 rfl ?_
  refine zs_bipush (pc := 5) t278_5 (v := 8) (by decide) ?_
  refine zs_icmp_geF (pc := 7) t278_7 li1 li8 (by decide) ?_
  refine zs_iload_n (pc := 10) t278_10 rfl ?_
  refine zs_iload_n (pc := 11) t278_11 rfl ?_
  refine zs_iload_n (pc := 12) t278_12 rfl ?_
  refine zs_ishr (pc := 13) t278_13 (c := 32) (by decide) ?_
  refine zs_iconst (pc := 14) t278_14 (v := 1) (by decide) ?_
  refine zs_iand (pc := 15) t278_15 (c := 0) (by decide) ?_
  refine zs_iadd (pc := 16) t278_16 (c := 0) (by decide) ?_
  refine zs_istore_n (pc := 17) t278_17 (ls' := [(1, .int (0 : Int32)), (2, .int (1 : Int32)), (0, .int (64 : Int32))]) (zml mf278 (by decide)) rfl ?_
  refine zs_iinc (pc := 18) t278_18 (ls' := [(2, .int (2 : Int32)), (1, .int (0 : Int32)), (0, .int (64 : Int32))]) (zml mf278 (by decide)) rfl (c := 2) (by decide) rfl ?_
  refine zs_goto (pc := 21) t278_21 ?_
  refine zs_iload_n (pc := 4) t278_4 rfl ?_
  refine zs_bipush (pc := 5) t278_5 (v := 8) (by decide) ?_
  refine zs_icmp_geF (pc := 7) t278_7 li2 li8 (by decide) ?_
  refine zs_iload_n (pc := 10) t278_10 rfl ?_
  refine zs_iload_n (pc := 11) t278_11 rfl ?_
  refine zs_iload_n (pc := 12) t278_12 rfl ?_
  refine zs_ishr (pc := 13) t278_13 (c := 16) (by decide) ?_
  refine zs_iconst (pc := 14) t278_14 (v := 1) (by decide) ?_
  refine zs_iand (pc := 15) t278_15 (c := 0) (by decide) ?_
  refine zs_iadd (pc := 16) t278_16 (c := 0) (by decide) ?_
  refine zs_istore_n (pc := 17) t278_17 (ls' := [(1, .int (0 : Int32)), (2, .int (2 : Int32)), (0, .int (64 : Int32))]) (zml mf278 (by decide)) rfl ?_
  refine zs_iinc (pc := 18) t278_18 (ls' := [(2, .int (3 : Int32)), (1, .int (0 : Int32)), (0, .int (64 : Int32))]) (zml mf278 (by decide)) rfl (c := 3) (by decide) rfl ?_
  refine zs_goto (pc := 21) t278_21 ?_
  refine zs_iload_n (pc := 4) t278_4 rfl ?_
  refine zs_bipush (pc := 5) t278_5 (v := 8) (by decide) ?_
  refine zs_icmp_geF (pc := 7) t278_7 li3 li8 (by decide) ?_
  refine zs_iload_n (pc := 10) t278_10 rfl ?_
  refine zs_iload_n (pc := 11) t278_11 rfl ?_
  refine zs_iload_n (pc := 12) t278_12 rfl ?_
  refine zs_ishr (pc := 13) t278_13 (c := 8) (by decide) ?_
  refine zs_iconst (pc := 14) t278_14 (v := 1) (by decide) ?_
  refine zs_iand (pc := 15) t278_15 (c := 0) (by decide) ?_
  refine zs_iadd (pc := 16) t278_16 (c := 0) (by decide) ?_
  refine zs_istore_n (pc := 17) t278_17 (ls' := [(1, .int (0 : Int32)), (2, .int (3 : Int32)), (0, .int (64 : Int32))]) (zml mf278 (by decide)) rfl ?_
  refine zs_iinc (pc := 18) t278_18 (ls' := [(2, .int (4 : Int32)), (1, .int (0 : Int32)), (0, .int (64 : Int32))]) (zml mf278 (by decide)) rfl (c := 4) (by decide) rfl ?_
  refine zs_goto (pc := 21) t278_21 ?_
  refine zs_iload_n (pc := 4) t278_4 rfl ?_
  refine zs_bipush (pc := 5) t278_5 (v := 8) (by decide) ?_
  refine zs_icmp_geF (pc := 7) t278_7 li4 li8 (by decide) ?_
  refine zs_iload_n (pc := 10) t278_10 rfl ?_
  refine zs_iload_n (pc := 11) t278_11 rfl ?_
  refine zs_iload_n (pc := 12) t278_12 rfl ?_
  refine zs_ishr (pc := 13) t278_13 (c := 4) (by decide) ?_
  refine zs_iconst (pc := 14) t278_14 (v := 1) (by decide) ?_
  refine zs_iand (pc := 15) t278_15 (c := 0) (by decide) ?_
  refine zs_iadd (pc := 16) t278_16 (c := 0) (by decide) ?_
  refine zs_istore_n (pc := 17) t278_17 (ls' := [(1, .int (0 : Int32)), (2, .int (4 : Int32)), (0, .int (64 : Int32))]) (zml mf278 (by decide)) rfl ?_
  refine zs_iinc (pc := 18) t278_18 (ls' := [(2, .int (5 : Int32)), (1, .int (0 : Int32)), (0, .int (64 : Int32))]) (zml mf278 (by decide)) rfl (c := 5) (by decide) rfl ?_
  refine zs_goto (pc := 21) t278_21 ?_
  refine zs_iload_n (pc := 4) t278_4 rfl ?_
  refine zs_bipush (pc := 5) t278_5 (v := 8) (by decide) ?_
  refine zs_icmp_geF (pc := 7) t278_7 li5 li8 (by decide) ?_
  refine zs_iload_n (pc := 10) t278_10 rfl ?_
  refine zs_iload_n (pc := 11) t278_11 rfl ?_
  refine zs_iload_n (pc := 12) t278_12 rfl ?_
  refine zs_ishr (pc := 13) t278_13 (c := 2) (by decide) ?_
  refine zs_iconst (pc := 14) t278_14 (v := 1) (by decide) ?_
  refine zs_iand (pc := 15) t278_15 (c := 0) (by decide) ?_
  refine zs_iadd (pc := 16) t278_16 (c := 0) (by decide) ?_
  refine zs_istore_n (pc := 17) t278_17 (ls' := [(1, .int (0 : Int32)), (2, .int (5 : Int32)), (0, .int (64 : Int32))]) (zml mf278 (by decide)) rfl ?_
  refine zs_iinc (pc := 18) t278_18 (ls' := [(2, .int (6 : Int32)), (1, .int (0 : Int32)), (0, .int (64 : Int32))]) (zml mf278 (by decide)) rfl (c := 6) (by decide) rfl ?_
  refine zs_goto (pc := 21) t278_21 ?_
  refine zs_iload_n (pc := 4) t278_4 rfl ?_
  refine zs_bipush (pc := 5) t278_5 (v := 8) (by decide) ?_
  refine zs_icmp_geF (pc := 7) t278_7 li6 li8 (by decide) ?_
  refine zs_iload_n (pc := 10) t278_10 rfl ?_
  refine zs_iload_n (pc := 11) t278_11 rfl ?_
  refine zs_iload_n (pc := 12) t278_12 rfl ?_
  refine zs_ishr (pc := 13) t278_13 (c := 1) (by decide) ?_
  refine zs_iconst (pc := 14) t278_14 (v := 1) (by decide) ?_
  refine zs_iand (pc := 15) t278_15 (c := 1) (by decide) ?_
  refine zs_iadd (pc := 16) t278_16 (c := 1) (by decide) ?_
  refine zs_istore_n (pc := 17) t278_17 (ls' := [(1, .int (1 : Int32)), (2, .int (6 : Int32)), (0, .int (64 : Int32))]) (zml mf278 (by decide)) rfl ?_
  refine zs_iinc (pc := 18) t278_18 (ls' := [(2, .int (7 : Int32)), (1, .int (1 : Int32)), (0, .int (64 : Int32))]) (zml mf278 (by decide)) rfl (c := 7) (by decide) rfl ?_
  refine zs_goto (pc := 21) t278_21 ?_
  refine zs_iload_n (pc := 4) t278_4 rfl ?_
  refine zs_bipush (pc := 5) t278_5 (v := 8) (by decide) ?_
  refine zs_icmp_geF (pc := 7) t278_7 li7 li8 (by decide) ?_
  refine zs_iload_n (pc := 10) t278_10 rfl ?_
  refine zs_iload_n (pc := 11) t278_11 rfl ?_
  refine zs_iload_n (pc := 12) t278_12 rfl ?_
  refine zs_ishr (pc := 13) t278_13 (c := 0) (by decide) ?_
  refine zs_iconst (pc := 14) t278_14 (v := 1) (by decide) ?_
  refine zs_iand (pc := 15) t278_15 (c := 0) (by decide) ?_
  refine zs_iadd (pc := 16) t278_16 (c := 1) (by decide) ?_
  refine zs_istore_n (pc := 17) t278_17 (ls' := [(1, .int (1 : Int32)), (2, .int (7 : Int32)), (0, .int (64 : Int32))]) (zml mf278 (by decide)) rfl ?_
  refine zs_iinc (pc := 18) t278_18 (ls' := [(2, .int (8 : Int32)), (1, .int (1 : Int32)), (0, .int (64 : Int32))]) (zml mf278 (by decide)) rfl (c := 8) (by decide) rfl ?_
  refine zs_goto (pc := 21) t278_21 ?_
  refine zs_iload_n (pc := 4) t278_4 rfl ?_
  refine zs_bipush (pc := 5) t278_5 (v := 8) (by decide) ?_
  refine zs_icmp_geT (pc := 7) t278_7 li8 li8 (by decide) ?_
  refine zs_iload_n (pc := 24) t278_24 rfl ?_
  exact zs_iret (pc := 25) t278_25 mr278 (by decide) (hQ _ (by decide) (by decide))
theorem K278_128 {X : zX} {l : Launch} {M : zM} {Q : Option Value → zM → Prop} (hs : zSk zMm M) (hI : zIv mLo mHi M) (hQ : ∀ v : Int32, 0 ≤ v.toInt → v.toInt ≤ 1 → Q (some (.int v)) M) : zCall X l 0 0 0 278 [.int (128 : Int32)] M Q := by
  refine zs_in (by decide) mf278 (Nat.le_of_ble_eq_true rfl) ?_
  show zGo X l 0 0 0 278 0 [(0, .int (128 : Int32))] [] M _
  refine zs_iconst (pc := 0) t278_0 (v := 0) (by decide) ?_
  refine zs_istore_n (pc := 1) t278_1 (ls' := [(1, .int (0 : Int32)), (0, .int (128 : Int32))]) (zml mf278 (by decide)) rfl ?_
  refine zs_iconst (pc := 2) t278_2 (v := 0) (by decide) ?_
  refine zs_istore_n (pc := 3) t278_3 (ls' := [(2, .int (0 : Int32)), (1, .int (0 : Int32)), (0, .int (128 : Int32))]) (zml mf278 (by decide)) rfl ?_
  refine zs_iload_n (pc := 4) t278_4 rfl ?_
  refine zs_bipush (pc := 5) t278_5 (v := 8) (by decide) ?_
  refine zs_icmp_geF (pc := 7) t278_7 li0 li8 (by decide) ?_
  refine zs_iload_n (pc := 10) t278_10 rfl ?_
  refine zs_iload_n (pc := 11) t278_11 rfl ?_
  refine zs_iload_n (pc := 12) t278_12 rfl ?_
  refine zs_ishr (pc := 13) t278_13 (c := 128) (by decide) ?_
  refine zs_iconst (pc := 14) t278_14 (v := 1) (by decide) ?_
  refine zs_iand (pc := 15) t278_15 (c := 0) (by decide) ?_
  refine zs_iadd (pc := 16) t278_16 (c := 0) (by decide) ?_
  refine zs_istore_n (pc := 17) t278_17 (ls' := [(1, .int (0 : Int32)), (2, .int (0 : Int32)), (0, .int (128 : Int32))]) (zml mf278 (by decide)) rfl ?_
  refine zs_iinc (pc := 18) t278_18 (ls' := [(2, .int (1 : Int32)), (1, .int (0 : Int32)), (0, .int (128 : Int32))]) (zml mf278 (by decide)) rfl (c := 1) (by decide) rfl ?_
  refine zs_goto (pc := 21) t278_21 ?_
  refine zs_iload_n (pc := 4) t278_4 rfl ?_
  refine zs_bipush (pc := 5) t278_5 (v := 8) (by decide) ?_
  refine zs_icmp_geF (pc := 7) t278_7 li1 li8 (by decide) ?_
  refine zs_iload_n (pc := 10) t278_10 rfl ?_
  refine zs_iload_n (pc := 11) t278_11 rfl ?_
  refine zs_iload_n (pc := 12) t278_12 rfl ?_
  refine zs_ishr (pc := 13) t278_13 (c := 64) (by decide) ?_
  refine zs_iconst (pc := 14) t278_14 (v := 1) (by decide) ?_
  refine zs_iand (pc := 15) t278_15 (c := 0) (by decide) ?_
  refine zs_iadd (pc := 16) t278_16 (c := 0) (by decide) ?_
  refine zs_istore_n (pc := 17) t278_17 (ls' := [(1, .int (0 : Int32)), (2, .int (1 : Int32)), (0, .int (128 : Int32))]) (zml mf278 (by decide)) rfl ?_
  refine zs_iinc (pc := 18) t278_18 (ls' := [(2, .int (2 : Int32)), (1, .int (0 : Int32)), (0, .int (128 : Int32))]) (zml mf278 (by decide)) rfl (c := 2) (by decide) rfl ?_
  refine zs_goto (pc := 21) t278_21 ?_
  refine zs_iload_n (pc := 4) t278_4 rfl ?_
  refine zs_bipush (pc := 5) t278_5 (v := 8) (by decide) ?_
  refine zs_icmp_geF (pc := 7) t278_7 li2 li8 (by decide) ?_
  refine zs_iload_n (pc := 10) t278_10 rfl ?_
  refine zs_iload_n (pc := 11) t278_11 rfl ?_
  refine zs_iload_n (pc := 12) t278_12 rfl ?_
  refine zs_ishr (pc := 13) t278_13 (c := 32) (by decide) ?_
  refine zs_iconst (pc := 14) t278_14 (v := 1) (by decide) ?_
  refine zs_iand (pc := 15) t278_15 (c := 0) (by decide) ?_
  refine zs_iadd (pc := 16) t278_16 (c := 0) (by decide) ?_
  refine zs_istore_n (pc := 17) t278_17 (ls' := [(1, .int (0 : Int32)), (2, .int (2 : Int32)), (0, .int (128 : Int32))]) (zml mf278 (by decide)) rfl ?_
  refine zs_iinc (pc := 18) t278_18 (ls' := [(2, .int (3 : Int32)), (1, .int (0 : Int32)), (0, .int (128 : Int32))]) (zml mf278 (by decide)) rfl (c := 3) (by decide) rfl ?_
  refine zs_goto (pc := 21) t278_21 ?_
  refine zs_iload_n (pc := 4) t278_4 rfl ?_
  refine zs_bipush (pc := 5) t278_5 (v := 8) (by decide) ?_
  refine zs_icmp_geF (pc := 7) t278_7 li3 li8 (by decide) ?_
  refine zs_iload_n (pc := 10) t278_10 rfl ?_
  refine zs_iload_n (pc := 11) t278_11 rfl ?_
  refine zs_iload_n (pc := 12) t278_12 rfl ?_
  refine zs_ishr (pc := 13) t278_13 (c := 16) (by decide) ?_
  refine zs_iconst (pc := 14) t278_14 (v := 1) (by decide) ?_
  refine zs_iand (pc := 15) t278_15 (c := 0) (by decide) ?_
  refine zs_iadd (pc := 16) t278_16 (c := 0) (by decide) ?_
  refine zs_istore_n (pc := 17) t278_17 (ls' := [(1, .int (0 : Int32)), (2, .int (3 : Int32)), (0, .int (128 : Int32))]) (zml mf278 (by decide)) rfl ?_
  refine zs_iinc (pc := 18) t278_18 (ls' := [(2, .int (4 : Int32)), (1, .int (0 : Int32)), (0, .int (128 : Int32))]) (zml mf278 (by decide)) rfl (c := 4) (by decide) rfl ?_
  refine zs_goto (pc := 21) t278_21 ?_
  refine zs_iload_n (pc := 4) t278_4 rfl ?_
  refine zs_bipush (pc := 5) t278_5 (v := 8) (by decide) ?_
  refine zs_icmp_geF (pc := 7) t278_7 li4 li8 (by decide) ?_
  refine zs_iload_n (pc := 10) t278_10 rfl ?_
  refine zs_iload_n (pc := 11) t278_11 rfl ?_
  refine zs_iload_n (pc := 12) t278_12 rfl ?_
  refine zs_ishr (pc := 13) t278_13 (c := 8) (by decide) ?_
  refine zs_iconst (pc := 14) t278_14 (v := 1) (by decide) ?_
  refine zs_iand (pc := 15) t278_15 (c := 0) (by decide) ?_
  refine zs_iadd (pc := 16) t278_16 (c := 0) (by decide) ?_
  refine zs_istore_n (pc := 17) t278_17 (ls' := [(1, .int (0 : Int32)), (2, .int (4 : Int32)), (0, .int (128 : Int32))]) (zml mf278 (by decide)) rfl ?_
  refine zs_iinc (pc := 18) t278_18 (ls' := [(2, .int (5 : Int32)), (1, .int (0 : Int32)), (0, .int (128 : Int32))]) (zml mf278 (by decide)) rfl (c := 5) (by decide) rfl ?_
  refine zs_goto (pc := 21) t278_21 ?_
  refine zs_iload_n (pc := 4) t278_4 rfl ?_
  refine zs_bipush (pc := 5) t278_5 (v := 8) (by decide) ?_
  refine zs_icmp_geF (pc := 7) t278_7 li5 li8 (by decide) ?_
  refine zs_iload_n (pc := 10) t278_10 rfl ?_
  refine zs_iload_n (pc := 11) t278_11 rfl ?_
  refine zs_iload_n (pc := 12) t278_12 rfl ?_
  refine zs_ishr (pc := 13) t278_13 (c := 4) (by decide) ?_
  refine zs_iconst (pc := 14) t278_14 (v := 1) (by decide) ?_
  refine zs_iand (pc := 15) t278_15 (c := 0) (by decide) ?_
  refine zs_iadd (pc := 16) t278_16 (c := 0) (by decide) ?_
  refine zs_istore_n (pc := 17) t278_17 (ls' := [(1, .int (0 : Int32)), (2, .int (5 : Int32)), (0, .int (128 : Int32))]) (zml mf278 (by decide)) rfl ?_
  refine zs_iinc (pc := 18) t278_18 (ls' := [(2, .int (6 : Int32)), (1, .int (0 : Int32)), (0, .int (128 : Int32))]) (zml mf278 (by decide)) rfl (c := 6) (by decide) rfl ?_
  refine zs_goto (pc := 21) t278_21 ?_
  refine zs_iload_n (pc := 4) t278_4 rfl ?_
  refine zs_bipush (pc := 5) t278_5 (v := 8) (by decide) ?_
  refine zs_icmp_geF (pc := 7) t278_7 li6 li8 (by decide) ?_
  refine zs_iload_n (pc := 10) t278_10 rfl ?_
  refine zs_iload_n (pc := 11) t278_11 rfl ?_
  refine zs_iload_n (pc := 12) t278_12 rfl ?_
  refine zs_ishr (pc := 13) t278_13 (c := 2) (by decide) ?_
  refine zs_iconst (pc := 14) t278_14 (v := 1) (by decide) ?_
  refine zs_iand (pc := 15) t278_15 (c := 0) (by decide) ?_
  refine zs_iadd (pc := 16) t278_16 (c := 0) (by decide) ?_
  refine zs_istore_n (pc := 17) t278_17 (ls' := [(1, .int (0 : Int32)), (2, .int (6 : Int32)), (0, .int (128 : Int32))]) (zml mf278 (by decide)) rfl ?_
  refine zs_iinc (pc := 18) t278_18 (ls' := [(2, .int (7 : Int32)), (1, .int (0 : Int32)), (0, .int (128 : Int32))]) (zml mf278 (by decide)) rfl (c := 7) (by decide) rfl ?_
  refine zs_goto (pc := 21) t278_21 ?_
  refine zs_iload_n (pc := 4) t278_4 rfl ?_
  refine zs_bipush (pc := 5) t278_5 (v := 8) (by decide) ?_
  refine zs_icmp_geF (pc := 7) t278_7 li7 li8 (by decide) ?_
  refine zs_iload_n (pc := 10) t278_10 rfl ?_
  refine zs_iload_n (pc := 11) t278_11 rfl ?_
  refine zs_iload_n (pc := 12) t278_12 rfl ?_
  refine zs_ishr (pc := 13) t278_13 (c := 1) (by decide) ?_
  refine zs_iconst (pc := 14) t278_14 (v := 1) (by decide) ?_
  refine zs_iand (pc := 15) t278_15 (c := 1) (by decide) ?_
  refine zs_iadd (pc := 16) t278_16 (c := 1) (by decide) ?_
  refine zs_istore_n (pc := 17) t278_17 (ls' := [(1, .int (1 : Int32)), (2, .int (7 : Int32)), (0, .int (128 : Int32))]) (zml mf278 (by decide)) rfl ?_
  refine zs_iinc (pc := 18) t278_18 (ls' := [(2, .int (8 : Int32)), (1, .int (1 : Int32)), (0, .int (128 : Int32))]) (zml mf278 (by decide)) rfl (c := 8) (by decide) rfl ?_
  refine zs_goto (pc := 21) t278_21 ?_
  refine zs_iload_n (pc := 4) t278_4 rfl ?_
  refine zs_bipush (pc := 5) t278_5 (v := 8) (by decide) ?_
  refine zs_icmp_geT (pc := 7) t278_7 li8 li8 (by decide) ?_
  refine zs_iload_n (pc := 24) t278_24 rfl ?_
  exact zs_iret (pc := 25) t278_25 mr278 (by decide) (hQ _ (by decide) (by decide))
theorem K278x {X : zX} {l : Launch} {M : zM} {Q : Option Value → zM → Prop} {a : Int32} (hs : zSk zMm M) (hI : zIv mLo mHi M) (hQ : ∀ v : Int32, ((a = 0 ∨ ∃ b : Int32, 0 ≤ b.toInt ∧ b.toInt ≤ 7 ∧ a = (1 : Int32) <<< (b &&& 31)) → v.toInt ≤ 1) → Q (some (.int v)) M) : zCall X l 0 0 0 278 [.int a] M Q := by
  by_cases c : a = 0 ∨ ∃ b : Int32, 0 ≤ b.toInt ∧ b.toInt ≤ 7 ∧ a = (1 : Int32) <<< (b &&& 31)
  · rcases c with c | ⟨b, b1, b2, c⟩
    · subst c
      exact K278_0 hs hI (fun v _ h => hQ v (fun _ => h))
    · by_cases q0 : b.toInt = 0
      · obtain rfl : b = (0 : Int32) := (zeq q0 li0).mpr rfl
        obtain rfl : a = (1 : Int32) := c.trans (by decide)
        exact K278_1 hs hI (fun v _ h => hQ v (fun _ => h))
      by_cases q1 : b.toInt = 1
      · obtain rfl : b = (1 : Int32) := (zeq q1 li1).mpr rfl
        obtain rfl : a = (2 : Int32) := c.trans (by decide)
        exact K278_2 hs hI (fun v _ h => hQ v (fun _ => h))
      by_cases q2 : b.toInt = 2
      · obtain rfl : b = (2 : Int32) := (zeq q2 li2).mpr rfl
        obtain rfl : a = (4 : Int32) := c.trans (by decide)
        exact K278_4 hs hI (fun v _ h => hQ v (fun _ => h))
      by_cases q3 : b.toInt = 3
      · obtain rfl : b = (3 : Int32) := (zeq q3 li3).mpr rfl
        obtain rfl : a = (8 : Int32) := c.trans (by decide)
        exact K278_8 hs hI (fun v _ h => hQ v (fun _ => h))
      by_cases q4 : b.toInt = 4
      · obtain rfl : b = (4 : Int32) := (zeq q4 li4).mpr rfl
        obtain rfl : a = (16 : Int32) := c.trans (by decide)
        exact K278_16 hs hI (fun v _ h => hQ v (fun _ => h))
      by_cases q5 : b.toInt = 5
      · obtain rfl : b = (5 : Int32) := (zeq q5 li5).mpr rfl
        obtain rfl : a = (32 : Int32) := c.trans (by decide)
        exact K278_32 hs hI (fun v _ h => hQ v (fun _ => h))
      by_cases q6 : b.toInt = 6
      · obtain rfl : b = (6 : Int32) := (zeq q6 li6).mpr rfl
        obtain rfl : a = (64 : Int32) := c.trans (by decide)
        exact K278_64 hs hI (fun v _ h => hQ v (fun _ => h))
      by_cases q7 : b.toInt = 7
      · obtain rfl : b = (7 : Int32) := (zeq q7 li7).mpr rfl
        obtain rfl : a = (128 : Int32) := c.trans (by decide)
        exact K278_128 hs hI (fun v _ h => hQ v (fun _ => h))
      omega
  · exact K278 hs hI (fun v => hQ v (fun q => absurd q c))
theorem K277 {X : zX} {l : Launch} {M : zM} {Q : Option Value → zM → Prop} {a : Int32} (hs : zSk zMm M) (hI : zIv mLo mHi M) (hQ : ∀ v : Int32, (2 ≤ v.toInt → zVw M a) → Q (some (.int v)) M) : zCall X l 1 0 0 277 [.ref 336, .int a] M Q := by
  have ga := zrg a
  refine zs_in (by decide) mf277 (Nat.le_of_ble_eq_true rfl) ?_
  show zGo X l 1 0 0 277 0 [(0, .ref 336), (1, .int a)] [] M _
  refine zs_iconst (pc := 0) t277_0 (v := 0) (by decide) ?_
  refine zs_istore_n (pc := 1) t277_1 (ls' := [(2, .int (0 : Int32)), (0, .ref 336), (1, .int a)]) (zml mf277 (by decide)) rfl ?_
  refine zs_iconst (pc := 2) t277_2 (v := 0) (by decide) ?_
  refine zs_istore_n (pc := 3) t277_3 (ls' := [(3, .int (0 : Int32)), (2, .int (0 : Int32)), (0, .ref 336), (1, .int a)]) (zml mf277 (by decide)) rfl ?_
  have w1L : ∀ (m : Nat) (w1x2 : Int32) (w1x3 : Int32), (0 ≤ w1x3.toInt ∧ w1x3.toInt ≤ 60) → (zVi M a w1x2) → 60 - w1x3.toInt ≤ (m : Int) → zGo X l 1 0 0 277 4 [(0, .ref 336), (1, .int a), (2, .int w1x2), (3, .int w1x3)] [] M Q := by
    intro m
    induction m using Nat.strongRecOn with
    | ind w1m w1ih =>
      intro w1x2 w1x3 w1b3 w1t0 w1q
      have w1g2 := zrg w1x2
      refine zs_iload_n (pc := 4) t277_4 rfl ?_
      refine zs_aload_n (pc := 5) t277_5 rfl ?_
      refine zs_get (pc := 6) t277_6 (by decide) (zk1 (hs.k fk_zMm_336)) (hs.p rfl fv_zMm_336_0) ?_
      refine zs_iconst (pc := 9) t277_9 (v := 1) (by decide) ?_
      have w2 := ibA1 hI
      refine zs_iald (pc := 10) t277_10 (j := 1) (by decide) (zk1 (hs.k fk_zMm_337)) li1 (zk2 (hs.k fk_zMm_337) (by decide)) rfl ?_
      by_cases w3 : (zI M 337 1).toInt ≤ w1x3.toInt
      · refine zs_icmp_geT (pc := 11) t277_11 rfl rfl (by omega) ?_
        refine zs_iload_n (pc := 50) t277_50 rfl ?_
        refine zs_invS (pc := 51) (as := [.int w1x2]) (st := []) t277_51 (by decide) mf278 rfl rfl ⟨by decide, by decide, Nat.le_of_ble_eq_true rfl, Nat.le_of_ble_eq_true rfl⟩ (K278x hs hI ?_) (fun _ _ q => q)
        intro w4v w4x0
        have w4g := zrg w4v
        show zGo X l 1 0 0 277 54 [(0, .ref 336), (1, .int a), (2, .int w1x2), (3, .int w1x3)] [.int w4v] M _
        exact zs_iret (pc := 54) t277_54 mr277 rfl (hQ _ (fun q => by
            rcases w1t0 with z | z | ⟨g, z1, z2, z3, z4⟩
            · exact z
            · exact absurd (w4x0 (Or.inl z)) (by omega)
            · have zb := ibL (j := 30 + 4 * g) hI (by omega) (by omega) (by omega)
              exact absurd (w4x0 (Or.inr ⟨_, zb.1, zb.2, z4⟩)) (by omega)))
      · refine zs_icmp_geF (pc := 11) t277_11 rfl rfl (by omega) ?_
        refine zs_aload_n (pc := 14) t277_14 rfl ?_
        refine zs_get (pc := 15) t277_15 (by decide) (zk1 (hs.k fk_zMm_336)) (hs.p rfl fv_zMm_336_16) ?_
        refine zs_iload_n (pc := 18) t277_18 rfl ?_
        obtain ⟨w5n, w5⟩ : ∃ n : Nat, w1x3.toInt = (n : Int) := ⟨(w1x3.toInt).toNat, by omega⟩
        have w6 := ib343 hI w5n
        refine zs_bald (pc := 19) t277_19 (j := w5n) (Or.inr (zk1 (hs.k fk_zMm_343))) (show w1x3.toInt = ((w5n : Nat) : Int) by omega) (zk2 (hs.k fk_zMm_343) (by omega)) rfl ?_
        by_cases w7 : (zI M 343 w5n).toInt = 0
        · refine zs_if_eqT (pc := 20) t277_20 rfl (by omega) ?_
          obtain ⟨w8v, w8e, w8⟩ := ziadd (a := w1x3) (b := Int32.ofInt 1) rfl (show (Int32.ofInt 1).toInt = 1 by decide) (by omega) (by omega)
          refine zs_iinc (pc := 44) t277_44 (ls' := [(3, .int w8v), (0, .ref 336), (1, .int a), (2, .int w1x2)]) (zml mf277 (by decide)) rfl (c := w8v) w8e rfl ?_
          refine zs_goto (pc := 47) t277_47 ?_
          refine zGo.locals (ls' := [(0, .ref 336), (1, .int a), (2, .int w1x2), (3, .int w8v)]) (by simp) ?_
          have w9 := w8
          exact w1ih (w1m - 1) (by omega) w1x2 w8v ⟨by omega, by omega⟩ w1t0 (by omega)
        · refine zs_if_eqF (pc := 20) t277_20 rfl (by omega) ?_
          refine zs_aload_n (pc := 23) t277_23 rfl ?_
          refine zs_get (pc := 24) t277_24 (by decide) (zk1 (hs.k fk_zMm_336)) (hs.p rfl fv_zMm_336_17) ?_
          refine zs_iload_n (pc := 27) t277_27 rfl ?_
          have w10 := zrg (zI M 344 w5n)
          refine zs_iald (pc := 28) t277_28 (j := w5n) (by decide) (zk1 (hs.k fk_zMm_344)) (show w1x3.toInt = ((w5n : Nat) : Int) by omega) (zk2 (hs.k fk_zMm_344) (by omega)) rfl ?_
          refine zs_iload_n (pc := 29) t277_29 rfl ?_
          by_cases w11 : (zI M 344 w5n).toInt ≠ a.toInt
          · refine zs_icmp_neT (pc := 30) t277_30 rfl rfl (by omega) ?_
            obtain ⟨w12v, w12e, w12⟩ := ziadd (a := w1x3) (b := Int32.ofInt 1) rfl (show (Int32.ofInt 1).toInt = 1 by decide) (by omega) (by omega)
            refine zs_iinc (pc := 44) t277_44 (ls' := [(3, .int w12v), (0, .ref 336), (1, .int a), (2, .int w1x2)]) (zml mf277 (by decide)) rfl (c := w12v) w12e rfl ?_
            refine zs_goto (pc := 47) t277_47 ?_
            refine zGo.locals (ls' := [(0, .ref 336), (1, .int a), (2, .int w1x2), (3, .int w12v)]) (by simp) ?_
            have w13 := w12
            exact w1ih (w1m - 1) (by omega) w1x2 w12v ⟨by omega, by omega⟩ w1t0 (by omega)
          · refine zs_icmp_neF (pc := 30) t277_30 rfl rfl (by omega) ?_
            refine zs_iload_n (pc := 33) t277_33 rfl ?_
            refine zs_iconst (pc := 34) t277_34 (v := 1) (by decide) ?_
            refine zs_aload_n (pc := 35) t277_35 rfl ?_
            refine zs_iload_n (pc := 36) t277_36 rfl ?_
            refine zs_iconst (pc := 37) t277_37 (v := 0) (by decide) ?_
            refine zs_invV (pc := 38) (k := 336) (as' := [.int w1x3, .int (0 : Int32)]) (st := [.int (1 : Int32), .int w1x2]) t277_38 mf272 rfl rfl (Or.inl ⟨by decide, (zk1 (hs.k fk_zMm_336))⟩) ⟨by decide, by decide, Nat.le_of_ble_eq_true rfl, Nat.le_of_ble_eq_true rfl⟩ (zs_in (by decide) mf272 (Nat.le_of_ble_eq_true rfl) ?_) (fun _ _ q => q)
            show zGo X l 0 0 0 272 0 [(0, .ref 336), (1, .int w1x3), (2, .int (0 : Int32))] [] M _
            refine zs_aload_n (pc := 0) t272_0 rfl ?_
            refine zs_get (pc := 1) t272_1 (by decide) (zk1 (hs.k fk_zMm_336)) (hs.p rfl fv_zMm_336_0) ?_
            refine zs_bipush (pc := 4) t272_4 (v := 30) (by decide) ?_
            refine zs_iconst (pc := 6) t272_6 (v := 4) (by decide) ?_
            refine zs_iload_n (pc := 7) t272_7 rfl ?_
            obtain ⟨w14v, w14⟩ : ∃ v, (4 : Int32) * w1x3 = v := ⟨_, rfl⟩
            have w14g : w14v.toInt = 4 * w1x3.toInt := by rw [← w14]; exact zmulc li4 rfl (by omega) (by omega)
            refine zs_imul (pc := 8) t272_8 (c := w14v) w14 ?_
            obtain ⟨w15v, w15e, w15⟩ := ziadd (a := (30 : Int32)) (b := w14v) li30 w14g (by omega) (by omega)
            refine zs_iadd (pc := 9) t272_9 (c := w15v) w15e ?_
            refine zs_iload_n (pc := 10) t272_10 rfl ?_
            obtain ⟨w16v, w16e, w16⟩ := ziadd (a := w15v) (b := (0 : Int32)) w15 li0 (by omega) (by omega)
            refine zs_iadd (pc := 11) t272_11 (c := w16v) w16e ?_
            have w17 := ibL (j := (30 + 4 * w5n)) hI (by omega) (by omega) (by omega)
            refine zs_iald (pc := 12) t272_12 (j := (30 + 4 * w5n)) (by decide) (zk1 (hs.k fk_zMm_337)) (show w16v.toInt = (((30 + 4 * w5n) : Nat) : Int) by omega) (zk2 (hs.k fk_zMm_337) (by omega)) rfl ?_
            refine zs_iret (pc := 13) t272_13 mr272 rfl ?_
            show zGo X l 1 0 0 277 41 [(0, .ref 336), (1, .int a), (2, .int w1x2), (3, .int w1x3)] [.int (zI M 337 (30 + 4 * w5n)), .int (1 : Int32), .int w1x2] M _
            obtain ⟨w18v, w18⟩ : ∃ v, (1 : Int32) <<< ((zI M 337 (30 + 4 * w5n)) &&& 31) = v := ⟨_, rfl⟩
            have w18g := zrg w18v
            refine zs_ishl (pc := 41) t277_41 (c := w18v) w18 ?_
            obtain ⟨w19v, w19⟩ : ∃ v, w1x2 ||| w18v = v := ⟨_, rfl⟩
            have w19g := zrg w19v
            refine zs_ior (pc := 42) t277_42 (c := w19v) w19 ?_
            refine zs_istore_n (pc := 43) t277_43 (ls' := [(2, .int w19v), (0, .ref 336), (1, .int a), (3, .int w1x3)]) (zml mf277 (by decide)) rfl ?_
            obtain ⟨w20v, w20e, w20⟩ := ziadd (a := w1x3) (b := Int32.ofInt 1) rfl (show (Int32.ofInt 1).toInt = 1 by decide) (by omega) (by omega)
            refine zs_iinc (pc := 44) t277_44 (ls' := [(3, .int w20v), (2, .int w19v), (0, .ref 336), (1, .int a)]) (zml mf277 (by decide)) rfl (c := w20v) w20e rfl ?_
            refine zs_goto (pc := 47) t277_47 ?_
            refine zGo.locals (ls' := [(0, .ref 336), (1, .int a), (2, .int w19v), (3, .int w20v)]) (by simp) ?_
            have w21 := w20
            exact w1ih (w1m - 1) (by omega) w19v w20v ⟨by omega, by omega⟩ (zVi.add (n := w5n) w1t0 (by omega) (by omega) (by omega) w18 w19) (by omega)
  refine zGo.locals (ls' := [(0, .ref 336), (1, .int a), (2, .int (0 : Int32)), (3, .int (0 : Int32))]) (by simp) ?_
  have w22 := li0
  have w23 := li0
  exact w1L ((60 - 0 : Int).toNat) (0 : Int32) (0 : Int32) ⟨by decide, by decide⟩ (Or.inr (Or.inl rfl)) (by omega)
theorem K274 {X : zX} {l : Launch} {M : zM} {Q : Option Value → zM → Prop} {a b : Int32} (hs : zSk zMm M) (hI : zIv mLo mHi M) (pB : zPB M) (hQ : ∀ M', zSk zMm M' → zIv mLo mHi M' → zFr [(344, 344, none), (336, 336, some 18), (336, 336, some 19), (336, 336, some 20), (336, 336, some 21)] M M' → zJ M' 351 = zJ M 351 → zPB M' → Q none M') : zCall X l 4 0 0 274 [.ref 336, .int a, .int b] M Q := by
  have ga := zrg a
  have gb := zrg b
  refine zs_in (by decide) mf274 (Nat.le_of_ble_eq_true rfl) ?_
  show zGo X l 4 0 0 274 0 [(0, .ref 336), (1, .int a), (2, .int b)] [] M _
  refine zs_aload_n (pc := 0) t274_0 rfl ?_
  refine zs_iload_n (pc := 1) t274_1 rfl ?_
  refine zs_iload_n (pc := 2) t274_2 rfl ?_
  refine zs_invV (pc := 3) (k := 336) (as' := [.int a, .int b]) (st := []) t274_3 mf275 rfl rfl (Or.inl ⟨by decide, (zk1 (hs.k fk_zMm_336))⟩) ⟨by decide, by decide, Nat.le_of_ble_eq_true rfl, Nat.le_of_ble_eq_true rfl⟩ (K275 hs hI ?_) (fun _ _ q => q)
  intro w1M w1s w1I w1F w1J w1x0
  have hLy := w1x0
  show zGo X l 4 0 0 274 6 [(0, .ref 336), (1, .int a), (2, .int b)] [] w1M _
  refine zs_iconst (pc := 6) t274_6 (v := 0) (by decide) ?_
  refine zs_istore_n (pc := 7) t274_7 (ls' := [(3, .int (0 : Int32)), (0, .ref 336), (1, .int a), (2, .int b)]) (zml mf274 (by decide)) rfl ?_
  have w2L : ∀ (m : Nat) (w2x3 : Int32) (w2M : zM), (0 ≤ w2x3.toInt ∧ w2x3.toInt ≤ 60) → zSk zMm w2M → zIv mLo mHi w2M → zFr [(336, 336, some 18), (336, 336, some 19), (336, 336, some 20), (336, 336, some 21)] w1M w2M → zJ w2M 351 = zJ w1M 351 → zPB w2M → 60 - w2x3.toInt ≤ (m : Int) → zGo X l 4 0 0 274 8 [(0, .ref 336), (1, .int a), (2, .int b), (3, .int w2x3)] [] w2M Q := by
    intro m
    induction m using Nat.strongRecOn with
    | ind w2m w2ih =>
      intro w2x3 w2M w2b3 w2s w2I w2F w2J w2PB w2q
      refine zs_iload_n (pc := 8) t274_8 rfl ?_
      refine zs_aload_n (pc := 9) t274_9 rfl ?_
      refine zs_get (pc := 10) t274_10 (by decide) (zk1 (w2s.k fk_zMm_336)) (w2s.p rfl fv_zMm_336_0) ?_
      refine zs_iconst (pc := 13) t274_13 (v := 1) (by decide) ?_
      have w3 := ibA1 hI
      refine zs_iald (pc := 14) t274_14 (j := 1) (by decide) (zk1 (w2s.k fk_zMm_337)) li1 (zk2 (w2s.k fk_zMm_337) (by decide)) ((w2F 337 1 rfl).trans ((w1F 337 1 rfl).trans rfl)) ?_
      by_cases w4 : (zI M 337 1).toInt ≤ w2x3.toInt
      · refine zs_icmp_geT (pc := 15) t274_15 rfl rfl (by omega) ?_
        exact zs_vret (pc := 124) t274_124 mr274 (hQ _ w2s w2I (((zFr.refl).trans (w1F.mono rfl)).trans (w2F.mono rfl)) (w2J.trans w1J) w2PB)
      · refine zs_icmp_geF (pc := 15) t274_15 rfl rfl (by omega) ?_
        refine zs_aload_n (pc := 18) t274_18 rfl ?_
        refine zs_get (pc := 19) t274_19 (by decide) (zk1 (w2s.k fk_zMm_336)) (w2s.p rfl fv_zMm_336_16) ?_
        refine zs_iload_n (pc := 22) t274_22 rfl ?_
        obtain ⟨w5n, w5⟩ : ∃ n : Nat, w2x3.toInt = (n : Int) := ⟨(w2x3.toInt).toNat, by omega⟩
        have w6 := ib343 hI w5n
        refine zs_bald (pc := 23) t274_23 (j := w5n) (Or.inr (zk1 (w2s.k fk_zMm_343))) (show w2x3.toInt = ((w5n : Nat) : Int) by omega) (zk2 (w2s.k fk_zMm_343) (by omega)) ((w2F 343 w5n rfl).trans ((w1F 343 w5n rfl).trans rfl)) ?_
        by_cases w7 : (zI M 343 w5n).toInt = 0
        · refine zs_if_eqT (pc := 24) t274_24 rfl (by omega) ?_
          obtain ⟨w8v, w8e, w8⟩ := ziadd (a := w2x3) (b := Int32.ofInt 1) rfl (show (Int32.ofInt 1).toInt = 1 by decide) (by omega) (by omega)
          refine zs_iinc (pc := 118) t274_118 (ls' := [(3, .int w8v), (0, .ref 336), (1, .int a), (2, .int b)]) (zml mf274 (by decide)) rfl (c := w8v) w8e rfl ?_
          refine zs_goto (pc := 121) t274_121 ?_
          refine zGo.locals (ls' := [(0, .ref 336), (1, .int a), (2, .int b), (3, .int w8v)]) (by simp) ?_
          have w9 := w8
          exact w2ih (w2m - 1) (by omega) w8v w2M ⟨by omega, by omega⟩ w2s w2I ((zFr.refl).trans (w2F.mono rfl)) w2J w2PB (by omega)
        · refine zs_if_eqF (pc := 24) t274_24 rfl (by omega) ?_
          refine zs_aload_n (pc := 27) t274_27 rfl ?_
          refine zs_iload_n (pc := 28) t274_28 rfl ?_
          refine zs_invV (pc := 29) (k := 336) (as' := [.int w2x3]) (st := []) t274_29 mf276 rfl rfl (Or.inl ⟨by decide, (zk1 (w2s.k fk_zMm_336))⟩) ⟨by decide, by decide, Nat.le_of_ble_eq_true rfl, Nat.le_of_ble_eq_true rfl⟩ (K276 w2s w2I ⟨by omega, by omega⟩ ?_) (fun _ _ q => q)
          intro w10v  w10a w10b
          show zGo X l 4 0 0 274 32 [(0, .ref 336), (1, .int a), (2, .int b), (3, .int w2x3)] [.int w10v] w2M _
          by_cases w11 : w10v.toInt ≠ 0
          · refine zs_if_neT (pc := 32) t274_32 rfl (by omega) ?_
            refine zs_aload_n (pc := 38) t274_38 rfl ?_
            refine zs_aload_n (pc := 39) t274_39 rfl ?_
            refine zs_get (pc := 40) t274_40 (by decide) (zk1 (w2s.k fk_zMm_336)) (w2s.p rfl fv_zMm_336_17) ?_
            refine zs_iload_n (pc := 43) t274_43 rfl ?_
            have w12 := zrg (zI w1M 344 w5n)
            refine zs_iald (pc := 44) t274_44 (j := w5n) (by decide) (zk1 (w2s.k fk_zMm_344)) (show w2x3.toInt = ((w5n : Nat) : Int) by omega) (zk2 (w2s.k fk_zMm_344) (by omega)) ((w2F 344 w5n rfl).trans rfl) ?_
            refine zs_invV (pc := 45) (k := 336) (as' := [.int (zI w1M 344 w5n)]) (st := []) t274_45 mf277 rfl rfl (Or.inl ⟨by decide, (zk1 (w2s.k fk_zMm_336))⟩) ⟨by decide, by decide, Nat.le_of_ble_eq_true rfl, Nat.le_of_ble_eq_true rfl⟩ (K277 w2s w2I ?_) (fun _ _ q => q)
            intro w13v w13x0
            have w13g := zrg w13v
            show zGo X l 4 0 0 274 48 [(0, .ref 336), (1, .int a), (2, .int b), (3, .int w2x3)] [.int w13v] w2M _
            refine zs_istore (pc := 48) t274_48 (ls' := [(4, .int w13v), (0, .ref 336), (1, .int a), (2, .int b), (3, .int w2x3)]) (zml mf274 (by decide)) rfl ?_
            refine zs_aload_n (pc := 50) t274_50 rfl ?_
            have w14 := zrg (zI w2M 336 18)
            refine zs_get (pc := 51) t274_51 (by decide) (zk1 (w2s.k fk_zMm_336)) (zfvi rfl rfl) ?_
            by_cases w15 : (zI w2M 336 18).toInt ≤ 0
            · refine zs_if_leT (pc := 54) t274_54 rfl (by omega) ?_
              refine zs_aload_n (pc := 92) t274_92 rfl ?_
              refine zs_iload (pc := 93) t274_93 rfl ?_
              have w16 : zIv mLo mHi (zsI w2M 336 18 w13v) := zIv.put w2I (show (-2147483648) ≤ w13v.toInt ∧ w13v.toInt ≤ 2147483647 from zrg w13v)
              refine zs_putI (pc := 95) t274_95 (zk1 (w2s.k fk_zMm_336)) rfl ?_
              refine zs_aload_n (pc := 98) t274_98 rfl ?_
              refine zs_iload_n (pc := 99) t274_99 rfl ?_
              have w17 : zIv mLo mHi (zsI (zsI w2M 336 18 w13v) 336 19 b) := zIv.put w16 (show (-2147483648) ≤ b.toInt ∧ b.toInt ≤ 2147483647 from zrg b)
              refine zs_putI (pc := 100) t274_100 (zk1 (w2s.k fk_zMm_336)) rfl ?_
              refine zs_aload_n (pc := 103) t274_103 rfl ?_
              refine zs_iload_n (pc := 104) t274_104 rfl ?_
              have w18 : zIv mLo mHi (zsI (zsI (zsI w2M 336 18 w13v) 336 19 b) 336 20 a) := zIv.put w17 (show (-2147483648) ≤ a.toInt ∧ a.toInt ≤ 2147483647 from zrg a)
              refine zs_putI (pc := 105) t274_105 (zk1 (w2s.k fk_zMm_336)) rfl ?_
              refine zs_aload_n (pc := 108) t274_108 rfl ?_
              refine zs_aload_n (pc := 109) t274_109 rfl ?_
              refine zs_get (pc := 110) t274_110 (by decide) (zk1 (w2s.k fk_zMm_336)) (w2s.p rfl fv_zMm_336_17) ?_
              refine zs_iload_n (pc := 113) t274_113 rfl ?_
              refine zs_iald (pc := 114) t274_114 (j := w5n) (by decide) (zk1 (w2s.k fk_zMm_344)) (show w2x3.toInt = ((w5n : Nat) : Int) by omega) (zk2 (w2s.k fk_zMm_344) (by omega)) ((zIo (by decide)).trans ((zIo (by decide)).trans ((zIo (by decide)).trans ((w2F 344 w5n rfl).trans rfl)))) ?_
              have w19 : zIv mLo mHi (zsI (zsI (zsI (zsI w2M 336 18 w13v) 336 19 b) 336 20 a) 336 21 (zI w1M 344 w5n)) := zIv.put w18 (show (-2147483648) ≤ (zI w1M 344 w5n).toInt ∧ (zI w1M 344 w5n).toInt ≤ 2147483647 from zrg (zI w1M 344 w5n))
              have w20 : zPB (zsI (zsI (zsI (zsI w2M 336 18 w13v) 336 19 b) 336 20 a) 336 21 (zI w1M 344 w5n)) := zPB.mk w13x0 (zLy.fr hLy (w2F.eq rfl))
              refine zs_putI (pc := 115) t274_115 (zk1 (w2s.k fk_zMm_336)) rfl ?_
              obtain ⟨w21v, w21e, w21⟩ := ziadd (a := w2x3) (b := Int32.ofInt 1) rfl (show (Int32.ofInt 1).toInt = 1 by decide) (by omega) (by omega)
              refine zs_iinc (pc := 118) t274_118 (ls' := [(3, .int w21v), (4, .int w13v), (0, .ref 336), (1, .int a), (2, .int b)]) (zml mf274 (by decide)) rfl (c := w21v) w21e rfl ?_
              refine zs_goto (pc := 121) t274_121 ?_
              refine zGo.locals (ls' := [(0, .ref 336), (1, .int a), (2, .int b), (3, .int w21v)]) (by simp) ?_
              have w22 := w21
              exact w2ih (w2m - 1) (by omega) w21v (zsI (zsI (zsI (zsI w2M 336 18 w13v) 336 19 b) 336 20 a) 336 21 (zI w1M 344 w5n)) ⟨by omega, by omega⟩ w2s w19 ((((((zFr.refl).trans (w2F.mono rfl)).put rfl).put rfl).put rfl).put rfl) w2J w20 (by omega)
            · refine zs_if_leF (pc := 54) t274_54 rfl (by omega) ?_
              refine zs_iload (pc := 57) t274_57 rfl ?_
              refine zs_iload_n (pc := 59) t274_59 rfl ?_
              refine zs_iload_n (pc := 60) t274_60 rfl ?_
              refine zs_aload_n (pc := 61) t274_61 rfl ?_
              refine zs_get (pc := 62) t274_62 (by decide) (zk1 (w2s.k fk_zMm_336)) (w2s.p rfl fv_zMm_336_17) ?_
              refine zs_iload_n (pc := 65) t274_65 rfl ?_
              refine zs_iald (pc := 66) t274_66 (j := w5n) (by decide) (zk1 (w2s.k fk_zMm_344)) (show w2x3.toInt = ((w5n : Nat) : Int) by omega) (zk2 (w2s.k fk_zMm_344) (by omega)) ((w2F 344 w5n rfl).trans rfl) ?_
              refine zs_aload_n (pc := 67) t274_67 rfl ?_
              refine zs_get (pc := 68) t274_68 (by decide) (zk1 (w2s.k fk_zMm_336)) (zfvi rfl rfl) ?_
              refine zs_aload_n (pc := 71) t274_71 rfl ?_
              have w23 := zrg (zI w2M 336 19)
              refine zs_get (pc := 72) t274_72 (by decide) (zk1 (w2s.k fk_zMm_336)) (zfvi rfl rfl) ?_
              refine zs_aload_n (pc := 75) t274_75 rfl ?_
              have w24 := zrg (zI w2M 336 20)
              refine zs_get (pc := 76) t274_76 (by decide) (zk1 (w2s.k fk_zMm_336)) (zfvi rfl rfl) ?_
              refine zs_aload_n (pc := 79) t274_79 rfl ?_
              have w25 := zrg (zI w2M 336 21)
              refine zs_get (pc := 80) t274_80 (by decide) (zk1 (w2s.k fk_zMm_336)) (zfvi rfl rfl) ?_
              refine zs_invS (pc := 83) (as := [.int w13v, .int b, .int a, .int (zI w1M 344 w5n), .int (zI w2M 336 18), .int (zI w2M 336 19), .int (zI w2M 336 20), .int (zI w2M 336 21)]) (st := []) t274_83 (by decide) mf279 rfl rfl ⟨by decide, by decide, Nat.le_of_ble_eq_true rfl, Nat.le_of_ble_eq_true rfl⟩ (K279 w2s w2I ?_) (fun _ _ q => q)
              intro w26v  w26a w26b
              show zGo X l 4 0 0 274 86 [(4, .int w13v), (0, .ref 336), (1, .int a), (2, .int b), (3, .int w2x3)] [.int w26v] w2M _
              by_cases w27 : w26v.toInt ≠ 0
              · refine zs_if_neT (pc := 86) t274_86 rfl (by omega) ?_
                refine zs_aload_n (pc := 92) t274_92 rfl ?_
                refine zs_iload (pc := 93) t274_93 rfl ?_
                have w28 : zIv mLo mHi (zsI w2M 336 18 w13v) := zIv.put w2I (show (-2147483648) ≤ w13v.toInt ∧ w13v.toInt ≤ 2147483647 from zrg w13v)
                refine zs_putI (pc := 95) t274_95 (zk1 (w2s.k fk_zMm_336)) rfl ?_
                refine zs_aload_n (pc := 98) t274_98 rfl ?_
                refine zs_iload_n (pc := 99) t274_99 rfl ?_
                have w29 : zIv mLo mHi (zsI (zsI w2M 336 18 w13v) 336 19 b) := zIv.put w28 (show (-2147483648) ≤ b.toInt ∧ b.toInt ≤ 2147483647 from zrg b)
                refine zs_putI (pc := 100) t274_100 (zk1 (w2s.k fk_zMm_336)) rfl ?_
                refine zs_aload_n (pc := 103) t274_103 rfl ?_
                refine zs_iload_n (pc := 104) t274_104 rfl ?_
                have w30 : zIv mLo mHi (zsI (zsI (zsI w2M 336 18 w13v) 336 19 b) 336 20 a) := zIv.put w29 (show (-2147483648) ≤ a.toInt ∧ a.toInt ≤ 2147483647 from zrg a)
                refine zs_putI (pc := 105) t274_105 (zk1 (w2s.k fk_zMm_336)) rfl ?_
                refine zs_aload_n (pc := 108) t274_108 rfl ?_
                refine zs_aload_n (pc := 109) t274_109 rfl ?_
                refine zs_get (pc := 110) t274_110 (by decide) (zk1 (w2s.k fk_zMm_336)) (w2s.p rfl fv_zMm_336_17) ?_
                refine zs_iload_n (pc := 113) t274_113 rfl ?_
                refine zs_iald (pc := 114) t274_114 (j := w5n) (by decide) (zk1 (w2s.k fk_zMm_344)) (show w2x3.toInt = ((w5n : Nat) : Int) by omega) (zk2 (w2s.k fk_zMm_344) (by omega)) ((zIo (by decide)).trans ((zIo (by decide)).trans ((zIo (by decide)).trans ((w2F 344 w5n rfl).trans rfl)))) ?_
                have w31 : zIv mLo mHi (zsI (zsI (zsI (zsI w2M 336 18 w13v) 336 19 b) 336 20 a) 336 21 (zI w1M 344 w5n)) := zIv.put w30 (show (-2147483648) ≤ (zI w1M 344 w5n).toInt ∧ (zI w1M 344 w5n).toInt ≤ 2147483647 from zrg (zI w1M 344 w5n))
                have w32 : zPB (zsI (zsI (zsI (zsI w2M 336 18 w13v) 336 19 b) 336 20 a) 336 21 (zI w1M 344 w5n)) := zPB.mk w13x0 (zLy.fr hLy (w2F.eq rfl))
                refine zs_putI (pc := 115) t274_115 (zk1 (w2s.k fk_zMm_336)) rfl ?_
                obtain ⟨w33v, w33e, w33⟩ := ziadd (a := w2x3) (b := Int32.ofInt 1) rfl (show (Int32.ofInt 1).toInt = 1 by decide) (by omega) (by omega)
                refine zs_iinc (pc := 118) t274_118 (ls' := [(3, .int w33v), (4, .int w13v), (0, .ref 336), (1, .int a), (2, .int b)]) (zml mf274 (by decide)) rfl (c := w33v) w33e rfl ?_
                refine zs_goto (pc := 121) t274_121 ?_
                refine zGo.locals (ls' := [(0, .ref 336), (1, .int a), (2, .int b), (3, .int w33v)]) (by simp) ?_
                have w34 := w33
                exact w2ih (w2m - 1) (by omega) w33v (zsI (zsI (zsI (zsI w2M 336 18 w13v) 336 19 b) 336 20 a) 336 21 (zI w1M 344 w5n)) ⟨by omega, by omega⟩ w2s w31 ((((((zFr.refl).trans (w2F.mono rfl)).put rfl).put rfl).put rfl).put rfl) w2J w32 (by omega)
              · refine zs_if_neF (pc := 86) t274_86 rfl (by omega) ?_
                refine zs_goto (pc := 89) t274_89 ?_
                obtain ⟨w35v, w35e, w35⟩ := ziadd (a := w2x3) (b := Int32.ofInt 1) rfl (show (Int32.ofInt 1).toInt = 1 by decide) (by omega) (by omega)
                refine zs_iinc (pc := 118) t274_118 (ls' := [(3, .int w35v), (4, .int w13v), (0, .ref 336), (1, .int a), (2, .int b)]) (zml mf274 (by decide)) rfl (c := w35v) w35e rfl ?_
                refine zs_goto (pc := 121) t274_121 ?_
                refine zGo.locals (ls' := [(0, .ref 336), (1, .int a), (2, .int b), (3, .int w35v)]) (by simp) ?_
                have w36 := w35
                exact w2ih (w2m - 1) (by omega) w35v w2M ⟨by omega, by omega⟩ w2s w2I ((zFr.refl).trans (w2F.mono rfl)) w2J w2PB (by omega)
          · refine zs_if_neF (pc := 32) t274_32 rfl (by omega) ?_
            refine zs_goto (pc := 35) t274_35 ?_
            obtain ⟨w37v, w37e, w37⟩ := ziadd (a := w2x3) (b := Int32.ofInt 1) rfl (show (Int32.ofInt 1).toInt = 1 by decide) (by omega) (by omega)
            refine zs_iinc (pc := 118) t274_118 (ls' := [(3, .int w37v), (0, .ref 336), (1, .int a), (2, .int b)]) (zml mf274 (by decide)) rfl (c := w37v) w37e rfl ?_
            refine zs_goto (pc := 121) t274_121 ?_
            refine zGo.locals (ls' := [(0, .ref 336), (1, .int a), (2, .int b), (3, .int w37v)]) (by simp) ?_
            have w38 := w37
            exact w2ih (w2m - 1) (by omega) w37v w2M ⟨by omega, by omega⟩ w2s w2I ((zFr.refl).trans (w2F.mono rfl)) w2J w2PB (by omega)
  refine zGo.locals (ls' := [(0, .ref 336), (1, .int a), (2, .int b), (3, .int (0 : Int32))]) (by simp) ?_
  have w39 := li0
  exact w2L ((60 - 0 : Int).toNat) (0 : Int32) w1M ⟨by decide, by decide⟩ w1s w1I zFr.refl rfl (zPB.fr pB (w1F.eq rfl)) (by omega)
theorem K281 {X : zX} {l : Launch} {M : zM} {Q : Option Value → zM → Prop} (hs : zSk zMm M) (hI : zIv mLo mHi M) (pR : zPR M) (pB : zPB M) (pT : zPT M) (u0 : 2 ≤ (zI M 336 18).toInt) (u1 : (zI M 336 22).toInt < 20) (hQ : ∀ M', zSk zMm M' → zIv mLo mHi M' → zFr [(344, 344, none), (349, 349, none), (350, 350, none), (343, 343, none), (345, 345, none), (346, 346, none), (347, 347, none), (348, 348, none), (336, 336, some 22)] M M' → zJ M' 351 = zJ M 351 → zPT M' → ((zI M' 336 22).toInt = (zI M 336 22).toInt + 1) → Q none M') : zCall X l 4 0 0 281 [.ref 336] M Q := by
  refine zs_in (by decide) mf281 (Nat.le_of_ble_eq_true rfl) ?_
  show zGo X l 4 0 0 281 0 [(0, .ref 336)] [] M _
  obtain ⟨g1, g2, a1, a2, b1, b2, nl, d1, d2⟩ := pB u0
  have w1 := ibA0 hI
  have w2 : (zI M 337 0).toInt = (zI M 337 0).toInt := (congrArg Int32.toInt rfl).trans rfl
  have w3 := ibA1 hI
  have w4 : (zI M 337 1).toInt = (zI M 337 1).toInt := (congrArg Int32.toInt rfl).trans rfl
  have l1 : zly M g1 < (zI M 337 0).toInt := by
    have z := pR.1.2 g1 a1
    unfold zrow at z
    rw [show 506 * 0 + (30 + 4 * g1) = 30 + 4 * g1 by omega] at z
    exact z
  have k1 : 0 ≤ zly M g1 ∧ zly M g1 ≤ 7 := ibL (j := 30 + 4 * g1) hI (by omega) (by omega) (by omega)
  have l2 : zly M g2 < (zI M 337 0).toInt := by
    have z := pR.1.2 g2 a2
    unfold zrow at z
    rw [show 506 * 0 + (30 + 4 * g2) = 30 + 4 * g2 by omega] at z
    exact z
  have k2 : 0 ≤ zly M g2 ∧ zly M g2 ≤ 7 := ibL (j := 30 + 4 * g2) hI (by omega) (by omega) (by omega)
  have nl : zly M g1 ≠ zly M g2 := nl
  refine zs_aload_n (pc := 0) t281_0 rfl ?_
  have w5 := ib336_22 hI
  refine zs_get (pc := 1) t281_1 (by decide) (zk1 (hs.k fk_zMm_336)) (zfvi rfl rfl) ?_
  refine zs_istore_n (pc := 4) t281_4 (ls' := [(1, .int (zI M 336 22)), (0, .ref 336)]) (zml mf281 (by decide)) rfl ?_
  refine zs_aload_n (pc := 5) t281_5 rfl ?_
  have w6 := zrg (zI M 336 21)
  refine zs_get (pc := 6) t281_6 (by decide) (zk1 (hs.k fk_zMm_336)) (zfvi rfl rfl) ?_
  refine zs_aload_n (pc := 9) t281_9 rfl ?_
  refine zs_get (pc := 10) t281_10 (by decide) (zk1 (hs.k fk_zMm_336)) (hs.p rfl fv_zMm_336_0) ?_
  refine zs_bipush (pc := 13) t281_13 (v := 7) (by decide) ?_
  have w7 := ibA7 hI
  refine zs_iald (pc := 15) t281_15 (j := 7) (by decide) (zk1 (hs.k fk_zMm_337)) li7 (zk2 (hs.k fk_zMm_337) (by decide)) rfl ?_
  obtain ⟨w8v, w8⟩ : ∃ v, (zI M 336 21) * (zI M 337 7) = v := ⟨_, rfl⟩
  have w8g := zrg w8v
  refine zs_imul (pc := 16) t281_16 (c := w8v) w8 ?_
  refine zs_aload_n (pc := 17) t281_17 rfl ?_
  refine zs_get (pc := 18) t281_18 (by decide) (zk1 (hs.k fk_zMm_336)) (hs.p rfl fv_zMm_336_0) ?_
  refine zs_bipush (pc := 21) t281_21 (v := 7) (by decide) ?_
  refine zs_iald (pc := 23) t281_23 (j := 7) (by decide) (zk1 (hs.k fk_zMm_337)) li7 (zk2 (hs.k fk_zMm_337) (by decide)) rfl ?_
  refine zs_iconst (pc := 24) t281_24 (v := 2) (by decide) ?_
  obtain ⟨w9v, w9⟩ : ∃ v, (zI M 337 7) / (2 : Int32) = v := ⟨_, rfl⟩
  have w9g : w9v.toInt = (zI M 337 7).toInt / 2 := by rw [← w9]; exact zdivp rfl li2 (by omega) (by decide)
  refine zs_idiv (pc := 25) t281_25 (by decide) (c := w9v) w9 ?_
  obtain ⟨w10v, w10⟩ : ∃ v, v = w8v + w9v := ⟨_, rfl⟩
  have w10g := zrg w10v
  refine zs_iadd (pc := 26) t281_26 (c := w10v) w10.symm ?_
  refine zs_istore_n (pc := 27) t281_27 (ls' := [(2, .int w10v), (1, .int (zI M 336 22)), (0, .ref 336)]) (zml mf281 (by decide)) rfl ?_
  refine zs_aload_n (pc := 28) t281_28 rfl ?_
  refine zs_aload_n (pc := 29) t281_29 rfl ?_
  have w11 := zrg (zI M 336 20)
  refine zs_get (pc := 30) t281_30 (by decide) (zk1 (hs.k fk_zMm_336)) (zfvi rfl rfl) ?_
  refine zs_aload_n (pc := 33) t281_33 rfl ?_
  have w12 := zrg (zI M 336 19)
  refine zs_get (pc := 34) t281_34 (by decide) (zk1 (hs.k fk_zMm_336)) (zfvi rfl rfl) ?_
  refine zs_invV (pc := 37) (k := 336) (as' := [.int (zI M 336 20), .int (zI M 336 19)]) (st := []) t281_37 mf275 rfl rfl (Or.inl ⟨by decide, (zk1 (hs.k fk_zMm_336))⟩) ⟨by decide, by decide, Nat.le_of_ble_eq_true rfl, Nat.le_of_ble_eq_true rfl⟩ (K275 hs hI ?_) (fun _ _ q => q)
  intro w13M w13s w13I w13F w13J w13x0
  have hLy := w13x0
  have c1 : (zI w13M 344 g1).toInt = (zI M 336 21).toInt := by
    rw [hLy g1 (by rw [w13F 337 1 rfl]; exact a1) (by rw [w13F 343 g1 rfl]; exact b1), zcell.fr (fun j => w13F 337 j rfl), d1]
  have c2 : (zI w13M 344 g2).toInt = (zI M 336 21).toInt := by
    rw [hLy g2 (by rw [w13F 337 1 rfl]; exact a2) (by rw [w13F 343 g2 rfl]; exact b2), zcell.fr (fun j => w13F 337 j rfl), d2]
  show zGo X l 4 0 0 281 40 [(2, .int w10v), (1, .int (zI M 336 22)), (0, .ref 336)] [] w13M _
  refine zs_iconst (pc := 40) t281_40 (v := 0) (by decide) ?_
  refine zs_istore_n (pc := 41) t281_41 (ls' := [(3, .int (0 : Int32)), (2, .int w10v), (1, .int (zI M 336 22)), (0, .ref 336)]) (zml mf281 (by decide)) rfl ?_
  obtain ⟨w14n, w14⟩ : ∃ n : Nat, (zI M 336 22).toInt = (n : Int) := ⟨((zI M 336 22).toInt).toNat, by omega⟩
  have w15L : ∀ (m : Nat) (w15x3 : Int32) (w15M : zM), (0 ≤ w15x3.toInt ∧ w15x3.toInt ≤ 8) → zSk zMm w15M → zIv mLo mHi w15M → zFr [(349, 349, none), (350, 350, none), (343, 343, none)] w13M w15M → zJ w15M 351 = zJ w13M 351 → zPT w15M → (zOu M w15M w14n w15x3.toInt g1) → (zOu M w15M w14n w15x3.toInt g2) → 8 - w15x3.toInt ≤ (m : Int) → zGo X l 4 0 0 281 42 [(0, .ref 336), (1, .int (zI M 336 22)), (2, .int w10v), (3, .int w15x3)] [] w15M Q := by
    intro m
    induction m using Nat.strongRecOn with
    | ind w15m w15ih =>
      intro w15x3 w15M w15b3 w15s w15I w15F w15J w15PT w15t0 w15t1 w15q
      refine zs_iload_n (pc := 42) t281_42 rfl ?_
      refine zs_aload_n (pc := 43) t281_43 rfl ?_
      refine zs_get (pc := 44) t281_44 (by decide) (zk1 (w15s.k fk_zMm_336)) (w15s.p rfl fv_zMm_336_0) ?_
      refine zs_iconst (pc := 47) t281_47 (v := 0) (by decide) ?_
      refine zs_iald (pc := 48) t281_48 (j := 0) (by decide) (zk1 (w15s.k fk_zMm_337)) li0 (zk2 (w15s.k fk_zMm_337) (by decide)) ((w15F 337 0 rfl).trans ((w13F 337 0 rfl).trans rfl)) ?_
      by_cases w16 : (zI M 337 0).toInt ≤ w15x3.toInt
      · refine zs_icmp_geT (pc := 49) t281_49 rfl rfl (by omega) ?_
        refine zs_aload_n (pc := 215) t281_215 rfl ?_
        refine zs_get (pc := 216) t281_216 (by decide) (zk1 (w15s.k fk_zMm_336)) (w15s.p rfl fv_zMm_336_23) ?_
        refine zs_iload_n (pc := 219) t281_219 rfl ?_
        refine zs_aload_n (pc := 220) t281_220 rfl ?_
        refine zs_get (pc := 221) t281_221 (by decide) (zk1 (w15s.k fk_zMm_336)) (zfvi rfl ((w15F 336 19 rfl).trans ((w13F 336 19 rfl).trans rfl))) ?_
        have w17 : zIv mLo mHi (zsI w15M 345 w14n (zI M 336 19)) := zIv.put w15I (show (-2147483648) ≤ (zI M 336 19).toInt ∧ (zI M 336 19).toInt ≤ 2147483647 from zrg (zI M 336 19))
        refine zs_iast (pc := 224) t281_224 (j := w14n) (by decide) (zk1 (w15s.k fk_zMm_345)) (show (zI M 336 22).toInt = ((w14n : Nat) : Int) by omega) (zk2 (w15s.k fk_zMm_345) (by omega)) ?_
        refine zs_aload_n (pc := 225) t281_225 rfl ?_
        refine zs_get (pc := 226) t281_226 (by decide) (zk1 (w15s.k fk_zMm_336)) (w15s.p rfl fv_zMm_336_24) ?_
        refine zs_iload_n (pc := 229) t281_229 rfl ?_
        refine zs_aload_n (pc := 230) t281_230 rfl ?_
        refine zs_get (pc := 231) t281_231 (by decide) (zk1 (w15s.k fk_zMm_336)) (zfvi rfl ((zIo (by decide)).trans ((w15F 336 20 rfl).trans ((w13F 336 20 rfl).trans rfl)))) ?_
        have w18 : zIv mLo mHi (zsI (zsI w15M 345 w14n (zI M 336 19)) 346 w14n (zI M 336 20)) := zIv.put w17 (show (-2147483648) ≤ (zI M 336 20).toInt ∧ (zI M 336 20).toInt ≤ 2147483647 from zrg (zI M 336 20))
        refine zs_iast (pc := 234) t281_234 (j := w14n) (by decide) (zk1 (w15s.k fk_zMm_346)) (show (zI M 336 22).toInt = ((w14n : Nat) : Int) by omega) (zk2 (w15s.k fk_zMm_346) (by omega)) ?_
        refine zs_aload_n (pc := 235) t281_235 rfl ?_
        refine zs_get (pc := 236) t281_236 (by decide) (zk1 (w15s.k fk_zMm_336)) (w15s.p rfl fv_zMm_336_25) ?_
        refine zs_iload_n (pc := 239) t281_239 rfl ?_
        refine zs_aload_n (pc := 240) t281_240 rfl ?_
        refine zs_get (pc := 241) t281_241 (by decide) (zk1 (w15s.k fk_zMm_336)) (zfvi rfl ((zIo (by decide)).trans ((zIo (by decide)).trans ((w15F 336 21 rfl).trans ((w13F 336 21 rfl).trans rfl))))) ?_
        have w19 : zIv mLo mHi (zsI (zsI (zsI w15M 345 w14n (zI M 336 19)) 346 w14n (zI M 336 20)) 347 w14n (zI M 336 21)) := zIv.put w18 (show (-2147483648) ≤ (zI M 336 21).toInt ∧ (zI M 336 21).toInt ≤ 2147483647 from zrg (zI M 336 21))
        refine zs_iast (pc := 244) t281_244 (j := w14n) (by decide) (zk1 (w15s.k fk_zMm_347)) (show (zI M 336 22).toInt = ((w14n : Nat) : Int) by omega) (zk2 (w15s.k fk_zMm_347) (by omega)) ?_
        refine zs_aload_n (pc := 245) t281_245 rfl ?_
        refine zs_get (pc := 246) t281_246 (by decide) (zk1 (w15s.k fk_zMm_336)) (w15s.p rfl fv_zMm_336_26) ?_
        refine zs_iload_n (pc := 249) t281_249 rfl ?_
        refine zs_aload_n (pc := 250) t281_250 rfl ?_
        have w20 := zrg (zI M 336 18)
        refine zs_get (pc := 251) t281_251 (by decide) (zk1 (w15s.k fk_zMm_336)) (zfvi rfl ((zIo (by decide)).trans ((zIo (by decide)).trans ((zIo (by decide)).trans ((w15F 336 18 rfl).trans ((w13F 336 18 rfl).trans rfl)))))) ?_
        have w21 : zIv mLo mHi (zsI (zsI (zsI (zsI w15M 345 w14n (zI M 336 19)) 346 w14n (zI M 336 20)) 347 w14n (zI M 336 21)) 348 w14n (zI M 336 18)) := zIv.put w19 (show (-2147483648) ≤ (zI M 336 18).toInt ∧ (zI M 336 18).toInt ≤ 2147483647 from zrg (zI M 336 18))
        refine zs_iast (pc := 254) t281_254 (j := w14n) (by decide) (zk1 (w15s.k fk_zMm_348)) (show (zI M 336 22).toInt = ((w14n : Nat) : Int) by omega) (zk2 (w15s.k fk_zMm_348) (by omega)) ?_
        refine zs_aload_n (pc := 255) t281_255 rfl ?_
        refine zs_dup (pc := 256) t281_256 rfl ?_
        refine zs_get (pc := 257) t281_257 (by decide) (zk1 (w15s.k fk_zMm_336)) (zfvi rfl ((zIo (by decide)).trans ((zIo (by decide)).trans ((zIo (by decide)).trans ((zIo (by decide)).trans ((w15F 336 22 rfl).trans ((w13F 336 22 rfl).trans rfl))))))) ?_
        refine zs_iconst (pc := 260) t281_260 (v := 1) (by decide) ?_
        obtain ⟨w22v, w22e, w22⟩ := ziadd (a := (zI M 336 22)) (b := (1 : Int32)) rfl li1 (by omega) (by omega)
        refine zs_iadd (pc := 261) t281_261 (c := w22v) w22e ?_
        have w23 : zIv mLo mHi (zsI (zsI (zsI (zsI (zsI w15M 345 w14n (zI M 336 19)) 346 w14n (zI M 336 20)) 347 w14n (zI M 336 21)) 348 w14n (zI M 336 18)) 336 22 w22v) := zIv.put w21 (show 0 ≤ w22v.toInt ∧ w22v.toInt ≤ 20 from ⟨by omega, by omega⟩)
        have w24 : (zI (zsI (zsI (zsI (zsI w15M 345 w14n (zI M 336 19)) 346 w14n (zI M 336 20)) 347 w14n (zI M 336 21)) 348 w14n (zI M 336 18)) 336 22).toInt = (zI M 336 22).toInt := (congrArg Int32.toInt ((zIo (by decide)).trans ((zIo (by decide)).trans ((zIo (by decide)).trans ((zIo (by decide)).trans ((w15F 336 22 rfl).trans ((w13F 336 22 rfl).trans rfl))))))).trans rfl
        have w25 : (zI (zsI (zsI (zsI (zsI w15M 345 w14n (zI M 336 19)) 346 w14n (zI M 336 20)) 347 w14n (zI M 336 21)) 348 w14n (zI M 336 18)) 337 0).toInt = (zI M 337 0).toInt := (congrArg Int32.toInt ((zIo (by decide)).trans ((zIo (by decide)).trans ((zIo (by decide)).trans ((zIo (by decide)).trans ((w15F 337 0 rfl).trans ((w13F 337 0 rfl).trans rfl))))))).trans rfl
        have w26 : w22v.toInt = ((zI M 336 22).toInt + 1) := w22
        have w27 : (zI w15M 337 0).toInt = (zI M 337 0).toInt := (congrArg Int32.toInt ((w15F 337 0 rfl).trans ((w13F 337 0 rfl).trans rfl))).trans rfl
        have w28 : zPT (zsI (zsI (zsI (zsI (zsI w15M 345 w14n (zI M 336 19)) 346 w14n (zI M 336 20)) 347 w14n (zI M 336 21)) 348 w14n (zI M 336 18)) 336 22 w22v) := zPT.more (n := w14n) (zPT.fr (M' := (zsI (zsI (zsI (zsI w15M 345 w14n (zI M 336 19)) 346 w14n (zI M 336 20)) 347 w14n (zI M 336 21)) 348 w14n (zI M 336 18))) (zPT.fr (M' := (zsI (zsI (zsI w15M 345 w14n (zI M 336 19)) 346 w14n (zI M 336 20)) 347 w14n (zI M 336 21))) (zPT.fr (M' := (zsI (zsI w15M 345 w14n (zI M 336 19)) 346 w14n (zI M 336 20))) (zPT.fr (M' := (zsI w15M 345 w14n (zI M 336 19))) w15PT (zEq.put rfl)) (zEq.put rfl)) (zEq.put rfl)) (zEq.put rfl)) (by omega) (by omega) (zTk.fr (M' := (zsI (zsI (zsI (zsI w15M 345 w14n (zI M 336 19)) 346 w14n (zI M 336 20)) 347 w14n (zI M 336 21)) 348 w14n (zI M 336 18))) (zTk.fr (M' := (zsI (zsI (zsI w15M 345 w14n (zI M 336 19)) 346 w14n (zI M 336 20)) 347 w14n (zI M 336 21))) (zTk.fr (M' := (zsI (zsI w15M 345 w14n (zI M 336 19)) 346 w14n (zI M 336 20))) (zTk.fr (M' := (zsI w15M 345 w14n (zI M 336 19))) (zTk.mk w15t0 w15t1 (by omega) (by omega) (by omega) nl (by omega) (by omega)) (zEq.put rfl)) (zEq.put rfl)) (zEq.put rfl)) (zEq.put rfl))
        refine zs_putI (pc := 262) t281_262 (zk1 (w15s.k fk_zMm_336)) rfl ?_
        have w29 : (zI (zsI (zsI (zsI (zsI (zsI w15M 345 w14n (zI M 336 19)) 346 w14n (zI M 336 20)) 347 w14n (zI M 336 21)) 348 w14n (zI M 336 18)) 336 22 w22v) 336 22).toInt = ((zI M 336 22).toInt + 1) := (congrArg Int32.toInt zIs).trans w22
        exact zs_vret (pc := 265) t281_265 mr281 (hQ _ w15s w23 ((((((((zFr.refl).trans (w13F.mono rfl)).trans (w15F.mono rfl)).put rfl).put rfl).put rfl).put rfl).put rfl) (w15J.trans w13J) w28 (by omega))
      · refine zs_icmp_geF (pc := 49) t281_49 rfl rfl (by omega) ?_
        refine zs_bipush (pc := 52) t281_52 (v := -2) (by decide) ?_
        refine zs_istore (pc := 54) t281_54 (ls' := [(4, .int (-2 : Int32)), (0, .ref 336), (1, .int (zI M 336 22)), (2, .int w10v), (3, .int w15x3)]) (zml mf281 (by decide)) rfl ?_
        refine zs_iconst (pc := 56) t281_56 (v := 0) (by decide) ?_
        refine zs_istore (pc := 57) t281_57 (ls' := [(5, .int (0 : Int32)), (4, .int (-2 : Int32)), (0, .ref 336), (1, .int (zI M 336 22)), (2, .int w10v), (3, .int w15x3)]) (zml mf281 (by decide)) rfl ?_
        refine zs_iconst (pc := 59) t281_59 (v := 0) (by decide) ?_
        refine zs_istore (pc := 60) t281_60 (ls' := [(6, .int (0 : Int32)), (5, .int (0 : Int32)), (4, .int (-2 : Int32)), (0, .ref 336), (1, .int (zI M 336 22)), (2, .int w10v), (3, .int w15x3)]) (zml mf281 (by decide)) rfl ?_
        have w30L : ∀ (m : Nat) (w30x4 : Int32) (w30x5 : Int32) (w30x6 : Int32), ((-2) ≤ w30x4.toInt ∧ w30x4.toInt ≤ 59) → (0 ≤ w30x6.toInt ∧ w30x6.toInt ≤ 60) → (zIn M g1 w15x3.toInt w30x6.toInt w30x4.toInt) → (zIn M g2 w15x3.toInt w30x6.toInt w30x4.toInt) → (w30x4.toInt = -2 ∨ (0 ≤ w30x4.toInt ∧ zly M (w30x4.toInt).toNat = w15x3.toInt)) → 60 - w30x6.toInt ≤ (m : Int) → zGo X l 4 0 0 281 62 [(0, .ref 336), (1, .int (zI M 336 22)), (2, .int w10v), (3, .int w15x3), (4, .int w30x4), (5, .int w30x5), (6, .int w30x6)] [] w15M Q := by
          intro m
          induction m using Nat.strongRecOn with
          | ind w30m w30ih =>
            intro w30x4 w30x5 w30x6 w30b4 w30b6 w30t0 w30t1 w30t2 w30q
            have w30g5 := zrg w30x5
            refine zs_iload (pc := 62) t281_62 rfl ?_
            refine zs_aload_n (pc := 64) t281_64 rfl ?_
            refine zs_get (pc := 65) t281_65 (by decide) (zk1 (w15s.k fk_zMm_336)) (w15s.p rfl fv_zMm_336_0) ?_
            refine zs_iconst (pc := 68) t281_68 (v := 1) (by decide) ?_
            refine zs_iald (pc := 69) t281_69 (j := 1) (by decide) (zk1 (w15s.k fk_zMm_337)) li1 (zk2 (w15s.k fk_zMm_337) (by decide)) ((w15F 337 1 rfl).trans ((w13F 337 1 rfl).trans rfl)) ?_
            by_cases w31 : (zI M 337 1).toInt ≤ w30x6.toInt
            · refine zs_icmp_geT (pc := 70) t281_70 rfl rfl (by omega) ?_
              refine zs_aload_n (pc := 170) t281_170 rfl ?_
              refine zs_get (pc := 171) t281_171 (by decide) (zk1 (w15s.k fk_zMm_336)) (w15s.p rfl fv_zMm_336_27) ?_
              refine zs_bipush (pc := 174) t281_174 (v := 8) (by decide) ?_
              refine zs_iload_n (pc := 176) t281_176 rfl ?_
              obtain ⟨w32v, w32⟩ : ∃ v, (8 : Int32) * (zI M 336 22) = v := ⟨_, rfl⟩
              have w32g : w32v.toInt = 8 * (zI M 336 22).toInt := by rw [← w32]; exact zmulc li8 rfl (by omega) (by omega)
              refine zs_imul (pc := 177) t281_177 (c := w32v) w32 ?_
              refine zs_iload_n (pc := 178) t281_178 rfl ?_
              obtain ⟨w33v, w33e, w33⟩ := ziadd (a := w32v) (b := w15x3) w32g rfl (by omega) (by omega)
              refine zs_iadd (pc := 179) t281_179 (c := w33v) w33e ?_
              refine zs_iload (pc := 180) t281_180 rfl ?_
              obtain ⟨w34n, w34⟩ : ∃ n : Nat, w15x3.toInt = (n : Int) := ⟨(w15x3.toInt).toNat, by omega⟩
              have w35 : zIv mLo mHi (zsI w15M 349 (8 * w14n + w34n) w30x4) := zIv.put w15I (show (-2) ≤ w30x4.toInt ∧ w30x4.toInt ≤ 59 from ⟨by omega, by omega⟩)
              have w36 : (zI w15M 337 0).toInt = (zI M 337 0).toInt := (congrArg Int32.toInt ((w15F 337 0 rfl).trans ((w13F 337 0 rfl).trans rfl))).trans rfl
              have w37 : (zI w15M 336 22).toInt = (zI M 336 22).toInt := (congrArg Int32.toInt ((w15F 336 22 rfl).trans ((w13F 336 22 rfl).trans rfl))).trans rfl
              have w38 : zPT (zsI w15M 349 (8 * w14n + w34n) w30x4) := zPT.put w15PT (by omega) (by omega)
              refine zs_iast (pc := 182) t281_182 (j := (8 * w14n + w34n)) (by decide) (zk1 (w15s.k fk_zMm_349)) (show w33v.toInt = (((8 * w14n + w34n) : Nat) : Int) by omega) (zk2 (w15s.k fk_zMm_349) (by omega)) ?_
              refine zs_iload (pc := 183) t281_183 rfl ?_
              refine zs_bipush (pc := 185) t281_185 (v := -2) (by decide) ?_
              by_cases w39 : w30x4.toInt ≠ (-2)
              · refine zs_icmp_neT (pc := 187) t281_187 rfl lin2 (by omega) ?_
                refine zs_aload_n (pc := 193) t281_193 rfl ?_
                refine zs_get (pc := 194) t281_194 (by decide) (zk1 (w15s.k fk_zMm_336)) (w15s.p rfl fv_zMm_336_28) ?_
                refine zs_iload (pc := 197) t281_197 rfl ?_
                refine zs_iload_n (pc := 199) t281_199 rfl ?_
                obtain ⟨w40n, w40⟩ : ∃ n : Nat, w30x4.toInt = (n : Int) := ⟨w30x4.toInt.toNat, by omega⟩
                have w41 : zIv mLo mHi (zsI (zsI w15M 349 (8 * w14n + w34n) w30x4) 350 w40n (zI M 336 22)) := zIv.put w35 (show (-2147483648) ≤ (zI M 336 22).toInt ∧ (zI M 336 22).toInt ≤ 2147483647 from zrg (zI M 336 22))
                refine zs_iast (pc := 200) t281_200 (j := w40n) (by decide) (zk1 (w15s.k fk_zMm_350)) w40 (zk2 (w15s.k fk_zMm_350) (by omega)) ?_
                refine zs_aload_n (pc := 201) t281_201 rfl ?_
                refine zs_get (pc := 202) t281_202 (by decide) (zk1 (w15s.k fk_zMm_336)) (w15s.p rfl fv_zMm_336_16) ?_
                refine zs_iload (pc := 205) t281_205 rfl ?_
                refine zs_iconst (pc := 207) t281_207 (v := 0) (by decide) ?_
                have w42e : vp_nar .boolean (0 : Int32) = (0 : Int32) := by decide
                have w43 : zIv mLo mHi (zsI (zsI (zsI w15M 349 (8 * w14n + w34n) w30x4) 350 w40n (zI M 336 22)) 343 w40n (0 : Int32)) := zIv.put w41 (show 0 ≤ (0 : Int32).toInt ∧ (0 : Int32).toInt ≤ 1 from ⟨by decide, by decide⟩)
                refine zs_bastZ (pc := 208) t281_208 (j := w40n) (by decide) (zk1 (w15s.k fk_zMm_343)) w40 (zk2 (w15s.k fk_zMm_343) (by omega)) w42e ?_
                obtain ⟨w44v, w44e, w44⟩ := ziadd (a := w15x3) (b := Int32.ofInt 1) rfl (show (Int32.ofInt 1).toInt = 1 by decide) (by omega) (by omega)
                refine zs_iinc (pc := 209) t281_209 (ls' := [(3, .int w44v), (0, .ref 336), (1, .int (zI M 336 22)), (2, .int w10v), (4, .int w30x4), (5, .int w30x5), (6, .int w30x6)]) (zml mf281 (by decide)) rfl (c := w44v) w44e rfl ?_
                refine zs_goto (pc := 212) t281_212 ?_
                refine zGo.locals (ls' := [(0, .ref 336), (1, .int (zI M 336 22)), (2, .int w10v), (3, .int w44v)]) (by simp) ?_
                have w45 := w44
                exact w15ih (w15m - 1) (by omega) w44v (zsI (zsI (zsI w15M 349 (8 * w14n + w34n) w30x4) 350 w40n (zI M 336 22)) 343 w40n (0 : Int32)) ⟨by omega, by omega⟩ w15s w43 (((((zFr.refl).trans (w15F.mono rfl)).put rfl).put rfl).put rfl) w15J (zPT.fr (M' := (zsI (zsI (zsI w15M 349 (8 * w14n + w34n) w30x4) 350 w40n (zI M 336 22)) 343 w40n (0 : Int32))) (zPT.fr (M' := (zsI (zsI w15M 349 (8 * w14n + w34n) w30x4) 350 w40n (zI M 336 22))) w38 (zEq.put rfl)) (zEq.put rfl)) (zOu.take w15t0 (by omega) (show zly M w40n = w15x3.toInt from by
                      rcases w30t2 with z | z
                      · omega
                      · rw [show w30x4.toInt.toNat = w40n by omega] at z
                        exact z.2) (by omega) (by omega) (by omega)) (zOu.take w15t1 (by omega) (show zly M w40n = w15x3.toInt from by
                      rcases w30t2 with z | z
                      · omega
                      · rw [show w30x4.toInt.toNat = w40n by omega] at z
                        exact z.2) (by omega) (by omega) (by omega)) (by omega)
              · refine zs_icmp_neF (pc := 187) t281_187 rfl lin2 (by omega) ?_
                refine zs_goto (pc := 190) t281_190 ?_
                obtain ⟨w46v, w46e, w46⟩ := ziadd (a := w15x3) (b := Int32.ofInt 1) rfl (show (Int32.ofInt 1).toInt = 1 by decide) (by omega) (by omega)
                refine zs_iinc (pc := 209) t281_209 (ls' := [(3, .int w46v), (0, .ref 336), (1, .int (zI M 336 22)), (2, .int w10v), (4, .int w30x4), (5, .int w30x5), (6, .int w30x6)]) (zml mf281 (by decide)) rfl (c := w46v) w46e rfl ?_
                refine zs_goto (pc := 212) t281_212 ?_
                refine zGo.locals (ls' := [(0, .ref 336), (1, .int (zI M 336 22)), (2, .int w10v), (3, .int w46v)]) (by simp) ?_
                have w47 := w46
                exact w15ih (w15m - 1) (by omega) w46v (zsI w15M 349 (8 * w14n + w34n) w30x4) ⟨by omega, by omega⟩ w15s w35 (((zFr.refl).trans (w15F.mono rfl)).put rfl) w15J w38 (zOu.miss w15t0 (fun z => absurd (by omega) (w30t0 z (by omega))) (by omega) (by omega) (by omega)) (zOu.miss w15t1 (fun z => absurd (by omega) (w30t1 z (by omega))) (by omega) (by omega) (by omega)) (by omega)
            · refine zs_icmp_geF (pc := 70) t281_70 rfl rfl (by omega) ?_
              refine zs_aload_n (pc := 73) t281_73 rfl ?_
              refine zs_get (pc := 74) t281_74 (by decide) (zk1 (w15s.k fk_zMm_336)) (w15s.p rfl fv_zMm_336_16) ?_
              refine zs_iload (pc := 77) t281_77 rfl ?_
              obtain ⟨w48n, w48⟩ : ∃ n : Nat, w30x6.toInt = (n : Int) := ⟨(w30x6.toInt).toNat, by omega⟩
              have w49 := ib343 w15I w48n
              refine zs_bald (pc := 79) t281_79 (j := w48n) (Or.inr (zk1 (w15s.k fk_zMm_343))) (show w30x6.toInt = ((w48n : Nat) : Int) by omega) (zk2 (w15s.k fk_zMm_343) (by omega)) rfl ?_
              by_cases w50 : (zI w15M 343 w48n).toInt = 0
              · refine zs_if_eqT (pc := 80) t281_80 rfl (by omega) ?_
                obtain ⟨w51v, w51e, w51⟩ := ziadd (a := w30x6) (b := Int32.ofInt 1) rfl (show (Int32.ofInt 1).toInt = 1 by decide) (by omega) (by omega)
                refine zs_iinc (pc := 164) t281_164 (ls' := [(6, .int w51v), (0, .ref 336), (1, .int (zI M 336 22)), (2, .int w10v), (3, .int w15x3), (4, .int w30x4), (5, .int w30x5)]) (zml mf281 (by decide)) rfl (c := w51v) w51e rfl ?_
                refine zs_goto (pc := 167) t281_167 ?_
                refine zGo.locals (ls' := [(0, .ref 336), (1, .int (zI M 336 22)), (2, .int w10v), (3, .int w15x3), (4, .int w30x4), (5, .int w30x5), (6, .int w51v)]) (by simp) ?_
                have w52 := w51
                exact w30ih (w30m - 1) (by omega) w30x4 w30x5 w51v ⟨by omega, by omega⟩ ⟨by omega, by omega⟩ (fun q1 q2 => by
                      by_cases hh : (g1 : Int) < w30x6.toInt
                      · exact w30t0 q1 hh
                      · obtain rfl : g1 = w48n := by omega
                        have z1 := w15t0.2 (by omega)
                        unfold zly at q1
                        omega) (fun q1 q2 => by
                      by_cases hh : (g2 : Int) < w30x6.toInt
                      · exact w30t1 q1 hh
                      · obtain rfl : g2 = w48n := by omega
                        have z1 := w15t1.2 (by omega)
                        unfold zly at q1
                        omega) w30t2 (by omega)
              · refine zs_if_eqF (pc := 80) t281_80 rfl (by omega) ?_
                refine zs_aload_n (pc := 83) t281_83 rfl ?_
                refine zs_iload (pc := 84) t281_84 rfl ?_
                refine zs_iconst (pc := 86) t281_86 (v := 0) (by decide) ?_
                refine zs_invV (pc := 87) (k := 336) (as' := [.int w30x6, .int (0 : Int32)]) (st := []) t281_87 mf272 rfl rfl (Or.inl ⟨by decide, (zk1 (w15s.k fk_zMm_336))⟩) ⟨by decide, by decide, Nat.le_of_ble_eq_true rfl, Nat.le_of_ble_eq_true rfl⟩ (zs_in (by decide) mf272 (Nat.le_of_ble_eq_true rfl) ?_) (fun _ _ q => q)
                show zGo X l 0 0 0 272 0 [(0, .ref 336), (1, .int w30x6), (2, .int (0 : Int32))] [] w15M _
                refine zs_aload_n (pc := 0) t272_0 rfl ?_
                refine zs_get (pc := 1) t272_1 (by decide) (zk1 (w15s.k fk_zMm_336)) (w15s.p rfl fv_zMm_336_0) ?_
                refine zs_bipush (pc := 4) t272_4 (v := 30) (by decide) ?_
                refine zs_iconst (pc := 6) t272_6 (v := 4) (by decide) ?_
                refine zs_iload_n (pc := 7) t272_7 rfl ?_
                obtain ⟨w53v, w53⟩ : ∃ v, (4 : Int32) * w30x6 = v := ⟨_, rfl⟩
                have w53g : w53v.toInt = 4 * w30x6.toInt := by rw [← w53]; exact zmulc li4 rfl (by omega) (by omega)
                refine zs_imul (pc := 8) t272_8 (c := w53v) w53 ?_
                obtain ⟨w54v, w54e, w54⟩ := ziadd (a := (30 : Int32)) (b := w53v) li30 w53g (by omega) (by omega)
                refine zs_iadd (pc := 9) t272_9 (c := w54v) w54e ?_
                refine zs_iload_n (pc := 10) t272_10 rfl ?_
                obtain ⟨w55v, w55e, w55⟩ := ziadd (a := w54v) (b := (0 : Int32)) w54 li0 (by omega) (by omega)
                refine zs_iadd (pc := 11) t272_11 (c := w55v) w55e ?_
                have w56 := ibL (j := (30 + 4 * w48n)) hI (by omega) (by omega) (by omega)
                refine zs_iald (pc := 12) t272_12 (j := (30 + 4 * w48n)) (by decide) (zk1 (w15s.k fk_zMm_337)) (show w55v.toInt = (((30 + 4 * w48n) : Nat) : Int) by omega) (zk2 (w15s.k fk_zMm_337) (by omega)) ((w15F 337 (30 + 4 * w48n) rfl).trans ((w13F 337 (30 + 4 * w48n) rfl).trans rfl)) ?_
                refine zs_iret (pc := 13) t272_13 mr272 rfl ?_
                show zGo X l 4 0 0 281 90 [(0, .ref 336), (1, .int (zI M 336 22)), (2, .int w10v), (3, .int w15x3), (4, .int w30x4), (5, .int w30x5), (6, .int w30x6)] [.int (zI M 337 (30 + 4 * w48n))] w15M _
                refine zs_iload_n (pc := 90) t281_90 rfl ?_
                by_cases w57 : (zI M 337 (30 + 4 * w48n)).toInt ≠ w15x3.toInt
                · refine zs_icmp_neT (pc := 91) t281_91 rfl rfl (by omega) ?_
                  obtain ⟨w58v, w58e, w58⟩ := ziadd (a := w30x6) (b := Int32.ofInt 1) rfl (show (Int32.ofInt 1).toInt = 1 by decide) (by omega) (by omega)
                  refine zs_iinc (pc := 164) t281_164 (ls' := [(6, .int w58v), (0, .ref 336), (1, .int (zI M 336 22)), (2, .int w10v), (3, .int w15x3), (4, .int w30x4), (5, .int w30x5)]) (zml mf281 (by decide)) rfl (c := w58v) w58e rfl ?_
                  refine zs_goto (pc := 167) t281_167 ?_
                  refine zGo.locals (ls' := [(0, .ref 336), (1, .int (zI M 336 22)), (2, .int w10v), (3, .int w15x3), (4, .int w30x4), (5, .int w30x5), (6, .int w58v)]) (by simp) ?_
                  have w59 := w58
                  exact w30ih (w30m - 1) (by omega) w30x4 w30x5 w58v ⟨by omega, by omega⟩ ⟨by omega, by omega⟩ (fun q1 q2 => by
                        by_cases hh : (g1 : Int) < w30x6.toInt
                        · exact w30t0 q1 hh
                        · obtain rfl : g1 = w48n := by omega
                          have z1 := w15t0.2 (by omega)
                          unfold zly at q1
                          omega) (fun q1 q2 => by
                        by_cases hh : (g2 : Int) < w30x6.toInt
                        · exact w30t1 q1 hh
                        · obtain rfl : g2 = w48n := by omega
                          have z1 := w15t1.2 (by omega)
                          unfold zly at q1
                          omega) w30t2 (by omega)
                · refine zs_icmp_neF (pc := 91) t281_91 rfl rfl (by omega) ?_
                  refine zs_aload_n (pc := 94) t281_94 rfl ?_
                  refine zs_get (pc := 95) t281_95 (by decide) (zk1 (w15s.k fk_zMm_336)) (w15s.p rfl fv_zMm_336_17) ?_
                  refine zs_iload (pc := 98) t281_98 rfl ?_
                  have w60 := zrg (zI w13M 344 w48n)
                  refine zs_iald (pc := 100) t281_100 (j := w48n) (by decide) (zk1 (w15s.k fk_zMm_344)) (show w30x6.toInt = ((w48n : Nat) : Int) by omega) (zk2 (w15s.k fk_zMm_344) (by omega)) ((w15F 344 w48n rfl).trans rfl) ?_
                  refine zs_aload_n (pc := 101) t281_101 rfl ?_
                  refine zs_get (pc := 102) t281_102 (by decide) (zk1 (w15s.k fk_zMm_336)) (zfvi rfl ((w15F 336 21 rfl).trans ((w13F 336 21 rfl).trans rfl))) ?_
                  by_cases w61 : (zI w13M 344 w48n).toInt = (zI M 336 21).toInt
                  · refine zs_icmp_eqT (pc := 105) t281_105 rfl rfl (by omega) ?_
                    refine zs_aload_n (pc := 111) t281_111 rfl ?_
                    refine zs_iload (pc := 112) t281_112 rfl ?_
                    refine zs_iconst (pc := 114) t281_114 (v := 1) (by decide) ?_
                    refine zs_invV (pc := 115) (k := 336) (as' := [.int w30x6, .int (1 : Int32)]) (st := []) t281_115 mf272 rfl rfl (Or.inl ⟨by decide, (zk1 (w15s.k fk_zMm_336))⟩) ⟨by decide, by decide, Nat.le_of_ble_eq_true rfl, Nat.le_of_ble_eq_true rfl⟩ (zs_in (by decide) mf272 (Nat.le_of_ble_eq_true rfl) ?_) (fun _ _ q => q)
                    show zGo X l 0 0 0 272 0 [(0, .ref 336), (1, .int w30x6), (2, .int (1 : Int32))] [] w15M _
                    refine zs_aload_n (pc := 0) t272_0 rfl ?_
                    refine zs_get (pc := 1) t272_1 (by decide) (zk1 (w15s.k fk_zMm_336)) (w15s.p rfl fv_zMm_336_0) ?_
                    refine zs_bipush (pc := 4) t272_4 (v := 30) (by decide) ?_
                    refine zs_iconst (pc := 6) t272_6 (v := 4) (by decide) ?_
                    refine zs_iload_n (pc := 7) t272_7 rfl ?_
                    obtain ⟨w62v, w62⟩ : ∃ v, (4 : Int32) * w30x6 = v := ⟨_, rfl⟩
                    have w62g : w62v.toInt = 4 * w30x6.toInt := by rw [← w62]; exact zmulc li4 rfl (by omega) (by omega)
                    refine zs_imul (pc := 8) t272_8 (c := w62v) w62 ?_
                    obtain ⟨w63v, w63e, w63⟩ := ziadd (a := (30 : Int32)) (b := w62v) li30 w62g (by omega) (by omega)
                    refine zs_iadd (pc := 9) t272_9 (c := w63v) w63e ?_
                    refine zs_iload_n (pc := 10) t272_10 rfl ?_
                    obtain ⟨w64v, w64e, w64⟩ := ziadd (a := w63v) (b := (1 : Int32)) w63 li1 (by omega) (by omega)
                    refine zs_iadd (pc := 11) t272_11 (c := w64v) w64e ?_
                    have w65 := zrg (zI M 337 (31 + 4 * w48n))
                    refine zs_iald (pc := 12) t272_12 (j := (31 + 4 * w48n)) (by decide) (zk1 (w15s.k fk_zMm_337)) (show w64v.toInt = (((31 + 4 * w48n) : Nat) : Int) by omega) (zk2 (w15s.k fk_zMm_337) (by omega)) ((w15F 337 (31 + 4 * w48n) rfl).trans ((w13F 337 (31 + 4 * w48n) rfl).trans rfl)) ?_
                    refine zs_iret (pc := 13) t272_13 mr272 rfl ?_
                    show zGo X l 4 0 0 281 118 [(0, .ref 336), (1, .int (zI M 336 22)), (2, .int w10v), (3, .int w15x3), (4, .int w30x4), (5, .int w30x5), (6, .int w30x6)] [.int (zI M 337 (31 + 4 * w48n))] w15M _
                    refine zs_aload_n (pc := 118) t281_118 rfl ?_
                    refine zs_iload_n (pc := 119) t281_119 rfl ?_
                    refine zs_aload_n (pc := 120) t281_120 rfl ?_
                    refine zs_get (pc := 121) t281_121 (by decide) (zk1 (w15s.k fk_zMm_336)) (zfvi rfl ((w15F 336 20 rfl).trans ((w13F 336 20 rfl).trans rfl))) ?_
                    refine zs_aload_n (pc := 124) t281_124 rfl ?_
                    refine zs_get (pc := 125) t281_125 (by decide) (zk1 (w15s.k fk_zMm_336)) (zfvi rfl ((w15F 336 19 rfl).trans ((w13F 336 19 rfl).trans rfl))) ?_
                    refine zs_invV (pc := 128) (k := 336) (as' := [.int w15x3, .int (zI M 336 20), .int (zI M 336 19)]) (st := [.int (zI M 337 (31 + 4 * w48n))]) t281_128 mf249 rfl rfl (Or.inl ⟨by decide, (zk1 (w15s.k fk_zMm_336))⟩) ⟨by decide, by decide, Nat.le_of_ble_eq_true rfl, Nat.le_of_ble_eq_true rfl⟩ (K249 w15s w15I ⟨by omega, by omega⟩ ?_) (fun _ _ q => q)
                    have w66 := zrg (zlift w15M w15x3 (zI M 336 20) (zI M 336 19))
                    show zGo X l 4 0 0 281 131 [(0, .ref 336), (1, .int (zI M 336 22)), (2, .int w10v), (3, .int w15x3), (4, .int w30x4), (5, .int w30x5), (6, .int w30x6)] [.int (zlift w15M w15x3 (zI M 336 20) (zI M 336 19)), .int (zI M 337 (31 + 4 * w48n))] w15M _
                    obtain ⟨w67v, w67⟩ : ∃ v, v = (zI M 337 (31 + 4 * w48n)) - (zlift w15M w15x3 (zI M 336 20) (zI M 336 19)) := ⟨_, rfl⟩
                    have w67g := zrg w67v
                    refine zs_isub (pc := 131) t281_131 (c := w67v) w67.symm ?_
                    refine zs_iload_n (pc := 132) t281_132 rfl ?_
                    obtain ⟨w68v, w68⟩ : ∃ v, v = w67v - w10v := ⟨_, rfl⟩
                    have w68g := zrg w68v
                    refine zs_isub (pc := 133) t281_133 (c := w68v) w68.symm ?_
                    refine zs_invS (pc := 134) (as := [.int w68v]) (st := []) t281_134 (by decide) mf280 rfl rfl ⟨by decide, by decide, Nat.le_of_ble_eq_true rfl, Nat.le_of_ble_eq_true rfl⟩ (zs_in (by decide) mf280 (Nat.le_of_ble_eq_true rfl) ?_) (fun _ _ q => q)
                    show zGo X l 0 0 0 280 0 [(0, .int w68v)] [] w15M _
                    refine zs_iload_n (pc := 0) t280_0 rfl ?_
                    by_cases w69 : 0 ≤ w68v.toInt
                    · refine zs_if_geT (pc := 1) t280_1 rfl (by omega) ?_
                      refine zs_iload_n (pc := 9) t280_9 rfl ?_
                      refine zs_iret (pc := 10) t280_10 mr280 rfl ?_
                      show zGo X l 4 0 0 281 137 [(0, .ref 336), (1, .int (zI M 336 22)), (2, .int w10v), (3, .int w15x3), (4, .int w30x4), (5, .int w30x5), (6, .int w30x6)] [.int w68v] w15M _
                      refine zs_istore (pc := 137) t281_137 (ls' := [(7, .int w68v), (0, .ref 336), (1, .int (zI M 336 22)), (2, .int w10v), (3, .int w15x3), (4, .int w30x4), (5, .int w30x5), (6, .int w30x6)]) (zml mf281 (by decide)) rfl ?_
                      refine zs_iload (pc := 139) t281_139 rfl ?_
                      refine zs_bipush (pc := 141) t281_141 (v := -2) (by decide) ?_
                      by_cases w70 : w30x4.toInt = (-2)
                      · refine zs_icmp_eqT (pc := 143) t281_143 rfl lin2 (by omega) ?_
                        refine zs_iload (pc := 156) t281_156 rfl ?_
                        refine zs_istore (pc := 158) t281_158 (ls' := [(4, .int w30x6), (7, .int w68v), (0, .ref 336), (1, .int (zI M 336 22)), (2, .int w10v), (3, .int w15x3), (5, .int w30x5), (6, .int w30x6)]) (zml mf281 (by decide)) rfl ?_
                        refine zs_iload (pc := 160) t281_160 rfl ?_
                        refine zs_istore (pc := 162) t281_162 (ls' := [(5, .int w68v), (4, .int w30x6), (7, .int w68v), (0, .ref 336), (1, .int (zI M 336 22)), (2, .int w10v), (3, .int w15x3), (6, .int w30x6)]) (zml mf281 (by decide)) rfl ?_
                        obtain ⟨w71v, w71e, w71⟩ := ziadd (a := w30x6) (b := Int32.ofInt 1) rfl (show (Int32.ofInt 1).toInt = 1 by decide) (by omega) (by omega)
                        refine zs_iinc (pc := 164) t281_164 (ls' := [(6, .int w71v), (5, .int w68v), (4, .int w30x6), (7, .int w68v), (0, .ref 336), (1, .int (zI M 336 22)), (2, .int w10v), (3, .int w15x3)]) (zml mf281 (by decide)) rfl (c := w71v) w71e rfl ?_
                        refine zs_goto (pc := 167) t281_167 ?_
                        refine zGo.locals (ls' := [(0, .ref 336), (1, .int (zI M 336 22)), (2, .int w10v), (3, .int w15x3), (4, .int w30x6), (5, .int w68v), (6, .int w71v)]) (by simp) ?_
                        have w72 := w71
                        exact w30ih (w30m - 1) (by omega) w30x6 w68v w71v ⟨by omega, by omega⟩ ⟨by omega, by omega⟩ (fun _ _ => by omega) (fun _ _ => by omega) (Or.inr (by rw [show w30x6.toInt.toNat = w48n by omega]; unfold zly; omega)) (by omega)
                      · refine zs_icmp_eqF (pc := 143) t281_143 rfl lin2 (by omega) ?_
                        refine zs_iload (pc := 146) t281_146 rfl ?_
                        refine zs_iload (pc := 148) t281_148 rfl ?_
                        by_cases w73 : w68v.toInt < w30x5.toInt
                        · refine zs_icmp_ltT (pc := 150) t281_150 rfl rfl (by omega) ?_
                          refine zs_iload (pc := 156) t281_156 rfl ?_
                          refine zs_istore (pc := 158) t281_158 (ls' := [(4, .int w30x6), (7, .int w68v), (0, .ref 336), (1, .int (zI M 336 22)), (2, .int w10v), (3, .int w15x3), (5, .int w30x5), (6, .int w30x6)]) (zml mf281 (by decide)) rfl ?_
                          refine zs_iload (pc := 160) t281_160 rfl ?_
                          refine zs_istore (pc := 162) t281_162 (ls' := [(5, .int w68v), (4, .int w30x6), (7, .int w68v), (0, .ref 336), (1, .int (zI M 336 22)), (2, .int w10v), (3, .int w15x3), (6, .int w30x6)]) (zml mf281 (by decide)) rfl ?_
                          obtain ⟨w74v, w74e, w74⟩ := ziadd (a := w30x6) (b := Int32.ofInt 1) rfl (show (Int32.ofInt 1).toInt = 1 by decide) (by omega) (by omega)
                          refine zs_iinc (pc := 164) t281_164 (ls' := [(6, .int w74v), (5, .int w68v), (4, .int w30x6), (7, .int w68v), (0, .ref 336), (1, .int (zI M 336 22)), (2, .int w10v), (3, .int w15x3)]) (zml mf281 (by decide)) rfl (c := w74v) w74e rfl ?_
                          refine zs_goto (pc := 167) t281_167 ?_
                          refine zGo.locals (ls' := [(0, .ref 336), (1, .int (zI M 336 22)), (2, .int w10v), (3, .int w15x3), (4, .int w30x6), (5, .int w68v), (6, .int w74v)]) (by simp) ?_
                          have w75 := w74
                          exact w30ih (w30m - 1) (by omega) w30x6 w68v w74v ⟨by omega, by omega⟩ ⟨by omega, by omega⟩ (fun _ _ => by omega) (fun _ _ => by omega) (Or.inr (by rw [show w30x6.toInt.toNat = w48n by omega]; unfold zly; omega)) (by omega)
                        · refine zs_icmp_ltF (pc := 150) t281_150 rfl rfl (by omega) ?_
                          refine zs_goto (pc := 153) t281_153 ?_
                          obtain ⟨w76v, w76e, w76⟩ := ziadd (a := w30x6) (b := Int32.ofInt 1) rfl (show (Int32.ofInt 1).toInt = 1 by decide) (by omega) (by omega)
                          refine zs_iinc (pc := 164) t281_164 (ls' := [(6, .int w76v), (7, .int w68v), (0, .ref 336), (1, .int (zI M 336 22)), (2, .int w10v), (3, .int w15x3), (4, .int w30x4), (5, .int w30x5)]) (zml mf281 (by decide)) rfl (c := w76v) w76e rfl ?_
                          refine zs_goto (pc := 167) t281_167 ?_
                          refine zGo.locals (ls' := [(0, .ref 336), (1, .int (zI M 336 22)), (2, .int w10v), (3, .int w15x3), (4, .int w30x4), (5, .int w30x5), (6, .int w76v)]) (by simp) ?_
                          have w77 := w76
                          exact w30ih (w30m - 1) (by omega) w30x4 w30x5 w76v ⟨by omega, by omega⟩ ⟨by omega, by omega⟩ (fun q1 q2 => by
                                by_cases hh : (g1 : Int) < w30x6.toInt
                                · exact w30t0 q1 hh
                                · obtain rfl : g1 = w48n := by omega
                                  have z1 := w15t0.2 (by omega)
                                  unfold zly at q1
                                  omega) (fun q1 q2 => by
                                by_cases hh : (g2 : Int) < w30x6.toInt
                                · exact w30t1 q1 hh
                                · obtain rfl : g2 = w48n := by omega
                                  have z1 := w15t1.2 (by omega)
                                  unfold zly at q1
                                  omega) w30t2 (by omega)
                    · refine zs_if_geF (pc := 1) t280_1 rfl (by omega) ?_
                      refine zs_iload_n (pc := 4) t280_4 rfl ?_
                      obtain ⟨w78v, w78e⟩ : ∃ v, -w68v = v := ⟨_, rfl⟩
                      have w78 := zrg w78v
                      refine zs_ineg (pc := 5) t280_5 (c := w78v) w78e ?_
                      refine zs_goto (pc := 6) t280_6 ?_
                      refine zs_iret (pc := 10) t280_10 mr280 rfl ?_
                      show zGo X l 4 0 0 281 137 [(0, .ref 336), (1, .int (zI M 336 22)), (2, .int w10v), (3, .int w15x3), (4, .int w30x4), (5, .int w30x5), (6, .int w30x6)] [.int w78v] w15M _
                      refine zs_istore (pc := 137) t281_137 (ls' := [(7, .int w78v), (0, .ref 336), (1, .int (zI M 336 22)), (2, .int w10v), (3, .int w15x3), (4, .int w30x4), (5, .int w30x5), (6, .int w30x6)]) (zml mf281 (by decide)) rfl ?_
                      refine zs_iload (pc := 139) t281_139 rfl ?_
                      refine zs_bipush (pc := 141) t281_141 (v := -2) (by decide) ?_
                      by_cases w79 : w30x4.toInt = (-2)
                      · refine zs_icmp_eqT (pc := 143) t281_143 rfl lin2 (by omega) ?_
                        refine zs_iload (pc := 156) t281_156 rfl ?_
                        refine zs_istore (pc := 158) t281_158 (ls' := [(4, .int w30x6), (7, .int w78v), (0, .ref 336), (1, .int (zI M 336 22)), (2, .int w10v), (3, .int w15x3), (5, .int w30x5), (6, .int w30x6)]) (zml mf281 (by decide)) rfl ?_
                        refine zs_iload (pc := 160) t281_160 rfl ?_
                        refine zs_istore (pc := 162) t281_162 (ls' := [(5, .int w78v), (4, .int w30x6), (7, .int w78v), (0, .ref 336), (1, .int (zI M 336 22)), (2, .int w10v), (3, .int w15x3), (6, .int w30x6)]) (zml mf281 (by decide)) rfl ?_
                        obtain ⟨w80v, w80e, w80⟩ := ziadd (a := w30x6) (b := Int32.ofInt 1) rfl (show (Int32.ofInt 1).toInt = 1 by decide) (by omega) (by omega)
                        refine zs_iinc (pc := 164) t281_164 (ls' := [(6, .int w80v), (5, .int w78v), (4, .int w30x6), (7, .int w78v), (0, .ref 336), (1, .int (zI M 336 22)), (2, .int w10v), (3, .int w15x3)]) (zml mf281 (by decide)) rfl (c := w80v) w80e rfl ?_
                        refine zs_goto (pc := 167) t281_167 ?_
                        refine zGo.locals (ls' := [(0, .ref 336), (1, .int (zI M 336 22)), (2, .int w10v), (3, .int w15x3), (4, .int w30x6), (5, .int w78v), (6, .int w80v)]) (by simp) ?_
                        have w81 := w80
                        exact w30ih (w30m - 1) (by omega) w30x6 w78v w80v ⟨by omega, by omega⟩ ⟨by omega, by omega⟩ (fun _ _ => by omega) (fun _ _ => by omega) (Or.inr (by rw [show w30x6.toInt.toNat = w48n by omega]; unfold zly; omega)) (by omega)
                      · refine zs_icmp_eqF (pc := 143) t281_143 rfl lin2 (by omega) ?_
                        refine zs_iload (pc := 146) t281_146 rfl ?_
                        refine zs_iload (pc := 148) t281_148 rfl ?_
                        by_cases w82 : w78v.toInt < w30x5.toInt
                        · refine zs_icmp_ltT (pc := 150) t281_150 rfl rfl (by omega) ?_
                          refine zs_iload (pc := 156) t281_156 rfl ?_
                          refine zs_istore (pc := 158) t281_158 (ls' := [(4, .int w30x6), (7, .int w78v), (0, .ref 336), (1, .int (zI M 336 22)), (2, .int w10v), (3, .int w15x3), (5, .int w30x5), (6, .int w30x6)]) (zml mf281 (by decide)) rfl ?_
                          refine zs_iload (pc := 160) t281_160 rfl ?_
                          refine zs_istore (pc := 162) t281_162 (ls' := [(5, .int w78v), (4, .int w30x6), (7, .int w78v), (0, .ref 336), (1, .int (zI M 336 22)), (2, .int w10v), (3, .int w15x3), (6, .int w30x6)]) (zml mf281 (by decide)) rfl ?_
                          obtain ⟨w83v, w83e, w83⟩ := ziadd (a := w30x6) (b := Int32.ofInt 1) rfl (show (Int32.ofInt 1).toInt = 1 by decide) (by omega) (by omega)
                          refine zs_iinc (pc := 164) t281_164 (ls' := [(6, .int w83v), (5, .int w78v), (4, .int w30x6), (7, .int w78v), (0, .ref 336), (1, .int (zI M 336 22)), (2, .int w10v), (3, .int w15x3)]) (zml mf281 (by decide)) rfl (c := w83v) w83e rfl ?_
                          refine zs_goto (pc := 167) t281_167 ?_
                          refine zGo.locals (ls' := [(0, .ref 336), (1, .int (zI M 336 22)), (2, .int w10v), (3, .int w15x3), (4, .int w30x6), (5, .int w78v), (6, .int w83v)]) (by simp) ?_
                          have w84 := w83
                          exact w30ih (w30m - 1) (by omega) w30x6 w78v w83v ⟨by omega, by omega⟩ ⟨by omega, by omega⟩ (fun _ _ => by omega) (fun _ _ => by omega) (Or.inr (by rw [show w30x6.toInt.toNat = w48n by omega]; unfold zly; omega)) (by omega)
                        · refine zs_icmp_ltF (pc := 150) t281_150 rfl rfl (by omega) ?_
                          refine zs_goto (pc := 153) t281_153 ?_
                          obtain ⟨w85v, w85e, w85⟩ := ziadd (a := w30x6) (b := Int32.ofInt 1) rfl (show (Int32.ofInt 1).toInt = 1 by decide) (by omega) (by omega)
                          refine zs_iinc (pc := 164) t281_164 (ls' := [(6, .int w85v), (7, .int w78v), (0, .ref 336), (1, .int (zI M 336 22)), (2, .int w10v), (3, .int w15x3), (4, .int w30x4), (5, .int w30x5)]) (zml mf281 (by decide)) rfl (c := w85v) w85e rfl ?_
                          refine zs_goto (pc := 167) t281_167 ?_
                          refine zGo.locals (ls' := [(0, .ref 336), (1, .int (zI M 336 22)), (2, .int w10v), (3, .int w15x3), (4, .int w30x4), (5, .int w30x5), (6, .int w85v)]) (by simp) ?_
                          have w86 := w85
                          exact w30ih (w30m - 1) (by omega) w30x4 w30x5 w85v ⟨by omega, by omega⟩ ⟨by omega, by omega⟩ (fun q1 q2 => by
                                by_cases hh : (g1 : Int) < w30x6.toInt
                                · exact w30t0 q1 hh
                                · obtain rfl : g1 = w48n := by omega
                                  have z1 := w15t0.2 (by omega)
                                  unfold zly at q1
                                  omega) (fun q1 q2 => by
                                by_cases hh : (g2 : Int) < w30x6.toInt
                                · exact w30t1 q1 hh
                                · obtain rfl : g2 = w48n := by omega
                                  have z1 := w15t1.2 (by omega)
                                  unfold zly at q1
                                  omega) w30t2 (by omega)
                  · refine zs_icmp_eqF (pc := 105) t281_105 rfl rfl (by omega) ?_
                    refine zs_goto (pc := 108) t281_108 ?_
                    obtain ⟨w87v, w87e, w87⟩ := ziadd (a := w30x6) (b := Int32.ofInt 1) rfl (show (Int32.ofInt 1).toInt = 1 by decide) (by omega) (by omega)
                    refine zs_iinc (pc := 164) t281_164 (ls' := [(6, .int w87v), (0, .ref 336), (1, .int (zI M 336 22)), (2, .int w10v), (3, .int w15x3), (4, .int w30x4), (5, .int w30x5)]) (zml mf281 (by decide)) rfl (c := w87v) w87e rfl ?_
                    refine zs_goto (pc := 167) t281_167 ?_
                    refine zGo.locals (ls' := [(0, .ref 336), (1, .int (zI M 336 22)), (2, .int w10v), (3, .int w15x3), (4, .int w30x4), (5, .int w30x5), (6, .int w87v)]) (by simp) ?_
                    have w88 := w87
                    exact w30ih (w30m - 1) (by omega) w30x4 w30x5 w87v ⟨by omega, by omega⟩ ⟨by omega, by omega⟩ (fun q1 q2 => by
                          by_cases hh : (g1 : Int) < w30x6.toInt
                          · exact w30t0 q1 hh
                          · obtain rfl : g1 = w48n := by omega
                            have z1 := w15t0.2 (by omega)
                            unfold zly at q1
                            omega) (fun q1 q2 => by
                          by_cases hh : (g2 : Int) < w30x6.toInt
                          · exact w30t1 q1 hh
                          · obtain rfl : g2 = w48n := by omega
                            have z1 := w15t1.2 (by omega)
                            unfold zly at q1
                            omega) w30t2 (by omega)
        refine zGo.locals (ls' := [(0, .ref 336), (1, .int (zI M 336 22)), (2, .int w10v), (3, .int w15x3), (4, .int (-2 : Int32)), (5, .int (0 : Int32)), (6, .int (0 : Int32))]) (by simp) ?_
        have w89 := lin2
        have w90 := li0
        have w91 := li0
        exact w30L ((60 - 0 : Int).toNat) (-2 : Int32) (0 : Int32) (0 : Int32) ⟨by decide, by decide⟩ ⟨by decide, by decide⟩ (fun _ z => absurd z (by omega)) (fun _ z => absurd z (by omega)) (Or.inl (by omega)) (by omega)
  refine zGo.locals (ls' := [(0, .ref 336), (1, .int (zI M 336 22)), (2, .int w10v), (3, .int (0 : Int32))]) (by simp) ?_
  have w92 := li0
  exact w15L ((8 - 0 : Int).toNat) (0 : Int32) w13M ⟨by decide, by decide⟩ w13s w13I zFr.refl rfl (zPT.fr pT (w13F.eq rfl)) ⟨fun z => absurd z (by omega), fun _ => by rw [show zI w13M 343 g1 = zI M 343 g1 from (w13F 343 g1 rfl)]; exact b1⟩ ⟨fun z => absurd z (by omega), fun _ => by rw [show zI w13M 343 g2 = zI M 343 g2 from (w13F 343 g2 rfl)]; exact b2⟩ (by omega)
