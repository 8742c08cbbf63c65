set_option maxHeartbeats 8000000 in
theorem lc_31 {J : xe_J} {ov : List (List Int32)} (hJ : ∀ d mj as h, mj ≠ xe_loff → J d mj as h = none) {a0 a1 a2 a3 a4 a5 : Int32} (hov0 : ov[0]? = some [a0, a1, a2, a3, a4, a5]) (hov1 : ov[1]? = some [10, 0, 0, 0, 0, 0]) (hov2 : ov[2]? = some [99, 30, 50, 50, 1, 99999]) {h0 : xe_H} (F : xf_fr h0) (hn0 : h0.length ≤ 600002) (hz0 : xe_sz h0 ≤ 7302232) : xw J ov 100 196 (1441, [(4, .int 0), (3, .ref 167), (2, .ref 115), (1, .ref 0), (0, .ref 1000000)], [], h0) xf_Q := by
  have rr1 := xc_rng a1
  have rr2 := xc_rng a2
  have rr3 := xc_rng a3
  have rr4 := xc_rng a4
  have rr5 := xc_rng a5
  refine xi_aload_n (pc' := 1442) (x := 0) kc_196_1441 rfl rfl ?_
  refine xi_aload_n (pc' := 1443) (x := 1000000) kc_196_1442 rfl rfl ?_
  refine xi_iload (pc' := 1445) (x := 0) kc_196_1443 rfl rfl ?_
  refine xi_iconst (pc' := 1446) (v := 1) kc_196_1445 rfl rfl ?_
  refine xi_iadd (pc' := 1447) (v := 1) kc_196_1446 rfl rfl ?_
  refine xi_ialoadO (pc' := 1448) (v := a1) kc_196_1447 rfl (by decide) hov0 (xi_in (n := 6) (by decide) (by decide)) rfl ?_
  refine xi_aload_n (pc' := 1449) (x := 1000000) kc_196_1448 rfl rfl ?_
  refine xi_iload (pc' := 1451) (x := 0) kc_196_1449 rfl rfl ?_
  refine xi_iconst (pc' := 1452) (v := 2) kc_196_1451 rfl rfl ?_
  refine xi_iadd (pc' := 1453) (v := 2) kc_196_1452 rfl rfl ?_
  refine xi_ialoadO (pc' := 1454) (v := a2) kc_196_1453 rfl (by decide) hov0 (xi_in (n := 6) (by decide) (by decide)) rfl ?_
  refine xi_virtual (mj := 183) (as := [.int a1, .int a2]) (st1 := []) (lv0 := [(0, .ref 0), (1, .int a1), (2, .int a2)]) kc_196_1454 rfl rfl rfl rfl rfl (F 0 _ hl_0) (Nat.le_of_ble_eq_true rfl) (hJ _ _ _ _ (by decide)) (xm_le ml_183 rfl) rfl ?_
  refine xi_iload_n (pc' := 1) (x := a1) kc_183_0 rfl rfl ?_
  refine xi_static (mj := 118) (as := [.int a1]) (st1 := []) (lv0 := [(0, .int a1)]) kc_183_1 rfl rfl (Nat.le_of_ble_eq_true rfl) rfl rfl (Nat.le_of_ble_eq_true rfl) (hJ _ _ _ _ (by decide)) (xm_le ml_118 rfl) rfl ?_
  refine xi_iload_n (pc' := 1) (x := a1) kc_118_0 rfl rfl ?_
  by_cases c1 : a1.toInt < 0
  · refine xi_ift (pc' := 13) kc_118_1 rfl (xc_lt_t (X := a1.toInt) (Y := 0) rfl (by decide) (by omega)) ?_
    refine xi_iconst (pc' := 14) (v := 0) kc_118_13 rfl rfl ?_
    refine xi_ireturn kc_118_14 mr_118 rfl ?_
    show xw J ov 99 183 (4, [(0, .ref 0), (1, .int a1), (2, .int a2)], [.int 0], h0) _
    refine xi_ift (pc' := 16) kc_183_4 rfl rfl ?_
    refine xi_aload_n (pc' := 17) (x := 0) kc_183_16 rfl rfl ?_
    refine xi_bipush (pc' := 19) (v := (-2)) kc_183_17 rfl rfl ?_
    refine xi_virtual (mj := 91) (as := [.int (-2)]) (st1 := []) (lv0 := [(0, .ref 0), (1, .int (-2))]) kc_183_19 rfl rfl rfl rfl rfl (F 0 _ hl_0) (Nat.le_of_ble_eq_true rfl) (hJ _ _ _ _ (by decide)) (xm_le ml_91 rfl) rfl ?_
    refine xi_iload_n (pc' := 1) (x := (-2)) kc_91_0 rfl rfl ?_
    refine xi_ineg (pc' := 2) (v := 2) kc_91_1 rfl rfl ?_
    refine xi_istore_n (pc' := 3) (lv' := [(2, .int 2), (0, .ref 0), (1, .int (-2))]) kc_91_2 rfl rfl (xm_lt ml_91 rfl) ?_
    refine xi_iload_n (pc' := 4) (x := 2) kc_91_3 rfl rfl ?_
    refine xi_iff (pc' := 7) kc_91_4 rfl rfl ?_
    refine xi_iload_n (pc' := 8) (x := 2) kc_91_7 rfl rfl ?_
    refine xi_aload_n (pc' := 9) (x := 0) kc_91_8 rfl rfl ?_
    refine xi_getfield (pc' := 12) (v := .ref 94) kc_91_9 rfl rfl rfl (F 0 _ hl_0) rfl ?_
    refine xi_arraylength (pc' := 13) (n := 7) (v := 7) kc_91_12 rfl (xl_lenI (by decide) (by decide) (F 94 _ hl_94) (by simp only [List.length_replicate, List.length_cons, List.length_nil])) rfl ?_
    refine xi_cmf (pc' := 16) kc_91_13 rfl rfl ?_
    refine xi_aload_n (pc' := 17) (x := 0) kc_91_16 rfl rfl ?_
    refine xi_getfield (pc' := 20) (v := .ref 94) kc_91_17 rfl rfl rfl (F 0 _ hl_0) rfl ?_
    refine xi_iload_n (pc' := 21) (x := 2) kc_91_20 rfl rfl ?_
    refine xi_dup2 (pc' := 22) kc_91_21 rfl ⟨rfl, rfl⟩ ?_
    refine xi_iaload (pc' := 23) (v := 0) kc_91_22 rfl (F 94 _ hl_94) (by decide) rfl (xi_in (n := 7) (by decide) (by decide)) rfl ?_
    refine xi_iconst (pc' := 24) (v := 1) kc_91_23 rfl rfl ?_
    refine xi_iadd (pc' := 25) (v := 1) kc_91_24 rfl rfl ?_
    refine xi_iastore (pc' := 26) (x' := [0, 0, 1, 0, 0, 0, 0]) kc_91_25 rfl (F 94 _ hl_94) rfl (xi_in (n := 7) (by decide) (by decide)) rfl (fun hh1 eh1 => ?_)
    refine xi_iload_n (pc' := 27) (x := (-2)) kc_91_26 rfl rfl ?_
    refine xi_ireturn kc_91_27 mr_91 rfl ?_
    show xw J ov 99 183 (22, [(0, .ref 0), (1, .int a1), (2, .int a2)], [.int (-2)], hh1) _
    refine xi_ireturn kc_183_22 mr_183 rfl ?_
    show xw J ov 100 196 (1457, [(4, .int 0), (3, .ref 167), (2, .ref 115), (1, .ref 0), (0, .ref 1000000)], [.int (-2)], hh1) _
    refine xi_aload_n (pc' := 1458) (x := 115) kc_196_1457 rfl rfl ?_
    refine xi_aload_n (pc' := 1459) (x := 1000000) kc_196_1458 rfl rfl ?_
    refine xi_iload (pc' := 1461) (x := 0) kc_196_1459 rfl rfl ?_
    refine xi_iconst (pc' := 1462) (v := 1) kc_196_1461 rfl rfl ?_
    refine xi_iadd (pc' := 1463) (v := 1) kc_196_1462 rfl rfl ?_
    refine xi_ialoadO (pc' := 1464) (v := a1) kc_196_1463 rfl (by decide) hov0 (xi_in (n := 6) (by decide) (by decide)) rfl ?_
    refine xi_aload_n (pc' := 1465) (x := 1000000) kc_196_1464 rfl rfl ?_
    refine xi_iload (pc' := 1467) (x := 0) kc_196_1465 rfl rfl ?_
    refine xi_iconst (pc' := 1468) (v := 2) kc_196_1467 rfl rfl ?_
    refine xi_iadd (pc' := 1469) (v := 2) kc_196_1468 rfl rfl ?_
    refine xi_ialoadO (pc' := 1470) (v := a2) kc_196_1469 rfl (by decide) hov0 (xi_in (n := 6) (by decide) (by decide)) rfl ?_
    refine xi_virtual (mj := 74) (as := [.int a1, .int a2]) (st1 := [.int (-2)]) (lv0 := [(0, .ref 115), (1, .int a1), (2, .int a2)]) kc_196_1470 rfl rfl rfl rfl rfl ((eh1.2.1 115 (by decide)).trans (F 115 _ hl_115)) (Nat.le_of_ble_eq_true rfl) (hJ _ _ _ _ (by decide)) (xm_le ml_74 rfl) rfl ?_
    refine xi_aload_n (pc' := 1) (x := 115) kc_74_0 rfl rfl ?_
    refine xi_iconst (pc' := 2) (v := 0) kc_74_1 rfl rfl ?_
    refine xi_putfield (pc' := 5) (fs' := [.int 0, .int 0, .ref 116, .ref 117, .ref 118, .ref 119, .ref 120, .ref 121, .ref 122, .ref 123, .ref 124, .ref 125, .ref 126, .ref 127, .ref 128, .ref 129, .int 4, .ref 130, .int 0, .ref 131, .ref 132, .ref 133, .ref 134, .int 0, .ref 135, .ref 136, .ref 137, .ref 138, .ref 139, .ref 140, .ref 141, .ref 142, .int 0, .int 0, .int 0, .ref 143, .ref 144, .ref 145, .ref 146, .ref 147, .ref 148, .int 0, .ref 149, .ref 150, .ref 151, .int 0, .ref 152, .ref 153, .ref 154, .ref 155, .ref 156, .ref 157, .ref 158, .ref 159, .int 0, .ref 160, .int 0, .ref 161, .ref 162, .ref 163, .ref 164, .int 0, .ref 165, .ref 166]) kc_74_2 rfl rfl rfl ((eh1.2.1 115 (by decide)).trans (F 115 _ hl_115)) rfl rfl rfl (Nat.le_of_ble_eq_true rfl) rfl (fun hh2 eh2 => ?_)
    refine xi_iload_n (pc' := 6) (x := a1) kc_74_5 rfl rfl ?_
    refine xi_iconst (pc' := 7) (v := 0) kc_74_6 rfl rfl ?_
    refine xi_iconst (pc' := 8) (v := 3) kc_74_7 rfl rfl ?_
    refine xi_static (mj := 12) (as := [.int a1, .int 0, .int 3]) (st1 := []) (lv0 := [(0, .int a1), (1, .int 0), (2, .int 3)]) kc_74_8 rfl rfl (Nat.le_of_ble_eq_true rfl) rfl rfl (Nat.le_of_ble_eq_true rfl) (hJ _ _ _ _ (by decide)) (xm_le ml_12 rfl) rfl ?_
    refine xi_iload_n (pc' := 1) (x := a1) kc_12_0 rfl rfl ?_
    refine xi_iload_n (pc' := 2) (x := 0) kc_12_1 rfl rfl ?_
    refine xi_cmt (pc' := 14) kc_12_2 rfl (xc_lt_t (X := a1.toInt) (Y := 0) rfl (by decide) (by omega)) ?_
    refine xi_iconst (pc' := 15) (v := 0) kc_12_14 rfl rfl ?_
    refine xi_ireturn kc_12_15 mr_12 rfl ?_
    show xw J ov 99 74 (11, [(0, .ref 115), (1, .int a1), (2, .int a2)], [.int 0], hh2) _
    refine xi_ift (pc' := 23) kc_74_11 rfl rfl ?_
    refine xi_aload_n (pc' := 24) (x := 115) kc_74_23 rfl rfl ?_
    refine xi_bipush (pc' := 26) (v := (-2)) kc_74_24 rfl rfl ?_
    refine xi_virtual (mj := 13) (as := [.int (-2)]) (st1 := []) (lv0 := [(0, .ref 115), (1, .int (-2))]) kc_74_26 rfl rfl rfl rfl rfl eh2.1 (Nat.le_of_ble_eq_true rfl) (hJ _ _ _ _ (by decide)) (xm_le ml_13 rfl) rfl ?_
    refine xi_aload_n (pc' := 1) (x := 115) kc_13_0 rfl rfl ?_
    refine xi_getfield (pc' := 4) (v := .ref 140) kc_13_1 rfl rfl rfl eh2.1 rfl ?_
    refine xi_iload_n (pc' := 5) (x := (-2)) kc_13_4 rfl rfl ?_
    refine xi_ineg (pc' := 6) (v := 2) kc_13_5 rfl rfl ?_
    refine xi_dup2 (pc' := 7) kc_13_6 rfl ⟨rfl, rfl⟩ ?_
    refine xi_iaload (pc' := 8) (v := 0) kc_13_7 rfl ((eh2.2.1 140 (by decide)).trans ((eh1.2.1 140 (by decide)).trans (F 140 _ hl_140))) (by decide) rfl (xi_in (n := 7) (by decide) (by decide)) rfl ?_
    refine xi_iconst (pc' := 9) (v := 1) kc_13_8 rfl rfl ?_
    refine xi_iadd (pc' := 10) (v := 1) kc_13_9 rfl rfl ?_
    refine xi_iastore (pc' := 11) (x' := [0, 0, 1, 0, 0, 0, 0]) kc_13_10 rfl ((eh2.2.1 140 (by decide)).trans ((eh1.2.1 140 (by decide)).trans (F 140 _ hl_140))) rfl (xi_in (n := 7) (by decide) (by decide)) rfl (fun hh3 eh3 => ?_)
    refine xi_iload_n (pc' := 12) (x := (-2)) kc_13_11 rfl rfl ?_
    refine xi_ireturn kc_13_12 mr_13 rfl ?_
    show xw J ov 99 74 (29, [(0, .ref 115), (1, .int a1), (2, .int a2)], [.int (-2)], hh3) _
    refine xi_ireturn kc_74_29 mr_74 rfl ?_
    show xw J ov 100 196 (1473, [(4, .int 0), (3, .ref 167), (2, .ref 115), (1, .ref 0), (0, .ref 1000000)], [.int (-2), .int (-2)], hh3) _
    refine xi_cmt (pc' := 1528) kc_196_1473 rfl rfl ?_
    refine xi_iinc (pc' := 1531) (x := 0) (v := 6) (lv' := [(4, .int 6), (3, .ref 167), (2, .ref 115), (1, .ref 0), (0, .ref 1000000)]) kc_196_1528 rfl rfl rfl rfl (xm_lt ml_196 rfl) ?_
    refine xi_goto (pc' := 23) kc_196_1531 rfl ?_
    refine xi_iload (pc' := 25) (x := 6) kc_196_23 rfl rfl ?_
    refine xi_aload_n (pc' := 26) (x := 1000000) kc_196_25 rfl rfl ?_
    refine xi_arraylength (pc' := 27) (n := 6) (v := 6) kc_196_26 rfl (xl_lenO (by decide) hov0 rfl) rfl ?_
    refine xi_bipush (pc' := 29) (v := 6) kc_196_27 rfl rfl ?_
    refine xi_isub (pc' := 30) (v := 0) kc_196_29 rfl rfl ?_
    refine xi_cmt (pc' := 1534) kc_196_30 rfl rfl ?_
    refine xi_iconst (pc' := 1535) (v := 1) kc_196_1534 rfl rfl ?_
    refine xi_ireturn kc_196_1535 mr_196 rfl ?_
    refine ⟨rfl, ?_, ?_⟩
    · rw [eh3.2.2.1, eh2.2.2.1, eh1.2.2.1]; exact hn0
    · rw [eh3.2.2.2, eh2.2.2.2, eh1.2.2.2]; exact hz0
  · refine xi_iff (pc' := 4) kc_118_1 rfl (xc_lt_f (X := a1.toInt) (Y := 0) rfl (by decide) (by omega)) ?_
    refine xi_iload_n (pc' := 5) (x := a1) kc_118_4 rfl rfl ?_
    refine xi_iconst (pc' := 6) (v := 4) kc_118_5 rfl rfl ?_
    by_cases c2 : 4 ≤ a1.toInt
    · refine xi_cmt (pc' := 13) kc_118_6 rfl (xc_ge_t (X := a1.toInt) (Y := 4) rfl (by decide) (by omega)) ?_
      refine xi_iconst (pc' := 14) (v := 0) kc_118_13 rfl rfl ?_
      refine xi_ireturn kc_118_14 mr_118 rfl ?_
      show xw J ov 99 183 (4, [(0, .ref 0), (1, .int a1), (2, .int a2)], [.int 0], h0) _
      refine xi_ift (pc' := 16) kc_183_4 rfl rfl ?_
      refine xi_aload_n (pc' := 17) (x := 0) kc_183_16 rfl rfl ?_
      refine xi_bipush (pc' := 19) (v := (-2)) kc_183_17 rfl rfl ?_
      refine xi_virtual (mj := 91) (as := [.int (-2)]) (st1 := []) (lv0 := [(0, .ref 0), (1, .int (-2))]) kc_183_19 rfl rfl rfl rfl rfl (F 0 _ hl_0) (Nat.le_of_ble_eq_true rfl) (hJ _ _ _ _ (by decide)) (xm_le ml_91 rfl) rfl ?_
      refine xi_iload_n (pc' := 1) (x := (-2)) kc_91_0 rfl rfl ?_
      refine xi_ineg (pc' := 2) (v := 2) kc_91_1 rfl rfl ?_
      refine xi_istore_n (pc' := 3) (lv' := [(2, .int 2), (0, .ref 0), (1, .int (-2))]) kc_91_2 rfl rfl (xm_lt ml_91 rfl) ?_
      refine xi_iload_n (pc' := 4) (x := 2) kc_91_3 rfl rfl ?_
      refine xi_iff (pc' := 7) kc_91_4 rfl rfl ?_
      refine xi_iload_n (pc' := 8) (x := 2) kc_91_7 rfl rfl ?_
      refine xi_aload_n (pc' := 9) (x := 0) kc_91_8 rfl rfl ?_
      refine xi_getfield (pc' := 12) (v := .ref 94) kc_91_9 rfl rfl rfl (F 0 _ hl_0) rfl ?_
      refine xi_arraylength (pc' := 13) (n := 7) (v := 7) kc_91_12 rfl (xl_lenI (by decide) (by decide) (F 94 _ hl_94) (by simp only [List.length_replicate, List.length_cons, List.length_nil])) rfl ?_
      refine xi_cmf (pc' := 16) kc_91_13 rfl rfl ?_
      refine xi_aload_n (pc' := 17) (x := 0) kc_91_16 rfl rfl ?_
      refine xi_getfield (pc' := 20) (v := .ref 94) kc_91_17 rfl rfl rfl (F 0 _ hl_0) rfl ?_
      refine xi_iload_n (pc' := 21) (x := 2) kc_91_20 rfl rfl ?_
      refine xi_dup2 (pc' := 22) kc_91_21 rfl ⟨rfl, rfl⟩ ?_
      refine xi_iaload (pc' := 23) (v := 0) kc_91_22 rfl (F 94 _ hl_94) (by decide) rfl (xi_in (n := 7) (by decide) (by decide)) rfl ?_
      refine xi_iconst (pc' := 24) (v := 1) kc_91_23 rfl rfl ?_
      refine xi_iadd (pc' := 25) (v := 1) kc_91_24 rfl rfl ?_
      refine xi_iastore (pc' := 26) (x' := [0, 0, 1, 0, 0, 0, 0]) kc_91_25 rfl (F 94 _ hl_94) rfl (xi_in (n := 7) (by decide) (by decide)) rfl (fun hh1 eh1 => ?_)
      refine xi_iload_n (pc' := 27) (x := (-2)) kc_91_26 rfl rfl ?_
      refine xi_ireturn kc_91_27 mr_91 rfl ?_
      show xw J ov 99 183 (22, [(0, .ref 0), (1, .int a1), (2, .int a2)], [.int (-2)], hh1) _
      refine xi_ireturn kc_183_22 mr_183 rfl ?_
      show xw J ov 100 196 (1457, [(4, .int 0), (3, .ref 167), (2, .ref 115), (1, .ref 0), (0, .ref 1000000)], [.int (-2)], hh1) _
      refine xi_aload_n (pc' := 1458) (x := 115) kc_196_1457 rfl rfl ?_
      refine xi_aload_n (pc' := 1459) (x := 1000000) kc_196_1458 rfl rfl ?_
      refine xi_iload (pc' := 1461) (x := 0) kc_196_1459 rfl rfl ?_
      refine xi_iconst (pc' := 1462) (v := 1) kc_196_1461 rfl rfl ?_
      refine xi_iadd (pc' := 1463) (v := 1) kc_196_1462 rfl rfl ?_
      refine xi_ialoadO (pc' := 1464) (v := a1) kc_196_1463 rfl (by decide) hov0 (xi_in (n := 6) (by decide) (by decide)) rfl ?_
      refine xi_aload_n (pc' := 1465) (x := 1000000) kc_196_1464 rfl rfl ?_
      refine xi_iload (pc' := 1467) (x := 0) kc_196_1465 rfl rfl ?_
      refine xi_iconst (pc' := 1468) (v := 2) kc_196_1467 rfl rfl ?_
      refine xi_iadd (pc' := 1469) (v := 2) kc_196_1468 rfl rfl ?_
      refine xi_ialoadO (pc' := 1470) (v := a2) kc_196_1469 rfl (by decide) hov0 (xi_in (n := 6) (by decide) (by decide)) rfl ?_
      refine xi_virtual (mj := 74) (as := [.int a1, .int a2]) (st1 := [.int (-2)]) (lv0 := [(0, .ref 115), (1, .int a1), (2, .int a2)]) kc_196_1470 rfl rfl rfl rfl rfl ((eh1.2.1 115 (by decide)).trans (F 115 _ hl_115)) (Nat.le_of_ble_eq_true rfl) (hJ _ _ _ _ (by decide)) (xm_le ml_74 rfl) rfl ?_
      refine xi_aload_n (pc' := 1) (x := 115) kc_74_0 rfl rfl ?_
      refine xi_iconst (pc' := 2) (v := 0) kc_74_1 rfl rfl ?_
      refine xi_putfield (pc' := 5) (fs' := [.int 0, .int 0, .ref 116, .ref 117, .ref 118, .ref 119, .ref 120, .ref 121, .ref 122, .ref 123, .ref 124, .ref 125, .ref 126, .ref 127, .ref 128, .ref 129, .int 4, .ref 130, .int 0, .ref 131, .ref 132, .ref 133, .ref 134, .int 0, .ref 135, .ref 136, .ref 137, .ref 138, .ref 139, .ref 140, .ref 141, .ref 142, .int 0, .int 0, .int 0, .ref 143, .ref 144, .ref 145, .ref 146, .ref 147, .ref 148, .int 0, .ref 149, .ref 150, .ref 151, .int 0, .ref 152, .ref 153, .ref 154, .ref 155, .ref 156, .ref 157, .ref 158, .ref 159, .int 0, .ref 160, .int 0, .ref 161, .ref 162, .ref 163, .ref 164, .int 0, .ref 165, .ref 166]) kc_74_2 rfl rfl rfl ((eh1.2.1 115 (by decide)).trans (F 115 _ hl_115)) rfl rfl rfl (Nat.le_of_ble_eq_true rfl) rfl (fun hh2 eh2 => ?_)
      refine xi_iload_n (pc' := 6) (x := a1) kc_74_5 rfl rfl ?_
      refine xi_iconst (pc' := 7) (v := 0) kc_74_6 rfl rfl ?_
      refine xi_iconst (pc' := 8) (v := 3) kc_74_7 rfl rfl ?_
      refine xi_static (mj := 12) (as := [.int a1, .int 0, .int 3]) (st1 := []) (lv0 := [(0, .int a1), (1, .int 0), (2, .int 3)]) kc_74_8 rfl rfl (Nat.le_of_ble_eq_true rfl) rfl rfl (Nat.le_of_ble_eq_true rfl) (hJ _ _ _ _ (by decide)) (xm_le ml_12 rfl) rfl ?_
      refine xi_iload_n (pc' := 1) (x := a1) kc_12_0 rfl rfl ?_
      refine xi_iload_n (pc' := 2) (x := 0) kc_12_1 rfl rfl ?_
      refine xi_cmf (pc' := 5) kc_12_2 rfl (xc_lt_f (X := a1.toInt) (Y := 0) rfl (by decide) (by omega)) ?_
      refine xi_iload_n (pc' := 6) (x := a1) kc_12_5 rfl rfl ?_
      refine xi_iload_n (pc' := 7) (x := 3) kc_12_6 rfl rfl ?_
      refine xi_cmt (pc' := 14) kc_12_7 rfl (xc_gt_t (X := a1.toInt) (Y := 3) rfl (by decide) (by omega)) ?_
      refine xi_iconst (pc' := 15) (v := 0) kc_12_14 rfl rfl ?_
      refine xi_ireturn kc_12_15 mr_12 rfl ?_
      show xw J ov 99 74 (11, [(0, .ref 115), (1, .int a1), (2, .int a2)], [.int 0], hh2) _
      refine xi_ift (pc' := 23) kc_74_11 rfl rfl ?_
      refine xi_aload_n (pc' := 24) (x := 115) kc_74_23 rfl rfl ?_
      refine xi_bipush (pc' := 26) (v := (-2)) kc_74_24 rfl rfl ?_
      refine xi_virtual (mj := 13) (as := [.int (-2)]) (st1 := []) (lv0 := [(0, .ref 115), (1, .int (-2))]) kc_74_26 rfl rfl rfl rfl rfl eh2.1 (Nat.le_of_ble_eq_true rfl) (hJ _ _ _ _ (by decide)) (xm_le ml_13 rfl) rfl ?_
      refine xi_aload_n (pc' := 1) (x := 115) kc_13_0 rfl rfl ?_
      refine xi_getfield (pc' := 4) (v := .ref 140) kc_13_1 rfl rfl rfl eh2.1 rfl ?_
      refine xi_iload_n (pc' := 5) (x := (-2)) kc_13_4 rfl rfl ?_
      refine xi_ineg (pc' := 6) (v := 2) kc_13_5 rfl rfl ?_
      refine xi_dup2 (pc' := 7) kc_13_6 rfl ⟨rfl, rfl⟩ ?_
      refine xi_iaload (pc' := 8) (v := 0) kc_13_7 rfl ((eh2.2.1 140 (by decide)).trans ((eh1.2.1 140 (by decide)).trans (F 140 _ hl_140))) (by decide) rfl (xi_in (n := 7) (by decide) (by decide)) rfl ?_
      refine xi_iconst (pc' := 9) (v := 1) kc_13_8 rfl rfl ?_
      refine xi_iadd (pc' := 10) (v := 1) kc_13_9 rfl rfl ?_
      refine xi_iastore (pc' := 11) (x' := [0, 0, 1, 0, 0, 0, 0]) kc_13_10 rfl ((eh2.2.1 140 (by decide)).trans ((eh1.2.1 140 (by decide)).trans (F 140 _ hl_140))) rfl (xi_in (n := 7) (by decide) (by decide)) rfl (fun hh3 eh3 => ?_)
      refine xi_iload_n (pc' := 12) (x := (-2)) kc_13_11 rfl rfl ?_
      refine xi_ireturn kc_13_12 mr_13 rfl ?_
      show xw J ov 99 74 (29, [(0, .ref 115), (1, .int a1), (2, .int a2)], [.int (-2)], hh3) _
      refine xi_ireturn kc_74_29 mr_74 rfl ?_
      show xw J ov 100 196 (1473, [(4, .int 0), (3, .ref 167), (2, .ref 115), (1, .ref 0), (0, .ref 1000000)], [.int (-2), .int (-2)], hh3) _
      refine xi_cmt (pc' := 1528) kc_196_1473 rfl rfl ?_
      refine xi_iinc (pc' := 1531) (x := 0) (v := 6) (lv' := [(4, .int 6), (3, .ref 167), (2, .ref 115), (1, .ref 0), (0, .ref 1000000)]) kc_196_1528 rfl rfl rfl rfl (xm_lt ml_196 rfl) ?_
      refine xi_goto (pc' := 23) kc_196_1531 rfl ?_
      refine xi_iload (pc' := 25) (x := 6) kc_196_23 rfl rfl ?_
      refine xi_aload_n (pc' := 26) (x := 1000000) kc_196_25 rfl rfl ?_
      refine xi_arraylength (pc' := 27) (n := 6) (v := 6) kc_196_26 rfl (xl_lenO (by decide) hov0 rfl) rfl ?_
      refine xi_bipush (pc' := 29) (v := 6) kc_196_27 rfl rfl ?_
      refine xi_isub (pc' := 30) (v := 0) kc_196_29 rfl rfl ?_
      refine xi_cmt (pc' := 1534) kc_196_30 rfl rfl ?_
      refine xi_iconst (pc' := 1535) (v := 1) kc_196_1534 rfl rfl ?_
      refine xi_ireturn kc_196_1535 mr_196 rfl ?_
      refine ⟨rfl, ?_, ?_⟩
      · rw [eh3.2.2.1, eh2.2.2.1, eh1.2.2.1]; exact hn0
      · rw [eh3.2.2.2, eh2.2.2.2, eh1.2.2.2]; exact hz0
    · refine xi_cmf (pc' := 9) kc_118_6 rfl (xc_ge_f (X := a1.toInt) (Y := 4) rfl (by decide) (by omega)) ?_
      refine xi_iconst (pc' := 10) (v := 1) kc_118_9 rfl rfl ?_
      refine xi_goto (pc' := 14) kc_118_10 rfl ?_
      refine xi_ireturn kc_118_14 mr_118 rfl ?_
      show xw J ov 99 183 (4, [(0, .ref 0), (1, .int a1), (2, .int a2)], [.int 1], h0) _
      refine xi_iff (pc' := 7) kc_183_4 rfl rfl ?_
      refine xi_iload_n (pc' := 8) (x := a2) kc_183_7 rfl rfl ?_
      by_cases c3 : a2.toInt = 0
      · refine xi_ift (pc' := 23) kc_183_8 rfl (xc_eq_t (X := a2.toInt) (Y := 0) rfl (by decide) (by omega)) ?_
        refine xi_aload_n (pc' := 24) (x := 0) kc_183_23 rfl rfl ?_
        refine xi_getfield (pc' := 27) (v := .ref 1) kc_183_24 rfl rfl rfl (F 0 _ hl_0) rfl ?_
        refine xi_aload_n (pc' := 28) (x := 0) kc_183_27 rfl rfl ?_
        refine xi_getfield (pc' := 31) (v := .ref 66) kc_183_28 rfl rfl rfl (F 0 _ hl_0) rfl ?_
        refine xi_virtual (mj := 146) (as := []) (st1 := [.ref 1]) (lv0 := [(0, .ref 66)]) kc_183_31 rfl rfl rfl rfl rfl (F 66 _ hl_66) (Nat.le_of_ble_eq_true rfl) (hJ _ _ _ _ (by decide)) (xm_le ml_146 rfl) rfl ?_
        refine xi_iconst (pc' := 1) (v := 0) kc_146_0 rfl rfl ?_
        refine xi_istore_n (pc' := 2) (lv' := [(1, .int 0), (0, .ref 66)]) kc_146_1 rfl rfl (xm_lt ml_146 rfl) ?_
        refine xi_iconst (pc' := 3) (v := 1) kc_146_2 rfl rfl ?_
        refine xi_istore_n (pc' := 4) (lv' := [(2, .int 1), (1, .int 0), (0, .ref 66)]) kc_146_3 rfl rfl (xm_lt ml_146 rfl) ?_
        refine xi_iload_n (pc' := 5) (x := 1) kc_146_4 rfl rfl ?_
        refine xi_aload_n (pc' := 6) (x := 66) kc_146_5 rfl rfl ?_
        refine xi_virtual (mj := 140) (as := []) (st1 := [.int 1]) (lv0 := [(0, .ref 66)]) kc_146_6 rfl rfl rfl rfl rfl (F 66 _ hl_66) (Nat.le_of_ble_eq_true rfl) (hJ _ _ _ _ (by decide)) (xm_le ml_140 rfl) rfl ?_
        refine xi_iconst (pc' := 1) (v := 1) kc_140_0 rfl rfl ?_
        refine xi_aload_n (pc' := 2) (x := 66) kc_140_1 rfl rfl ?_
        refine xi_getfield (pc' := 5) (v := .ref 1) kc_140_2 rfl rfl rfl (F 66 _ hl_66) rfl ?_
        refine xi_virtual (mj := 141) (as := []) (st1 := [.int 1]) (lv0 := [(0, .ref 1)]) kc_140_5 rfl rfl rfl rfl rfl (F 1 _ hl_1) (Nat.le_of_ble_eq_true rfl) (hJ _ _ _ _ (by decide)) (xm_le ml_141 rfl) rfl ?_
        refine xi_aload_n (pc' := 1) (x := 1) kc_141_0 rfl rfl ?_
        refine xi_getfield (pc' := 4) (v := .int 0) kc_141_1 rfl rfl rfl (F 1 _ hl_1) rfl ?_
        refine xi_bipush (pc' := 6) (v := 6) kc_141_4 rfl rfl ?_
        refine xi_cmf (pc' := 9) kc_141_6 rfl rfl ?_
        refine xi_aload_n (pc' := 10) (x := 1) kc_141_9 rfl rfl ?_
        refine xi_getfield (pc' := 13) (v := .int 0) kc_141_10 rfl rfl rfl (F 1 _ hl_1) rfl ?_
        refine xi_goto (pc' := 18) kc_141_13 rfl ?_
        refine xi_ireturn kc_141_18 mr_141 rfl ?_
        show xw J ov 97 140 (8, [(0, .ref 66)], [.int 0, .int 1], h0) _
        refine xi_ishl (pc' := 9) (v := 1) kc_140_8 rfl rfl ?_
        refine xi_ireturn kc_140_9 mr_140 rfl ?_
        show xw J ov 98 146 (9, [(2, .int 1), (1, .int 0), (0, .ref 66)], [.int 1, .int 1], h0) _
        refine xi_cmt (pc' := 55) kc_146_9 rfl rfl ?_
        refine xi_iload_n (pc' := 56) (x := 0) kc_146_55 rfl rfl ?_
        refine xi_ireturn kc_146_56 mr_146 rfl ?_
        show xw J ov 99 183 (34, [(0, .ref 0), (1, .int a1), (2, .int a2)], [.int 0, .ref 1], h0) _
        refine xi_iload_n (pc' := 35) (x := a1) kc_183_34 rfl rfl ?_
        refine xi_virtual (mj := 184) (as := [.int 0, .int a1]) (st1 := []) (lv0 := [(0, .ref 1), (1, .int 0), (2, .int a1)]) kc_183_35 rfl rfl rfl rfl rfl (F 1 _ hl_1) (Nat.le_of_ble_eq_true rfl) (hJ _ _ _ _ (by decide)) (xm_le ml_184 rfl) rfl ?_
        refine xi_iconst (pc' := 1) (v := 0) kc_184_0 rfl rfl ?_
        refine xi_istore_n (pc' := 2) (lv' := [(3, .int 0), (0, .ref 1), (1, .int 0), (2, .int a1)]) kc_184_1 rfl rfl (xm_lt ml_184 rfl) ?_
        refine xi_iload_n (pc' := 3) (x := 0) kc_184_2 rfl rfl ?_
        refine xi_aload_n (pc' := 4) (x := 1) kc_184_3 rfl rfl ?_
        refine xi_getfield (pc' := 7) (v := .int 0) kc_184_4 rfl rfl rfl (F 1 _ hl_1) rfl ?_
        refine xi_cmt (pc' := 45) kc_184_7 rfl rfl ?_
        refine xi_iconst (pc' := 46) (v := 0) kc_184_45 rfl rfl ?_
        refine xi_ireturn kc_184_46 mr_184 rfl ?_
        show xw J ov 99 183 (38, [(0, .ref 0), (1, .int a1), (2, .int a2)], [.int 0], h0) _
        refine xi_iff (pc' := 41) kc_183_38 rfl rfl ?_
        refine xi_bipush (pc' := 43) (v := (-9)) kc_183_41 rfl rfl ?_
        refine xi_ireturn kc_183_43 mr_183 rfl ?_
        show xw J ov 100 196 (1457, [(4, .int 0), (3, .ref 167), (2, .ref 115), (1, .ref 0), (0, .ref 1000000)], [.int (-9)], h0) _
        refine xi_aload_n (pc' := 1458) (x := 115) kc_196_1457 rfl rfl ?_
        refine xi_aload_n (pc' := 1459) (x := 1000000) kc_196_1458 rfl rfl ?_
        refine xi_iload (pc' := 1461) (x := 0) kc_196_1459 rfl rfl ?_
        refine xi_iconst (pc' := 1462) (v := 1) kc_196_1461 rfl rfl ?_
        refine xi_iadd (pc' := 1463) (v := 1) kc_196_1462 rfl rfl ?_
        refine xi_ialoadO (pc' := 1464) (v := a1) kc_196_1463 rfl (by decide) hov0 (xi_in (n := 6) (by decide) (by decide)) rfl ?_
        refine xi_aload_n (pc' := 1465) (x := 1000000) kc_196_1464 rfl rfl ?_
        refine xi_iload (pc' := 1467) (x := 0) kc_196_1465 rfl rfl ?_
        refine xi_iconst (pc' := 1468) (v := 2) kc_196_1467 rfl rfl ?_
        refine xi_iadd (pc' := 1469) (v := 2) kc_196_1468 rfl rfl ?_
        refine xi_ialoadO (pc' := 1470) (v := a2) kc_196_1469 rfl (by decide) hov0 (xi_in (n := 6) (by decide) (by decide)) rfl ?_
        refine xi_virtual (mj := 74) (as := [.int a1, .int a2]) (st1 := [.int (-9)]) (lv0 := [(0, .ref 115), (1, .int a1), (2, .int a2)]) kc_196_1470 rfl rfl rfl rfl rfl (F 115 _ hl_115) (Nat.le_of_ble_eq_true rfl) (hJ _ _ _ _ (by decide)) (xm_le ml_74 rfl) rfl ?_
        refine xi_aload_n (pc' := 1) (x := 115) kc_74_0 rfl rfl ?_
        refine xi_iconst (pc' := 2) (v := 0) kc_74_1 rfl rfl ?_
        refine xi_putfield (pc' := 5) (fs' := [.int 0, .int 0, .ref 116, .ref 117, .ref 118, .ref 119, .ref 120, .ref 121, .ref 122, .ref 123, .ref 124, .ref 125, .ref 126, .ref 127, .ref 128, .ref 129, .int 4, .ref 130, .int 0, .ref 131, .ref 132, .ref 133, .ref 134, .int 0, .ref 135, .ref 136, .ref 137, .ref 138, .ref 139, .ref 140, .ref 141, .ref 142, .int 0, .int 0, .int 0, .ref 143, .ref 144, .ref 145, .ref 146, .ref 147, .ref 148, .int 0, .ref 149, .ref 150, .ref 151, .int 0, .ref 152, .ref 153, .ref 154, .ref 155, .ref 156, .ref 157, .ref 158, .ref 159, .int 0, .ref 160, .int 0, .ref 161, .ref 162, .ref 163, .ref 164, .int 0, .ref 165, .ref 166]) kc_74_2 rfl rfl rfl (F 115 _ hl_115) rfl rfl rfl (Nat.le_of_ble_eq_true rfl) rfl (fun hh1 eh1 => ?_)
        refine xi_iload_n (pc' := 6) (x := a1) kc_74_5 rfl rfl ?_
        refine xi_iconst (pc' := 7) (v := 0) kc_74_6 rfl rfl ?_
        refine xi_iconst (pc' := 8) (v := 3) kc_74_7 rfl rfl ?_
        refine xi_static (mj := 12) (as := [.int a1, .int 0, .int 3]) (st1 := []) (lv0 := [(0, .int a1), (1, .int 0), (2, .int 3)]) kc_74_8 rfl rfl (Nat.le_of_ble_eq_true rfl) rfl rfl (Nat.le_of_ble_eq_true rfl) (hJ _ _ _ _ (by decide)) (xm_le ml_12 rfl) rfl ?_
        refine xi_iload_n (pc' := 1) (x := a1) kc_12_0 rfl rfl ?_
        refine xi_iload_n (pc' := 2) (x := 0) kc_12_1 rfl rfl ?_
        refine xi_cmf (pc' := 5) kc_12_2 rfl (xc_lt_f (X := a1.toInt) (Y := 0) rfl (by decide) (by omega)) ?_
        refine xi_iload_n (pc' := 6) (x := a1) kc_12_5 rfl rfl ?_
        refine xi_iload_n (pc' := 7) (x := 3) kc_12_6 rfl rfl ?_
        refine xi_cmf (pc' := 10) kc_12_7 rfl (xc_gt_f (X := a1.toInt) (Y := 3) rfl (by decide) (by omega)) ?_
        refine xi_iconst (pc' := 11) (v := 1) kc_12_10 rfl rfl ?_
        refine xi_goto (pc' := 15) kc_12_11 rfl ?_
        refine xi_ireturn kc_12_15 mr_12 rfl ?_
        show xw J ov 99 74 (11, [(0, .ref 115), (1, .int a1), (2, .int a2)], [.int 1], hh1) _
        refine xi_iff (pc' := 14) kc_74_11 rfl rfl ?_
        refine xi_iload_n (pc' := 15) (x := a2) kc_74_14 rfl rfl ?_
        refine xi_iconst (pc' := 16) (v := 0) kc_74_15 rfl rfl ?_
        refine xi_iconst (pc' := 17) (v := 1) kc_74_16 rfl rfl ?_
        refine xi_static (mj := 12) (as := [.int a2, .int 0, .int 1]) (st1 := []) (lv0 := [(0, .int a2), (1, .int 0), (2, .int 1)]) kc_74_17 rfl rfl (Nat.le_of_ble_eq_true rfl) rfl rfl (Nat.le_of_ble_eq_true rfl) (hJ _ _ _ _ (by decide)) (xm_le ml_12 rfl) rfl ?_
        refine xi_iload_n (pc' := 1) (x := a2) kc_12_0 rfl rfl ?_
        refine xi_iload_n (pc' := 2) (x := 0) kc_12_1 rfl rfl ?_
        refine xi_cmf (pc' := 5) kc_12_2 rfl (xc_lt_f (X := a2.toInt) (Y := 0) rfl (by decide) (by omega)) ?_
        refine xi_iload_n (pc' := 6) (x := a2) kc_12_5 rfl rfl ?_
        refine xi_iload_n (pc' := 7) (x := 1) kc_12_6 rfl rfl ?_
        refine xi_cmf (pc' := 10) kc_12_7 rfl (xc_gt_f (X := a2.toInt) (Y := 1) rfl (by decide) (by omega)) ?_
        refine xi_iconst (pc' := 11) (v := 1) kc_12_10 rfl rfl ?_
        refine xi_goto (pc' := 15) kc_12_11 rfl ?_
        refine xi_ireturn kc_12_15 mr_12 rfl ?_
        show xw J ov 99 74 (20, [(0, .ref 115), (1, .int a1), (2, .int a2)], [.int 1], hh1) _
        refine xi_ift (pc' := 30) kc_74_20 rfl rfl ?_
        refine xi_aload_n (pc' := 31) (x := 115) kc_74_30 rfl rfl ?_
        refine xi_virtual (mj := 49) (as := []) (st1 := []) (lv0 := [(0, .ref 115)]) kc_74_31 rfl rfl rfl rfl rfl eh1.1 (Nat.le_of_ble_eq_true rfl) (hJ _ _ _ _ (by decide)) (xm_le ml_49 rfl) rfl ?_
        refine xi_aload_n (pc' := 1) (x := 115) kc_49_0 rfl rfl ?_
        refine xi_virtual (mj := 44) (as := []) (st1 := []) (lv0 := [(0, .ref 115)]) kc_49_1 rfl rfl rfl rfl rfl eh1.1 (Nat.le_of_ble_eq_true rfl) (hJ _ _ _ _ (by decide)) (xm_le ml_44 rfl) rfl ?_
        refine xi_aload_n (pc' := 1) (x := 115) kc_44_0 rfl rfl ?_
        refine xi_getfield (pc' := 4) (v := .int 0) kc_44_1 rfl rfl rfl eh1.1 rfl ?_
        refine xi_ift (pc' := 8) kc_44_4 rfl rfl ?_
        refine xi_aload_n (pc' := 9) (x := 115) kc_44_8 rfl rfl ?_
        refine xi_iconst (pc' := 10) (v := 1) kc_44_9 rfl rfl ?_
        refine xi_putfield (pc' := 13) (fs' := [.int 0, .int 0, .ref 116, .ref 117, .ref 118, .ref 119, .ref 120, .ref 121, .ref 122, .ref 123, .ref 124, .ref 125, .ref 126, .ref 127, .ref 128, .ref 129, .int 4, .ref 130, .int 0, .ref 131, .ref 132, .ref 133, .ref 134, .int 0, .ref 135, .ref 136, .ref 137, .ref 138, .ref 139, .ref 140, .ref 141, .ref 142, .int 0, .int 0, .int 0, .ref 143, .ref 144, .ref 145, .ref 146, .ref 147, .ref 148, .int 1, .ref 149, .ref 150, .ref 151, .int 0, .ref 152, .ref 153, .ref 154, .ref 155, .ref 156, .ref 157, .ref 158, .ref 159, .int 0, .ref 160, .int 0, .ref 161, .ref 162, .ref 163, .ref 164, .int 0, .ref 165, .ref 166]) kc_44_10 rfl rfl rfl eh1.1 rfl rfl rfl (Nat.le_of_ble_eq_true rfl) rfl (fun hh2 eh2 => ?_)
        refine xi_aload_n (pc' := 14) (x := 115) kc_44_13 rfl rfl ?_
        refine xi_virtual (mj := 45) (as := []) (st1 := []) (lv0 := [(0, .ref 115)]) kc_44_14 rfl rfl rfl rfl rfl eh2.1 (Nat.le_of_ble_eq_true rfl) (hJ _ _ _ _ (by decide)) (xm_le ml_45 rfl) rfl ?_
        refine xi_iconst (pc' := 1) (v := 5) kc_45_0 rfl rfl ?_
        refine xi_istore_n (pc' := 2) (lv' := [(1, .int 5), (0, .ref 115)]) kc_45_1 rfl rfl (xm_lt ml_45 rfl) ?_
        refine xi_iconst (pc' := 3) (v := 0) kc_45_2 rfl rfl ?_
        refine xi_istore_n (pc' := 4) (lv' := [(2, .int 0), (1, .int 5), (0, .ref 115)]) kc_45_3 rfl rfl (xm_lt ml_45 rfl) ?_
        refine xi_iconst (pc' := 5) (v := 0) kc_45_4 rfl rfl ?_
        refine xi_istore_n (pc' := 6) (lv' := [(3, .int 0), (2, .int 0), (1, .int 5), (0, .ref 115)]) kc_45_5 rfl rfl (xm_lt ml_45 rfl) ?_
        refine lp_weather hJ eh2.1 ((eh2.2.1 123 (by decide)).trans ((eh1.2.1 123 (by decide)).trans (F 123 _ hl_123))) ((eh2.2.1 124 (by decide)).trans ((eh1.2.1 124 (by decide)).trans (F 124 _ hl_124))) (fun y3 z3 hh3 ly3 lz3 et3 => ?_) 600 0 (List.replicate 600 0) (List.replicate 600 0) hh2 (by decide) (by decide) (by decide) (by simp only [List.length_replicate]) (by simp only [List.length_replicate]) ⟨((eh2.2.1 150 (by decide)).trans ((eh1.2.1 150 (by decide)).trans (F 150 _ hl_150))), ((eh2.2.1 151 (by decide)).trans ((eh1.2.1 151 (by decide)).trans (F 151 _ hl_151))), fun _ _ _ => rfl, rfl, rfl⟩
        show xw J ov 97 44 (17, [(0, .ref 115)], [], hh3) _
        refine xi_iconst (pc' := 18) (v := 0) kc_44_17 rfl rfl ?_
        refine xi_istore_n (pc' := 19) (lv' := [(1, .int 0), (0, .ref 115)]) kc_44_18 rfl rfl (xm_lt ml_44 rfl) ?_
        refine xi_iload_n (pc' := 20) (x := 0) kc_44_19 rfl rfl ?_
        refine xi_aload_n (pc' := 21) (x := 115) kc_44_20 rfl rfl ?_
        refine xi_virtual (mj := 43) (as := []) (st1 := [.int 0]) (lv0 := [(0, .ref 115)]) kc_44_21 rfl rfl rfl rfl rfl ((et3.2.2.1 115 (by decide) (by decide)).trans eh2.1) (Nat.le_of_ble_eq_true rfl) (hJ _ _ _ _ (by decide)) (xm_le ml_43 rfl) rfl ?_
        refine xi_iconst (pc' := 1) (v := 1) kc_43_0 rfl rfl ?_
        refine xi_aload_n (pc' := 2) (x := 115) kc_43_1 rfl rfl ?_
        refine xi_getfield (pc' := 5) (v := .int 0) kc_43_2 rfl rfl rfl ((et3.2.2.1 115 (by decide) (by decide)).trans eh2.1) rfl ?_
        refine xi_bipush (pc' := 7) (v := 6) kc_43_5 rfl rfl ?_
        refine xi_cmf (pc' := 10) kc_43_7 rfl rfl ?_
        refine xi_aload_n (pc' := 11) (x := 115) kc_43_10 rfl rfl ?_
        refine xi_getfield (pc' := 14) (v := .int 0) kc_43_11 rfl rfl rfl ((et3.2.2.1 115 (by decide) (by decide)).trans eh2.1) rfl ?_
        refine xi_goto (pc' := 19) kc_43_14 rfl ?_
        refine xi_ishl (pc' := 20) (v := 1) kc_43_19 rfl rfl ?_
        refine xi_ireturn kc_43_20 mr_43 rfl ?_
        show xw J ov 97 44 (24, [(1, .int 0), (0, .ref 115)], [.int 1, .int 0], hh3) _
        refine xi_cmf (pc' := 27) kc_44_24 rfl rfl ?_
        refine xi_aload_n (pc' := 28) (x := 115) kc_44_27 rfl rfl ?_
        refine xi_getfield (pc' := 31) (v := .ref 149) kc_44_28 rfl rfl rfl ((et3.2.2.1 115 (by decide) (by decide)).trans eh2.1) rfl ?_
        refine xi_iload_n (pc' := 32) (x := 0) kc_44_31 rfl rfl ?_
        refine xi_aload_n (pc' := 33) (x := 115) kc_44_32 rfl rfl ?_
        refine xi_iload_n (pc' := 34) (x := 0) kc_44_33 rfl rfl ?_
        refine xi_virtual (mj := 46) (as := [.int 0]) (st1 := [.int 0, .ref 149]) (lv0 := [(0, .ref 115), (1, .int 0)]) kc_44_34 rfl rfl rfl rfl rfl ((et3.2.2.1 115 (by decide) (by decide)).trans eh2.1) (Nat.le_of_ble_eq_true rfl) (hJ _ _ _ _ (by decide)) (xm_le ml_46 rfl) rfl ?_
        refine xi_lconst (pc' := 1) (v := 0) kc_46_0 rfl rfl ?_
        refine xi_lstore_n (pc' := 2) (lv' := [(2, .long 0), (0, .ref 115), (1, .int 0)]) kc_46_1 rfl rfl (xm_lt ml_46 rfl) ?_
        refine xi_iconst (pc' := 3) (v := 0) kc_46_2 rfl rfl ?_
        refine xi_istore (pc' := 5) (lv' := [(4, .int 0), (2, .long 0), (0, .ref 115), (1, .int 0)]) kc_46_3 rfl rfl (xm_lt ml_46 rfl) ?_
        refine xi_iconst (pc' := 6) (v := 0) kc_46_5 rfl rfl ?_
        refine xi_istore (pc' := 8) (lv' := [(5, .int 0), (4, .int 0), (2, .long 0), (0, .ref 115), (1, .int 0)]) kc_46_6 rfl rfl (xm_lt ml_46 rfl) ?_
        refine xi_iload (pc' := 10) (x := 0) kc_46_8 rfl rfl ?_
        refine xi_bipush (pc' := 12) (v := 6) kc_46_10 rfl rfl ?_
        refine xi_cmf (pc' := 15) kc_46_12 rfl rfl ?_
        refine xi_aload_n (pc' := 16) (x := 115) kc_46_15 rfl rfl ?_
        refine xi_getfield (pc' := 19) (v := .ref 141) kc_46_16 rfl rfl rfl ((et3.2.2.1 115 (by decide) (by decide)).trans eh2.1) rfl ?_
        refine xi_iload (pc' := 21) (x := 0) kc_46_19 rfl rfl ?_
        refine xi_iconst (pc' := 22) (v := 0) kc_46_21 rfl rfl ?_
        refine xi_iastore (pc' := 23) (x' := [0, 0, 0, 0, 0, 0]) kc_46_22 rfl ((et3.2.2.1 141 (by decide) (by decide)).trans ((eh2.2.1 141 (by decide)).trans ((eh1.2.1 141 (by decide)).trans (F 141 _ hl_141)))) rfl (xi_in (n := 6) (by decide) (by decide)) rfl (fun hh4 eh4 => ?_)
        refine xi_iinc (pc' := 26) (x := 0) (v := 1) (lv' := [(5, .int 1), (4, .int 0), (2, .long 0), (0, .ref 115), (1, .int 0)]) kc_46_23 rfl rfl rfl rfl (xm_lt ml_46 rfl) ?_
        refine xi_goto (pc' := 8) kc_46_26 rfl ?_
        refine xi_iload (pc' := 10) (x := 1) kc_46_8 rfl rfl ?_
        refine xi_bipush (pc' := 12) (v := 6) kc_46_10 rfl rfl ?_
        refine xi_cmf (pc' := 15) kc_46_12 rfl rfl ?_
        refine xi_aload_n (pc' := 16) (x := 115) kc_46_15 rfl rfl ?_
        refine xi_getfield (pc' := 19) (v := .ref 141) kc_46_16 rfl rfl rfl ((eh4.2.1 115 (by decide)).trans ((et3.2.2.1 115 (by decide) (by decide)).trans eh2.1)) rfl ?_
        refine xi_iload (pc' := 21) (x := 1) kc_46_19 rfl rfl ?_
        refine xi_iconst (pc' := 22) (v := 0) kc_46_21 rfl rfl ?_
        refine xi_iastore (pc' := 23) (x' := [0, 0, 0, 0, 0, 0]) kc_46_22 rfl eh4.1 rfl (xi_in (n := 6) (by decide) (by decide)) rfl (fun hh5 eh5 => ?_)
        refine xi_iinc (pc' := 26) (x := 1) (v := 2) (lv' := [(5, .int 2), (4, .int 0), (2, .long 0), (0, .ref 115), (1, .int 0)]) kc_46_23 rfl rfl rfl rfl (xm_lt ml_46 rfl) ?_
        refine xi_goto (pc' := 8) kc_46_26 rfl ?_
        refine xi_iload (pc' := 10) (x := 2) kc_46_8 rfl rfl ?_
        refine xi_bipush (pc' := 12) (v := 6) kc_46_10 rfl rfl ?_
        refine xi_cmf (pc' := 15) kc_46_12 rfl rfl ?_
        refine xi_aload_n (pc' := 16) (x := 115) kc_46_15 rfl rfl ?_
        refine xi_getfield (pc' := 19) (v := .ref 141) kc_46_16 rfl rfl rfl ((eh5.2.1 115 (by decide)).trans ((eh4.2.1 115 (by decide)).trans ((et3.2.2.1 115 (by decide) (by decide)).trans eh2.1))) rfl ?_
        refine xi_iload (pc' := 21) (x := 2) kc_46_19 rfl rfl ?_
        refine xi_iconst (pc' := 22) (v := 0) kc_46_21 rfl rfl ?_
        refine xi_iastore (pc' := 23) (x' := [0, 0, 0, 0, 0, 0]) kc_46_22 rfl eh5.1 rfl (xi_in (n := 6) (by decide) (by decide)) rfl (fun hh6 eh6 => ?_)
        refine xi_iinc (pc' := 26) (x := 2) (v := 3) (lv' := [(5, .int 3), (4, .int 0), (2, .long 0), (0, .ref 115), (1, .int 0)]) kc_46_23 rfl rfl rfl rfl (xm_lt ml_46 rfl) ?_
        refine xi_goto (pc' := 8) kc_46_26 rfl ?_
        refine xi_iload (pc' := 10) (x := 3) kc_46_8 rfl rfl ?_
        refine xi_bipush (pc' := 12) (v := 6) kc_46_10 rfl rfl ?_
        refine xi_cmf (pc' := 15) kc_46_12 rfl rfl ?_
        refine xi_aload_n (pc' := 16) (x := 115) kc_46_15 rfl rfl ?_
        refine xi_getfield (pc' := 19) (v := .ref 141) kc_46_16 rfl rfl rfl ((eh6.2.1 115 (by decide)).trans ((eh5.2.1 115 (by decide)).trans ((eh4.2.1 115 (by decide)).trans ((et3.2.2.1 115 (by decide) (by decide)).trans eh2.1)))) rfl ?_
        refine xi_iload (pc' := 21) (x := 3) kc_46_19 rfl rfl ?_
        refine xi_iconst (pc' := 22) (v := 0) kc_46_21 rfl rfl ?_
        refine xi_iastore (pc' := 23) (x' := [0, 0, 0, 0, 0, 0]) kc_46_22 rfl eh6.1 rfl (xi_in (n := 6) (by decide) (by decide)) rfl (fun hh7 eh7 => ?_)
        refine xi_iinc (pc' := 26) (x := 3) (v := 4) (lv' := [(5, .int 4), (4, .int 0), (2, .long 0), (0, .ref 115), (1, .int 0)]) kc_46_23 rfl rfl rfl rfl (xm_lt ml_46 rfl) ?_
        refine xi_goto (pc' := 8) kc_46_26 rfl ?_
        refine xi_iload (pc' := 10) (x := 4) kc_46_8 rfl rfl ?_
        refine xi_bipush (pc' := 12) (v := 6) kc_46_10 rfl rfl ?_
        refine xi_cmf (pc' := 15) kc_46_12 rfl rfl ?_
        refine xi_aload_n (pc' := 16) (x := 115) kc_46_15 rfl rfl ?_
        refine xi_getfield (pc' := 19) (v := .ref 141) kc_46_16 rfl rfl rfl ((eh7.2.1 115 (by decide)).trans ((eh6.2.1 115 (by decide)).trans ((eh5.2.1 115 (by decide)).trans ((eh4.2.1 115 (by decide)).trans ((et3.2.2.1 115 (by decide) (by decide)).trans eh2.1))))) rfl ?_
        refine xi_iload (pc' := 21) (x := 4) kc_46_19 rfl rfl ?_
        refine xi_iconst (pc' := 22) (v := 0) kc_46_21 rfl rfl ?_
        refine xi_iastore (pc' := 23) (x' := [0, 0, 0, 0, 0, 0]) kc_46_22 rfl eh7.1 rfl (xi_in (n := 6) (by decide) (by decide)) rfl (fun hh8 eh8 => ?_)
        refine xi_iinc (pc' := 26) (x := 4) (v := 5) (lv' := [(5, .int 5), (4, .int 0), (2, .long 0), (0, .ref 115), (1, .int 0)]) kc_46_23 rfl rfl rfl rfl (xm_lt ml_46 rfl) ?_
        refine xi_goto (pc' := 8) kc_46_26 rfl ?_
        refine xi_iload (pc' := 10) (x := 5) kc_46_8 rfl rfl ?_
        refine xi_bipush (pc' := 12) (v := 6) kc_46_10 rfl rfl ?_
        refine xi_cmf (pc' := 15) kc_46_12 rfl rfl ?_
        refine xi_aload_n (pc' := 16) (x := 115) kc_46_15 rfl rfl ?_
        refine xi_getfield (pc' := 19) (v := .ref 141) kc_46_16 rfl rfl rfl ((eh8.2.1 115 (by decide)).trans ((eh7.2.1 115 (by decide)).trans ((eh6.2.1 115 (by decide)).trans ((eh5.2.1 115 (by decide)).trans ((eh4.2.1 115 (by decide)).trans ((et3.2.2.1 115 (by decide) (by decide)).trans eh2.1)))))) rfl ?_
        refine xi_iload (pc' := 21) (x := 5) kc_46_19 rfl rfl ?_
        refine xi_iconst (pc' := 22) (v := 0) kc_46_21 rfl rfl ?_
        refine xi_iastore (pc' := 23) (x' := [0, 0, 0, 0, 0, 0]) kc_46_22 rfl eh8.1 rfl (xi_in (n := 6) (by decide) (by decide)) rfl (fun hh9 eh9 => ?_)
        refine xi_iinc (pc' := 26) (x := 5) (v := 6) (lv' := [(5, .int 6), (4, .int 0), (2, .long 0), (0, .ref 115), (1, .int 0)]) kc_46_23 rfl rfl rfl rfl (xm_lt ml_46 rfl) ?_
        refine xi_goto (pc' := 8) kc_46_26 rfl ?_
        refine xi_iload (pc' := 10) (x := 6) kc_46_8 rfl rfl ?_
        refine xi_bipush (pc' := 12) (v := 6) kc_46_10 rfl rfl ?_
        refine xi_cmt (pc' := 29) kc_46_12 rfl rfl ?_
        refine xi_iconst (pc' := 30) (v := 0) kc_46_29 rfl rfl ?_
        refine xi_istore (pc' := 32) (lv' := [(5, .int 0), (4, .int 0), (2, .long 0), (0, .ref 115), (1, .int 0)]) kc_46_30 rfl rfl (xm_lt ml_46 rfl) ?_
        refine xi_iload (pc' := 34) (x := 0) kc_46_32 rfl rfl ?_
        refine xi_bipush (pc' := 36) (v := 12) kc_46_34 rfl rfl ?_
        refine xi_cmf (pc' := 39) kc_46_36 rfl rfl ?_
        refine xi_aload_n (pc' := 40) (x := 115) kc_46_39 rfl rfl ?_
        refine xi_getfield (pc' := 43) (v := .ref 142) kc_46_40 rfl rfl rfl ((eh9.2.1 115 (by decide)).trans ((eh8.2.1 115 (by decide)).trans ((eh7.2.1 115 (by decide)).trans ((eh6.2.1 115 (by decide)).trans ((eh5.2.1 115 (by decide)).trans ((eh4.2.1 115 (by decide)).trans ((et3.2.2.1 115 (by decide) (by decide)).trans eh2.1))))))) rfl ?_
        refine xi_iload (pc' := 45) (x := 0) kc_46_43 rfl rfl ?_
        refine xi_iconst (pc' := 46) (v := 0) kc_46_45 rfl rfl ?_
        refine xi_iastore (pc' := 47) (x' := [0, 0, 0, 0, 0, 0, 0, 0, 0, 0, 0, 0]) kc_46_46 rfl ((eh9.2.1 142 (by decide)).trans ((eh8.2.1 142 (by decide)).trans ((eh7.2.1 142 (by decide)).trans ((eh6.2.1 142 (by decide)).trans ((eh5.2.1 142 (by decide)).trans ((eh4.2.1 142 (by decide)).trans ((et3.2.2.1 142 (by decide) (by decide)).trans ((eh2.2.1 142 (by decide)).trans ((eh1.2.1 142 (by decide)).trans (F 142 _ hl_142)))))))))) rfl (xi_in (n := 12) (by decide) (by decide)) rfl (fun hh10 eh10 => ?_)
        refine xi_iinc (pc' := 50) (x := 0) (v := 1) (lv' := [(5, .int 1), (4, .int 0), (2, .long 0), (0, .ref 115), (1, .int 0)]) kc_46_47 rfl rfl rfl rfl (xm_lt ml_46 rfl) ?_
        refine xi_goto (pc' := 32) kc_46_50 rfl ?_
        refine xi_iload (pc' := 34) (x := 1) kc_46_32 rfl rfl ?_
        refine xi_bipush (pc' := 36) (v := 12) kc_46_34 rfl rfl ?_
        refine xi_cmf (pc' := 39) kc_46_36 rfl rfl ?_
        refine xi_aload_n (pc' := 40) (x := 115) kc_46_39 rfl rfl ?_
        refine xi_getfield (pc' := 43) (v := .ref 142) kc_46_40 rfl rfl rfl ((eh10.2.1 115 (by decide)).trans ((eh9.2.1 115 (by decide)).trans ((eh8.2.1 115 (by decide)).trans ((eh7.2.1 115 (by decide)).trans ((eh6.2.1 115 (by decide)).trans ((eh5.2.1 115 (by decide)).trans ((eh4.2.1 115 (by decide)).trans ((et3.2.2.1 115 (by decide) (by decide)).trans eh2.1)))))))) rfl ?_
        refine xi_iload (pc' := 45) (x := 1) kc_46_43 rfl rfl ?_
        refine xi_iconst (pc' := 46) (v := 0) kc_46_45 rfl rfl ?_
        refine xi_iastore (pc' := 47) (x' := [0, 0, 0, 0, 0, 0, 0, 0, 0, 0, 0, 0]) kc_46_46 rfl eh10.1 rfl (xi_in (n := 12) (by decide) (by decide)) rfl (fun hh11 eh11 => ?_)
        refine xi_iinc (pc' := 50) (x := 1) (v := 2) (lv' := [(5, .int 2), (4, .int 0), (2, .long 0), (0, .ref 115), (1, .int 0)]) kc_46_47 rfl rfl rfl rfl (xm_lt ml_46 rfl) ?_
        refine xi_goto (pc' := 32) kc_46_50 rfl ?_
        refine xi_iload (pc' := 34) (x := 2) kc_46_32 rfl rfl ?_
        refine xi_bipush (pc' := 36) (v := 12) kc_46_34 rfl rfl ?_
        refine xi_cmf (pc' := 39) kc_46_36 rfl rfl ?_
        refine xi_aload_n (pc' := 40) (x := 115) kc_46_39 rfl rfl ?_
        refine xi_getfield (pc' := 43) (v := .ref 142) kc_46_40 rfl rfl rfl ((eh11.2.1 115 (by decide)).trans ((eh10.2.1 115 (by decide)).trans ((eh9.2.1 115 (by decide)).trans ((eh8.2.1 115 (by decide)).trans ((eh7.2.1 115 (by decide)).trans ((eh6.2.1 115 (by decide)).trans ((eh5.2.1 115 (by decide)).trans ((eh4.2.1 115 (by decide)).trans ((et3.2.2.1 115 (by decide) (by decide)).trans eh2.1))))))))) rfl ?_
        refine xi_iload (pc' := 45) (x := 2) kc_46_43 rfl rfl ?_
        refine xi_iconst (pc' := 46) (v := 0) kc_46_45 rfl rfl ?_
        refine xi_iastore (pc' := 47) (x' := [0, 0, 0, 0, 0, 0, 0, 0, 0, 0, 0, 0]) kc_46_46 rfl eh11.1 rfl (xi_in (n := 12) (by decide) (by decide)) rfl (fun hh12 eh12 => ?_)
        refine xi_iinc (pc' := 50) (x := 2) (v := 3) (lv' := [(5, .int 3), (4, .int 0), (2, .long 0), (0, .ref 115), (1, .int 0)]) kc_46_47 rfl rfl rfl rfl (xm_lt ml_46 rfl) ?_
        refine xi_goto (pc' := 32) kc_46_50 rfl ?_
        refine xi_iload (pc' := 34) (x := 3) kc_46_32 rfl rfl ?_
        refine xi_bipush (pc' := 36) (v := 12) kc_46_34 rfl rfl ?_
        refine xi_cmf (pc' := 39) kc_46_36 rfl rfl ?_
        refine xi_aload_n (pc' := 40) (x := 115) kc_46_39 rfl rfl ?_
        refine xi_getfield (pc' := 43) (v := .ref 142) kc_46_40 rfl rfl rfl ((eh12.2.1 115 (by decide)).trans ((eh11.2.1 115 (by decide)).trans ((eh10.2.1 115 (by decide)).trans ((eh9.2.1 115 (by decide)).trans ((eh8.2.1 115 (by decide)).trans ((eh7.2.1 115 (by decide)).trans ((eh6.2.1 115 (by decide)).trans ((eh5.2.1 115 (by decide)).trans ((eh4.2.1 115 (by decide)).trans ((et3.2.2.1 115 (by decide) (by decide)).trans eh2.1)))))))))) rfl ?_
        refine xi_iload (pc' := 45) (x := 3) kc_46_43 rfl rfl ?_
        refine xi_iconst (pc' := 46) (v := 0) kc_46_45 rfl rfl ?_
        refine xi_iastore (pc' := 47) (x' := [0, 0, 0, 0, 0, 0, 0, 0, 0, 0, 0, 0]) kc_46_46 rfl eh12.1 rfl (xi_in (n := 12) (by decide) (by decide)) rfl (fun hh13 eh13 => ?_)
        refine xi_iinc (pc' := 50) (x := 3) (v := 4) (lv' := [(5, .int 4), (4, .int 0), (2, .long 0), (0, .ref 115), (1, .int 0)]) kc_46_47 rfl rfl rfl rfl (xm_lt ml_46 rfl) ?_
        refine xi_goto (pc' := 32) kc_46_50 rfl ?_
        refine xi_iload (pc' := 34) (x := 4) kc_46_32 rfl rfl ?_
        refine xi_bipush (pc' := 36) (v := 12) kc_46_34 rfl rfl ?_
        refine xi_cmf (pc' := 39) kc_46_36 rfl rfl ?_
        refine xi_aload_n (pc' := 40) (x := 115) kc_46_39 rfl rfl ?_
        refine xi_getfield (pc' := 43) (v := .ref 142) kc_46_40 rfl rfl rfl ((eh13.2.1 115 (by decide)).trans ((eh12.2.1 115 (by decide)).trans ((eh11.2.1 115 (by decide)).trans ((eh10.2.1 115 (by decide)).trans ((eh9.2.1 115 (by decide)).trans ((eh8.2.1 115 (by decide)).trans ((eh7.2.1 115 (by decide)).trans ((eh6.2.1 115 (by decide)).trans ((eh5.2.1 115 (by decide)).trans ((eh4.2.1 115 (by decide)).trans ((et3.2.2.1 115 (by decide) (by decide)).trans eh2.1))))))))))) rfl ?_
        refine xi_iload (pc' := 45) (x := 4) kc_46_43 rfl rfl ?_
        refine xi_iconst (pc' := 46) (v := 0) kc_46_45 rfl rfl ?_
        refine xi_iastore (pc' := 47) (x' := [0, 0, 0, 0, 0, 0, 0, 0, 0, 0, 0, 0]) kc_46_46 rfl eh13.1 rfl (xi_in (n := 12) (by decide) (by decide)) rfl (fun hh14 eh14 => ?_)
        refine xi_iinc (pc' := 50) (x := 4) (v := 5) (lv' := [(5, .int 5), (4, .int 0), (2, .long 0), (0, .ref 115), (1, .int 0)]) kc_46_47 rfl rfl rfl rfl (xm_lt ml_46 rfl) ?_
        refine xi_goto (pc' := 32) kc_46_50 rfl ?_
        refine xi_iload (pc' := 34) (x := 5) kc_46_32 rfl rfl ?_
        refine xi_bipush (pc' := 36) (v := 12) kc_46_34 rfl rfl ?_
        refine xi_cmf (pc' := 39) kc_46_36 rfl rfl ?_
        refine xi_aload_n (pc' := 40) (x := 115) kc_46_39 rfl rfl ?_
        refine xi_getfield (pc' := 43) (v := .ref 142) kc_46_40 rfl rfl rfl ((eh14.2.1 115 (by decide)).trans ((eh13.2.1 115 (by decide)).trans ((eh12.2.1 115 (by decide)).trans ((eh11.2.1 115 (by decide)).trans ((eh10.2.1 115 (by decide)).trans ((eh9.2.1 115 (by decide)).trans ((eh8.2.1 115 (by decide)).trans ((eh7.2.1 115 (by decide)).trans ((eh6.2.1 115 (by decide)).trans ((eh5.2.1 115 (by decide)).trans ((eh4.2.1 115 (by decide)).trans ((et3.2.2.1 115 (by decide) (by decide)).trans eh2.1)))))))))))) rfl ?_
        refine xi_iload (pc' := 45) (x := 5) kc_46_43 rfl rfl ?_
        refine xi_iconst (pc' := 46) (v := 0) kc_46_45 rfl rfl ?_
        refine xi_iastore (pc' := 47) (x' := [0, 0, 0, 0, 0, 0, 0, 0, 0, 0, 0, 0]) kc_46_46 rfl eh14.1 rfl (xi_in (n := 12) (by decide) (by decide)) rfl (fun hh15 eh15 => ?_)
        refine xi_iinc (pc' := 50) (x := 5) (v := 6) (lv' := [(5, .int 6), (4, .int 0), (2, .long 0), (0, .ref 115), (1, .int 0)]) kc_46_47 rfl rfl rfl rfl (xm_lt ml_46 rfl) ?_
        refine xi_goto (pc' := 32) kc_46_50 rfl ?_
        refine xi_iload (pc' := 34) (x := 6) kc_46_32 rfl rfl ?_
        refine xi_bipush (pc' := 36) (v := 12) kc_46_34 rfl rfl ?_
        refine xi_cmf (pc' := 39) kc_46_36 rfl rfl ?_
        refine xi_aload_n (pc' := 40) (x := 115) kc_46_39 rfl rfl ?_
        refine xi_getfield (pc' := 43) (v := .ref 142) kc_46_40 rfl rfl rfl ((eh15.2.1 115 (by decide)).trans ((eh14.2.1 115 (by decide)).trans ((eh13.2.1 115 (by decide)).trans ((eh12.2.1 115 (by decide)).trans ((eh11.2.1 115 (by decide)).trans ((eh10.2.1 115 (by decide)).trans ((eh9.2.1 115 (by decide)).trans ((eh8.2.1 115 (by decide)).trans ((eh7.2.1 115 (by decide)).trans ((eh6.2.1 115 (by decide)).trans ((eh5.2.1 115 (by decide)).trans ((eh4.2.1 115 (by decide)).trans ((et3.2.2.1 115 (by decide) (by decide)).trans eh2.1))))))))))))) rfl ?_
        refine xi_iload (pc' := 45) (x := 6) kc_46_43 rfl rfl ?_
        refine xi_iconst (pc' := 46) (v := 0) kc_46_45 rfl rfl ?_
        refine xi_iastore (pc' := 47) (x' := [0, 0, 0, 0, 0, 0, 0, 0, 0, 0, 0, 0]) kc_46_46 rfl eh15.1 rfl (xi_in (n := 12) (by decide) (by decide)) rfl (fun hh16 eh16 => ?_)
        refine xi_iinc (pc' := 50) (x := 6) (v := 7) (lv' := [(5, .int 7), (4, .int 0), (2, .long 0), (0, .ref 115), (1, .int 0)]) kc_46_47 rfl rfl rfl rfl (xm_lt ml_46 rfl) ?_
        refine xi_goto (pc' := 32) kc_46_50 rfl ?_
        refine xi_iload (pc' := 34) (x := 7) kc_46_32 rfl rfl ?_
        refine xi_bipush (pc' := 36) (v := 12) kc_46_34 rfl rfl ?_
        refine xi_cmf (pc' := 39) kc_46_36 rfl rfl ?_
        refine xi_aload_n (pc' := 40) (x := 115) kc_46_39 rfl rfl ?_
        refine xi_getfield (pc' := 43) (v := .ref 142) kc_46_40 rfl rfl rfl ((eh16.2.1 115 (by decide)).trans ((eh15.2.1 115 (by decide)).trans ((eh14.2.1 115 (by decide)).trans ((eh13.2.1 115 (by decide)).trans ((eh12.2.1 115 (by decide)).trans ((eh11.2.1 115 (by decide)).trans ((eh10.2.1 115 (by decide)).trans ((eh9.2.1 115 (by decide)).trans ((eh8.2.1 115 (by decide)).trans ((eh7.2.1 115 (by decide)).trans ((eh6.2.1 115 (by decide)).trans ((eh5.2.1 115 (by decide)).trans ((eh4.2.1 115 (by decide)).trans ((et3.2.2.1 115 (by decide) (by decide)).trans eh2.1)))))))))))))) rfl ?_
        refine xi_iload (pc' := 45) (x := 7) kc_46_43 rfl rfl ?_
        refine xi_iconst (pc' := 46) (v := 0) kc_46_45 rfl rfl ?_
        refine xi_iastore (pc' := 47) (x' := [0, 0, 0, 0, 0, 0, 0, 0, 0, 0, 0, 0]) kc_46_46 rfl eh16.1 rfl (xi_in (n := 12) (by decide) (by decide)) rfl (fun hh17 eh17 => ?_)
        refine xi_iinc (pc' := 50) (x := 7) (v := 8) (lv' := [(5, .int 8), (4, .int 0), (2, .long 0), (0, .ref 115), (1, .int 0)]) kc_46_47 rfl rfl rfl rfl (xm_lt ml_46 rfl) ?_
        refine xi_goto (pc' := 32) kc_46_50 rfl ?_
        refine xi_iload (pc' := 34) (x := 8) kc_46_32 rfl rfl ?_
        refine xi_bipush (pc' := 36) (v := 12) kc_46_34 rfl rfl ?_
        refine xi_cmf (pc' := 39) kc_46_36 rfl rfl ?_
        refine xi_aload_n (pc' := 40) (x := 115) kc_46_39 rfl rfl ?_
        refine xi_getfield (pc' := 43) (v := .ref 142) kc_46_40 rfl rfl rfl ((eh17.2.1 115 (by decide)).trans ((eh16.2.1 115 (by decide)).trans ((eh15.2.1 115 (by decide)).trans ((eh14.2.1 115 (by decide)).trans ((eh13.2.1 115 (by decide)).trans ((eh12.2.1 115 (by decide)).trans ((eh11.2.1 115 (by decide)).trans ((eh10.2.1 115 (by decide)).trans ((eh9.2.1 115 (by decide)).trans ((eh8.2.1 115 (by decide)).trans ((eh7.2.1 115 (by decide)).trans ((eh6.2.1 115 (by decide)).trans ((eh5.2.1 115 (by decide)).trans ((eh4.2.1 115 (by decide)).trans ((et3.2.2.1 115 (by decide) (by decide)).trans eh2.1))))))))))))))) rfl ?_
        refine xi_iload (pc' := 45) (x := 8) kc_46_43 rfl rfl ?_
        refine xi_iconst (pc' := 46) (v := 0) kc_46_45 rfl rfl ?_
        refine xi_iastore (pc' := 47) (x' := [0, 0, 0, 0, 0, 0, 0, 0, 0, 0, 0, 0]) kc_46_46 rfl eh17.1 rfl (xi_in (n := 12) (by decide) (by decide)) rfl (fun hh18 eh18 => ?_)
        refine xi_iinc (pc' := 50) (x := 8) (v := 9) (lv' := [(5, .int 9), (4, .int 0), (2, .long 0), (0, .ref 115), (1, .int 0)]) kc_46_47 rfl rfl rfl rfl (xm_lt ml_46 rfl) ?_
        refine xi_goto (pc' := 32) kc_46_50 rfl ?_
        refine xi_iload (pc' := 34) (x := 9) kc_46_32 rfl rfl ?_
        refine xi_bipush (pc' := 36) (v := 12) kc_46_34 rfl rfl ?_
        refine xi_cmf (pc' := 39) kc_46_36 rfl rfl ?_
        refine xi_aload_n (pc' := 40) (x := 115) kc_46_39 rfl rfl ?_
        refine xi_getfield (pc' := 43) (v := .ref 142) kc_46_40 rfl rfl rfl ((eh18.2.1 115 (by decide)).trans ((eh17.2.1 115 (by decide)).trans ((eh16.2.1 115 (by decide)).trans ((eh15.2.1 115 (by decide)).trans ((eh14.2.1 115 (by decide)).trans ((eh13.2.1 115 (by decide)).trans ((eh12.2.1 115 (by decide)).trans ((eh11.2.1 115 (by decide)).trans ((eh10.2.1 115 (by decide)).trans ((eh9.2.1 115 (by decide)).trans ((eh8.2.1 115 (by decide)).trans ((eh7.2.1 115 (by decide)).trans ((eh6.2.1 115 (by decide)).trans ((eh5.2.1 115 (by decide)).trans ((eh4.2.1 115 (by decide)).trans ((et3.2.2.1 115 (by decide) (by decide)).trans eh2.1)))))))))))))))) rfl ?_
        refine xi_iload (pc' := 45) (x := 9) kc_46_43 rfl rfl ?_
        refine xi_iconst (pc' := 46) (v := 0) kc_46_45 rfl rfl ?_
        refine xi_iastore (pc' := 47) (x' := [0, 0, 0, 0, 0, 0, 0, 0, 0, 0, 0, 0]) kc_46_46 rfl eh18.1 rfl (xi_in (n := 12) (by decide) (by decide)) rfl (fun hh19 eh19 => ?_)
        refine xi_iinc (pc' := 50) (x := 9) (v := 10) (lv' := [(5, .int 10), (4, .int 0), (2, .long 0), (0, .ref 115), (1, .int 0)]) kc_46_47 rfl rfl rfl rfl (xm_lt ml_46 rfl) ?_
        refine xi_goto (pc' := 32) kc_46_50 rfl ?_
        refine xi_iload (pc' := 34) (x := 10) kc_46_32 rfl rfl ?_
        refine xi_bipush (pc' := 36) (v := 12) kc_46_34 rfl rfl ?_
        refine xi_cmf (pc' := 39) kc_46_36 rfl rfl ?_
        refine xi_aload_n (pc' := 40) (x := 115) kc_46_39 rfl rfl ?_
        refine xi_getfield (pc' := 43) (v := .ref 142) kc_46_40 rfl rfl rfl ((eh19.2.1 115 (by decide)).trans ((eh18.2.1 115 (by decide)).trans ((eh17.2.1 115 (by decide)).trans ((eh16.2.1 115 (by decide)).trans ((eh15.2.1 115 (by decide)).trans ((eh14.2.1 115 (by decide)).trans ((eh13.2.1 115 (by decide)).trans ((eh12.2.1 115 (by decide)).trans ((eh11.2.1 115 (by decide)).trans ((eh10.2.1 115 (by decide)).trans ((eh9.2.1 115 (by decide)).trans ((eh8.2.1 115 (by decide)).trans ((eh7.2.1 115 (by decide)).trans ((eh6.2.1 115 (by decide)).trans ((eh5.2.1 115 (by decide)).trans ((eh4.2.1 115 (by decide)).trans ((et3.2.2.1 115 (by decide) (by decide)).trans eh2.1))))))))))))))))) rfl ?_
        refine xi_iload (pc' := 45) (x := 10) kc_46_43 rfl rfl ?_
        refine xi_iconst (pc' := 46) (v := 0) kc_46_45 rfl rfl ?_
        refine xi_iastore (pc' := 47) (x' := [0, 0, 0, 0, 0, 0, 0, 0, 0, 0, 0, 0]) kc_46_46 rfl eh19.1 rfl (xi_in (n := 12) (by decide) (by decide)) rfl (fun hh20 eh20 => ?_)
        refine xi_iinc (pc' := 50) (x := 10) (v := 11) (lv' := [(5, .int 11), (4, .int 0), (2, .long 0), (0, .ref 115), (1, .int 0)]) kc_46_47 rfl rfl rfl rfl (xm_lt ml_46 rfl) ?_
        refine xi_goto (pc' := 32) kc_46_50 rfl ?_
        refine xi_iload (pc' := 34) (x := 11) kc_46_32 rfl rfl ?_
        refine xi_bipush (pc' := 36) (v := 12) kc_46_34 rfl rfl ?_
        refine xi_cmf (pc' := 39) kc_46_36 rfl rfl ?_
        refine xi_aload_n (pc' := 40) (x := 115) kc_46_39 rfl rfl ?_
        refine xi_getfield (pc' := 43) (v := .ref 142) kc_46_40 rfl rfl rfl ((eh20.2.1 115 (by decide)).trans ((eh19.2.1 115 (by decide)).trans ((eh18.2.1 115 (by decide)).trans ((eh17.2.1 115 (by decide)).trans ((eh16.2.1 115 (by decide)).trans ((eh15.2.1 115 (by decide)).trans ((eh14.2.1 115 (by decide)).trans ((eh13.2.1 115 (by decide)).trans ((eh12.2.1 115 (by decide)).trans ((eh11.2.1 115 (by decide)).trans ((eh10.2.1 115 (by decide)).trans ((eh9.2.1 115 (by decide)).trans ((eh8.2.1 115 (by decide)).trans ((eh7.2.1 115 (by decide)).trans ((eh6.2.1 115 (by decide)).trans ((eh5.2.1 115 (by decide)).trans ((eh4.2.1 115 (by decide)).trans ((et3.2.2.1 115 (by decide) (by decide)).trans eh2.1)))))))))))))))))) rfl ?_
        refine xi_iload (pc' := 45) (x := 11) kc_46_43 rfl rfl ?_
        refine xi_iconst (pc' := 46) (v := 0) kc_46_45 rfl rfl ?_
        refine xi_iastore (pc' := 47) (x' := [0, 0, 0, 0, 0, 0, 0, 0, 0, 0, 0, 0]) kc_46_46 rfl eh20.1 rfl (xi_in (n := 12) (by decide) (by decide)) rfl (fun hh21 eh21 => ?_)
        refine xi_iinc (pc' := 50) (x := 11) (v := 12) (lv' := [(5, .int 12), (4, .int 0), (2, .long 0), (0, .ref 115), (1, .int 0)]) kc_46_47 rfl rfl rfl rfl (xm_lt ml_46 rfl) ?_
        refine xi_goto (pc' := 32) kc_46_50 rfl ?_
        refine xi_iload (pc' := 34) (x := 12) kc_46_32 rfl rfl ?_
        refine xi_bipush (pc' := 36) (v := 12) kc_46_34 rfl rfl ?_
        refine xi_cmt (pc' := 53) kc_46_36 rfl rfl ?_
        refine xi_iconst (pc' := 54) (v := 0) kc_46_53 rfl rfl ?_
        refine xi_istore (pc' := 56) (lv' := [(5, .int 0), (4, .int 0), (2, .long 0), (0, .ref 115), (1, .int 0)]) kc_46_54 rfl rfl (xm_lt ml_46 rfl) ?_
        refine xi_iload (pc' := 58) (x := 0) kc_46_56 rfl rfl ?_
        refine xi_aload_n (pc' := 59) (x := 115) kc_46_58 rfl rfl ?_
        refine xi_getfield (pc' := 62) (v := .int 0) kc_46_59 rfl rfl rfl ((eh21.2.1 115 (by decide)).trans ((eh20.2.1 115 (by decide)).trans ((eh19.2.1 115 (by decide)).trans ((eh18.2.1 115 (by decide)).trans ((eh17.2.1 115 (by decide)).trans ((eh16.2.1 115 (by decide)).trans ((eh15.2.1 115 (by decide)).trans ((eh14.2.1 115 (by decide)).trans ((eh13.2.1 115 (by decide)).trans ((eh12.2.1 115 (by decide)).trans ((eh11.2.1 115 (by decide)).trans ((eh10.2.1 115 (by decide)).trans ((eh9.2.1 115 (by decide)).trans ((eh8.2.1 115 (by decide)).trans ((eh7.2.1 115 (by decide)).trans ((eh6.2.1 115 (by decide)).trans ((eh5.2.1 115 (by decide)).trans ((eh4.2.1 115 (by decide)).trans ((et3.2.2.1 115 (by decide) (by decide)).trans eh2.1))))))))))))))))))) rfl ?_
        refine xi_cmf (pc' := 65) kc_46_62 rfl rfl ?_
        refine xi_iload (pc' := 67) (x := 0) kc_46_65 rfl rfl ?_
        refine xi_aload_n (pc' := 68) (x := 115) kc_46_67 rfl rfl ?_
        refine xi_getfield (pc' := 71) (v := .int 0) kc_46_68 rfl rfl rfl ((eh21.2.1 115 (by decide)).trans ((eh20.2.1 115 (by decide)).trans ((eh19.2.1 115 (by decide)).trans ((eh18.2.1 115 (by decide)).trans ((eh17.2.1 115 (by decide)).trans ((eh16.2.1 115 (by decide)).trans ((eh15.2.1 115 (by decide)).trans ((eh14.2.1 115 (by decide)).trans ((eh13.2.1 115 (by decide)).trans ((eh12.2.1 115 (by decide)).trans ((eh11.2.1 115 (by decide)).trans ((eh10.2.1 115 (by decide)).trans ((eh9.2.1 115 (by decide)).trans ((eh8.2.1 115 (by decide)).trans ((eh7.2.1 115 (by decide)).trans ((eh6.2.1 115 (by decide)).trans ((eh5.2.1 115 (by decide)).trans ((eh4.2.1 115 (by decide)).trans ((et3.2.2.1 115 (by decide) (by decide)).trans eh2.1))))))))))))))))))) rfl ?_
        refine xi_cmt (pc' := 176) kc_46_71 rfl rfl ?_
        refine xi_iload (pc' := 178) (x := 0) kc_46_176 rfl rfl ?_
        refine xi_aload_n (pc' := 179) (x := 115) kc_46_178 rfl rfl ?_
        refine xi_getfield (pc' := 182) (v := .int 0) kc_46_179 rfl rfl rfl ((eh21.2.1 115 (by decide)).trans ((eh20.2.1 115 (by decide)).trans ((eh19.2.1 115 (by decide)).trans ((eh18.2.1 115 (by decide)).trans ((eh17.2.1 115 (by decide)).trans ((eh16.2.1 115 (by decide)).trans ((eh15.2.1 115 (by decide)).trans ((eh14.2.1 115 (by decide)).trans ((eh13.2.1 115 (by decide)).trans ((eh12.2.1 115 (by decide)).trans ((eh11.2.1 115 (by decide)).trans ((eh10.2.1 115 (by decide)).trans ((eh9.2.1 115 (by decide)).trans ((eh8.2.1 115 (by decide)).trans ((eh7.2.1 115 (by decide)).trans ((eh6.2.1 115 (by decide)).trans ((eh5.2.1 115 (by decide)).trans ((eh4.2.1 115 (by decide)).trans ((et3.2.2.1 115 (by decide) (by decide)).trans eh2.1))))))))))))))))))) rfl ?_
        refine xi_cmt (pc' := 215) kc_46_182 rfl rfl ?_
        refine xi_iinc (pc' := 218) (x := 0) (v := 1) (lv' := [(5, .int 1), (4, .int 0), (2, .long 0), (0, .ref 115), (1, .int 0)]) kc_46_215 rfl rfl rfl rfl (xm_lt ml_46 rfl) ?_
        refine xi_goto (pc' := 56) kc_46_218 rfl ?_
        refine xi_iload (pc' := 58) (x := 1) kc_46_56 rfl rfl ?_
        refine xi_aload_n (pc' := 59) (x := 115) kc_46_58 rfl rfl ?_
        refine xi_getfield (pc' := 62) (v := .int 0) kc_46_59 rfl rfl rfl ((eh21.2.1 115 (by decide)).trans ((eh20.2.1 115 (by decide)).trans ((eh19.2.1 115 (by decide)).trans ((eh18.2.1 115 (by decide)).trans ((eh17.2.1 115 (by decide)).trans ((eh16.2.1 115 (by decide)).trans ((eh15.2.1 115 (by decide)).trans ((eh14.2.1 115 (by decide)).trans ((eh13.2.1 115 (by decide)).trans ((eh12.2.1 115 (by decide)).trans ((eh11.2.1 115 (by decide)).trans ((eh10.2.1 115 (by decide)).trans ((eh9.2.1 115 (by decide)).trans ((eh8.2.1 115 (by decide)).trans ((eh7.2.1 115 (by decide)).trans ((eh6.2.1 115 (by decide)).trans ((eh5.2.1 115 (by decide)).trans ((eh4.2.1 115 (by decide)).trans ((et3.2.2.1 115 (by decide) (by decide)).trans eh2.1))))))))))))))))))) rfl ?_
        refine xi_cmt (pc' := 221) kc_46_62 rfl rfl ?_
        refine xi_lload_n (pc' := 222) (x := 0) kc_46_221 rfl rfl ?_
        refine xi_lreturn kc_46_222 mr_46 ?_
        show xw J ov 97 44 (37, [(1, .int 0), (0, .ref 115)], [.long 0, .int 0, .ref 149], hh21) _
        refine xi_lastore (pc' := 38) (x' := _) kc_44_37 rfl ((eh21.2.1 149 (by decide)).trans ((eh20.2.1 149 (by decide)).trans ((eh19.2.1 149 (by decide)).trans ((eh18.2.1 149 (by decide)).trans ((eh17.2.1 149 (by decide)).trans ((eh16.2.1 149 (by decide)).trans ((eh15.2.1 149 (by decide)).trans ((eh14.2.1 149 (by decide)).trans ((eh13.2.1 149 (by decide)).trans ((eh12.2.1 149 (by decide)).trans ((eh11.2.1 149 (by decide)).trans ((eh10.2.1 149 (by decide)).trans ((eh9.2.1 149 (by decide)).trans ((eh8.2.1 149 (by decide)).trans ((eh7.2.1 149 (by decide)).trans ((eh6.2.1 149 (by decide)).trans ((eh5.2.1 149 (by decide)).trans ((eh4.2.1 149 (by decide)).trans ((et3.2.2.1 149 (by decide) (by decide)).trans ((eh2.2.1 149 (by decide)).trans ((eh1.2.1 149 (by decide)).trans (F 149 _ hl_149)))))))))))))))))))))) rfl (xi_in (by decide) (by simp only [List.length_replicate, List.length_set]; decide)) rfl (fun hh22 eh22 => ?_)
        refine xi_iinc (pc' := 41) (x := 0) (v := 1) (lv' := [(1, .int 1), (0, .ref 115)]) kc_44_38 rfl rfl rfl rfl (xm_lt ml_44 rfl) ?_
        refine xi_goto (pc' := 19) kc_44_41 rfl ?_
        refine xi_iload_n (pc' := 20) (x := 1) kc_44_19 rfl rfl ?_
        refine xi_aload_n (pc' := 21) (x := 115) kc_44_20 rfl rfl ?_
        refine xi_virtual (mj := 43) (as := []) (st1 := [.int 1]) (lv0 := [(0, .ref 115)]) kc_44_21 rfl rfl rfl rfl rfl ((eh22.2.1 115 (by decide)).trans ((eh21.2.1 115 (by decide)).trans ((eh20.2.1 115 (by decide)).trans ((eh19.2.1 115 (by decide)).trans ((eh18.2.1 115 (by decide)).trans ((eh17.2.1 115 (by decide)).trans ((eh16.2.1 115 (by decide)).trans ((eh15.2.1 115 (by decide)).trans ((eh14.2.1 115 (by decide)).trans ((eh13.2.1 115 (by decide)).trans ((eh12.2.1 115 (by decide)).trans ((eh11.2.1 115 (by decide)).trans ((eh10.2.1 115 (by decide)).trans ((eh9.2.1 115 (by decide)).trans ((eh8.2.1 115 (by decide)).trans ((eh7.2.1 115 (by decide)).trans ((eh6.2.1 115 (by decide)).trans ((eh5.2.1 115 (by decide)).trans ((eh4.2.1 115 (by decide)).trans ((et3.2.2.1 115 (by decide) (by decide)).trans eh2.1)))))))))))))))))))) (Nat.le_of_ble_eq_true rfl) (hJ _ _ _ _ (by decide)) (xm_le ml_43 rfl) rfl ?_
        refine xi_iconst (pc' := 1) (v := 1) kc_43_0 rfl rfl ?_
        refine xi_aload_n (pc' := 2) (x := 115) kc_43_1 rfl rfl ?_
        refine xi_getfield (pc' := 5) (v := .int 0) kc_43_2 rfl rfl rfl ((eh22.2.1 115 (by decide)).trans ((eh21.2.1 115 (by decide)).trans ((eh20.2.1 115 (by decide)).trans ((eh19.2.1 115 (by decide)).trans ((eh18.2.1 115 (by decide)).trans ((eh17.2.1 115 (by decide)).trans ((eh16.2.1 115 (by decide)).trans ((eh15.2.1 115 (by decide)).trans ((eh14.2.1 115 (by decide)).trans ((eh13.2.1 115 (by decide)).trans ((eh12.2.1 115 (by decide)).trans ((eh11.2.1 115 (by decide)).trans ((eh10.2.1 115 (by decide)).trans ((eh9.2.1 115 (by decide)).trans ((eh8.2.1 115 (by decide)).trans ((eh7.2.1 115 (by decide)).trans ((eh6.2.1 115 (by decide)).trans ((eh5.2.1 115 (by decide)).trans ((eh4.2.1 115 (by decide)).trans ((et3.2.2.1 115 (by decide) (by decide)).trans eh2.1)))))))))))))))))))) rfl ?_
        refine xi_bipush (pc' := 7) (v := 6) kc_43_5 rfl rfl ?_
        refine xi_cmf (pc' := 10) kc_43_7 rfl rfl ?_
        refine xi_aload_n (pc' := 11) (x := 115) kc_43_10 rfl rfl ?_
        refine xi_getfield (pc' := 14) (v := .int 0) kc_43_11 rfl rfl rfl ((eh22.2.1 115 (by decide)).trans ((eh21.2.1 115 (by decide)).trans ((eh20.2.1 115 (by decide)).trans ((eh19.2.1 115 (by decide)).trans ((eh18.2.1 115 (by decide)).trans ((eh17.2.1 115 (by decide)).trans ((eh16.2.1 115 (by decide)).trans ((eh15.2.1 115 (by decide)).trans ((eh14.2.1 115 (by decide)).trans ((eh13.2.1 115 (by decide)).trans ((eh12.2.1 115 (by decide)).trans ((eh11.2.1 115 (by decide)).trans ((eh10.2.1 115 (by decide)).trans ((eh9.2.1 115 (by decide)).trans ((eh8.2.1 115 (by decide)).trans ((eh7.2.1 115 (by decide)).trans ((eh6.2.1 115 (by decide)).trans ((eh5.2.1 115 (by decide)).trans ((eh4.2.1 115 (by decide)).trans ((et3.2.2.1 115 (by decide) (by decide)).trans eh2.1)))))))))))))))))))) rfl ?_
        refine xi_goto (pc' := 19) kc_43_14 rfl ?_
        refine xi_ishl (pc' := 20) (v := 1) kc_43_19 rfl rfl ?_
        refine xi_ireturn kc_43_20 mr_43 rfl ?_
        show xw J ov 97 44 (24, [(1, .int 1), (0, .ref 115)], [.int 1, .int 1], hh22) _
        refine xi_cmt (pc' := 44) kc_44_24 rfl rfl ?_
        refine xi_return kc_44_44 mr_44 ?_
        show xw J ov 98 49 (4, [(0, .ref 115)], [], hh22) _
        refine xi_iconst (pc' := 5) (v := 0) kc_49_4 rfl rfl ?_
        refine xi_istore_n (pc' := 6) (lv' := [(1, .int 0), (0, .ref 115)]) kc_49_5 rfl rfl (xm_lt ml_49 rfl) ?_
        refine xi_iconst (pc' := 7) (v := 1) kc_49_6 rfl rfl ?_
        refine xi_istore_n (pc' := 8) (lv' := [(2, .int 1), (1, .int 0), (0, .ref 115)]) kc_49_7 rfl rfl (xm_lt ml_49 rfl) ?_
        refine xi_iload_n (pc' := 9) (x := 1) kc_49_8 rfl rfl ?_
        refine xi_aload_n (pc' := 10) (x := 115) kc_49_9 rfl rfl ?_
        refine xi_virtual (mj := 43) (as := []) (st1 := [.int 1]) (lv0 := [(0, .ref 115)]) kc_49_10 rfl rfl rfl rfl rfl ((eh22.2.1 115 (by decide)).trans ((eh21.2.1 115 (by decide)).trans ((eh20.2.1 115 (by decide)).trans ((eh19.2.1 115 (by decide)).trans ((eh18.2.1 115 (by decide)).trans ((eh17.2.1 115 (by decide)).trans ((eh16.2.1 115 (by decide)).trans ((eh15.2.1 115 (by decide)).trans ((eh14.2.1 115 (by decide)).trans ((eh13.2.1 115 (by decide)).trans ((eh12.2.1 115 (by decide)).trans ((eh11.2.1 115 (by decide)).trans ((eh10.2.1 115 (by decide)).trans ((eh9.2.1 115 (by decide)).trans ((eh8.2.1 115 (by decide)).trans ((eh7.2.1 115 (by decide)).trans ((eh6.2.1 115 (by decide)).trans ((eh5.2.1 115 (by decide)).trans ((eh4.2.1 115 (by decide)).trans ((et3.2.2.1 115 (by decide) (by decide)).trans eh2.1)))))))))))))))))))) (Nat.le_of_ble_eq_true rfl) (hJ _ _ _ _ (by decide)) (xm_le ml_43 rfl) rfl ?_
        refine xi_iconst (pc' := 1) (v := 1) kc_43_0 rfl rfl ?_
        refine xi_aload_n (pc' := 2) (x := 115) kc_43_1 rfl rfl ?_
        refine xi_getfield (pc' := 5) (v := .int 0) kc_43_2 rfl rfl rfl ((eh22.2.1 115 (by decide)).trans ((eh21.2.1 115 (by decide)).trans ((eh20.2.1 115 (by decide)).trans ((eh19.2.1 115 (by decide)).trans ((eh18.2.1 115 (by decide)).trans ((eh17.2.1 115 (by decide)).trans ((eh16.2.1 115 (by decide)).trans ((eh15.2.1 115 (by decide)).trans ((eh14.2.1 115 (by decide)).trans ((eh13.2.1 115 (by decide)).trans ((eh12.2.1 115 (by decide)).trans ((eh11.2.1 115 (by decide)).trans ((eh10.2.1 115 (by decide)).trans ((eh9.2.1 115 (by decide)).trans ((eh8.2.1 115 (by decide)).trans ((eh7.2.1 115 (by decide)).trans ((eh6.2.1 115 (by decide)).trans ((eh5.2.1 115 (by decide)).trans ((eh4.2.1 115 (by decide)).trans ((et3.2.2.1 115 (by decide) (by decide)).trans eh2.1)))))))))))))))))))) rfl ?_
        refine xi_bipush (pc' := 7) (v := 6) kc_43_5 rfl rfl ?_
        refine xi_cmf (pc' := 10) kc_43_7 rfl rfl ?_
        refine xi_aload_n (pc' := 11) (x := 115) kc_43_10 rfl rfl ?_
        refine xi_getfield (pc' := 14) (v := .int 0) kc_43_11 rfl rfl rfl ((eh22.2.1 115 (by decide)).trans ((eh21.2.1 115 (by decide)).trans ((eh20.2.1 115 (by decide)).trans ((eh19.2.1 115 (by decide)).trans ((eh18.2.1 115 (by decide)).trans ((eh17.2.1 115 (by decide)).trans ((eh16.2.1 115 (by decide)).trans ((eh15.2.1 115 (by decide)).trans ((eh14.2.1 115 (by decide)).trans ((eh13.2.1 115 (by decide)).trans ((eh12.2.1 115 (by decide)).trans ((eh11.2.1 115 (by decide)).trans ((eh10.2.1 115 (by decide)).trans ((eh9.2.1 115 (by decide)).trans ((eh8.2.1 115 (by decide)).trans ((eh7.2.1 115 (by decide)).trans ((eh6.2.1 115 (by decide)).trans ((eh5.2.1 115 (by decide)).trans ((eh4.2.1 115 (by decide)).trans ((et3.2.2.1 115 (by decide) (by decide)).trans eh2.1)))))))))))))))))))) rfl ?_
        refine xi_goto (pc' := 19) kc_43_14 rfl ?_
        refine xi_ishl (pc' := 20) (v := 1) kc_43_19 rfl rfl ?_
        refine xi_ireturn kc_43_20 mr_43 rfl ?_
        show xw J ov 98 49 (13, [(2, .int 1), (1, .int 0), (0, .ref 115)], [.int 1, .int 1], hh22) _
        refine xi_cmt (pc' := 81) kc_49_13 rfl rfl ?_
        refine xi_iload_n (pc' := 82) (x := 0) kc_49_81 rfl rfl ?_
        refine xi_ireturn kc_49_82 mr_49 rfl ?_
        show xw J ov 99 74 (34, [(0, .ref 115), (1, .int a1), (2, .int a2)], [.int 0], hh22) _
        refine xi_istore_n (pc' := 35) (lv' := [(3, .int 0), (0, .ref 115), (1, .int a1), (2, .int a2)]) kc_74_34 rfl rfl (xm_lt ml_74 rfl) ?_
        refine xi_iconst (pc' := 36) (v := 0) kc_74_35 rfl rfl ?_
        refine xi_istore (pc' := 38) (lv' := [(4, .int 0), (3, .int 0), (0, .ref 115), (1, .int a1), (2, .int a2)]) kc_74_36 rfl rfl (xm_lt ml_74 rfl) ?_
        refine xi_iconst (pc' := 39) (v := 0) kc_74_38 rfl rfl ?_
        refine xi_istore (pc' := 41) (lv' := [(5, .int 0), (4, .int 0), (3, .int 0), (0, .ref 115), (1, .int a1), (2, .int a2)]) kc_74_39 rfl rfl (xm_lt ml_74 rfl) ?_
        refine xi_iload (pc' := 43) (x := 0) kc_74_41 rfl rfl ?_
        refine xi_bipush (pc' := 45) (v := 6) kc_74_43 rfl rfl ?_
        refine xi_cmf (pc' := 48) kc_74_45 rfl rfl ?_
        refine xi_iload (pc' := 50) (x := 0) kc_74_48 rfl rfl ?_
        refine xi_aload_n (pc' := 51) (x := 115) kc_74_50 rfl rfl ?_
        refine xi_getfield (pc' := 54) (v := .int 0) kc_74_51 rfl rfl rfl ((eh22.2.1 115 (by decide)).trans ((eh21.2.1 115 (by decide)).trans ((eh20.2.1 115 (by decide)).trans ((eh19.2.1 115 (by decide)).trans ((eh18.2.1 115 (by decide)).trans ((eh17.2.1 115 (by decide)).trans ((eh16.2.1 115 (by decide)).trans ((eh15.2.1 115 (by decide)).trans ((eh14.2.1 115 (by decide)).trans ((eh13.2.1 115 (by decide)).trans ((eh12.2.1 115 (by decide)).trans ((eh11.2.1 115 (by decide)).trans ((eh10.2.1 115 (by decide)).trans ((eh9.2.1 115 (by decide)).trans ((eh8.2.1 115 (by decide)).trans ((eh7.2.1 115 (by decide)).trans ((eh6.2.1 115 (by decide)).trans ((eh5.2.1 115 (by decide)).trans ((eh4.2.1 115 (by decide)).trans ((et3.2.2.1 115 (by decide) (by decide)).trans eh2.1)))))))))))))))))))) rfl ?_
        refine xi_cmt (pc' := 96) kc_74_54 rfl rfl ?_
        refine xi_aload_n (pc' := 97) (x := 115) kc_74_96 rfl rfl ?_
        refine xi_getfield (pc' := 100) (v := .ref 166) kc_74_97 rfl rfl rfl ((eh22.2.1 115 (by decide)).trans ((eh21.2.1 115 (by decide)).trans ((eh20.2.1 115 (by decide)).trans ((eh19.2.1 115 (by decide)).trans ((eh18.2.1 115 (by decide)).trans ((eh17.2.1 115 (by decide)).trans ((eh16.2.1 115 (by decide)).trans ((eh15.2.1 115 (by decide)).trans ((eh14.2.1 115 (by decide)).trans ((eh13.2.1 115 (by decide)).trans ((eh12.2.1 115 (by decide)).trans ((eh11.2.1 115 (by decide)).trans ((eh10.2.1 115 (by decide)).trans ((eh9.2.1 115 (by decide)).trans ((eh8.2.1 115 (by decide)).trans ((eh7.2.1 115 (by decide)).trans ((eh6.2.1 115 (by decide)).trans ((eh5.2.1 115 (by decide)).trans ((eh4.2.1 115 (by decide)).trans ((et3.2.2.1 115 (by decide) (by decide)).trans eh2.1)))))))))))))))))))) rfl ?_
        refine xi_iload_n (pc' := 101) (x := a1) kc_74_100 rfl rfl ?_
        refine xi_iaload (pc' := 102) (v := (-1)) kc_74_101 rfl ((eh22.2.1 166 (by decide)).trans ((eh21.2.1 166 (by decide)).trans ((eh20.2.1 166 (by decide)).trans ((eh19.2.1 166 (by decide)).trans ((eh18.2.1 166 (by decide)).trans ((eh17.2.1 166 (by decide)).trans ((eh16.2.1 166 (by decide)).trans ((eh15.2.1 166 (by decide)).trans ((eh14.2.1 166 (by decide)).trans ((eh13.2.1 166 (by decide)).trans ((eh12.2.1 166 (by decide)).trans ((eh11.2.1 166 (by decide)).trans ((eh10.2.1 166 (by decide)).trans ((eh9.2.1 166 (by decide)).trans ((eh8.2.1 166 (by decide)).trans ((eh7.2.1 166 (by decide)).trans ((eh6.2.1 166 (by decide)).trans ((eh5.2.1 166 (by decide)).trans ((eh4.2.1 166 (by decide)).trans ((et3.2.2.1 166 (by decide) (by decide)).trans ((eh2.2.1 166 (by decide)).trans ((eh1.2.1 166 (by decide)).trans (F 166 _ hl_166))))))))))))))))))))))) (by decide) rfl (xi_in (by omega) (by simp only [List.length_replicate]; omega)) (xa_rep (by omega) (by omega)) ?_
        refine xi_iff (pc' := 105) kc_74_102 rfl rfl ?_
        refine xi_aload_n (pc' := 106) (x := 115) kc_74_105 rfl rfl ?_
        refine xi_getfield (pc' := 109) (v := .int 0) kc_74_106 rfl rfl rfl ((eh22.2.1 115 (by decide)).trans ((eh21.2.1 115 (by decide)).trans ((eh20.2.1 115 (by decide)).trans ((eh19.2.1 115 (by decide)).trans ((eh18.2.1 115 (by decide)).trans ((eh17.2.1 115 (by decide)).trans ((eh16.2.1 115 (by decide)).trans ((eh15.2.1 115 (by decide)).trans ((eh14.2.1 115 (by decide)).trans ((eh13.2.1 115 (by decide)).trans ((eh12.2.1 115 (by decide)).trans ((eh11.2.1 115 (by decide)).trans ((eh10.2.1 115 (by decide)).trans ((eh9.2.1 115 (by decide)).trans ((eh8.2.1 115 (by decide)).trans ((eh7.2.1 115 (by decide)).trans ((eh6.2.1 115 (by decide)).trans ((eh5.2.1 115 (by decide)).trans ((eh4.2.1 115 (by decide)).trans ((et3.2.2.1 115 (by decide) (by decide)).trans eh2.1)))))))))))))))))))) rfl ?_
        refine xi_goto (pc' := 118) kc_74_109 rfl ?_
        refine xi_bipush (pc' := 120) (v := 24) kc_74_118 rfl rfl ?_
        refine xi_idiv (pc' := 121) (v := 0) kc_74_120 rfl rfl (by decide) ?_
        refine xi_istore (pc' := 123) (lv' := [(5, .int 0), (4, .int 0), (3, .int 0), (0, .ref 115), (1, .int a1), (2, .int a2)]) kc_74_121 rfl rfl (xm_lt ml_74 rfl) ?_
        refine xi_iconst (pc' := 124) (v := (-1)) kc_74_123 rfl rfl ?_
        refine xi_istore (pc' := 126) (lv' := [(6, .int (-1)), (5, .int 0), (4, .int 0), (3, .int 0), (0, .ref 115), (1, .int a1), (2, .int a2)]) kc_74_124 rfl rfl (xm_lt ml_74 rfl) ?_
        refine xi_iconst (pc' := 127) (v := 0) kc_74_126 rfl rfl ?_
        refine xi_istore (pc' := 129) (lv' := [(7, .int 0), (6, .int (-1)), (5, .int 0), (4, .int 0), (3, .int 0), (0, .ref 115), (1, .int a1), (2, .int a2)]) kc_74_127 rfl rfl (xm_lt ml_74 rfl) ?_
        refine xi_iload (pc' := 131) (x := 0) kc_74_129 rfl rfl ?_
        refine xi_aload_n (pc' := 132) (x := 115) kc_74_131 rfl rfl ?_
        refine xi_getfield (pc' := 135) (v := .int 0) kc_74_132 rfl rfl rfl ((eh22.2.1 115 (by decide)).trans ((eh21.2.1 115 (by decide)).trans ((eh20.2.1 115 (by decide)).trans ((eh19.2.1 115 (by decide)).trans ((eh18.2.1 115 (by decide)).trans ((eh17.2.1 115 (by decide)).trans ((eh16.2.1 115 (by decide)).trans ((eh15.2.1 115 (by decide)).trans ((eh14.2.1 115 (by decide)).trans ((eh13.2.1 115 (by decide)).trans ((eh12.2.1 115 (by decide)).trans ((eh11.2.1 115 (by decide)).trans ((eh10.2.1 115 (by decide)).trans ((eh9.2.1 115 (by decide)).trans ((eh8.2.1 115 (by decide)).trans ((eh7.2.1 115 (by decide)).trans ((eh6.2.1 115 (by decide)).trans ((eh5.2.1 115 (by decide)).trans ((eh4.2.1 115 (by decide)).trans ((et3.2.2.1 115 (by decide) (by decide)).trans eh2.1)))))))))))))))))))) rfl ?_
        refine xi_cmt (pc' := 198) kc_74_135 rfl rfl ?_
        refine xi_iload (pc' := 200) (x := 0) kc_74_198 rfl rfl ?_
        refine xi_ift (pc' := 208) kc_74_200 rfl rfl ?_
        refine xi_bipush (pc' := 210) (v := (-9)) kc_74_208 rfl rfl ?_
        refine xi_ireturn kc_74_210 mr_74 rfl ?_
        show xw J ov 100 196 (1473, [(4, .int 0), (3, .ref 167), (2, .ref 115), (1, .ref 0), (0, .ref 1000000)], [.int (-9), .int (-9)], hh22) _
        refine xi_cmt (pc' := 1528) kc_196_1473 rfl rfl ?_
        refine xi_iinc (pc' := 1531) (x := 0) (v := 6) (lv' := [(4, .int 6), (3, .ref 167), (2, .ref 115), (1, .ref 0), (0, .ref 1000000)]) kc_196_1528 rfl rfl rfl rfl (xm_lt ml_196 rfl) ?_
        refine xi_goto (pc' := 23) kc_196_1531 rfl ?_
        refine xi_iload (pc' := 25) (x := 6) kc_196_23 rfl rfl ?_
        refine xi_aload_n (pc' := 26) (x := 1000000) kc_196_25 rfl rfl ?_
        refine xi_arraylength (pc' := 27) (n := 6) (v := 6) kc_196_26 rfl (xl_lenO (by decide) hov0 rfl) rfl ?_
        refine xi_bipush (pc' := 29) (v := 6) kc_196_27 rfl rfl ?_
        refine xi_isub (pc' := 30) (v := 0) kc_196_29 rfl rfl ?_
        refine xi_cmt (pc' := 1534) kc_196_30 rfl rfl ?_
        refine xi_iconst (pc' := 1535) (v := 1) kc_196_1534 rfl rfl ?_
        refine xi_ireturn kc_196_1535 mr_196 rfl ?_
        refine ⟨rfl, ?_, ?_⟩
        · rw [eh22.2.2.1, eh21.2.2.1, eh20.2.2.1, eh19.2.2.1, eh18.2.2.1, eh17.2.2.1, eh16.2.2.1, eh15.2.2.1, eh14.2.2.1, eh13.2.2.1, eh12.2.2.1, eh11.2.2.1, eh10.2.2.1, eh9.2.2.1, eh8.2.2.1, eh7.2.2.1, eh6.2.2.1, eh5.2.2.1, eh4.2.2.1, et3.2.2.2.1, eh2.2.2.1, eh1.2.2.1]; exact hn0
        · rw [eh22.2.2.2, eh21.2.2.2, eh20.2.2.2, eh19.2.2.2, eh18.2.2.2, eh17.2.2.2, eh16.2.2.2, eh15.2.2.2, eh14.2.2.2, eh13.2.2.2, eh12.2.2.2, eh11.2.2.2, eh10.2.2.2, eh9.2.2.2, eh8.2.2.2, eh7.2.2.2, eh6.2.2.2, eh5.2.2.2, eh4.2.2.2, et3.2.2.2.2, eh2.2.2.2, eh1.2.2.2]; exact hz0
      · refine xi_iff (pc' := 11) kc_183_8 rfl (xc_eq_f (X := a2.toInt) (Y := 0) rfl (by decide) (by omega)) ?_
        refine xi_iload_n (pc' := 12) (x := a2) kc_183_11 rfl rfl ?_
        refine xi_iconst (pc' := 13) (v := 1) kc_183_12 rfl rfl ?_
        by_cases c4 : a2.toInt = 1
        · refine xi_cmt (pc' := 23) kc_183_13 rfl (xc_eq_t (X := a2.toInt) (Y := 1) rfl (by decide) (by omega)) ?_
          refine xi_aload_n (pc' := 24) (x := 0) kc_183_23 rfl rfl ?_
          refine xi_getfield (pc' := 27) (v := .ref 1) kc_183_24 rfl rfl rfl (F 0 _ hl_0) rfl ?_
          refine xi_aload_n (pc' := 28) (x := 0) kc_183_27 rfl rfl ?_
          refine xi_getfield (pc' := 31) (v := .ref 66) kc_183_28 rfl rfl rfl (F 0 _ hl_0) rfl ?_
          refine xi_virtual (mj := 146) (as := []) (st1 := [.ref 1]) (lv0 := [(0, .ref 66)]) kc_183_31 rfl rfl rfl rfl rfl (F 66 _ hl_66) (Nat.le_of_ble_eq_true rfl) (hJ _ _ _ _ (by decide)) (xm_le ml_146 rfl) rfl ?_
          refine xi_iconst (pc' := 1) (v := 0) kc_146_0 rfl rfl ?_
          refine xi_istore_n (pc' := 2) (lv' := [(1, .int 0), (0, .ref 66)]) kc_146_1 rfl rfl (xm_lt ml_146 rfl) ?_
          refine xi_iconst (pc' := 3) (v := 1) kc_146_2 rfl rfl ?_
          refine xi_istore_n (pc' := 4) (lv' := [(2, .int 1), (1, .int 0), (0, .ref 66)]) kc_146_3 rfl rfl (xm_lt ml_146 rfl) ?_
          refine xi_iload_n (pc' := 5) (x := 1) kc_146_4 rfl rfl ?_
          refine xi_aload_n (pc' := 6) (x := 66) kc_146_5 rfl rfl ?_
          refine xi_virtual (mj := 140) (as := []) (st1 := [.int 1]) (lv0 := [(0, .ref 66)]) kc_146_6 rfl rfl rfl rfl rfl (F 66 _ hl_66) (Nat.le_of_ble_eq_true rfl) (hJ _ _ _ _ (by decide)) (xm_le ml_140 rfl) rfl ?_
          refine xi_iconst (pc' := 1) (v := 1) kc_140_0 rfl rfl ?_
          refine xi_aload_n (pc' := 2) (x := 66) kc_140_1 rfl rfl ?_
          refine xi_getfield (pc' := 5) (v := .ref 1) kc_140_2 rfl rfl rfl (F 66 _ hl_66) rfl ?_
          refine xi_virtual (mj := 141) (as := []) (st1 := [.int 1]) (lv0 := [(0, .ref 1)]) kc_140_5 rfl rfl rfl rfl rfl (F 1 _ hl_1) (Nat.le_of_ble_eq_true rfl) (hJ _ _ _ _ (by decide)) (xm_le ml_141 rfl) rfl ?_
          refine xi_aload_n (pc' := 1) (x := 1) kc_141_0 rfl rfl ?_
          refine xi_getfield (pc' := 4) (v := .int 0) kc_141_1 rfl rfl rfl (F 1 _ hl_1) rfl ?_
          refine xi_bipush (pc' := 6) (v := 6) kc_141_4 rfl rfl ?_
          refine xi_cmf (pc' := 9) kc_141_6 rfl rfl ?_
          refine xi_aload_n (pc' := 10) (x := 1) kc_141_9 rfl rfl ?_
          refine xi_getfield (pc' := 13) (v := .int 0) kc_141_10 rfl rfl rfl (F 1 _ hl_1) rfl ?_
          refine xi_goto (pc' := 18) kc_141_13 rfl ?_
          refine xi_ireturn kc_141_18 mr_141 rfl ?_
          show xw J ov 97 140 (8, [(0, .ref 66)], [.int 0, .int 1], h0) _
          refine xi_ishl (pc' := 9) (v := 1) kc_140_8 rfl rfl ?_
          refine xi_ireturn kc_140_9 mr_140 rfl ?_
          show xw J ov 98 146 (9, [(2, .int 1), (1, .int 0), (0, .ref 66)], [.int 1, .int 1], h0) _
          refine xi_cmt (pc' := 55) kc_146_9 rfl rfl ?_
          refine xi_iload_n (pc' := 56) (x := 0) kc_146_55 rfl rfl ?_
          refine xi_ireturn kc_146_56 mr_146 rfl ?_
          show xw J ov 99 183 (34, [(0, .ref 0), (1, .int a1), (2, .int a2)], [.int 0, .ref 1], h0) _
          refine xi_iload_n (pc' := 35) (x := a1) kc_183_34 rfl rfl ?_
          refine xi_virtual (mj := 184) (as := [.int 0, .int a1]) (st1 := []) (lv0 := [(0, .ref 1), (1, .int 0), (2, .int a1)]) kc_183_35 rfl rfl rfl rfl rfl (F 1 _ hl_1) (Nat.le_of_ble_eq_true rfl) (hJ _ _ _ _ (by decide)) (xm_le ml_184 rfl) rfl ?_
          refine xi_iconst (pc' := 1) (v := 0) kc_184_0 rfl rfl ?_
          refine xi_istore_n (pc' := 2) (lv' := [(3, .int 0), (0, .ref 1), (1, .int 0), (2, .int a1)]) kc_184_1 rfl rfl (xm_lt ml_184 rfl) ?_
          refine xi_iload_n (pc' := 3) (x := 0) kc_184_2 rfl rfl ?_
          refine xi_aload_n (pc' := 4) (x := 1) kc_184_3 rfl rfl ?_
          refine xi_getfield (pc' := 7) (v := .int 0) kc_184_4 rfl rfl rfl (F 1 _ hl_1) rfl ?_
          refine xi_cmt (pc' := 45) kc_184_7 rfl rfl ?_
          refine xi_iconst (pc' := 46) (v := 0) kc_184_45 rfl rfl ?_
          refine xi_ireturn kc_184_46 mr_184 rfl ?_
          show xw J ov 99 183 (38, [(0, .ref 0), (1, .int a1), (2, .int a2)], [.int 0], h0) _
          refine xi_iff (pc' := 41) kc_183_38 rfl rfl ?_
          refine xi_bipush (pc' := 43) (v := (-9)) kc_183_41 rfl rfl ?_
          refine xi_ireturn kc_183_43 mr_183 rfl ?_
          show xw J ov 100 196 (1457, [(4, .int 0), (3, .ref 167), (2, .ref 115), (1, .ref 0), (0, .ref 1000000)], [.int (-9)], h0) _
          refine xi_aload_n (pc' := 1458) (x := 115) kc_196_1457 rfl rfl ?_
          refine xi_aload_n (pc' := 1459) (x := 1000000) kc_196_1458 rfl rfl ?_
          refine xi_iload (pc' := 1461) (x := 0) kc_196_1459 rfl rfl ?_
          refine xi_iconst (pc' := 1462) (v := 1) kc_196_1461 rfl rfl ?_
          refine xi_iadd (pc' := 1463) (v := 1) kc_196_1462 rfl rfl ?_
          refine xi_ialoadO (pc' := 1464) (v := a1) kc_196_1463 rfl (by decide) hov0 (xi_in (n := 6) (by decide) (by decide)) rfl ?_
          refine xi_aload_n (pc' := 1465) (x := 1000000) kc_196_1464 rfl rfl ?_
          refine xi_iload (pc' := 1467) (x := 0) kc_196_1465 rfl rfl ?_
          refine xi_iconst (pc' := 1468) (v := 2) kc_196_1467 rfl rfl ?_
          refine xi_iadd (pc' := 1469) (v := 2) kc_196_1468 rfl rfl ?_
          refine xi_ialoadO (pc' := 1470) (v := a2) kc_196_1469 rfl (by decide) hov0 (xi_in (n := 6) (by decide) (by decide)) rfl ?_
          refine xi_virtual (mj := 74) (as := [.int a1, .int a2]) (st1 := [.int (-9)]) (lv0 := [(0, .ref 115), (1, .int a1), (2, .int a2)]) kc_196_1470 rfl rfl rfl rfl rfl (F 115 _ hl_115) (Nat.le_of_ble_eq_true rfl) (hJ _ _ _ _ (by decide)) (xm_le ml_74 rfl) rfl ?_
          refine xi_aload_n (pc' := 1) (x := 115) kc_74_0 rfl rfl ?_
          refine xi_iconst (pc' := 2) (v := 0) kc_74_1 rfl rfl ?_
          refine xi_putfield (pc' := 5) (fs' := [.int 0, .int 0, .ref 116, .ref 117, .ref 118, .ref 119, .ref 120, .ref 121, .ref 122, .ref 123, .ref 124, .ref 125, .ref 126, .ref 127, .ref 128, .ref 129, .int 4, .ref 130, .int 0, .ref 131, .ref 132, .ref 133, .ref 134, .int 0, .ref 135, .ref 136, .ref 137, .ref 138, .ref 139, .ref 140, .ref 141, .ref 142, .int 0, .int 0, .int 0, .ref 143, .ref 144, .ref 145, .ref 146, .ref 147, .ref 148, .int 0, .ref 149, .ref 150, .ref 151, .int 0, .ref 152, .ref 153, .ref 154, .ref 155, .ref 156, .ref 157, .ref 158, .ref 159, .int 0, .ref 160, .int 0, .ref 161, .ref 162, .ref 163, .ref 164, .int 0, .ref 165, .ref 166]) kc_74_2 rfl rfl rfl (F 115 _ hl_115) rfl rfl rfl (Nat.le_of_ble_eq_true rfl) rfl (fun hh1 eh1 => ?_)
          refine xi_iload_n (pc' := 6) (x := a1) kc_74_5 rfl rfl ?_
          refine xi_iconst (pc' := 7) (v := 0) kc_74_6 rfl rfl ?_
          refine xi_iconst (pc' := 8) (v := 3) kc_74_7 rfl rfl ?_
          refine xi_static (mj := 12) (as := [.int a1, .int 0, .int 3]) (st1 := []) (lv0 := [(0, .int a1), (1, .int 0), (2, .int 3)]) kc_74_8 rfl rfl (Nat.le_of_ble_eq_true rfl) rfl rfl (Nat.le_of_ble_eq_true rfl) (hJ _ _ _ _ (by decide)) (xm_le ml_12 rfl) rfl ?_
          refine xi_iload_n (pc' := 1) (x := a1) kc_12_0 rfl rfl ?_
          refine xi_iload_n (pc' := 2) (x := 0) kc_12_1 rfl rfl ?_
          refine xi_cmf (pc' := 5) kc_12_2 rfl (xc_lt_f (X := a1.toInt) (Y := 0) rfl (by decide) (by omega)) ?_
          refine xi_iload_n (pc' := 6) (x := a1) kc_12_5 rfl rfl ?_
          refine xi_iload_n (pc' := 7) (x := 3) kc_12_6 rfl rfl ?_
          refine xi_cmf (pc' := 10) kc_12_7 rfl (xc_gt_f (X := a1.toInt) (Y := 3) rfl (by decide) (by omega)) ?_
          refine xi_iconst (pc' := 11) (v := 1) kc_12_10 rfl rfl ?_
          refine xi_goto (pc' := 15) kc_12_11 rfl ?_
          refine xi_ireturn kc_12_15 mr_12 rfl ?_
          show xw J ov 99 74 (11, [(0, .ref 115), (1, .int a1), (2, .int a2)], [.int 1], hh1) _
          refine xi_iff (pc' := 14) kc_74_11 rfl rfl ?_
          refine xi_iload_n (pc' := 15) (x := a2) kc_74_14 rfl rfl ?_
          refine xi_iconst (pc' := 16) (v := 0) kc_74_15 rfl rfl ?_
          refine xi_iconst (pc' := 17) (v := 1) kc_74_16 rfl rfl ?_
          refine xi_static (mj := 12) (as := [.int a2, .int 0, .int 1]) (st1 := []) (lv0 := [(0, .int a2), (1, .int 0), (2, .int 1)]) kc_74_17 rfl rfl (Nat.le_of_ble_eq_true rfl) rfl rfl (Nat.le_of_ble_eq_true rfl) (hJ _ _ _ _ (by decide)) (xm_le ml_12 rfl) rfl ?_
          refine xi_iload_n (pc' := 1) (x := a2) kc_12_0 rfl rfl ?_
          refine xi_iload_n (pc' := 2) (x := 0) kc_12_1 rfl rfl ?_
          refine xi_cmf (pc' := 5) kc_12_2 rfl (xc_lt_f (X := a2.toInt) (Y := 0) rfl (by decide) (by omega)) ?_
          refine xi_iload_n (pc' := 6) (x := a2) kc_12_5 rfl rfl ?_
          refine xi_iload_n (pc' := 7) (x := 1) kc_12_6 rfl rfl ?_
          refine xi_cmf (pc' := 10) kc_12_7 rfl (xc_gt_f (X := a2.toInt) (Y := 1) rfl (by decide) (by omega)) ?_
          refine xi_iconst (pc' := 11) (v := 1) kc_12_10 rfl rfl ?_
          refine xi_goto (pc' := 15) kc_12_11 rfl ?_
          refine xi_ireturn kc_12_15 mr_12 rfl ?_
          show xw J ov 99 74 (20, [(0, .ref 115), (1, .int a1), (2, .int a2)], [.int 1], hh1) _
          refine xi_ift (pc' := 30) kc_74_20 rfl rfl ?_
          refine xi_aload_n (pc' := 31) (x := 115) kc_74_30 rfl rfl ?_
          refine xi_virtual (mj := 49) (as := []) (st1 := []) (lv0 := [(0, .ref 115)]) kc_74_31 rfl rfl rfl rfl rfl eh1.1 (Nat.le_of_ble_eq_true rfl) (hJ _ _ _ _ (by decide)) (xm_le ml_49 rfl) rfl ?_
          refine xi_aload_n (pc' := 1) (x := 115) kc_49_0 rfl rfl ?_
          refine xi_virtual (mj := 44) (as := []) (st1 := []) (lv0 := [(0, .ref 115)]) kc_49_1 rfl rfl rfl rfl rfl eh1.1 (Nat.le_of_ble_eq_true rfl) (hJ _ _ _ _ (by decide)) (xm_le ml_44 rfl) rfl ?_
          refine xi_aload_n (pc' := 1) (x := 115) kc_44_0 rfl rfl ?_
          refine xi_getfield (pc' := 4) (v := .int 0) kc_44_1 rfl rfl rfl eh1.1 rfl ?_
          refine xi_ift (pc' := 8) kc_44_4 rfl rfl ?_
          refine xi_aload_n (pc' := 9) (x := 115) kc_44_8 rfl rfl ?_
          refine xi_iconst (pc' := 10) (v := 1) kc_44_9 rfl rfl ?_
          refine xi_putfield (pc' := 13) (fs' := [.int 0, .int 0, .ref 116, .ref 117, .ref 118, .ref 119, .ref 120, .ref 121, .ref 122, .ref 123, .ref 124, .ref 125, .ref 126, .ref 127, .ref 128, .ref 129, .int 4, .ref 130, .int 0, .ref 131, .ref 132, .ref 133, .ref 134, .int 0, .ref 135, .ref 136, .ref 137, .ref 138, .ref 139, .ref 140, .ref 141, .ref 142, .int 0, .int 0, .int 0, .ref 143, .ref 144, .ref 145, .ref 146, .ref 147, .ref 148, .int 1, .ref 149, .ref 150, .ref 151, .int 0, .ref 152, .ref 153, .ref 154, .ref 155, .ref 156, .ref 157, .ref 158, .ref 159, .int 0, .ref 160, .int 0, .ref 161, .ref 162, .ref 163, .ref 164, .int 0, .ref 165, .ref 166]) kc_44_10 rfl rfl rfl eh1.1 rfl rfl rfl (Nat.le_of_ble_eq_true rfl) rfl (fun hh2 eh2 => ?_)
          refine xi_aload_n (pc' := 14) (x := 115) kc_44_13 rfl rfl ?_
          refine xi_virtual (mj := 45) (as := []) (st1 := []) (lv0 := [(0, .ref 115)]) kc_44_14 rfl rfl rfl rfl rfl eh2.1 (Nat.le_of_ble_eq_true rfl) (hJ _ _ _ _ (by decide)) (xm_le ml_45 rfl) rfl ?_
          refine xi_iconst (pc' := 1) (v := 5) kc_45_0 rfl rfl ?_
          refine xi_istore_n (pc' := 2) (lv' := [(1, .int 5), (0, .ref 115)]) kc_45_1 rfl rfl (xm_lt ml_45 rfl) ?_
          refine xi_iconst (pc' := 3) (v := 0) kc_45_2 rfl rfl ?_
          refine xi_istore_n (pc' := 4) (lv' := [(2, .int 0), (1, .int 5), (0, .ref 115)]) kc_45_3 rfl rfl (xm_lt ml_45 rfl) ?_
          refine xi_iconst (pc' := 5) (v := 0) kc_45_4 rfl rfl ?_
          refine xi_istore_n (pc' := 6) (lv' := [(3, .int 0), (2, .int 0), (1, .int 5), (0, .ref 115)]) kc_45_5 rfl rfl (xm_lt ml_45 rfl) ?_
          refine lp_weather hJ eh2.1 ((eh2.2.1 123 (by decide)).trans ((eh1.2.1 123 (by decide)).trans (F 123 _ hl_123))) ((eh2.2.1 124 (by decide)).trans ((eh1.2.1 124 (by decide)).trans (F 124 _ hl_124))) (fun y3 z3 hh3 ly3 lz3 et3 => ?_) 600 0 (List.replicate 600 0) (List.replicate 600 0) hh2 (by decide) (by decide) (by decide) (by simp only [List.length_replicate]) (by simp only [List.length_replicate]) ⟨((eh2.2.1 150 (by decide)).trans ((eh1.2.1 150 (by decide)).trans (F 150 _ hl_150))), ((eh2.2.1 151 (by decide)).trans ((eh1.2.1 151 (by decide)).trans (F 151 _ hl_151))), fun _ _ _ => rfl, rfl, rfl⟩
          show xw J ov 97 44 (17, [(0, .ref 115)], [], hh3) _
          refine xi_iconst (pc' := 18) (v := 0) kc_44_17 rfl rfl ?_
          refine xi_istore_n (pc' := 19) (lv' := [(1, .int 0), (0, .ref 115)]) kc_44_18 rfl rfl (xm_lt ml_44 rfl) ?_
          refine xi_iload_n (pc' := 20) (x := 0) kc_44_19 rfl rfl ?_
          refine xi_aload_n (pc' := 21) (x := 115) kc_44_20 rfl rfl ?_
          refine xi_virtual (mj := 43) (as := []) (st1 := [.int 0]) (lv0 := [(0, .ref 115)]) kc_44_21 rfl rfl rfl rfl rfl ((et3.2.2.1 115 (by decide) (by decide)).trans eh2.1) (Nat.le_of_ble_eq_true rfl) (hJ _ _ _ _ (by decide)) (xm_le ml_43 rfl) rfl ?_
          refine xi_iconst (pc' := 1) (v := 1) kc_43_0 rfl rfl ?_
          refine xi_aload_n (pc' := 2) (x := 115) kc_43_1 rfl rfl ?_
          refine xi_getfield (pc' := 5) (v := .int 0) kc_43_2 rfl rfl rfl ((et3.2.2.1 115 (by decide) (by decide)).trans eh2.1) rfl ?_
          refine xi_bipush (pc' := 7) (v := 6) kc_43_5 rfl rfl ?_
          refine xi_cmf (pc' := 10) kc_43_7 rfl rfl ?_
          refine xi_aload_n (pc' := 11) (x := 115) kc_43_10 rfl rfl ?_
          refine xi_getfield (pc' := 14) (v := .int 0) kc_43_11 rfl rfl rfl ((et3.2.2.1 115 (by decide) (by decide)).trans eh2.1) rfl ?_
          refine xi_goto (pc' := 19) kc_43_14 rfl ?_
          refine xi_ishl (pc' := 20) (v := 1) kc_43_19 rfl rfl ?_
          refine xi_ireturn kc_43_20 mr_43 rfl ?_
          show xw J ov 97 44 (24, [(1, .int 0), (0, .ref 115)], [.int 1, .int 0], hh3) _
          refine xi_cmf (pc' := 27) kc_44_24 rfl rfl ?_
          refine xi_aload_n (pc' := 28) (x := 115) kc_44_27 rfl rfl ?_
          refine xi_getfield (pc' := 31) (v := .ref 149) kc_44_28 rfl rfl rfl ((et3.2.2.1 115 (by decide) (by decide)).trans eh2.1) rfl ?_
          refine xi_iload_n (pc' := 32) (x := 0) kc_44_31 rfl rfl ?_
          refine xi_aload_n (pc' := 33) (x := 115) kc_44_32 rfl rfl ?_
          refine xi_iload_n (pc' := 34) (x := 0) kc_44_33 rfl rfl ?_
          refine xi_virtual (mj := 46) (as := [.int 0]) (st1 := [.int 0, .ref 149]) (lv0 := [(0, .ref 115), (1, .int 0)]) kc_44_34 rfl rfl rfl rfl rfl ((et3.2.2.1 115 (by decide) (by decide)).trans eh2.1) (Nat.le_of_ble_eq_true rfl) (hJ _ _ _ _ (by decide)) (xm_le ml_46 rfl) rfl ?_
          refine xi_lconst (pc' := 1) (v := 0) kc_46_0 rfl rfl ?_
          refine xi_lstore_n (pc' := 2) (lv' := [(2, .long 0), (0, .ref 115), (1, .int 0)]) kc_46_1 rfl rfl (xm_lt ml_46 rfl) ?_
          refine xi_iconst (pc' := 3) (v := 0) kc_46_2 rfl rfl ?_
          refine xi_istore (pc' := 5) (lv' := [(4, .int 0), (2, .long 0), (0, .ref 115), (1, .int 0)]) kc_46_3 rfl rfl (xm_lt ml_46 rfl) ?_
          refine xi_iconst (pc' := 6) (v := 0) kc_46_5 rfl rfl ?_
          refine xi_istore (pc' := 8) (lv' := [(5, .int 0), (4, .int 0), (2, .long 0), (0, .ref 115), (1, .int 0)]) kc_46_6 rfl rfl (xm_lt ml_46 rfl) ?_
          refine xi_iload (pc' := 10) (x := 0) kc_46_8 rfl rfl ?_
          refine xi_bipush (pc' := 12) (v := 6) kc_46_10 rfl rfl ?_
          refine xi_cmf (pc' := 15) kc_46_12 rfl rfl ?_
          refine xi_aload_n (pc' := 16) (x := 115) kc_46_15 rfl rfl ?_
          refine xi_getfield (pc' := 19) (v := .ref 141) kc_46_16 rfl rfl rfl ((et3.2.2.1 115 (by decide) (by decide)).trans eh2.1) rfl ?_
          refine xi_iload (pc' := 21) (x := 0) kc_46_19 rfl rfl ?_
          refine xi_iconst (pc' := 22) (v := 0) kc_46_21 rfl rfl ?_
          refine xi_iastore (pc' := 23) (x' := [0, 0, 0, 0, 0, 0]) kc_46_22 rfl ((et3.2.2.1 141 (by decide) (by decide)).trans ((eh2.2.1 141 (by decide)).trans ((eh1.2.1 141 (by decide)).trans (F 141 _ hl_141)))) rfl (xi_in (n := 6) (by decide) (by decide)) rfl (fun hh4 eh4 => ?_)
          refine xi_iinc (pc' := 26) (x := 0) (v := 1) (lv' := [(5, .int 1), (4, .int 0), (2, .long 0), (0, .ref 115), (1, .int 0)]) kc_46_23 rfl rfl rfl rfl (xm_lt ml_46 rfl) ?_
          refine xi_goto (pc' := 8) kc_46_26 rfl ?_
          refine xi_iload (pc' := 10) (x := 1) kc_46_8 rfl rfl ?_
          refine xi_bipush (pc' := 12) (v := 6) kc_46_10 rfl rfl ?_
          refine xi_cmf (pc' := 15) kc_46_12 rfl rfl ?_
          refine xi_aload_n (pc' := 16) (x := 115) kc_46_15 rfl rfl ?_
          refine xi_getfield (pc' := 19) (v := .ref 141) kc_46_16 rfl rfl rfl ((eh4.2.1 115 (by decide)).trans ((et3.2.2.1 115 (by decide) (by decide)).trans eh2.1)) rfl ?_
          refine xi_iload (pc' := 21) (x := 1) kc_46_19 rfl rfl ?_
          refine xi_iconst (pc' := 22) (v := 0) kc_46_21 rfl rfl ?_
          refine xi_iastore (pc' := 23) (x' := [0, 0, 0, 0, 0, 0]) kc_46_22 rfl eh4.1 rfl (xi_in (n := 6) (by decide) (by decide)) rfl (fun hh5 eh5 => ?_)
          refine xi_iinc (pc' := 26) (x := 1) (v := 2) (lv' := [(5, .int 2), (4, .int 0), (2, .long 0), (0, .ref 115), (1, .int 0)]) kc_46_23 rfl rfl rfl rfl (xm_lt ml_46 rfl) ?_
          refine xi_goto (pc' := 8) kc_46_26 rfl ?_
          refine xi_iload (pc' := 10) (x := 2) kc_46_8 rfl rfl ?_
          refine xi_bipush (pc' := 12) (v := 6) kc_46_10 rfl rfl ?_
          refine xi_cmf (pc' := 15) kc_46_12 rfl rfl ?_
          refine xi_aload_n (pc' := 16) (x := 115) kc_46_15 rfl rfl ?_
          refine xi_getfield (pc' := 19) (v := .ref 141) kc_46_16 rfl rfl rfl ((eh5.2.1 115 (by decide)).trans ((eh4.2.1 115 (by decide)).trans ((et3.2.2.1 115 (by decide) (by decide)).trans eh2.1))) rfl ?_
          refine xi_iload (pc' := 21) (x := 2) kc_46_19 rfl rfl ?_
          refine xi_iconst (pc' := 22) (v := 0) kc_46_21 rfl rfl ?_
          refine xi_iastore (pc' := 23) (x' := [0, 0, 0, 0, 0, 0]) kc_46_22 rfl eh5.1 rfl (xi_in (n := 6) (by decide) (by decide)) rfl (fun hh6 eh6 => ?_)
          refine xi_iinc (pc' := 26) (x := 2) (v := 3) (lv' := [(5, .int 3), (4, .int 0), (2, .long 0), (0, .ref 115), (1, .int 0)]) kc_46_23 rfl rfl rfl rfl (xm_lt ml_46 rfl) ?_
          refine xi_goto (pc' := 8) kc_46_26 rfl ?_
          refine xi_iload (pc' := 10) (x := 3) kc_46_8 rfl rfl ?_
          refine xi_bipush (pc' := 12) (v := 6) kc_46_10 rfl rfl ?_
          refine xi_cmf (pc' := 15) kc_46_12 rfl rfl ?_
          refine xi_aload_n (pc' := 16) (x := 115) kc_46_15 rfl rfl ?_
          refine xi_getfield (pc' := 19) (v := .ref 141) kc_46_16 rfl rfl rfl ((eh6.2.1 115 (by decide)).trans ((eh5.2.1 115 (by decide)).trans ((eh4.2.1 115 (by decide)).trans ((et3.2.2.1 115 (by decide) (by decide)).trans eh2.1)))) rfl ?_
          refine xi_iload (pc' := 21) (x := 3) kc_46_19 rfl rfl ?_
          refine xi_iconst (pc' := 22) (v := 0) kc_46_21 rfl rfl ?_
          refine xi_iastore (pc' := 23) (x' := [0, 0, 0, 0, 0, 0]) kc_46_22 rfl eh6.1 rfl (xi_in (n := 6) (by decide) (by decide)) rfl (fun hh7 eh7 => ?_)
          refine xi_iinc (pc' := 26) (x := 3) (v := 4) (lv' := [(5, .int 4), (4, .int 0), (2, .long 0), (0, .ref 115), (1, .int 0)]) kc_46_23 rfl rfl rfl rfl (xm_lt ml_46 rfl) ?_
          refine xi_goto (pc' := 8) kc_46_26 rfl ?_
          refine xi_iload (pc' := 10) (x := 4) kc_46_8 rfl rfl ?_
          refine xi_bipush (pc' := 12) (v := 6) kc_46_10 rfl rfl ?_
          refine xi_cmf (pc' := 15) kc_46_12 rfl rfl ?_
          refine xi_aload_n (pc' := 16) (x := 115) kc_46_15 rfl rfl ?_
          refine xi_getfield (pc' := 19) (v := .ref 141) kc_46_16 rfl rfl rfl ((eh7.2.1 115 (by decide)).trans ((eh6.2.1 115 (by decide)).trans ((eh5.2.1 115 (by decide)).trans ((eh4.2.1 115 (by decide)).trans ((et3.2.2.1 115 (by decide) (by decide)).trans eh2.1))))) rfl ?_
          refine xi_iload (pc' := 21) (x := 4) kc_46_19 rfl rfl ?_
          refine xi_iconst (pc' := 22) (v := 0) kc_46_21 rfl rfl ?_
          refine xi_iastore (pc' := 23) (x' := [0, 0, 0, 0, 0, 0]) kc_46_22 rfl eh7.1 rfl (xi_in (n := 6) (by decide) (by decide)) rfl (fun hh8 eh8 => ?_)
          refine xi_iinc (pc' := 26) (x := 4) (v := 5) (lv' := [(5, .int 5), (4, .int 0), (2, .long 0), (0, .ref 115), (1, .int 0)]) kc_46_23 rfl rfl rfl rfl (xm_lt ml_46 rfl) ?_
          refine xi_goto (pc' := 8) kc_46_26 rfl ?_
          refine xi_iload (pc' := 10) (x := 5) kc_46_8 rfl rfl ?_
          refine xi_bipush (pc' := 12) (v := 6) kc_46_10 rfl rfl ?_
          refine xi_cmf (pc' := 15) kc_46_12 rfl rfl ?_
          refine xi_aload_n (pc' := 16) (x := 115) kc_46_15 rfl rfl ?_
          refine xi_getfield (pc' := 19) (v := .ref 141) kc_46_16 rfl rfl rfl ((eh8.2.1 115 (by decide)).trans ((eh7.2.1 115 (by decide)).trans ((eh6.2.1 115 (by decide)).trans ((eh5.2.1 115 (by decide)).trans ((eh4.2.1 115 (by decide)).trans ((et3.2.2.1 115 (by decide) (by decide)).trans eh2.1)))))) rfl ?_
          refine xi_iload (pc' := 21) (x := 5) kc_46_19 rfl rfl ?_
          refine xi_iconst (pc' := 22) (v := 0) kc_46_21 rfl rfl ?_
          refine xi_iastore (pc' := 23) (x' := [0, 0, 0, 0, 0, 0]) kc_46_22 rfl eh8.1 rfl (xi_in (n := 6) (by decide) (by decide)) rfl (fun hh9 eh9 => ?_)
          refine xi_iinc (pc' := 26) (x := 5) (v := 6) (lv' := [(5, .int 6), (4, .int 0), (2, .long 0), (0, .ref 115), (1, .int 0)]) kc_46_23 rfl rfl rfl rfl (xm_lt ml_46 rfl) ?_
          refine xi_goto (pc' := 8) kc_46_26 rfl ?_
          refine xi_iload (pc' := 10) (x := 6) kc_46_8 rfl rfl ?_
          refine xi_bipush (pc' := 12) (v := 6) kc_46_10 rfl rfl ?_
          refine xi_cmt (pc' := 29) kc_46_12 rfl rfl ?_
          refine xi_iconst (pc' := 30) (v := 0) kc_46_29 rfl rfl ?_
          refine xi_istore (pc' := 32) (lv' := [(5, .int 0), (4, .int 0), (2, .long 0), (0, .ref 115), (1, .int 0)]) kc_46_30 rfl rfl (xm_lt ml_46 rfl) ?_
          refine xi_iload (pc' := 34) (x := 0) kc_46_32 rfl rfl ?_
          refine xi_bipush (pc' := 36) (v := 12) kc_46_34 rfl rfl ?_
          refine xi_cmf (pc' := 39) kc_46_36 rfl rfl ?_
          refine xi_aload_n (pc' := 40) (x := 115) kc_46_39 rfl rfl ?_
          refine xi_getfield (pc' := 43) (v := .ref 142) kc_46_40 rfl rfl rfl ((eh9.2.1 115 (by decide)).trans ((eh8.2.1 115 (by decide)).trans ((eh7.2.1 115 (by decide)).trans ((eh6.2.1 115 (by decide)).trans ((eh5.2.1 115 (by decide)).trans ((eh4.2.1 115 (by decide)).trans ((et3.2.2.1 115 (by decide) (by decide)).trans eh2.1))))))) rfl ?_
          refine xi_iload (pc' := 45) (x := 0) kc_46_43 rfl rfl ?_
          refine xi_iconst (pc' := 46) (v := 0) kc_46_45 rfl rfl ?_
          refine xi_iastore (pc' := 47) (x' := [0, 0, 0, 0, 0, 0, 0, 0, 0, 0, 0, 0]) kc_46_46 rfl ((eh9.2.1 142 (by decide)).trans ((eh8.2.1 142 (by decide)).trans ((eh7.2.1 142 (by decide)).trans ((eh6.2.1 142 (by decide)).trans ((eh5.2.1 142 (by decide)).trans ((eh4.2.1 142 (by decide)).trans ((et3.2.2.1 142 (by decide) (by decide)).trans ((eh2.2.1 142 (by decide)).trans ((eh1.2.1 142 (by decide)).trans (F 142 _ hl_142)))))))))) rfl (xi_in (n := 12) (by decide) (by decide)) rfl (fun hh10 eh10 => ?_)
          refine xi_iinc (pc' := 50) (x := 0) (v := 1) (lv' := [(5, .int 1), (4, .int 0), (2, .long 0), (0, .ref 115), (1, .int 0)]) kc_46_47 rfl rfl rfl rfl (xm_lt ml_46 rfl) ?_
          refine xi_goto (pc' := 32) kc_46_50 rfl ?_
          refine xi_iload (pc' := 34) (x := 1) kc_46_32 rfl rfl ?_
          refine xi_bipush (pc' := 36) (v := 12) kc_46_34 rfl rfl ?_
          refine xi_cmf (pc' := 39) kc_46_36 rfl rfl ?_
          refine xi_aload_n (pc' := 40) (x := 115) kc_46_39 rfl rfl ?_
          refine xi_getfield (pc' := 43) (v := .ref 142) kc_46_40 rfl rfl rfl ((eh10.2.1 115 (by decide)).trans ((eh9.2.1 115 (by decide)).trans ((eh8.2.1 115 (by decide)).trans ((eh7.2.1 115 (by decide)).trans ((eh6.2.1 115 (by decide)).trans ((eh5.2.1 115 (by decide)).trans ((eh4.2.1 115 (by decide)).trans ((et3.2.2.1 115 (by decide) (by decide)).trans eh2.1)))))))) rfl ?_
          refine xi_iload (pc' := 45) (x := 1) kc_46_43 rfl rfl ?_
          refine xi_iconst (pc' := 46) (v := 0) kc_46_45 rfl rfl ?_
          refine xi_iastore (pc' := 47) (x' := [0, 0, 0, 0, 0, 0, 0, 0, 0, 0, 0, 0]) kc_46_46 rfl eh10.1 rfl (xi_in (n := 12) (by decide) (by decide)) rfl (fun hh11 eh11 => ?_)
          refine xi_iinc (pc' := 50) (x := 1) (v := 2) (lv' := [(5, .int 2), (4, .int 0), (2, .long 0), (0, .ref 115), (1, .int 0)]) kc_46_47 rfl rfl rfl rfl (xm_lt ml_46 rfl) ?_
          refine xi_goto (pc' := 32) kc_46_50 rfl ?_
          refine xi_iload (pc' := 34) (x := 2) kc_46_32 rfl rfl ?_
          refine xi_bipush (pc' := 36) (v := 12) kc_46_34 rfl rfl ?_
          refine xi_cmf (pc' := 39) kc_46_36 rfl rfl ?_
          refine xi_aload_n (pc' := 40) (x := 115) kc_46_39 rfl rfl ?_
          refine xi_getfield (pc' := 43) (v := .ref 142) kc_46_40 rfl rfl rfl ((eh11.2.1 115 (by decide)).trans ((eh10.2.1 115 (by decide)).trans ((eh9.2.1 115 (by decide)).trans ((eh8.2.1 115 (by decide)).trans ((eh7.2.1 115 (by decide)).trans ((eh6.2.1 115 (by decide)).trans ((eh5.2.1 115 (by decide)).trans ((eh4.2.1 115 (by decide)).trans ((et3.2.2.1 115 (by decide) (by decide)).trans eh2.1))))))))) rfl ?_
          refine xi_iload (pc' := 45) (x := 2) kc_46_43 rfl rfl ?_
          refine xi_iconst (pc' := 46) (v := 0) kc_46_45 rfl rfl ?_
          refine xi_iastore (pc' := 47) (x' := [0, 0, 0, 0, 0, 0, 0, 0, 0, 0, 0, 0]) kc_46_46 rfl eh11.1 rfl (xi_in (n := 12) (by decide) (by decide)) rfl (fun hh12 eh12 => ?_)
          refine xi_iinc (pc' := 50) (x := 2) (v := 3) (lv' := [(5, .int 3), (4, .int 0), (2, .long 0), (0, .ref 115), (1, .int 0)]) kc_46_47 rfl rfl rfl rfl (xm_lt ml_46 rfl) ?_
          refine xi_goto (pc' := 32) kc_46_50 rfl ?_
          refine xi_iload (pc' := 34) (x := 3) kc_46_32 rfl rfl ?_
          refine xi_bipush (pc' := 36) (v := 12) kc_46_34 rfl rfl ?_
          refine xi_cmf (pc' := 39) kc_46_36 rfl rfl ?_
          refine xi_aload_n (pc' := 40) (x := 115) kc_46_39 rfl rfl ?_
          refine xi_getfield (pc' := 43) (v := .ref 142) kc_46_40 rfl rfl rfl ((eh12.2.1 115 (by decide)).trans ((eh11.2.1 115 (by decide)).trans ((eh10.2.1 115 (by decide)).trans ((eh9.2.1 115 (by decide)).trans ((eh8.2.1 115 (by decide)).trans ((eh7.2.1 115 (by decide)).trans ((eh6.2.1 115 (by decide)).trans ((eh5.2.1 115 (by decide)).trans ((eh4.2.1 115 (by decide)).trans ((et3.2.2.1 115 (by decide) (by decide)).trans eh2.1)))))))))) rfl ?_
          refine xi_iload (pc' := 45) (x := 3) kc_46_43 rfl rfl ?_
          refine xi_iconst (pc' := 46) (v := 0) kc_46_45 rfl rfl ?_
          refine xi_iastore (pc' := 47) (x' := [0, 0, 0, 0, 0, 0, 0, 0, 0, 0, 0, 0]) kc_46_46 rfl eh12.1 rfl (xi_in (n := 12) (by decide) (by decide)) rfl (fun hh13 eh13 => ?_)
          refine xi_iinc (pc' := 50) (x := 3) (v := 4) (lv' := [(5, .int 4), (4, .int 0), (2, .long 0), (0, .ref 115), (1, .int 0)]) kc_46_47 rfl rfl rfl rfl (xm_lt ml_46 rfl) ?_
          refine xi_goto (pc' := 32) kc_46_50 rfl ?_
          refine xi_iload (pc' := 34) (x := 4) kc_46_32 rfl rfl ?_
          refine xi_bipush (pc' := 36) (v := 12) kc_46_34 rfl rfl ?_
          refine xi_cmf (pc' := 39) kc_46_36 rfl rfl ?_
          refine xi_aload_n (pc' := 40) (x := 115) kc_46_39 rfl rfl ?_
          refine xi_getfield (pc' := 43) (v := .ref 142) kc_46_40 rfl rfl rfl ((eh13.2.1 115 (by decide)).trans ((eh12.2.1 115 (by decide)).trans ((eh11.2.1 115 (by decide)).trans ((eh10.2.1 115 (by decide)).trans ((eh9.2.1 115 (by decide)).trans ((eh8.2.1 115 (by decide)).trans ((eh7.2.1 115 (by decide)).trans ((eh6.2.1 115 (by decide)).trans ((eh5.2.1 115 (by decide)).trans ((eh4.2.1 115 (by decide)).trans ((et3.2.2.1 115 (by decide) (by decide)).trans eh2.1))))))))))) rfl ?_
          refine xi_iload (pc' := 45) (x := 4) kc_46_43 rfl rfl ?_
          refine xi_iconst (pc' := 46) (v := 0) kc_46_45 rfl rfl ?_
          refine xi_iastore (pc' := 47) (x' := [0, 0, 0, 0, 0, 0, 0, 0, 0, 0, 0, 0]) kc_46_46 rfl eh13.1 rfl (xi_in (n := 12) (by decide) (by decide)) rfl (fun hh14 eh14 => ?_)
          refine xi_iinc (pc' := 50) (x := 4) (v := 5) (lv' := [(5, .int 5), (4, .int 0), (2, .long 0), (0, .ref 115), (1, .int 0)]) kc_46_47 rfl rfl rfl rfl (xm_lt ml_46 rfl) ?_
          refine xi_goto (pc' := 32) kc_46_50 rfl ?_
          refine xi_iload (pc' := 34) (x := 5) kc_46_32 rfl rfl ?_
          refine xi_bipush (pc' := 36) (v := 12) kc_46_34 rfl rfl ?_
          refine xi_cmf (pc' := 39) kc_46_36 rfl rfl ?_
          refine xi_aload_n (pc' := 40) (x := 115) kc_46_39 rfl rfl ?_
          refine xi_getfield (pc' := 43) (v := .ref 142) kc_46_40 rfl rfl rfl ((eh14.2.1 115 (by decide)).trans ((eh13.2.1 115 (by decide)).trans ((eh12.2.1 115 (by decide)).trans ((eh11.2.1 115 (by decide)).trans ((eh10.2.1 115 (by decide)).trans ((eh9.2.1 115 (by decide)).trans ((eh8.2.1 115 (by decide)).trans ((eh7.2.1 115 (by decide)).trans ((eh6.2.1 115 (by decide)).trans ((eh5.2.1 115 (by decide)).trans ((eh4.2.1 115 (by decide)).trans ((et3.2.2.1 115 (by decide) (by decide)).trans eh2.1)))))))))))) rfl ?_
          refine xi_iload (pc' := 45) (x := 5) kc_46_43 rfl rfl ?_
          refine xi_iconst (pc' := 46) (v := 0) kc_46_45 rfl rfl ?_
          refine xi_iastore (pc' := 47) (x' := [0, 0, 0, 0, 0, 0, 0, 0, 0, 0, 0, 0]) kc_46_46 rfl eh14.1 rfl (xi_in (n := 12) (by decide) (by decide)) rfl (fun hh15 eh15 => ?_)
          refine xi_iinc (pc' := 50) (x := 5) (v := 6) (lv' := [(5, .int 6), (4, .int 0), (2, .long 0), (0, .ref 115), (1, .int 0)]) kc_46_47 rfl rfl rfl rfl (xm_lt ml_46 rfl) ?_
          refine xi_goto (pc' := 32) kc_46_50 rfl ?_
          refine xi_iload (pc' := 34) (x := 6) kc_46_32 rfl rfl ?_
          refine xi_bipush (pc' := 36) (v := 12) kc_46_34 rfl rfl ?_
          refine xi_cmf (pc' := 39) kc_46_36 rfl rfl ?_
          refine xi_aload_n (pc' := 40) (x := 115) kc_46_39 rfl rfl ?_
          refine xi_getfield (pc' := 43) (v := .ref 142) kc_46_40 rfl rfl rfl ((eh15.2.1 115 (by decide)).trans ((eh14.2.1 115 (by decide)).trans ((eh13.2.1 115 (by decide)).trans ((eh12.2.1 115 (by decide)).trans ((eh11.2.1 115 (by decide)).trans ((eh10.2.1 115 (by decide)).trans ((eh9.2.1 115 (by decide)).trans ((eh8.2.1 115 (by decide)).trans ((eh7.2.1 115 (by decide)).trans ((eh6.2.1 115 (by decide)).trans ((eh5.2.1 115 (by decide)).trans ((eh4.2.1 115 (by decide)).trans ((et3.2.2.1 115 (by decide) (by decide)).trans eh2.1))))))))))))) rfl ?_
          refine xi_iload (pc' := 45) (x := 6) kc_46_43 rfl rfl ?_
          refine xi_iconst (pc' := 46) (v := 0) kc_46_45 rfl rfl ?_
          refine xi_iastore (pc' := 47) (x' := [0, 0, 0, 0, 0, 0, 0, 0, 0, 0, 0, 0]) kc_46_46 rfl eh15.1 rfl (xi_in (n := 12) (by decide) (by decide)) rfl (fun hh16 eh16 => ?_)
          refine xi_iinc (pc' := 50) (x := 6) (v := 7) (lv' := [(5, .int 7), (4, .int 0), (2, .long 0), (0, .ref 115), (1, .int 0)]) kc_46_47 rfl rfl rfl rfl (xm_lt ml_46 rfl) ?_
          refine xi_goto (pc' := 32) kc_46_50 rfl ?_
          refine xi_iload (pc' := 34) (x := 7) kc_46_32 rfl rfl ?_
          refine xi_bipush (pc' := 36) (v := 12) kc_46_34 rfl rfl ?_
          refine xi_cmf (pc' := 39) kc_46_36 rfl rfl ?_
          refine xi_aload_n (pc' := 40) (x := 115) kc_46_39 rfl rfl ?_
          refine xi_getfield (pc' := 43) (v := .ref 142) kc_46_40 rfl rfl rfl ((eh16.2.1 115 (by decide)).trans ((eh15.2.1 115 (by decide)).trans ((eh14.2.1 115 (by decide)).trans ((eh13.2.1 115 (by decide)).trans ((eh12.2.1 115 (by decide)).trans ((eh11.2.1 115 (by decide)).trans ((eh10.2.1 115 (by decide)).trans ((eh9.2.1 115 (by decide)).trans ((eh8.2.1 115 (by decide)).trans ((eh7.2.1 115 (by decide)).trans ((eh6.2.1 115 (by decide)).trans ((eh5.2.1 115 (by decide)).trans ((eh4.2.1 115 (by decide)).trans ((et3.2.2.1 115 (by decide) (by decide)).trans eh2.1)))))))))))))) rfl ?_
          refine xi_iload (pc' := 45) (x := 7) kc_46_43 rfl rfl ?_
          refine xi_iconst (pc' := 46) (v := 0) kc_46_45 rfl rfl ?_
          refine xi_iastore (pc' := 47) (x' := [0, 0, 0, 0, 0, 0, 0, 0, 0, 0, 0, 0]) kc_46_46 rfl eh16.1 rfl (xi_in (n := 12) (by decide) (by decide)) rfl (fun hh17 eh17 => ?_)
          refine xi_iinc (pc' := 50) (x := 7) (v := 8) (lv' := [(5, .int 8), (4, .int 0), (2, .long 0), (0, .ref 115), (1, .int 0)]) kc_46_47 rfl rfl rfl rfl (xm_lt ml_46 rfl) ?_
          refine xi_goto (pc' := 32) kc_46_50 rfl ?_
          refine xi_iload (pc' := 34) (x := 8) kc_46_32 rfl rfl ?_
          refine xi_bipush (pc' := 36) (v := 12) kc_46_34 rfl rfl ?_
          refine xi_cmf (pc' := 39) kc_46_36 rfl rfl ?_
          refine xi_aload_n (pc' := 40) (x := 115) kc_46_39 rfl rfl ?_
          refine xi_getfield (pc' := 43) (v := .ref 142) kc_46_40 rfl rfl rfl ((eh17.2.1 115 (by decide)).trans ((eh16.2.1 115 (by decide)).trans ((eh15.2.1 115 (by decide)).trans ((eh14.2.1 115 (by decide)).trans ((eh13.2.1 115 (by decide)).trans ((eh12.2.1 115 (by decide)).trans ((eh11.2.1 115 (by decide)).trans ((eh10.2.1 115 (by decide)).trans ((eh9.2.1 115 (by decide)).trans ((eh8.2.1 115 (by decide)).trans ((eh7.2.1 115 (by decide)).trans ((eh6.2.1 115 (by decide)).trans ((eh5.2.1 115 (by decide)).trans ((eh4.2.1 115 (by decide)).trans ((et3.2.2.1 115 (by decide) (by decide)).trans eh2.1))))))))))))))) rfl ?_
          refine xi_iload (pc' := 45) (x := 8) kc_46_43 rfl rfl ?_
          refine xi_iconst (pc' := 46) (v := 0) kc_46_45 rfl rfl ?_
          refine xi_iastore (pc' := 47) (x' := [0, 0, 0, 0, 0, 0, 0, 0, 0, 0, 0, 0]) kc_46_46 rfl eh17.1 rfl (xi_in (n := 12) (by decide) (by decide)) rfl (fun hh18 eh18 => ?_)
          refine xi_iinc (pc' := 50) (x := 8) (v := 9) (lv' := [(5, .int 9), (4, .int 0), (2, .long 0), (0, .ref 115), (1, .int 0)]) kc_46_47 rfl rfl rfl rfl (xm_lt ml_46 rfl) ?_
          refine xi_goto (pc' := 32) kc_46_50 rfl ?_
          refine xi_iload (pc' := 34) (x := 9) kc_46_32 rfl rfl ?_
          refine xi_bipush (pc' := 36) (v := 12) kc_46_34 rfl rfl ?_
          refine xi_cmf (pc' := 39) kc_46_36 rfl rfl ?_
          refine xi_aload_n (pc' := 40) (x := 115) kc_46_39 rfl rfl ?_
          refine xi_getfield (pc' := 43) (v := .ref 142) kc_46_40 rfl rfl rfl ((eh18.2.1 115 (by decide)).trans ((eh17.2.1 115 (by decide)).trans ((eh16.2.1 115 (by decide)).trans ((eh15.2.1 115 (by decide)).trans ((eh14.2.1 115 (by decide)).trans ((eh13.2.1 115 (by decide)).trans ((eh12.2.1 115 (by decide)).trans ((eh11.2.1 115 (by decide)).trans ((eh10.2.1 115 (by decide)).trans ((eh9.2.1 115 (by decide)).trans ((eh8.2.1 115 (by decide)).trans ((eh7.2.1 115 (by decide)).trans ((eh6.2.1 115 (by decide)).trans ((eh5.2.1 115 (by decide)).trans ((eh4.2.1 115 (by decide)).trans ((et3.2.2.1 115 (by decide) (by decide)).trans eh2.1)))))))))))))))) rfl ?_
          refine xi_iload (pc' := 45) (x := 9) kc_46_43 rfl rfl ?_
          refine xi_iconst (pc' := 46) (v := 0) kc_46_45 rfl rfl ?_
          refine xi_iastore (pc' := 47) (x' := [0, 0, 0, 0, 0, 0, 0, 0, 0, 0, 0, 0]) kc_46_46 rfl eh18.1 rfl (xi_in (n := 12) (by decide) (by decide)) rfl (fun hh19 eh19 => ?_)
          refine xi_iinc (pc' := 50) (x := 9) (v := 10) (lv' := [(5, .int 10), (4, .int 0), (2, .long 0), (0, .ref 115), (1, .int 0)]) kc_46_47 rfl rfl rfl rfl (xm_lt ml_46 rfl) ?_
          refine xi_goto (pc' := 32) kc_46_50 rfl ?_
          refine xi_iload (pc' := 34) (x := 10) kc_46_32 rfl rfl ?_
          refine xi_bipush (pc' := 36) (v := 12) kc_46_34 rfl rfl ?_
          refine xi_cmf (pc' := 39) kc_46_36 rfl rfl ?_
          refine xi_aload_n (pc' := 40) (x := 115) kc_46_39 rfl rfl ?_
          refine xi_getfield (pc' := 43) (v := .ref 142) kc_46_40 rfl rfl rfl ((eh19.2.1 115 (by decide)).trans ((eh18.2.1 115 (by decide)).trans ((eh17.2.1 115 (by decide)).trans ((eh16.2.1 115 (by decide)).trans ((eh15.2.1 115 (by decide)).trans ((eh14.2.1 115 (by decide)).trans ((eh13.2.1 115 (by decide)).trans ((eh12.2.1 115 (by decide)).trans ((eh11.2.1 115 (by decide)).trans ((eh10.2.1 115 (by decide)).trans ((eh9.2.1 115 (by decide)).trans ((eh8.2.1 115 (by decide)).trans ((eh7.2.1 115 (by decide)).trans ((eh6.2.1 115 (by decide)).trans ((eh5.2.1 115 (by decide)).trans ((eh4.2.1 115 (by decide)).trans ((et3.2.2.1 115 (by decide) (by decide)).trans eh2.1))))))))))))))))) rfl ?_
          refine xi_iload (pc' := 45) (x := 10) kc_46_43 rfl rfl ?_
          refine xi_iconst (pc' := 46) (v := 0) kc_46_45 rfl rfl ?_
          refine xi_iastore (pc' := 47) (x' := [0, 0, 0, 0, 0, 0, 0, 0, 0, 0, 0, 0]) kc_46_46 rfl eh19.1 rfl (xi_in (n := 12) (by decide) (by decide)) rfl (fun hh20 eh20 => ?_)
          refine xi_iinc (pc' := 50) (x := 10) (v := 11) (lv' := [(5, .int 11), (4, .int 0), (2, .long 0), (0, .ref 115), (1, .int 0)]) kc_46_47 rfl rfl rfl rfl (xm_lt ml_46 rfl) ?_
          refine xi_goto (pc' := 32) kc_46_50 rfl ?_
          refine xi_iload (pc' := 34) (x := 11) kc_46_32 rfl rfl ?_
          refine xi_bipush (pc' := 36) (v := 12) kc_46_34 rfl rfl ?_
          refine xi_cmf (pc' := 39) kc_46_36 rfl rfl ?_
          refine xi_aload_n (pc' := 40) (x := 115) kc_46_39 rfl rfl ?_
          refine xi_getfield (pc' := 43) (v := .ref 142) kc_46_40 rfl rfl rfl ((eh20.2.1 115 (by decide)).trans ((eh19.2.1 115 (by decide)).trans ((eh18.2.1 115 (by decide)).trans ((eh17.2.1 115 (by decide)).trans ((eh16.2.1 115 (by decide)).trans ((eh15.2.1 115 (by decide)).trans ((eh14.2.1 115 (by decide)).trans ((eh13.2.1 115 (by decide)).trans ((eh12.2.1 115 (by decide)).trans ((eh11.2.1 115 (by decide)).trans ((eh10.2.1 115 (by decide)).trans ((eh9.2.1 115 (by decide)).trans ((eh8.2.1 115 (by decide)).trans ((eh7.2.1 115 (by decide)).trans ((eh6.2.1 115 (by decide)).trans ((eh5.2.1 115 (by decide)).trans ((eh4.2.1 115 (by decide)).trans ((et3.2.2.1 115 (by decide) (by decide)).trans eh2.1)))))))))))))))))) rfl ?_
          refine xi_iload (pc' := 45) (x := 11) kc_46_43 rfl rfl ?_
          refine xi_iconst (pc' := 46) (v := 0) kc_46_45 rfl rfl ?_
          refine xi_iastore (pc' := 47) (x' := [0, 0, 0, 0, 0, 0, 0, 0, 0, 0, 0, 0]) kc_46_46 rfl eh20.1 rfl (xi_in (n := 12) (by decide) (by decide)) rfl (fun hh21 eh21 => ?_)
          refine xi_iinc (pc' := 50) (x := 11) (v := 12) (lv' := [(5, .int 12), (4, .int 0), (2, .long 0), (0, .ref 115), (1, .int 0)]) kc_46_47 rfl rfl rfl rfl (xm_lt ml_46 rfl) ?_
          refine xi_goto (pc' := 32) kc_46_50 rfl ?_
          refine xi_iload (pc' := 34) (x := 12) kc_46_32 rfl rfl ?_
          refine xi_bipush (pc' := 36) (v := 12) kc_46_34 rfl rfl ?_
          refine xi_cmt (pc' := 53) kc_46_36 rfl rfl ?_
          refine xi_iconst (pc' := 54) (v := 0) kc_46_53 rfl rfl ?_
          refine xi_istore (pc' := 56) (lv' := [(5, .int 0), (4, .int 0), (2, .long 0), (0, .ref 115), (1, .int 0)]) kc_46_54 rfl rfl (xm_lt ml_46 rfl) ?_
          refine xi_iload (pc' := 58) (x := 0) kc_46_56 rfl rfl ?_
          refine xi_aload_n (pc' := 59) (x := 115) kc_46_58 rfl rfl ?_
          refine xi_getfield (pc' := 62) (v := .int 0) kc_46_59 rfl rfl rfl ((eh21.2.1 115 (by decide)).trans ((eh20.2.1 115 (by decide)).trans ((eh19.2.1 115 (by decide)).trans ((eh18.2.1 115 (by decide)).trans ((eh17.2.1 115 (by decide)).trans ((eh16.2.1 115 (by decide)).trans ((eh15.2.1 115 (by decide)).trans ((eh14.2.1 115 (by decide)).trans ((eh13.2.1 115 (by decide)).trans ((eh12.2.1 115 (by decide)).trans ((eh11.2.1 115 (by decide)).trans ((eh10.2.1 115 (by decide)).trans ((eh9.2.1 115 (by decide)).trans ((eh8.2.1 115 (by decide)).trans ((eh7.2.1 115 (by decide)).trans ((eh6.2.1 115 (by decide)).trans ((eh5.2.1 115 (by decide)).trans ((eh4.2.1 115 (by decide)).trans ((et3.2.2.1 115 (by decide) (by decide)).trans eh2.1))))))))))))))))))) rfl ?_
          refine xi_cmf (pc' := 65) kc_46_62 rfl rfl ?_
          refine xi_iload (pc' := 67) (x := 0) kc_46_65 rfl rfl ?_
          refine xi_aload_n (pc' := 68) (x := 115) kc_46_67 rfl rfl ?_
          refine xi_getfield (pc' := 71) (v := .int 0) kc_46_68 rfl rfl rfl ((eh21.2.1 115 (by decide)).trans ((eh20.2.1 115 (by decide)).trans ((eh19.2.1 115 (by decide)).trans ((eh18.2.1 115 (by decide)).trans ((eh17.2.1 115 (by decide)).trans ((eh16.2.1 115 (by decide)).trans ((eh15.2.1 115 (by decide)).trans ((eh14.2.1 115 (by decide)).trans ((eh13.2.1 115 (by decide)).trans ((eh12.2.1 115 (by decide)).trans ((eh11.2.1 115 (by decide)).trans ((eh10.2.1 115 (by decide)).trans ((eh9.2.1 115 (by decide)).trans ((eh8.2.1 115 (by decide)).trans ((eh7.2.1 115 (by decide)).trans ((eh6.2.1 115 (by decide)).trans ((eh5.2.1 115 (by decide)).trans ((eh4.2.1 115 (by decide)).trans ((et3.2.2.1 115 (by decide) (by decide)).trans eh2.1))))))))))))))))))) rfl ?_
          refine xi_cmt (pc' := 176) kc_46_71 rfl rfl ?_
          refine xi_iload (pc' := 178) (x := 0) kc_46_176 rfl rfl ?_
          refine xi_aload_n (pc' := 179) (x := 115) kc_46_178 rfl rfl ?_
          refine xi_getfield (pc' := 182) (v := .int 0) kc_46_179 rfl rfl rfl ((eh21.2.1 115 (by decide)).trans ((eh20.2.1 115 (by decide)).trans ((eh19.2.1 115 (by decide)).trans ((eh18.2.1 115 (by decide)).trans ((eh17.2.1 115 (by decide)).trans ((eh16.2.1 115 (by decide)).trans ((eh15.2.1 115 (by decide)).trans ((eh14.2.1 115 (by decide)).trans ((eh13.2.1 115 (by decide)).trans ((eh12.2.1 115 (by decide)).trans ((eh11.2.1 115 (by decide)).trans ((eh10.2.1 115 (by decide)).trans ((eh9.2.1 115 (by decide)).trans ((eh8.2.1 115 (by decide)).trans ((eh7.2.1 115 (by decide)).trans ((eh6.2.1 115 (by decide)).trans ((eh5.2.1 115 (by decide)).trans ((eh4.2.1 115 (by decide)).trans ((et3.2.2.1 115 (by decide) (by decide)).trans eh2.1))))))))))))))))))) rfl ?_
          refine xi_cmt (pc' := 215) kc_46_182 rfl rfl ?_
          refine xi_iinc (pc' := 218) (x := 0) (v := 1) (lv' := [(5, .int 1), (4, .int 0), (2, .long 0), (0, .ref 115), (1, .int 0)]) kc_46_215 rfl rfl rfl rfl (xm_lt ml_46 rfl) ?_
          refine xi_goto (pc' := 56) kc_46_218 rfl ?_
          refine xi_iload (pc' := 58) (x := 1) kc_46_56 rfl rfl ?_
          refine xi_aload_n (pc' := 59) (x := 115) kc_46_58 rfl rfl ?_
          refine xi_getfield (pc' := 62) (v := .int 0) kc_46_59 rfl rfl rfl ((eh21.2.1 115 (by decide)).trans ((eh20.2.1 115 (by decide)).trans ((eh19.2.1 115 (by decide)).trans ((eh18.2.1 115 (by decide)).trans ((eh17.2.1 115 (by decide)).trans ((eh16.2.1 115 (by decide)).trans ((eh15.2.1 115 (by decide)).trans ((eh14.2.1 115 (by decide)).trans ((eh13.2.1 115 (by decide)).trans ((eh12.2.1 115 (by decide)).trans ((eh11.2.1 115 (by decide)).trans ((eh10.2.1 115 (by decide)).trans ((eh9.2.1 115 (by decide)).trans ((eh8.2.1 115 (by decide)).trans ((eh7.2.1 115 (by decide)).trans ((eh6.2.1 115 (by decide)).trans ((eh5.2.1 115 (by decide)).trans ((eh4.2.1 115 (by decide)).trans ((et3.2.2.1 115 (by decide) (by decide)).trans eh2.1))))))))))))))))))) rfl ?_
          refine xi_cmt (pc' := 221) kc_46_62 rfl rfl ?_
          refine xi_lload_n (pc' := 222) (x := 0) kc_46_221 rfl rfl ?_
          refine xi_lreturn kc_46_222 mr_46 ?_
          show xw J ov 97 44 (37, [(1, .int 0), (0, .ref 115)], [.long 0, .int 0, .ref 149], hh21) _
          refine xi_lastore (pc' := 38) (x' := _) kc_44_37 rfl ((eh21.2.1 149 (by decide)).trans ((eh20.2.1 149 (by decide)).trans ((eh19.2.1 149 (by decide)).trans ((eh18.2.1 149 (by decide)).trans ((eh17.2.1 149 (by decide)).trans ((eh16.2.1 149 (by decide)).trans ((eh15.2.1 149 (by decide)).trans ((eh14.2.1 149 (by decide)).trans ((eh13.2.1 149 (by decide)).trans ((eh12.2.1 149 (by decide)).trans ((eh11.2.1 149 (by decide)).trans ((eh10.2.1 149 (by decide)).trans ((eh9.2.1 149 (by decide)).trans ((eh8.2.1 149 (by decide)).trans ((eh7.2.1 149 (by decide)).trans ((eh6.2.1 149 (by decide)).trans ((eh5.2.1 149 (by decide)).trans ((eh4.2.1 149 (by decide)).trans ((et3.2.2.1 149 (by decide) (by decide)).trans ((eh2.2.1 149 (by decide)).trans ((eh1.2.1 149 (by decide)).trans (F 149 _ hl_149)))))))))))))))))))))) rfl (xi_in (by decide) (by simp only [List.length_replicate, List.length_set]; decide)) rfl (fun hh22 eh22 => ?_)
          refine xi_iinc (pc' := 41) (x := 0) (v := 1) (lv' := [(1, .int 1), (0, .ref 115)]) kc_44_38 rfl rfl rfl rfl (xm_lt ml_44 rfl) ?_
          refine xi_goto (pc' := 19) kc_44_41 rfl ?_
          refine xi_iload_n (pc' := 20) (x := 1) kc_44_19 rfl rfl ?_
          refine xi_aload_n (pc' := 21) (x := 115) kc_44_20 rfl rfl ?_
          refine xi_virtual (mj := 43) (as := []) (st1 := [.int 1]) (lv0 := [(0, .ref 115)]) kc_44_21 rfl rfl rfl rfl rfl ((eh22.2.1 115 (by decide)).trans ((eh21.2.1 115 (by decide)).trans ((eh20.2.1 115 (by decide)).trans ((eh19.2.1 115 (by decide)).trans ((eh18.2.1 115 (by decide)).trans ((eh17.2.1 115 (by decide)).trans ((eh16.2.1 115 (by decide)).trans ((eh15.2.1 115 (by decide)).trans ((eh14.2.1 115 (by decide)).trans ((eh13.2.1 115 (by decide)).trans ((eh12.2.1 115 (by decide)).trans ((eh11.2.1 115 (by decide)).trans ((eh10.2.1 115 (by decide)).trans ((eh9.2.1 115 (by decide)).trans ((eh8.2.1 115 (by decide)).trans ((eh7.2.1 115 (by decide)).trans ((eh6.2.1 115 (by decide)).trans ((eh5.2.1 115 (by decide)).trans ((eh4.2.1 115 (by decide)).trans ((et3.2.2.1 115 (by decide) (by decide)).trans eh2.1)))))))))))))))))))) (Nat.le_of_ble_eq_true rfl) (hJ _ _ _ _ (by decide)) (xm_le ml_43 rfl) rfl ?_
          refine xi_iconst (pc' := 1) (v := 1) kc_43_0 rfl rfl ?_
          refine xi_aload_n (pc' := 2) (x := 115) kc_43_1 rfl rfl ?_
          refine xi_getfield (pc' := 5) (v := .int 0) kc_43_2 rfl rfl rfl ((eh22.2.1 115 (by decide)).trans ((eh21.2.1 115 (by decide)).trans ((eh20.2.1 115 (by decide)).trans ((eh19.2.1 115 (by decide)).trans ((eh18.2.1 115 (by decide)).trans ((eh17.2.1 115 (by decide)).trans ((eh16.2.1 115 (by decide)).trans ((eh15.2.1 115 (by decide)).trans ((eh14.2.1 115 (by decide)).trans ((eh13.2.1 115 (by decide)).trans ((eh12.2.1 115 (by decide)).trans ((eh11.2.1 115 (by decide)).trans ((eh10.2.1 115 (by decide)).trans ((eh9.2.1 115 (by decide)).trans ((eh8.2.1 115 (by decide)).trans ((eh7.2.1 115 (by decide)).trans ((eh6.2.1 115 (by decide)).trans ((eh5.2.1 115 (by decide)).trans ((eh4.2.1 115 (by decide)).trans ((et3.2.2.1 115 (by decide) (by decide)).trans eh2.1)))))))))))))))))))) rfl ?_
          refine xi_bipush (pc' := 7) (v := 6) kc_43_5 rfl rfl ?_
          refine xi_cmf (pc' := 10) kc_43_7 rfl rfl ?_
          refine xi_aload_n (pc' := 11) (x := 115) kc_43_10 rfl rfl ?_
          refine xi_getfield (pc' := 14) (v := .int 0) kc_43_11 rfl rfl rfl ((eh22.2.1 115 (by decide)).trans ((eh21.2.1 115 (by decide)).trans ((eh20.2.1 115 (by decide)).trans ((eh19.2.1 115 (by decide)).trans ((eh18.2.1 115 (by decide)).trans ((eh17.2.1 115 (by decide)).trans ((eh16.2.1 115 (by decide)).trans ((eh15.2.1 115 (by decide)).trans ((eh14.2.1 115 (by decide)).trans ((eh13.2.1 115 (by decide)).trans ((eh12.2.1 115 (by decide)).trans ((eh11.2.1 115 (by decide)).trans ((eh10.2.1 115 (by decide)).trans ((eh9.2.1 115 (by decide)).trans ((eh8.2.1 115 (by decide)).trans ((eh7.2.1 115 (by decide)).trans ((eh6.2.1 115 (by decide)).trans ((eh5.2.1 115 (by decide)).trans ((eh4.2.1 115 (by decide)).trans ((et3.2.2.1 115 (by decide) (by decide)).trans eh2.1)))))))))))))))))))) rfl ?_
          refine xi_goto (pc' := 19) kc_43_14 rfl ?_
          refine xi_ishl (pc' := 20) (v := 1) kc_43_19 rfl rfl ?_
          refine xi_ireturn kc_43_20 mr_43 rfl ?_
          show xw J ov 97 44 (24, [(1, .int 1), (0, .ref 115)], [.int 1, .int 1], hh22) _
          refine xi_cmt (pc' := 44) kc_44_24 rfl rfl ?_
          refine xi_return kc_44_44 mr_44 ?_
          show xw J ov 98 49 (4, [(0, .ref 115)], [], hh22) _
          refine xi_iconst (pc' := 5) (v := 0) kc_49_4 rfl rfl ?_
          refine xi_istore_n (pc' := 6) (lv' := [(1, .int 0), (0, .ref 115)]) kc_49_5 rfl rfl (xm_lt ml_49 rfl) ?_
          refine xi_iconst (pc' := 7) (v := 1) kc_49_6 rfl rfl ?_
          refine xi_istore_n (pc' := 8) (lv' := [(2, .int 1), (1, .int 0), (0, .ref 115)]) kc_49_7 rfl rfl (xm_lt ml_49 rfl) ?_
          refine xi_iload_n (pc' := 9) (x := 1) kc_49_8 rfl rfl ?_
          refine xi_aload_n (pc' := 10) (x := 115) kc_49_9 rfl rfl ?_
          refine xi_virtual (mj := 43) (as := []) (st1 := [.int 1]) (lv0 := [(0, .ref 115)]) kc_49_10 rfl rfl rfl rfl rfl ((eh22.2.1 115 (by decide)).trans ((eh21.2.1 115 (by decide)).trans ((eh20.2.1 115 (by decide)).trans ((eh19.2.1 115 (by decide)).trans ((eh18.2.1 115 (by decide)).trans ((eh17.2.1 115 (by decide)).trans ((eh16.2.1 115 (by decide)).trans ((eh15.2.1 115 (by decide)).trans ((eh14.2.1 115 (by decide)).trans ((eh13.2.1 115 (by decide)).trans ((eh12.2.1 115 (by decide)).trans ((eh11.2.1 115 (by decide)).trans ((eh10.2.1 115 (by decide)).trans ((eh9.2.1 115 (by decide)).trans ((eh8.2.1 115 (by decide)).trans ((eh7.2.1 115 (by decide)).trans ((eh6.2.1 115 (by decide)).trans ((eh5.2.1 115 (by decide)).trans ((eh4.2.1 115 (by decide)).trans ((et3.2.2.1 115 (by decide) (by decide)).trans eh2.1)))))))))))))))))))) (Nat.le_of_ble_eq_true rfl) (hJ _ _ _ _ (by decide)) (xm_le ml_43 rfl) rfl ?_
          refine xi_iconst (pc' := 1) (v := 1) kc_43_0 rfl rfl ?_
          refine xi_aload_n (pc' := 2) (x := 115) kc_43_1 rfl rfl ?_
          refine xi_getfield (pc' := 5) (v := .int 0) kc_43_2 rfl rfl rfl ((eh22.2.1 115 (by decide)).trans ((eh21.2.1 115 (by decide)).trans ((eh20.2.1 115 (by decide)).trans ((eh19.2.1 115 (by decide)).trans ((eh18.2.1 115 (by decide)).trans ((eh17.2.1 115 (by decide)).trans ((eh16.2.1 115 (by decide)).trans ((eh15.2.1 115 (by decide)).trans ((eh14.2.1 115 (by decide)).trans ((eh13.2.1 115 (by decide)).trans ((eh12.2.1 115 (by decide)).trans ((eh11.2.1 115 (by decide)).trans ((eh10.2.1 115 (by decide)).trans ((eh9.2.1 115 (by decide)).trans ((eh8.2.1 115 (by decide)).trans ((eh7.2.1 115 (by decide)).trans ((eh6.2.1 115 (by decide)).trans ((eh5.2.1 115 (by decide)).trans ((eh4.2.1 115 (by decide)).trans ((et3.2.2.1 115 (by decide) (by decide)).trans eh2.1)))))))))))))))))))) rfl ?_
          refine xi_bipush (pc' := 7) (v := 6) kc_43_5 rfl rfl ?_
          refine xi_cmf (pc' := 10) kc_43_7 rfl rfl ?_
          refine xi_aload_n (pc' := 11) (x := 115) kc_43_10 rfl rfl ?_
          refine xi_getfield (pc' := 14) (v := .int 0) kc_43_11 rfl rfl rfl ((eh22.2.1 115 (by decide)).trans ((eh21.2.1 115 (by decide)).trans ((eh20.2.1 115 (by decide)).trans ((eh19.2.1 115 (by decide)).trans ((eh18.2.1 115 (by decide)).trans ((eh17.2.1 115 (by decide)).trans ((eh16.2.1 115 (by decide)).trans ((eh15.2.1 115 (by decide)).trans ((eh14.2.1 115 (by decide)).trans ((eh13.2.1 115 (by decide)).trans ((eh12.2.1 115 (by decide)).trans ((eh11.2.1 115 (by decide)).trans ((eh10.2.1 115 (by decide)).trans ((eh9.2.1 115 (by decide)).trans ((eh8.2.1 115 (by decide)).trans ((eh7.2.1 115 (by decide)).trans ((eh6.2.1 115 (by decide)).trans ((eh5.2.1 115 (by decide)).trans ((eh4.2.1 115 (by decide)).trans ((et3.2.2.1 115 (by decide) (by decide)).trans eh2.1)))))))))))))))))))) rfl ?_
          refine xi_goto (pc' := 19) kc_43_14 rfl ?_
          refine xi_ishl (pc' := 20) (v := 1) kc_43_19 rfl rfl ?_
          refine xi_ireturn kc_43_20 mr_43 rfl ?_
          show xw J ov 98 49 (13, [(2, .int 1), (1, .int 0), (0, .ref 115)], [.int 1, .int 1], hh22) _
          refine xi_cmt (pc' := 81) kc_49_13 rfl rfl ?_
          refine xi_iload_n (pc' := 82) (x := 0) kc_49_81 rfl rfl ?_
          refine xi_ireturn kc_49_82 mr_49 rfl ?_
          show xw J ov 99 74 (34, [(0, .ref 115), (1, .int a1), (2, .int a2)], [.int 0], hh22) _
          refine xi_istore_n (pc' := 35) (lv' := [(3, .int 0), (0, .ref 115), (1, .int a1), (2, .int a2)]) kc_74_34 rfl rfl (xm_lt ml_74 rfl) ?_
          refine xi_iconst (pc' := 36) (v := 0) kc_74_35 rfl rfl ?_
          refine xi_istore (pc' := 38) (lv' := [(4, .int 0), (3, .int 0), (0, .ref 115), (1, .int a1), (2, .int a2)]) kc_74_36 rfl rfl (xm_lt ml_74 rfl) ?_
          refine xi_iconst (pc' := 39) (v := 0) kc_74_38 rfl rfl ?_
          refine xi_istore (pc' := 41) (lv' := [(5, .int 0), (4, .int 0), (3, .int 0), (0, .ref 115), (1, .int a1), (2, .int a2)]) kc_74_39 rfl rfl (xm_lt ml_74 rfl) ?_
          refine xi_iload (pc' := 43) (x := 0) kc_74_41 rfl rfl ?_
          refine xi_bipush (pc' := 45) (v := 6) kc_74_43 rfl rfl ?_
          refine xi_cmf (pc' := 48) kc_74_45 rfl rfl ?_
          refine xi_iload (pc' := 50) (x := 0) kc_74_48 rfl rfl ?_
          refine xi_aload_n (pc' := 51) (x := 115) kc_74_50 rfl rfl ?_
          refine xi_getfield (pc' := 54) (v := .int 0) kc_74_51 rfl rfl rfl ((eh22.2.1 115 (by decide)).trans ((eh21.2.1 115 (by decide)).trans ((eh20.2.1 115 (by decide)).trans ((eh19.2.1 115 (by decide)).trans ((eh18.2.1 115 (by decide)).trans ((eh17.2.1 115 (by decide)).trans ((eh16.2.1 115 (by decide)).trans ((eh15.2.1 115 (by decide)).trans ((eh14.2.1 115 (by decide)).trans ((eh13.2.1 115 (by decide)).trans ((eh12.2.1 115 (by decide)).trans ((eh11.2.1 115 (by decide)).trans ((eh10.2.1 115 (by decide)).trans ((eh9.2.1 115 (by decide)).trans ((eh8.2.1 115 (by decide)).trans ((eh7.2.1 115 (by decide)).trans ((eh6.2.1 115 (by decide)).trans ((eh5.2.1 115 (by decide)).trans ((eh4.2.1 115 (by decide)).trans ((et3.2.2.1 115 (by decide) (by decide)).trans eh2.1)))))))))))))))))))) rfl ?_
          refine xi_cmt (pc' := 96) kc_74_54 rfl rfl ?_
          refine xi_aload_n (pc' := 97) (x := 115) kc_74_96 rfl rfl ?_
          refine xi_getfield (pc' := 100) (v := .ref 166) kc_74_97 rfl rfl rfl ((eh22.2.1 115 (by decide)).trans ((eh21.2.1 115 (by decide)).trans ((eh20.2.1 115 (by decide)).trans ((eh19.2.1 115 (by decide)).trans ((eh18.2.1 115 (by decide)).trans ((eh17.2.1 115 (by decide)).trans ((eh16.2.1 115 (by decide)).trans ((eh15.2.1 115 (by decide)).trans ((eh14.2.1 115 (by decide)).trans ((eh13.2.1 115 (by decide)).trans ((eh12.2.1 115 (by decide)).trans ((eh11.2.1 115 (by decide)).trans ((eh10.2.1 115 (by decide)).trans ((eh9.2.1 115 (by decide)).trans ((eh8.2.1 115 (by decide)).trans ((eh7.2.1 115 (by decide)).trans ((eh6.2.1 115 (by decide)).trans ((eh5.2.1 115 (by decide)).trans ((eh4.2.1 115 (by decide)).trans ((et3.2.2.1 115 (by decide) (by decide)).trans eh2.1)))))))))))))))))))) rfl ?_
          refine xi_iload_n (pc' := 101) (x := a1) kc_74_100 rfl rfl ?_
          refine xi_iaload (pc' := 102) (v := (-1)) kc_74_101 rfl ((eh22.2.1 166 (by decide)).trans ((eh21.2.1 166 (by decide)).trans ((eh20.2.1 166 (by decide)).trans ((eh19.2.1 166 (by decide)).trans ((eh18.2.1 166 (by decide)).trans ((eh17.2.1 166 (by decide)).trans ((eh16.2.1 166 (by decide)).trans ((eh15.2.1 166 (by decide)).trans ((eh14.2.1 166 (by decide)).trans ((eh13.2.1 166 (by decide)).trans ((eh12.2.1 166 (by decide)).trans ((eh11.2.1 166 (by decide)).trans ((eh10.2.1 166 (by decide)).trans ((eh9.2.1 166 (by decide)).trans ((eh8.2.1 166 (by decide)).trans ((eh7.2.1 166 (by decide)).trans ((eh6.2.1 166 (by decide)).trans ((eh5.2.1 166 (by decide)).trans ((eh4.2.1 166 (by decide)).trans ((et3.2.2.1 166 (by decide) (by decide)).trans ((eh2.2.1 166 (by decide)).trans ((eh1.2.1 166 (by decide)).trans (F 166 _ hl_166))))))))))))))))))))))) (by decide) rfl (xi_in (by omega) (by simp only [List.length_replicate]; omega)) (xa_rep (by omega) (by omega)) ?_
          refine xi_iff (pc' := 105) kc_74_102 rfl rfl ?_
          refine xi_aload_n (pc' := 106) (x := 115) kc_74_105 rfl rfl ?_
          refine xi_getfield (pc' := 109) (v := .int 0) kc_74_106 rfl rfl rfl ((eh22.2.1 115 (by decide)).trans ((eh21.2.1 115 (by decide)).trans ((eh20.2.1 115 (by decide)).trans ((eh19.2.1 115 (by decide)).trans ((eh18.2.1 115 (by decide)).trans ((eh17.2.1 115 (by decide)).trans ((eh16.2.1 115 (by decide)).trans ((eh15.2.1 115 (by decide)).trans ((eh14.2.1 115 (by decide)).trans ((eh13.2.1 115 (by decide)).trans ((eh12.2.1 115 (by decide)).trans ((eh11.2.1 115 (by decide)).trans ((eh10.2.1 115 (by decide)).trans ((eh9.2.1 115 (by decide)).trans ((eh8.2.1 115 (by decide)).trans ((eh7.2.1 115 (by decide)).trans ((eh6.2.1 115 (by decide)).trans ((eh5.2.1 115 (by decide)).trans ((eh4.2.1 115 (by decide)).trans ((et3.2.2.1 115 (by decide) (by decide)).trans eh2.1)))))))))))))))))))) rfl ?_
          refine xi_goto (pc' := 118) kc_74_109 rfl ?_
          refine xi_bipush (pc' := 120) (v := 24) kc_74_118 rfl rfl ?_
          refine xi_idiv (pc' := 121) (v := 0) kc_74_120 rfl rfl (by decide) ?_
          refine xi_istore (pc' := 123) (lv' := [(5, .int 0), (4, .int 0), (3, .int 0), (0, .ref 115), (1, .int a1), (2, .int a2)]) kc_74_121 rfl rfl (xm_lt ml_74 rfl) ?_
          refine xi_iconst (pc' := 124) (v := (-1)) kc_74_123 rfl rfl ?_
          refine xi_istore (pc' := 126) (lv' := [(6, .int (-1)), (5, .int 0), (4, .int 0), (3, .int 0), (0, .ref 115), (1, .int a1), (2, .int a2)]) kc_74_124 rfl rfl (xm_lt ml_74 rfl) ?_
          refine xi_iconst (pc' := 127) (v := 0) kc_74_126 rfl rfl ?_
          refine xi_istore (pc' := 129) (lv' := [(7, .int 0), (6, .int (-1)), (5, .int 0), (4, .int 0), (3, .int 0), (0, .ref 115), (1, .int a1), (2, .int a2)]) kc_74_127 rfl rfl (xm_lt ml_74 rfl) ?_
          refine xi_iload (pc' := 131) (x := 0) kc_74_129 rfl rfl ?_
          refine xi_aload_n (pc' := 132) (x := 115) kc_74_131 rfl rfl ?_
          refine xi_getfield (pc' := 135) (v := .int 0) kc_74_132 rfl rfl rfl ((eh22.2.1 115 (by decide)).trans ((eh21.2.1 115 (by decide)).trans ((eh20.2.1 115 (by decide)).trans ((eh19.2.1 115 (by decide)).trans ((eh18.2.1 115 (by decide)).trans ((eh17.2.1 115 (by decide)).trans ((eh16.2.1 115 (by decide)).trans ((eh15.2.1 115 (by decide)).trans ((eh14.2.1 115 (by decide)).trans ((eh13.2.1 115 (by decide)).trans ((eh12.2.1 115 (by decide)).trans ((eh11.2.1 115 (by decide)).trans ((eh10.2.1 115 (by decide)).trans ((eh9.2.1 115 (by decide)).trans ((eh8.2.1 115 (by decide)).trans ((eh7.2.1 115 (by decide)).trans ((eh6.2.1 115 (by decide)).trans ((eh5.2.1 115 (by decide)).trans ((eh4.2.1 115 (by decide)).trans ((et3.2.2.1 115 (by decide) (by decide)).trans eh2.1)))))))))))))))))))) rfl ?_
          refine xi_cmt (pc' := 198) kc_74_135 rfl rfl ?_
          refine xi_iload (pc' := 200) (x := 0) kc_74_198 rfl rfl ?_
          refine xi_ift (pc' := 208) kc_74_200 rfl rfl ?_
          refine xi_bipush (pc' := 210) (v := (-9)) kc_74_208 rfl rfl ?_
          refine xi_ireturn kc_74_210 mr_74 rfl ?_
          show xw J ov 100 196 (1473, [(4, .int 0), (3, .ref 167), (2, .ref 115), (1, .ref 0), (0, .ref 1000000)], [.int (-9), .int (-9)], hh22) _
          refine xi_cmt (pc' := 1528) kc_196_1473 rfl rfl ?_
          refine xi_iinc (pc' := 1531) (x := 0) (v := 6) (lv' := [(4, .int 6), (3, .ref 167), (2, .ref 115), (1, .ref 0), (0, .ref 1000000)]) kc_196_1528 rfl rfl rfl rfl (xm_lt ml_196 rfl) ?_
          refine xi_goto (pc' := 23) kc_196_1531 rfl ?_
          refine xi_iload (pc' := 25) (x := 6) kc_196_23 rfl rfl ?_
          refine xi_aload_n (pc' := 26) (x := 1000000) kc_196_25 rfl rfl ?_
          refine xi_arraylength (pc' := 27) (n := 6) (v := 6) kc_196_26 rfl (xl_lenO (by decide) hov0 rfl) rfl ?_
          refine xi_bipush (pc' := 29) (v := 6) kc_196_27 rfl rfl ?_
          refine xi_isub (pc' := 30) (v := 0) kc_196_29 rfl rfl ?_
          refine xi_cmt (pc' := 1534) kc_196_30 rfl rfl ?_
          refine xi_iconst (pc' := 1535) (v := 1) kc_196_1534 rfl rfl ?_
          refine xi_ireturn kc_196_1535 mr_196 rfl ?_
          refine ⟨rfl, ?_, ?_⟩
          · rw [eh22.2.2.1, eh21.2.2.1, eh20.2.2.1, eh19.2.2.1, eh18.2.2.1, eh17.2.2.1, eh16.2.2.1, eh15.2.2.1, eh14.2.2.1, eh13.2.2.1, eh12.2.2.1, eh11.2.2.1, eh10.2.2.1, eh9.2.2.1, eh8.2.2.1, eh7.2.2.1, eh6.2.2.1, eh5.2.2.1, eh4.2.2.1, et3.2.2.2.1, eh2.2.2.1, eh1.2.2.1]; exact hn0
          · rw [eh22.2.2.2, eh21.2.2.2, eh20.2.2.2, eh19.2.2.2, eh18.2.2.2, eh17.2.2.2, eh16.2.2.2, eh15.2.2.2, eh14.2.2.2, eh13.2.2.2, eh12.2.2.2, eh11.2.2.2, eh10.2.2.2, eh9.2.2.2, eh8.2.2.2, eh7.2.2.2, eh6.2.2.2, eh5.2.2.2, eh4.2.2.2, et3.2.2.2.2, eh2.2.2.2, eh1.2.2.2]; exact hz0
        · refine xi_cmf (pc' := 16) kc_183_13 rfl (xc_eq_f (X := a2.toInt) (Y := 1) rfl (by decide) (by omega)) ?_
          refine xi_aload_n (pc' := 17) (x := 0) kc_183_16 rfl rfl ?_
          refine xi_bipush (pc' := 19) (v := (-2)) kc_183_17 rfl rfl ?_
          refine xi_virtual (mj := 91) (as := [.int (-2)]) (st1 := []) (lv0 := [(0, .ref 0), (1, .int (-2))]) kc_183_19 rfl rfl rfl rfl rfl (F 0 _ hl_0) (Nat.le_of_ble_eq_true rfl) (hJ _ _ _ _ (by decide)) (xm_le ml_91 rfl) rfl ?_
          refine xi_iload_n (pc' := 1) (x := (-2)) kc_91_0 rfl rfl ?_
          refine xi_ineg (pc' := 2) (v := 2) kc_91_1 rfl rfl ?_
          refine xi_istore_n (pc' := 3) (lv' := [(2, .int 2), (0, .ref 0), (1, .int (-2))]) kc_91_2 rfl rfl (xm_lt ml_91 rfl) ?_
          refine xi_iload_n (pc' := 4) (x := 2) kc_91_3 rfl rfl ?_
          refine xi_iff (pc' := 7) kc_91_4 rfl rfl ?_
          refine xi_iload_n (pc' := 8) (x := 2) kc_91_7 rfl rfl ?_
          refine xi_aload_n (pc' := 9) (x := 0) kc_91_8 rfl rfl ?_
          refine xi_getfield (pc' := 12) (v := .ref 94) kc_91_9 rfl rfl rfl (F 0 _ hl_0) rfl ?_
          refine xi_arraylength (pc' := 13) (n := 7) (v := 7) kc_91_12 rfl (xl_lenI (by decide) (by decide) (F 94 _ hl_94) (by simp only [List.length_replicate, List.length_cons, List.length_nil])) rfl ?_
          refine xi_cmf (pc' := 16) kc_91_13 rfl rfl ?_
          refine xi_aload_n (pc' := 17) (x := 0) kc_91_16 rfl rfl ?_
          refine xi_getfield (pc' := 20) (v := .ref 94) kc_91_17 rfl rfl rfl (F 0 _ hl_0) rfl ?_
          refine xi_iload_n (pc' := 21) (x := 2) kc_91_20 rfl rfl ?_
          refine xi_dup2 (pc' := 22) kc_91_21 rfl ⟨rfl, rfl⟩ ?_
          refine xi_iaload (pc' := 23) (v := 0) kc_91_22 rfl (F 94 _ hl_94) (by decide) rfl (xi_in (n := 7) (by decide) (by decide)) rfl ?_
          refine xi_iconst (pc' := 24) (v := 1) kc_91_23 rfl rfl ?_
          refine xi_iadd (pc' := 25) (v := 1) kc_91_24 rfl rfl ?_
          refine xi_iastore (pc' := 26) (x' := [0, 0, 1, 0, 0, 0, 0]) kc_91_25 rfl (F 94 _ hl_94) rfl (xi_in (n := 7) (by decide) (by decide)) rfl (fun hh1 eh1 => ?_)
          refine xi_iload_n (pc' := 27) (x := (-2)) kc_91_26 rfl rfl ?_
          refine xi_ireturn kc_91_27 mr_91 rfl ?_
          show xw J ov 99 183 (22, [(0, .ref 0), (1, .int a1), (2, .int a2)], [.int (-2)], hh1) _
          refine xi_ireturn kc_183_22 mr_183 rfl ?_
          show xw J ov 100 196 (1457, [(4, .int 0), (3, .ref 167), (2, .ref 115), (1, .ref 0), (0, .ref 1000000)], [.int (-2)], hh1) _
          refine xi_aload_n (pc' := 1458) (x := 115) kc_196_1457 rfl rfl ?_
          refine xi_aload_n (pc' := 1459) (x := 1000000) kc_196_1458 rfl rfl ?_
          refine xi_iload (pc' := 1461) (x := 0) kc_196_1459 rfl rfl ?_
          refine xi_iconst (pc' := 1462) (v := 1) kc_196_1461 rfl rfl ?_
          refine xi_iadd (pc' := 1463) (v := 1) kc_196_1462 rfl rfl ?_
          refine xi_ialoadO (pc' := 1464) (v := a1) kc_196_1463 rfl (by decide) hov0 (xi_in (n := 6) (by decide) (by decide)) rfl ?_
          refine xi_aload_n (pc' := 1465) (x := 1000000) kc_196_1464 rfl rfl ?_
          refine xi_iload (pc' := 1467) (x := 0) kc_196_1465 rfl rfl ?_
          refine xi_iconst (pc' := 1468) (v := 2) kc_196_1467 rfl rfl ?_
          refine xi_iadd (pc' := 1469) (v := 2) kc_196_1468 rfl rfl ?_
          refine xi_ialoadO (pc' := 1470) (v := a2) kc_196_1469 rfl (by decide) hov0 (xi_in (n := 6) (by decide) (by decide)) rfl ?_
          refine xi_virtual (mj := 74) (as := [.int a1, .int a2]) (st1 := [.int (-2)]) (lv0 := [(0, .ref 115), (1, .int a1), (2, .int a2)]) kc_196_1470 rfl rfl rfl rfl rfl ((eh1.2.1 115 (by decide)).trans (F 115 _ hl_115)) (Nat.le_of_ble_eq_true rfl) (hJ _ _ _ _ (by decide)) (xm_le ml_74 rfl) rfl ?_
          refine xi_aload_n (pc' := 1) (x := 115) kc_74_0 rfl rfl ?_
          refine xi_iconst (pc' := 2) (v := 0) kc_74_1 rfl rfl ?_
          refine xi_putfield (pc' := 5) (fs' := [.int 0, .int 0, .ref 116, .ref 117, .ref 118, .ref 119, .ref 120, .ref 121, .ref 122, .ref 123, .ref 124, .ref 125, .ref 126, .ref 127, .ref 128, .ref 129, .int 4, .ref 130, .int 0, .ref 131, .ref 132, .ref 133, .ref 134, .int 0, .ref 135, .ref 136, .ref 137, .ref 138, .ref 139, .ref 140, .ref 141, .ref 142, .int 0, .int 0, .int 0, .ref 143, .ref 144, .ref 145, .ref 146, .ref 147, .ref 148, .int 0, .ref 149, .ref 150, .ref 151, .int 0, .ref 152, .ref 153, .ref 154, .ref 155, .ref 156, .ref 157, .ref 158, .ref 159, .int 0, .ref 160, .int 0, .ref 161, .ref 162, .ref 163, .ref 164, .int 0, .ref 165, .ref 166]) kc_74_2 rfl rfl rfl ((eh1.2.1 115 (by decide)).trans (F 115 _ hl_115)) rfl rfl rfl (Nat.le_of_ble_eq_true rfl) rfl (fun hh2 eh2 => ?_)
          refine xi_iload_n (pc' := 6) (x := a1) kc_74_5 rfl rfl ?_
          refine xi_iconst (pc' := 7) (v := 0) kc_74_6 rfl rfl ?_
          refine xi_iconst (pc' := 8) (v := 3) kc_74_7 rfl rfl ?_
          refine xi_static (mj := 12) (as := [.int a1, .int 0, .int 3]) (st1 := []) (lv0 := [(0, .int a1), (1, .int 0), (2, .int 3)]) kc_74_8 rfl rfl (Nat.le_of_ble_eq_true rfl) rfl rfl (Nat.le_of_ble_eq_true rfl) (hJ _ _ _ _ (by decide)) (xm_le ml_12 rfl) rfl ?_
          refine xi_iload_n (pc' := 1) (x := a1) kc_12_0 rfl rfl ?_
          refine xi_iload_n (pc' := 2) (x := 0) kc_12_1 rfl rfl ?_
          refine xi_cmf (pc' := 5) kc_12_2 rfl (xc_lt_f (X := a1.toInt) (Y := 0) rfl (by decide) (by omega)) ?_
          refine xi_iload_n (pc' := 6) (x := a1) kc_12_5 rfl rfl ?_
          refine xi_iload_n (pc' := 7) (x := 3) kc_12_6 rfl rfl ?_
          refine xi_cmf (pc' := 10) kc_12_7 rfl (xc_gt_f (X := a1.toInt) (Y := 3) rfl (by decide) (by omega)) ?_
          refine xi_iconst (pc' := 11) (v := 1) kc_12_10 rfl rfl ?_
          refine xi_goto (pc' := 15) kc_12_11 rfl ?_
          refine xi_ireturn kc_12_15 mr_12 rfl ?_
          show xw J ov 99 74 (11, [(0, .ref 115), (1, .int a1), (2, .int a2)], [.int 1], hh2) _
          refine xi_iff (pc' := 14) kc_74_11 rfl rfl ?_
          refine xi_iload_n (pc' := 15) (x := a2) kc_74_14 rfl rfl ?_
          refine xi_iconst (pc' := 16) (v := 0) kc_74_15 rfl rfl ?_
          refine xi_iconst (pc' := 17) (v := 1) kc_74_16 rfl rfl ?_
          refine xi_static (mj := 12) (as := [.int a2, .int 0, .int 1]) (st1 := []) (lv0 := [(0, .int a2), (1, .int 0), (2, .int 1)]) kc_74_17 rfl rfl (Nat.le_of_ble_eq_true rfl) rfl rfl (Nat.le_of_ble_eq_true rfl) (hJ _ _ _ _ (by decide)) (xm_le ml_12 rfl) rfl ?_
          refine xi_iload_n (pc' := 1) (x := a2) kc_12_0 rfl rfl ?_
          refine xi_iload_n (pc' := 2) (x := 0) kc_12_1 rfl rfl ?_
          by_cases c5 : a2.toInt < 0
          · refine xi_cmt (pc' := 14) kc_12_2 rfl (xc_lt_t (X := a2.toInt) (Y := 0) rfl (by decide) (by omega)) ?_
            refine xi_iconst (pc' := 15) (v := 0) kc_12_14 rfl rfl ?_
            refine xi_ireturn kc_12_15 mr_12 rfl ?_
            show xw J ov 99 74 (20, [(0, .ref 115), (1, .int a1), (2, .int a2)], [.int 0], hh2) _
            refine xi_iff (pc' := 23) kc_74_20 rfl rfl ?_
            refine xi_aload_n (pc' := 24) (x := 115) kc_74_23 rfl rfl ?_
            refine xi_bipush (pc' := 26) (v := (-2)) kc_74_24 rfl rfl ?_
            refine xi_virtual (mj := 13) (as := [.int (-2)]) (st1 := []) (lv0 := [(0, .ref 115), (1, .int (-2))]) kc_74_26 rfl rfl rfl rfl rfl eh2.1 (Nat.le_of_ble_eq_true rfl) (hJ _ _ _ _ (by decide)) (xm_le ml_13 rfl) rfl ?_
            refine xi_aload_n (pc' := 1) (x := 115) kc_13_0 rfl rfl ?_
            refine xi_getfield (pc' := 4) (v := .ref 140) kc_13_1 rfl rfl rfl eh2.1 rfl ?_
            refine xi_iload_n (pc' := 5) (x := (-2)) kc_13_4 rfl rfl ?_
            refine xi_ineg (pc' := 6) (v := 2) kc_13_5 rfl rfl ?_
            refine xi_dup2 (pc' := 7) kc_13_6 rfl ⟨rfl, rfl⟩ ?_
            refine xi_iaload (pc' := 8) (v := 0) kc_13_7 rfl ((eh2.2.1 140 (by decide)).trans ((eh1.2.1 140 (by decide)).trans (F 140 _ hl_140))) (by decide) rfl (xi_in (n := 7) (by decide) (by decide)) rfl ?_
            refine xi_iconst (pc' := 9) (v := 1) kc_13_8 rfl rfl ?_
            refine xi_iadd (pc' := 10) (v := 1) kc_13_9 rfl rfl ?_
            refine xi_iastore (pc' := 11) (x' := [0, 0, 1, 0, 0, 0, 0]) kc_13_10 rfl ((eh2.2.1 140 (by decide)).trans ((eh1.2.1 140 (by decide)).trans (F 140 _ hl_140))) rfl (xi_in (n := 7) (by decide) (by decide)) rfl (fun hh3 eh3 => ?_)
            refine xi_iload_n (pc' := 12) (x := (-2)) kc_13_11 rfl rfl ?_
            refine xi_ireturn kc_13_12 mr_13 rfl ?_
            show xw J ov 99 74 (29, [(0, .ref 115), (1, .int a1), (2, .int a2)], [.int (-2)], hh3) _
            refine xi_ireturn kc_74_29 mr_74 rfl ?_
            show xw J ov 100 196 (1473, [(4, .int 0), (3, .ref 167), (2, .ref 115), (1, .ref 0), (0, .ref 1000000)], [.int (-2), .int (-2)], hh3) _
            refine xi_cmt (pc' := 1528) kc_196_1473 rfl rfl ?_
            refine xi_iinc (pc' := 1531) (x := 0) (v := 6) (lv' := [(4, .int 6), (3, .ref 167), (2, .ref 115), (1, .ref 0), (0, .ref 1000000)]) kc_196_1528 rfl rfl rfl rfl (xm_lt ml_196 rfl) ?_
            refine xi_goto (pc' := 23) kc_196_1531 rfl ?_
            refine xi_iload (pc' := 25) (x := 6) kc_196_23 rfl rfl ?_
            refine xi_aload_n (pc' := 26) (x := 1000000) kc_196_25 rfl rfl ?_
            refine xi_arraylength (pc' := 27) (n := 6) (v := 6) kc_196_26 rfl (xl_lenO (by decide) hov0 rfl) rfl ?_
            refine xi_bipush (pc' := 29) (v := 6) kc_196_27 rfl rfl ?_
            refine xi_isub (pc' := 30) (v := 0) kc_196_29 rfl rfl ?_
            refine xi_cmt (pc' := 1534) kc_196_30 rfl rfl ?_
            refine xi_iconst (pc' := 1535) (v := 1) kc_196_1534 rfl rfl ?_
            refine xi_ireturn kc_196_1535 mr_196 rfl ?_
            refine ⟨rfl, ?_, ?_⟩
            · rw [eh3.2.2.1, eh2.2.2.1, eh1.2.2.1]; exact hn0
            · rw [eh3.2.2.2, eh2.2.2.2, eh1.2.2.2]; exact hz0
          · refine xi_cmf (pc' := 5) kc_12_2 rfl (xc_lt_f (X := a2.toInt) (Y := 0) rfl (by decide) (by omega)) ?_
            refine xi_iload_n (pc' := 6) (x := a2) kc_12_5 rfl rfl ?_
            refine xi_iload_n (pc' := 7) (x := 1) kc_12_6 rfl rfl ?_
            refine xi_cmt (pc' := 14) kc_12_7 rfl (xc_gt_t (X := a2.toInt) (Y := 1) rfl (by decide) (by omega)) ?_
            refine xi_iconst (pc' := 15) (v := 0) kc_12_14 rfl rfl ?_
            refine xi_ireturn kc_12_15 mr_12 rfl ?_
            show xw J ov 99 74 (20, [(0, .ref 115), (1, .int a1), (2, .int a2)], [.int 0], hh2) _
            refine xi_iff (pc' := 23) kc_74_20 rfl rfl ?_
            refine xi_aload_n (pc' := 24) (x := 115) kc_74_23 rfl rfl ?_
            refine xi_bipush (pc' := 26) (v := (-2)) kc_74_24 rfl rfl ?_
            refine xi_virtual (mj := 13) (as := [.int (-2)]) (st1 := []) (lv0 := [(0, .ref 115), (1, .int (-2))]) kc_74_26 rfl rfl rfl rfl rfl eh2.1 (Nat.le_of_ble_eq_true rfl) (hJ _ _ _ _ (by decide)) (xm_le ml_13 rfl) rfl ?_
            refine xi_aload_n (pc' := 1) (x := 115) kc_13_0 rfl rfl ?_
            refine xi_getfield (pc' := 4) (v := .ref 140) kc_13_1 rfl rfl rfl eh2.1 rfl ?_
            refine xi_iload_n (pc' := 5) (x := (-2)) kc_13_4 rfl rfl ?_
            refine xi_ineg (pc' := 6) (v := 2) kc_13_5 rfl rfl ?_
            refine xi_dup2 (pc' := 7) kc_13_6 rfl ⟨rfl, rfl⟩ ?_
            refine xi_iaload (pc' := 8) (v := 0) kc_13_7 rfl ((eh2.2.1 140 (by decide)).trans ((eh1.2.1 140 (by decide)).trans (F 140 _ hl_140))) (by decide) rfl (xi_in (n := 7) (by decide) (by decide)) rfl ?_
            refine xi_iconst (pc' := 9) (v := 1) kc_13_8 rfl rfl ?_
            refine xi_iadd (pc' := 10) (v := 1) kc_13_9 rfl rfl ?_
            refine xi_iastore (pc' := 11) (x' := [0, 0, 1, 0, 0, 0, 0]) kc_13_10 rfl ((eh2.2.1 140 (by decide)).trans ((eh1.2.1 140 (by decide)).trans (F 140 _ hl_140))) rfl (xi_in (n := 7) (by decide) (by decide)) rfl (fun hh3 eh3 => ?_)
            refine xi_iload_n (pc' := 12) (x := (-2)) kc_13_11 rfl rfl ?_
            refine xi_ireturn kc_13_12 mr_13 rfl ?_
            show xw J ov 99 74 (29, [(0, .ref 115), (1, .int a1), (2, .int a2)], [.int (-2)], hh3) _
            refine xi_ireturn kc_74_29 mr_74 rfl ?_
            show xw J ov 100 196 (1473, [(4, .int 0), (3, .ref 167), (2, .ref 115), (1, .ref 0), (0, .ref 1000000)], [.int (-2), .int (-2)], hh3) _
            refine xi_cmt (pc' := 1528) kc_196_1473 rfl rfl ?_
            refine xi_iinc (pc' := 1531) (x := 0) (v := 6) (lv' := [(4, .int 6), (3, .ref 167), (2, .ref 115), (1, .ref 0), (0, .ref 1000000)]) kc_196_1528 rfl rfl rfl rfl (xm_lt ml_196 rfl) ?_
            refine xi_goto (pc' := 23) kc_196_1531 rfl ?_
            refine xi_iload (pc' := 25) (x := 6) kc_196_23 rfl rfl ?_
            refine xi_aload_n (pc' := 26) (x := 1000000) kc_196_25 rfl rfl ?_
            refine xi_arraylength (pc' := 27) (n := 6) (v := 6) kc_196_26 rfl (xl_lenO (by decide) hov0 rfl) rfl ?_
            refine xi_bipush (pc' := 29) (v := 6) kc_196_27 rfl rfl ?_
            refine xi_isub (pc' := 30) (v := 0) kc_196_29 rfl rfl ?_
            refine xi_cmt (pc' := 1534) kc_196_30 rfl rfl ?_
            refine xi_iconst (pc' := 1535) (v := 1) kc_196_1534 rfl rfl ?_
            refine xi_ireturn kc_196_1535 mr_196 rfl ?_
            refine ⟨rfl, ?_, ?_⟩
            · rw [eh3.2.2.1, eh2.2.2.1, eh1.2.2.1]; exact hn0
            · rw [eh3.2.2.2, eh2.2.2.2, eh1.2.2.2]; exact hz0
