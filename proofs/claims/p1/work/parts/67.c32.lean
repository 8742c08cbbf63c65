set_option maxHeartbeats 8000000 in
theorem lc_32 {J : xe_J} {ov : List (List Int32)} (hJ : ∀ d mj as h, mj ≠ xe_loff → J d mj as h = none) {a0 a1 a2 a3 a4 a5 : Int32} (hov0 : ov[0]? = some [a0, a1, a2, a3, a4, a5]) (hov1 : ov[1]? = some [10, 0, 0, 0, 0, 0]) (hov2 : ov[2]? = some [99, 30, 50, 50, 1, 99999]) {h0 : xe_H} (F : xf_fr h0) (hn0 : h0.length ≤ 600002) (hz0 : xe_sz h0 ≤ 7302232) : xw J ov 100 196 (1478, [(4, .int 0), (3, .ref 167), (2, .ref 115), (1, .ref 0), (0, .ref 1000000)], [], h0) xf_Q := by
  have rr1 := xc_rng a1
  have rr2 := xc_rng a2
  have rr3 := xc_rng a3
  have rr4 := xc_rng a4
  have rr5 := xc_rng a5
  refine xi_aload_n (pc' := 1479) (x := 0) kc_196_1478 rfl rfl ?_
  refine xi_aload_n (pc' := 1480) (x := 1000000) kc_196_1479 rfl rfl ?_
  refine xi_iload (pc' := 1482) (x := 0) kc_196_1480 rfl rfl ?_
  refine xi_iconst (pc' := 1483) (v := 1) kc_196_1482 rfl rfl ?_
  refine xi_iadd (pc' := 1484) (v := 1) kc_196_1483 rfl rfl ?_
  refine xi_ialoadO (pc' := 1485) (v := a1) kc_196_1484 rfl (by decide) hov0 (xi_in (n := 6) (by decide) (by decide)) rfl ?_
  refine xi_virtual (mj := 189) (as := [.int a1]) (st1 := []) (lv0 := [(0, .ref 0), (1, .int a1)]) kc_196_1485 rfl rfl rfl rfl rfl (F 0 _ hl_0) (Nat.le_of_ble_eq_true rfl) (hJ _ _ _ _ (by decide)) (xm_le ml_189 rfl) rfl ?_
  refine xi_iload_n (pc' := 1) (x := a1) kc_189_0 rfl rfl ?_
  refine xi_static (mj := 118) (as := [.int a1]) (st1 := []) (lv0 := [(0, .int a1)]) kc_189_1 rfl rfl (Nat.le_of_ble_eq_true rfl) rfl rfl (Nat.le_of_ble_eq_true rfl) (hJ _ _ _ _ (by decide)) (xm_le ml_118 rfl) rfl ?_
  refine xi_iload_n (pc' := 1) (x := a1) kc_118_0 rfl rfl ?_
  by_cases c1 : a1.toInt < 0
  · refine xi_ift (pc' := 13) kc_118_1 rfl (xc_lt_t (X := a1.toInt) (Y := 0) rfl (by decide) (by omega)) ?_
    refine xi_iconst (pc' := 14) (v := 0) kc_118_13 rfl rfl ?_
    refine xi_ireturn kc_118_14 mr_118 rfl ?_
    show xw J ov 99 189 (4, [(0, .ref 0), (1, .int a1)], [.int 0], h0) _
    refine xi_iff (pc' := 7) kc_189_4 rfl rfl ?_
    refine xi_aload_n (pc' := 8) (x := 0) kc_189_7 rfl rfl ?_
    refine xi_bipush (pc' := 10) (v := (-2)) kc_189_8 rfl rfl ?_
    refine xi_virtual (mj := 91) (as := [.int (-2)]) (st1 := []) (lv0 := [(0, .ref 0), (1, .int (-2))]) kc_189_10 rfl rfl rfl rfl rfl (F 0 _ hl_0) (Nat.le_of_ble_eq_true rfl) (hJ _ _ _ _ (by decide)) (xm_le ml_91 rfl) rfl ?_
    refine xi_iload_n (pc' := 1) (x := (-2)) kc_91_0 rfl rfl ?_
    refine xi_ineg (pc' := 2) (v := 2) kc_91_1 rfl rfl ?_
    refine xi_istore_n (pc' := 3) (lv' := [(2, .int 2), (0, .ref 0), (1, .int (-2))]) kc_91_2 rfl rfl (xm_lt ml_91 rfl) ?_
    refine xi_iload_n (pc' := 4) (x := 2) kc_91_3 rfl rfl ?_
    refine xi_iff (pc' := 7) kc_91_4 rfl rfl ?_
    refine xi_iload_n (pc' := 8) (x := 2) kc_91_7 rfl rfl ?_
    refine xi_aload_n (pc' := 9) (x := 0) kc_91_8 rfl rfl ?_
    refine xi_getfield (pc' := 12) (v := .ref 94) kc_91_9 rfl rfl rfl (F 0 _ hl_0) rfl ?_
    refine xi_arraylength (pc' := 13) (n := 7) (v := 7) kc_91_12 rfl (xl_lenI (by decide) (by decide) (F 94 _ hl_94) (by simp only [List.length_replicate, List.length_cons, List.length_nil])) rfl ?_
    refine xi_cmf (pc' := 16) kc_91_13 rfl rfl ?_
    refine xi_aload_n (pc' := 17) (x := 0) kc_91_16 rfl rfl ?_
    refine xi_getfield (pc' := 20) (v := .ref 94) kc_91_17 rfl rfl rfl (F 0 _ hl_0) rfl ?_
    refine xi_iload_n (pc' := 21) (x := 2) kc_91_20 rfl rfl ?_
    refine xi_dup2 (pc' := 22) kc_91_21 rfl ⟨rfl, rfl⟩ ?_
    refine xi_iaload (pc' := 23) (v := 0) kc_91_22 rfl (F 94 _ hl_94) (by decide) rfl (xi_in (n := 7) (by decide) (by decide)) rfl ?_
    refine xi_iconst (pc' := 24) (v := 1) kc_91_23 rfl rfl ?_
    refine xi_iadd (pc' := 25) (v := 1) kc_91_24 rfl rfl ?_
    refine xi_iastore (pc' := 26) (x' := [0, 0, 1, 0, 0, 0, 0]) kc_91_25 rfl (F 94 _ hl_94) rfl (xi_in (n := 7) (by decide) (by decide)) rfl (fun hh1 eh1 => ?_)
    refine xi_iload_n (pc' := 27) (x := (-2)) kc_91_26 rfl rfl ?_
    refine xi_ireturn kc_91_27 mr_91 rfl ?_
    show xw J ov 99 189 (13, [(0, .ref 0), (1, .int a1)], [.int (-2)], hh1) _
    refine xi_ireturn kc_189_13 mr_189 rfl ?_
    show xw J ov 100 196 (1488, [(4, .int 0), (3, .ref 167), (2, .ref 115), (1, .ref 0), (0, .ref 1000000)], [.int (-2)], hh1) _
    refine xi_aload_n (pc' := 1489) (x := 115) kc_196_1488 rfl rfl ?_
    refine xi_aload_n (pc' := 1490) (x := 1000000) kc_196_1489 rfl rfl ?_
    refine xi_iload (pc' := 1492) (x := 0) kc_196_1490 rfl rfl ?_
    refine xi_iconst (pc' := 1493) (v := 1) kc_196_1492 rfl rfl ?_
    refine xi_iadd (pc' := 1494) (v := 1) kc_196_1493 rfl rfl ?_
    refine xi_ialoadO (pc' := 1495) (v := a1) kc_196_1494 rfl (by decide) hov0 (xi_in (n := 6) (by decide) (by decide)) rfl ?_
    refine xi_virtual (mj := 75) (as := [.int a1]) (st1 := [.int (-2)]) (lv0 := [(0, .ref 115), (1, .int a1)]) kc_196_1495 rfl rfl rfl rfl rfl ((eh1.2.1 115 (by decide)).trans (F 115 _ hl_115)) (Nat.le_of_ble_eq_true rfl) (hJ _ _ _ _ (by decide)) (xm_le ml_75 rfl) rfl ?_
    refine xi_aload_n (pc' := 1) (x := 115) kc_75_0 rfl rfl ?_
    refine xi_iconst (pc' := 2) (v := 0) kc_75_1 rfl rfl ?_
    refine xi_putfield (pc' := 5) (fs' := [.int 0, .int 0, .ref 116, .ref 117, .ref 118, .ref 119, .ref 120, .ref 121, .ref 122, .ref 123, .ref 124, .ref 125, .ref 126, .ref 127, .ref 128, .ref 129, .int 4, .ref 130, .int 0, .ref 131, .ref 132, .ref 133, .ref 134, .int 0, .ref 135, .ref 136, .ref 137, .ref 138, .ref 139, .ref 140, .ref 141, .ref 142, .int 0, .int 0, .int 0, .ref 143, .ref 144, .ref 145, .ref 146, .ref 147, .ref 148, .int 0, .ref 149, .ref 150, .ref 151, .int 0, .ref 152, .ref 153, .ref 154, .ref 155, .ref 156, .ref 157, .ref 158, .ref 159, .int 0, .ref 160, .int 0, .ref 161, .ref 162, .ref 163, .ref 164, .int 0, .ref 165, .ref 166]) kc_75_2 rfl rfl rfl ((eh1.2.1 115 (by decide)).trans (F 115 _ hl_115)) rfl rfl rfl (Nat.le_of_ble_eq_true rfl) rfl (fun hh2 eh2 => ?_)
    refine xi_iload_n (pc' := 6) (x := a1) kc_75_5 rfl rfl ?_
    refine xi_iconst (pc' := 7) (v := 0) kc_75_6 rfl rfl ?_
    refine xi_iconst (pc' := 8) (v := 3) kc_75_7 rfl rfl ?_
    refine xi_static (mj := 12) (as := [.int a1, .int 0, .int 3]) (st1 := []) (lv0 := [(0, .int a1), (1, .int 0), (2, .int 3)]) kc_75_8 rfl rfl (Nat.le_of_ble_eq_true rfl) rfl rfl (Nat.le_of_ble_eq_true rfl) (hJ _ _ _ _ (by decide)) (xm_le ml_12 rfl) rfl ?_
    refine xi_iload_n (pc' := 1) (x := a1) kc_12_0 rfl rfl ?_
    refine xi_iload_n (pc' := 2) (x := 0) kc_12_1 rfl rfl ?_
    refine xi_cmt (pc' := 14) kc_12_2 rfl (xc_lt_t (X := a1.toInt) (Y := 0) rfl (by decide) (by omega)) ?_
    refine xi_iconst (pc' := 15) (v := 0) kc_12_14 rfl rfl ?_
    refine xi_ireturn kc_12_15 mr_12 rfl ?_
    show xw J ov 99 75 (11, [(0, .ref 115), (1, .int a1)], [.int 0], hh2) _
    refine xi_iff (pc' := 14) kc_75_11 rfl rfl ?_
    refine xi_aload_n (pc' := 15) (x := 115) kc_75_14 rfl rfl ?_
    refine xi_bipush (pc' := 17) (v := (-2)) kc_75_15 rfl rfl ?_
    refine xi_virtual (mj := 13) (as := [.int (-2)]) (st1 := []) (lv0 := [(0, .ref 115), (1, .int (-2))]) kc_75_17 rfl rfl rfl rfl rfl eh2.1 (Nat.le_of_ble_eq_true rfl) (hJ _ _ _ _ (by decide)) (xm_le ml_13 rfl) rfl ?_
    refine xi_aload_n (pc' := 1) (x := 115) kc_13_0 rfl rfl ?_
    refine xi_getfield (pc' := 4) (v := .ref 140) kc_13_1 rfl rfl rfl eh2.1 rfl ?_
    refine xi_iload_n (pc' := 5) (x := (-2)) kc_13_4 rfl rfl ?_
    refine xi_ineg (pc' := 6) (v := 2) kc_13_5 rfl rfl ?_
    refine xi_dup2 (pc' := 7) kc_13_6 rfl ⟨rfl, rfl⟩ ?_
    refine xi_iaload (pc' := 8) (v := 0) kc_13_7 rfl ((eh2.2.1 140 (by decide)).trans ((eh1.2.1 140 (by decide)).trans (F 140 _ hl_140))) (by decide) rfl (xi_in (n := 7) (by decide) (by decide)) rfl ?_
    refine xi_iconst (pc' := 9) (v := 1) kc_13_8 rfl rfl ?_
    refine xi_iadd (pc' := 10) (v := 1) kc_13_9 rfl rfl ?_
    refine xi_iastore (pc' := 11) (x' := [0, 0, 1, 0, 0, 0, 0]) kc_13_10 rfl ((eh2.2.1 140 (by decide)).trans ((eh1.2.1 140 (by decide)).trans (F 140 _ hl_140))) rfl (xi_in (n := 7) (by decide) (by decide)) rfl (fun hh3 eh3 => ?_)
    refine xi_iload_n (pc' := 12) (x := (-2)) kc_13_11 rfl rfl ?_
    refine xi_ireturn kc_13_12 mr_13 rfl ?_
    show xw J ov 99 75 (20, [(0, .ref 115), (1, .int a1)], [.int (-2)], hh3) _
    refine xi_ireturn kc_75_20 mr_75 rfl ?_
    show xw J ov 100 196 (1498, [(4, .int 0), (3, .ref 167), (2, .ref 115), (1, .ref 0), (0, .ref 1000000)], [.int (-2), .int (-2)], hh3) _
    refine xi_cmt (pc' := 1528) kc_196_1498 rfl rfl ?_
    refine xi_iinc (pc' := 1531) (x := 0) (v := 6) (lv' := [(4, .int 6), (3, .ref 167), (2, .ref 115), (1, .ref 0), (0, .ref 1000000)]) kc_196_1528 rfl rfl rfl rfl (xm_lt ml_196 rfl) ?_
    refine xi_goto (pc' := 23) kc_196_1531 rfl ?_
    refine xi_iload (pc' := 25) (x := 6) kc_196_23 rfl rfl ?_
    refine xi_aload_n (pc' := 26) (x := 1000000) kc_196_25 rfl rfl ?_
    refine xi_arraylength (pc' := 27) (n := 6) (v := 6) kc_196_26 rfl (xl_lenO (by decide) hov0 rfl) rfl ?_
    refine xi_bipush (pc' := 29) (v := 6) kc_196_27 rfl rfl ?_
    refine xi_isub (pc' := 30) (v := 0) kc_196_29 rfl rfl ?_
    refine xi_cmt (pc' := 1534) kc_196_30 rfl rfl ?_
    refine xi_iconst (pc' := 1535) (v := 1) kc_196_1534 rfl rfl ?_
    refine xi_ireturn kc_196_1535 mr_196 rfl ?_
    refine ⟨rfl, ?_, ?_⟩
    · rw [eh3.2.2.1, eh2.2.2.1, eh1.2.2.1]; exact hn0
    · rw [eh3.2.2.2, eh2.2.2.2, eh1.2.2.2]; exact hz0
  · refine xi_iff (pc' := 4) kc_118_1 rfl (xc_lt_f (X := a1.toInt) (Y := 0) rfl (by decide) (by omega)) ?_
    refine xi_iload_n (pc' := 5) (x := a1) kc_118_4 rfl rfl ?_
    refine xi_iconst (pc' := 6) (v := 4) kc_118_5 rfl rfl ?_
    by_cases c2 : 4 ≤ a1.toInt
    · refine xi_cmt (pc' := 13) kc_118_6 rfl (xc_ge_t (X := a1.toInt) (Y := 4) rfl (by decide) (by omega)) ?_
      refine xi_iconst (pc' := 14) (v := 0) kc_118_13 rfl rfl ?_
      refine xi_ireturn kc_118_14 mr_118 rfl ?_
      show xw J ov 99 189 (4, [(0, .ref 0), (1, .int a1)], [.int 0], h0) _
      refine xi_iff (pc' := 7) kc_189_4 rfl rfl ?_
      refine xi_aload_n (pc' := 8) (x := 0) kc_189_7 rfl rfl ?_
      refine xi_bipush (pc' := 10) (v := (-2)) kc_189_8 rfl rfl ?_
      refine xi_virtual (mj := 91) (as := [.int (-2)]) (st1 := []) (lv0 := [(0, .ref 0), (1, .int (-2))]) kc_189_10 rfl rfl rfl rfl rfl (F 0 _ hl_0) (Nat.le_of_ble_eq_true rfl) (hJ _ _ _ _ (by decide)) (xm_le ml_91 rfl) rfl ?_
      refine xi_iload_n (pc' := 1) (x := (-2)) kc_91_0 rfl rfl ?_
      refine xi_ineg (pc' := 2) (v := 2) kc_91_1 rfl rfl ?_
      refine xi_istore_n (pc' := 3) (lv' := [(2, .int 2), (0, .ref 0), (1, .int (-2))]) kc_91_2 rfl rfl (xm_lt ml_91 rfl) ?_
      refine xi_iload_n (pc' := 4) (x := 2) kc_91_3 rfl rfl ?_
      refine xi_iff (pc' := 7) kc_91_4 rfl rfl ?_
      refine xi_iload_n (pc' := 8) (x := 2) kc_91_7 rfl rfl ?_
      refine xi_aload_n (pc' := 9) (x := 0) kc_91_8 rfl rfl ?_
      refine xi_getfield (pc' := 12) (v := .ref 94) kc_91_9 rfl rfl rfl (F 0 _ hl_0) rfl ?_
      refine xi_arraylength (pc' := 13) (n := 7) (v := 7) kc_91_12 rfl (xl_lenI (by decide) (by decide) (F 94 _ hl_94) (by simp only [List.length_replicate, List.length_cons, List.length_nil])) rfl ?_
      refine xi_cmf (pc' := 16) kc_91_13 rfl rfl ?_
      refine xi_aload_n (pc' := 17) (x := 0) kc_91_16 rfl rfl ?_
      refine xi_getfield (pc' := 20) (v := .ref 94) kc_91_17 rfl rfl rfl (F 0 _ hl_0) rfl ?_
      refine xi_iload_n (pc' := 21) (x := 2) kc_91_20 rfl rfl ?_
      refine xi_dup2 (pc' := 22) kc_91_21 rfl ⟨rfl, rfl⟩ ?_
      refine xi_iaload (pc' := 23) (v := 0) kc_91_22 rfl (F 94 _ hl_94) (by decide) rfl (xi_in (n := 7) (by decide) (by decide)) rfl ?_
      refine xi_iconst (pc' := 24) (v := 1) kc_91_23 rfl rfl ?_
      refine xi_iadd (pc' := 25) (v := 1) kc_91_24 rfl rfl ?_
      refine xi_iastore (pc' := 26) (x' := [0, 0, 1, 0, 0, 0, 0]) kc_91_25 rfl (F 94 _ hl_94) rfl (xi_in (n := 7) (by decide) (by decide)) rfl (fun hh1 eh1 => ?_)
      refine xi_iload_n (pc' := 27) (x := (-2)) kc_91_26 rfl rfl ?_
      refine xi_ireturn kc_91_27 mr_91 rfl ?_
      show xw J ov 99 189 (13, [(0, .ref 0), (1, .int a1)], [.int (-2)], hh1) _
      refine xi_ireturn kc_189_13 mr_189 rfl ?_
      show xw J ov 100 196 (1488, [(4, .int 0), (3, .ref 167), (2, .ref 115), (1, .ref 0), (0, .ref 1000000)], [.int (-2)], hh1) _
      refine xi_aload_n (pc' := 1489) (x := 115) kc_196_1488 rfl rfl ?_
      refine xi_aload_n (pc' := 1490) (x := 1000000) kc_196_1489 rfl rfl ?_
      refine xi_iload (pc' := 1492) (x := 0) kc_196_1490 rfl rfl ?_
      refine xi_iconst (pc' := 1493) (v := 1) kc_196_1492 rfl rfl ?_
      refine xi_iadd (pc' := 1494) (v := 1) kc_196_1493 rfl rfl ?_
      refine xi_ialoadO (pc' := 1495) (v := a1) kc_196_1494 rfl (by decide) hov0 (xi_in (n := 6) (by decide) (by decide)) rfl ?_
      refine xi_virtual (mj := 75) (as := [.int a1]) (st1 := [.int (-2)]) (lv0 := [(0, .ref 115), (1, .int a1)]) kc_196_1495 rfl rfl rfl rfl rfl ((eh1.2.1 115 (by decide)).trans (F 115 _ hl_115)) (Nat.le_of_ble_eq_true rfl) (hJ _ _ _ _ (by decide)) (xm_le ml_75 rfl) rfl ?_
      refine xi_aload_n (pc' := 1) (x := 115) kc_75_0 rfl rfl ?_
      refine xi_iconst (pc' := 2) (v := 0) kc_75_1 rfl rfl ?_
      refine xi_putfield (pc' := 5) (fs' := [.int 0, .int 0, .ref 116, .ref 117, .ref 118, .ref 119, .ref 120, .ref 121, .ref 122, .ref 123, .ref 124, .ref 125, .ref 126, .ref 127, .ref 128, .ref 129, .int 4, .ref 130, .int 0, .ref 131, .ref 132, .ref 133, .ref 134, .int 0, .ref 135, .ref 136, .ref 137, .ref 138, .ref 139, .ref 140, .ref 141, .ref 142, .int 0, .int 0, .int 0, .ref 143, .ref 144, .ref 145, .ref 146, .ref 147, .ref 148, .int 0, .ref 149, .ref 150, .ref 151, .int 0, .ref 152, .ref 153, .ref 154, .ref 155, .ref 156, .ref 157, .ref 158, .ref 159, .int 0, .ref 160, .int 0, .ref 161, .ref 162, .ref 163, .ref 164, .int 0, .ref 165, .ref 166]) kc_75_2 rfl rfl rfl ((eh1.2.1 115 (by decide)).trans (F 115 _ hl_115)) rfl rfl rfl (Nat.le_of_ble_eq_true rfl) rfl (fun hh2 eh2 => ?_)
      refine xi_iload_n (pc' := 6) (x := a1) kc_75_5 rfl rfl ?_
      refine xi_iconst (pc' := 7) (v := 0) kc_75_6 rfl rfl ?_
      refine xi_iconst (pc' := 8) (v := 3) kc_75_7 rfl rfl ?_
      refine xi_static (mj := 12) (as := [.int a1, .int 0, .int 3]) (st1 := []) (lv0 := [(0, .int a1), (1, .int 0), (2, .int 3)]) kc_75_8 rfl rfl (Nat.le_of_ble_eq_true rfl) rfl rfl (Nat.le_of_ble_eq_true rfl) (hJ _ _ _ _ (by decide)) (xm_le ml_12 rfl) rfl ?_
      refine xi_iload_n (pc' := 1) (x := a1) kc_12_0 rfl rfl ?_
      refine xi_iload_n (pc' := 2) (x := 0) kc_12_1 rfl rfl ?_
      refine xi_cmf (pc' := 5) kc_12_2 rfl (xc_lt_f (X := a1.toInt) (Y := 0) rfl (by decide) (by omega)) ?_
      refine xi_iload_n (pc' := 6) (x := a1) kc_12_5 rfl rfl ?_
      refine xi_iload_n (pc' := 7) (x := 3) kc_12_6 rfl rfl ?_
      refine xi_cmt (pc' := 14) kc_12_7 rfl (xc_gt_t (X := a1.toInt) (Y := 3) rfl (by decide) (by omega)) ?_
      refine xi_iconst (pc' := 15) (v := 0) kc_12_14 rfl rfl ?_
      refine xi_ireturn kc_12_15 mr_12 rfl ?_
      show xw J ov 99 75 (11, [(0, .ref 115), (1, .int a1)], [.int 0], hh2) _
      refine xi_iff (pc' := 14) kc_75_11 rfl rfl ?_
      refine xi_aload_n (pc' := 15) (x := 115) kc_75_14 rfl rfl ?_
      refine xi_bipush (pc' := 17) (v := (-2)) kc_75_15 rfl rfl ?_
      refine xi_virtual (mj := 13) (as := [.int (-2)]) (st1 := []) (lv0 := [(0, .ref 115), (1, .int (-2))]) kc_75_17 rfl rfl rfl rfl rfl eh2.1 (Nat.le_of_ble_eq_true rfl) (hJ _ _ _ _ (by decide)) (xm_le ml_13 rfl) rfl ?_
      refine xi_aload_n (pc' := 1) (x := 115) kc_13_0 rfl rfl ?_
      refine xi_getfield (pc' := 4) (v := .ref 140) kc_13_1 rfl rfl rfl eh2.1 rfl ?_
      refine xi_iload_n (pc' := 5) (x := (-2)) kc_13_4 rfl rfl ?_
      refine xi_ineg (pc' := 6) (v := 2) kc_13_5 rfl rfl ?_
      refine xi_dup2 (pc' := 7) kc_13_6 rfl ⟨rfl, rfl⟩ ?_
      refine xi_iaload (pc' := 8) (v := 0) kc_13_7 rfl ((eh2.2.1 140 (by decide)).trans ((eh1.2.1 140 (by decide)).trans (F 140 _ hl_140))) (by decide) rfl (xi_in (n := 7) (by decide) (by decide)) rfl ?_
      refine xi_iconst (pc' := 9) (v := 1) kc_13_8 rfl rfl ?_
      refine xi_iadd (pc' := 10) (v := 1) kc_13_9 rfl rfl ?_
      refine xi_iastore (pc' := 11) (x' := [0, 0, 1, 0, 0, 0, 0]) kc_13_10 rfl ((eh2.2.1 140 (by decide)).trans ((eh1.2.1 140 (by decide)).trans (F 140 _ hl_140))) rfl (xi_in (n := 7) (by decide) (by decide)) rfl (fun hh3 eh3 => ?_)
      refine xi_iload_n (pc' := 12) (x := (-2)) kc_13_11 rfl rfl ?_
      refine xi_ireturn kc_13_12 mr_13 rfl ?_
      show xw J ov 99 75 (20, [(0, .ref 115), (1, .int a1)], [.int (-2)], hh3) _
      refine xi_ireturn kc_75_20 mr_75 rfl ?_
      show xw J ov 100 196 (1498, [(4, .int 0), (3, .ref 167), (2, .ref 115), (1, .ref 0), (0, .ref 1000000)], [.int (-2), .int (-2)], hh3) _
      refine xi_cmt (pc' := 1528) kc_196_1498 rfl rfl ?_
      refine xi_iinc (pc' := 1531) (x := 0) (v := 6) (lv' := [(4, .int 6), (3, .ref 167), (2, .ref 115), (1, .ref 0), (0, .ref 1000000)]) kc_196_1528 rfl rfl rfl rfl (xm_lt ml_196 rfl) ?_
      refine xi_goto (pc' := 23) kc_196_1531 rfl ?_
      refine xi_iload (pc' := 25) (x := 6) kc_196_23 rfl rfl ?_
      refine xi_aload_n (pc' := 26) (x := 1000000) kc_196_25 rfl rfl ?_
      refine xi_arraylength (pc' := 27) (n := 6) (v := 6) kc_196_26 rfl (xl_lenO (by decide) hov0 rfl) rfl ?_
      refine xi_bipush (pc' := 29) (v := 6) kc_196_27 rfl rfl ?_
      refine xi_isub (pc' := 30) (v := 0) kc_196_29 rfl rfl ?_
      refine xi_cmt (pc' := 1534) kc_196_30 rfl rfl ?_
      refine xi_iconst (pc' := 1535) (v := 1) kc_196_1534 rfl rfl ?_
      refine xi_ireturn kc_196_1535 mr_196 rfl ?_
      refine ⟨rfl, ?_, ?_⟩
      · rw [eh3.2.2.1, eh2.2.2.1, eh1.2.2.1]; exact hn0
      · rw [eh3.2.2.2, eh2.2.2.2, eh1.2.2.2]; exact hz0
    · refine xi_cmf (pc' := 9) kc_118_6 rfl (xc_ge_f (X := a1.toInt) (Y := 4) rfl (by decide) (by omega)) ?_
      refine xi_iconst (pc' := 10) (v := 1) kc_118_9 rfl rfl ?_
      refine xi_goto (pc' := 14) kc_118_10 rfl ?_
      refine xi_ireturn kc_118_14 mr_118 rfl ?_
      show xw J ov 99 189 (4, [(0, .ref 0), (1, .int a1)], [.int 1], h0) _
      refine xi_ift (pc' := 14) kc_189_4 rfl rfl ?_
      refine xi_aload_n (pc' := 15) (x := 0) kc_189_14 rfl rfl ?_
      refine xi_getfield (pc' := 18) (v := .ref 85) kc_189_15 rfl rfl rfl (F 0 _ hl_0) rfl ?_
      refine xi_iload_n (pc' := 19) (x := a1) kc_189_18 rfl rfl ?_
      refine xi_virtual (mj := 190) (as := [.int a1]) (st1 := []) (lv0 := [(0, .ref 85), (1, .int a1)]) kc_189_19 rfl rfl rfl rfl rfl (F 85 _ hl_85) (Nat.le_of_ble_eq_true rfl) (hJ _ _ _ _ (by decide)) (xm_le ml_190 rfl) rfl ?_
      refine xi_iload_n (pc' := 1) (x := a1) kc_190_0 rfl rfl ?_
      refine xi_static (mj := 118) (as := [.int a1]) (st1 := []) (lv0 := [(0, .int a1)]) kc_190_1 rfl rfl (Nat.le_of_ble_eq_true rfl) rfl rfl (Nat.le_of_ble_eq_true rfl) (hJ _ _ _ _ (by decide)) (xm_le ml_118 rfl) rfl ?_
      refine xi_iload_n (pc' := 1) (x := a1) kc_118_0 rfl rfl ?_
      refine xi_iff (pc' := 4) kc_118_1 rfl (xc_lt_f (X := a1.toInt) (Y := 0) rfl (by decide) (by omega)) ?_
      refine xi_iload_n (pc' := 5) (x := a1) kc_118_4 rfl rfl ?_
      refine xi_iconst (pc' := 6) (v := 4) kc_118_5 rfl rfl ?_
      refine xi_cmf (pc' := 9) kc_118_6 rfl (xc_ge_f (X := a1.toInt) (Y := 4) rfl (by decide) (by omega)) ?_
      refine xi_iconst (pc' := 10) (v := 1) kc_118_9 rfl rfl ?_
      refine xi_goto (pc' := 14) kc_118_10 rfl ?_
      refine xi_ireturn kc_118_14 mr_118 rfl ?_
      show xw J ov 98 190 (4, [(0, .ref 85), (1, .int a1)], [.int 1], h0) _
      refine xi_iff (pc' := 7) kc_190_4 rfl rfl ?_
      refine xi_aload_n (pc' := 8) (x := 85) kc_190_7 rfl rfl ?_
      refine xi_getfield (pc' := 11) (v := .ref 90) kc_190_8 rfl rfl rfl (F 85 _ hl_85) rfl ?_
      refine xi_iload_n (pc' := 12) (x := a1) kc_190_11 rfl rfl ?_
      refine xi_iaload (pc' := 13) (v := 0) kc_190_12 rfl (F 90 _ hl_90) (by decide) rfl (xi_in (by omega) (by simp only [List.length_replicate]; omega)) (xa_rep (by omega) (by omega)) ?_
      refine xi_ift (pc' := 44) kc_190_13 rfl rfl ?_
      refine xi_iconst (pc' := 45) (v := 0) kc_190_44 rfl rfl ?_
      refine xi_ireturn kc_190_45 mr_190 rfl ?_
      show xw J ov 99 189 (22, [(0, .ref 0), (1, .int a1)], [.int 0], h0) _
      refine xi_ift (pc' := 29) kc_189_22 rfl rfl ?_
      refine xi_iconst (pc' := 30) (v := 0) kc_189_29 rfl rfl ?_
      refine xi_ireturn kc_189_30 mr_189 rfl ?_
      show xw J ov 100 196 (1488, [(4, .int 0), (3, .ref 167), (2, .ref 115), (1, .ref 0), (0, .ref 1000000)], [.int 0], h0) _
      refine xi_aload_n (pc' := 1489) (x := 115) kc_196_1488 rfl rfl ?_
      refine xi_aload_n (pc' := 1490) (x := 1000000) kc_196_1489 rfl rfl ?_
      refine xi_iload (pc' := 1492) (x := 0) kc_196_1490 rfl rfl ?_
      refine xi_iconst (pc' := 1493) (v := 1) kc_196_1492 rfl rfl ?_
      refine xi_iadd (pc' := 1494) (v := 1) kc_196_1493 rfl rfl ?_
      refine xi_ialoadO (pc' := 1495) (v := a1) kc_196_1494 rfl (by decide) hov0 (xi_in (n := 6) (by decide) (by decide)) rfl ?_
      refine xi_virtual (mj := 75) (as := [.int a1]) (st1 := [.int 0]) (lv0 := [(0, .ref 115), (1, .int a1)]) kc_196_1495 rfl rfl rfl rfl rfl (F 115 _ hl_115) (Nat.le_of_ble_eq_true rfl) (hJ _ _ _ _ (by decide)) (xm_le ml_75 rfl) rfl ?_
      refine xi_aload_n (pc' := 1) (x := 115) kc_75_0 rfl rfl ?_
      refine xi_iconst (pc' := 2) (v := 0) kc_75_1 rfl rfl ?_
      refine xi_putfield (pc' := 5) (fs' := [.int 0, .int 0, .ref 116, .ref 117, .ref 118, .ref 119, .ref 120, .ref 121, .ref 122, .ref 123, .ref 124, .ref 125, .ref 126, .ref 127, .ref 128, .ref 129, .int 4, .ref 130, .int 0, .ref 131, .ref 132, .ref 133, .ref 134, .int 0, .ref 135, .ref 136, .ref 137, .ref 138, .ref 139, .ref 140, .ref 141, .ref 142, .int 0, .int 0, .int 0, .ref 143, .ref 144, .ref 145, .ref 146, .ref 147, .ref 148, .int 0, .ref 149, .ref 150, .ref 151, .int 0, .ref 152, .ref 153, .ref 154, .ref 155, .ref 156, .ref 157, .ref 158, .ref 159, .int 0, .ref 160, .int 0, .ref 161, .ref 162, .ref 163, .ref 164, .int 0, .ref 165, .ref 166]) kc_75_2 rfl rfl rfl (F 115 _ hl_115) rfl rfl rfl (Nat.le_of_ble_eq_true rfl) rfl (fun hh1 eh1 => ?_)
      refine xi_iload_n (pc' := 6) (x := a1) kc_75_5 rfl rfl ?_
      refine xi_iconst (pc' := 7) (v := 0) kc_75_6 rfl rfl ?_
      refine xi_iconst (pc' := 8) (v := 3) kc_75_7 rfl rfl ?_
      refine xi_static (mj := 12) (as := [.int a1, .int 0, .int 3]) (st1 := []) (lv0 := [(0, .int a1), (1, .int 0), (2, .int 3)]) kc_75_8 rfl rfl (Nat.le_of_ble_eq_true rfl) rfl rfl (Nat.le_of_ble_eq_true rfl) (hJ _ _ _ _ (by decide)) (xm_le ml_12 rfl) rfl ?_
      refine xi_iload_n (pc' := 1) (x := a1) kc_12_0 rfl rfl ?_
      refine xi_iload_n (pc' := 2) (x := 0) kc_12_1 rfl rfl ?_
      refine xi_cmf (pc' := 5) kc_12_2 rfl (xc_lt_f (X := a1.toInt) (Y := 0) rfl (by decide) (by omega)) ?_
      refine xi_iload_n (pc' := 6) (x := a1) kc_12_5 rfl rfl ?_
      refine xi_iload_n (pc' := 7) (x := 3) kc_12_6 rfl rfl ?_
      refine xi_cmf (pc' := 10) kc_12_7 rfl (xc_gt_f (X := a1.toInt) (Y := 3) rfl (by decide) (by omega)) ?_
      refine xi_iconst (pc' := 11) (v := 1) kc_12_10 rfl rfl ?_
      refine xi_goto (pc' := 15) kc_12_11 rfl ?_
      refine xi_ireturn kc_12_15 mr_12 rfl ?_
      show xw J ov 99 75 (11, [(0, .ref 115), (1, .int a1)], [.int 1], hh1) _
      refine xi_ift (pc' := 21) kc_75_11 rfl rfl ?_
      refine xi_aload_n (pc' := 22) (x := 115) kc_75_21 rfl rfl ?_
      refine xi_getfield (pc' := 25) (v := .ref 165) kc_75_22 rfl rfl rfl eh1.1 rfl ?_
      refine xi_iconst (pc' := 26) (v := 2) kc_75_25 rfl rfl ?_
      refine xi_iload_n (pc' := 27) (x := a1) kc_75_26 rfl rfl ?_
      obtain ⟨v3, ev3⟩ : ∃ q : Int32, 2 * a1 = q := ⟨_, rfl⟩
      have zv3 : v3.toInt = (2) * a1.toInt := by rw [← ev3]; exact (xz_mul (X := 2) (Y := a1.toInt) (by decide) rfl (by omega) (by omega)).trans (by omega)
      refine xi_imul (pc' := 28) (v := v3) kc_75_27 rfl ev3 ?_
      refine xi_iaload (pc' := 29) (v := (-1)) kc_75_28 rfl ((eh1.2.1 165 (by decide)).trans (F 165 _ hl_165)) (by decide) rfl (xi_in (by rw [zv3]; omega) (by rw [zv3]; simp only [List.length_replicate]; omega)) (xa_rep (by rw [zv3]; omega) (by rw [zv3]; omega)) ?_
      refine xi_ift (pc' := 70) kc_75_29 rfl rfl ?_
      refine xi_iconst (pc' := 71) (v := 0) kc_75_70 rfl rfl ?_
      refine xi_ireturn kc_75_71 mr_75 rfl ?_
      show xw J ov 100 196 (1498, [(4, .int 0), (3, .ref 167), (2, .ref 115), (1, .ref 0), (0, .ref 1000000)], [.int 0, .int 0], hh1) _
      refine xi_cmt (pc' := 1528) kc_196_1498 rfl rfl ?_
      refine xi_iinc (pc' := 1531) (x := 0) (v := 6) (lv' := [(4, .int 6), (3, .ref 167), (2, .ref 115), (1, .ref 0), (0, .ref 1000000)]) kc_196_1528 rfl rfl rfl rfl (xm_lt ml_196 rfl) ?_
      refine xi_goto (pc' := 23) kc_196_1531 rfl ?_
      refine xi_iload (pc' := 25) (x := 6) kc_196_23 rfl rfl ?_
      refine xi_aload_n (pc' := 26) (x := 1000000) kc_196_25 rfl rfl ?_
      refine xi_arraylength (pc' := 27) (n := 6) (v := 6) kc_196_26 rfl (xl_lenO (by decide) hov0 rfl) rfl ?_
      refine xi_bipush (pc' := 29) (v := 6) kc_196_27 rfl rfl ?_
      refine xi_isub (pc' := 30) (v := 0) kc_196_29 rfl rfl ?_
      refine xi_cmt (pc' := 1534) kc_196_30 rfl rfl ?_
      refine xi_iconst (pc' := 1535) (v := 1) kc_196_1534 rfl rfl ?_
      refine xi_ireturn kc_196_1535 mr_196 rfl ?_
      refine ⟨rfl, ?_, ?_⟩
      · rw [eh1.2.2.1]; exact hn0
      · rw [eh1.2.2.2]; exact hz0
