set_option maxHeartbeats 8000000 in
theorem lc_30 {J : xe_J} {ov : List (List Int32)} (hJ : ∀ d mj as h, mj ≠ xe_loff → J d mj as h = none) {a0 a1 a2 a3 a4 a5 : Int32} (hov0 : ov[0]? = some [a0, a1, a2, a3, a4, a5]) (hov1 : ov[1]? = some [10, 0, 0, 0, 0, 0]) (hov2 : ov[2]? = some [99, 30, 50, 50, 1, 99999]) {h0 : xe_H} (F : xf_fr h0) (hn0 : h0.length ≤ 600002) (hz0 : xe_sz h0 ≤ 7302232) : xw J ov 100 196 (1360, [(4, .int 0), (3, .ref 167), (2, .ref 115), (1, .ref 0), (0, .ref 1000000)], [], h0) xf_Q := by
  have rr1 := xc_rng a1
  have rr2 := xc_rng a2
  have rr3 := xc_rng a3
  have rr4 := xc_rng a4
  have rr5 := xc_rng a5
  refine xi_aload_n (pc' := 1361) (x := 0) kc_196_1360 rfl rfl ?_
  refine xi_aload_n (pc' := 1362) (x := 1000000) kc_196_1361 rfl rfl ?_
  refine xi_iload (pc' := 1364) (x := 0) kc_196_1362 rfl rfl ?_
  refine xi_iconst (pc' := 1365) (v := 1) kc_196_1364 rfl rfl ?_
  refine xi_iadd (pc' := 1366) (v := 1) kc_196_1365 rfl rfl ?_
  refine xi_ialoadO (pc' := 1367) (v := a1) kc_196_1366 rfl (by decide) hov0 (xi_in (n := 6) (by decide) (by decide)) rfl ?_
  by_cases c1 : a1.toInt = 0
  · refine xi_ift (pc' := 1374) kc_196_1367 rfl (xc_eq_t (X := a1.toInt) (Y := 0) rfl (by decide) (by omega)) ?_
    refine xi_iconst (pc' := 1375) (v := 0) kc_196_1374 rfl rfl ?_
    refine xi_aload_n (pc' := 1376) (x := 1000000) kc_196_1375 rfl rfl ?_
    refine xi_iload (pc' := 1378) (x := 0) kc_196_1376 rfl rfl ?_
    refine xi_iconst (pc' := 1379) (v := 2) kc_196_1378 rfl rfl ?_
    refine xi_iadd (pc' := 1380) (v := 2) kc_196_1379 rfl rfl ?_
    refine xi_ialoadO (pc' := 1381) (v := a2) kc_196_1380 rfl (by decide) hov0 (xi_in (n := 6) (by decide) (by decide)) rfl ?_
    refine xi_aload_n (pc' := 1382) (x := 1000000) kc_196_1381 rfl rfl ?_
    refine xi_iload (pc' := 1384) (x := 0) kc_196_1382 rfl rfl ?_
    refine xi_iconst (pc' := 1385) (v := 3) kc_196_1384 rfl rfl ?_
    refine xi_iadd (pc' := 1386) (v := 3) kc_196_1385 rfl rfl ?_
    refine xi_ialoadO (pc' := 1387) (v := a3) kc_196_1386 rfl (by decide) hov0 (xi_in (n := 6) (by decide) (by decide)) rfl ?_
    by_cases c2 : a3.toInt = 0
    · refine xi_ift (pc' := 1394) kc_196_1387 rfl (xc_eq_t (X := a3.toInt) (Y := 0) rfl (by decide) (by omega)) ?_
      refine xi_iconst (pc' := 1395) (v := 0) kc_196_1394 rfl rfl ?_
      refine xi_virtual (mj := 181) (as := [.int 0, .int a2, .int 0]) (st1 := []) (lv0 := [(0, .ref 0), (1, .int 0), (2, .int a2), (3, .int 0)]) kc_196_1395 rfl rfl rfl rfl rfl (F 0 _ hl_0) (Nat.le_of_ble_eq_true rfl) (hJ _ _ _ _ (by decide)) (xm_le ml_181 rfl) rfl ?_
      refine xi_iload_n (pc' := 1) (x := a2) kc_181_0 rfl rfl ?_
      refine xi_static (mj := 118) (as := [.int a2]) (st1 := []) (lv0 := [(0, .int a2)]) kc_181_1 rfl rfl (Nat.le_of_ble_eq_true rfl) rfl rfl (Nat.le_of_ble_eq_true rfl) (hJ _ _ _ _ (by decide)) (xm_le ml_118 rfl) rfl ?_
      refine xi_iload_n (pc' := 1) (x := a2) kc_118_0 rfl rfl ?_
      by_cases c3 : a2.toInt < 0
      · refine xi_ift (pc' := 13) kc_118_1 rfl (xc_lt_t (X := a2.toInt) (Y := 0) rfl (by decide) (by omega)) ?_
        refine xi_iconst (pc' := 14) (v := 0) kc_118_13 rfl rfl ?_
        refine xi_ireturn kc_118_14 mr_118 rfl ?_
        show xw J ov 99 181 (4, [(0, .ref 0), (1, .int 0), (2, .int a2), (3, .int 0)], [.int 0], h0) _
        refine xi_iff (pc' := 7) kc_181_4 rfl rfl ?_
        refine xi_aload_n (pc' := 8) (x := 0) kc_181_7 rfl rfl ?_
        refine xi_bipush (pc' := 10) (v := (-2)) kc_181_8 rfl rfl ?_
        refine xi_virtual (mj := 91) (as := [.int (-2)]) (st1 := []) (lv0 := [(0, .ref 0), (1, .int (-2))]) kc_181_10 rfl rfl rfl rfl rfl (F 0 _ hl_0) (Nat.le_of_ble_eq_true rfl) (hJ _ _ _ _ (by decide)) (xm_le ml_91 rfl) rfl ?_
        refine xi_iload_n (pc' := 1) (x := (-2)) kc_91_0 rfl rfl ?_
        refine xi_ineg (pc' := 2) (v := 2) kc_91_1 rfl rfl ?_
        refine xi_istore_n (pc' := 3) (lv' := [(2, .int 2), (0, .ref 0), (1, .int (-2))]) kc_91_2 rfl rfl (xm_lt ml_91 rfl) ?_
        refine xi_iload_n (pc' := 4) (x := 2) kc_91_3 rfl rfl ?_
        refine xi_iff (pc' := 7) kc_91_4 rfl rfl ?_
        refine xi_iload_n (pc' := 8) (x := 2) kc_91_7 rfl rfl ?_
        refine xi_aload_n (pc' := 9) (x := 0) kc_91_8 rfl rfl ?_
        refine xi_getfield (pc' := 12) (v := .ref 94) kc_91_9 rfl rfl rfl (F 0 _ hl_0) rfl ?_
        refine xi_arraylength (pc' := 13) (n := 7) (v := 7) kc_91_12 rfl (xl_lenI (by decide) (by decide) (F 94 _ hl_94) (by simp only [List.length_replicate, List.length_cons, List.length_nil])) rfl ?_
        refine xi_cmf (pc' := 16) kc_91_13 rfl rfl ?_
        refine xi_aload_n (pc' := 17) (x := 0) kc_91_16 rfl rfl ?_
        refine xi_getfield (pc' := 20) (v := .ref 94) kc_91_17 rfl rfl rfl (F 0 _ hl_0) rfl ?_
        refine xi_iload_n (pc' := 21) (x := 2) kc_91_20 rfl rfl ?_
        refine xi_dup2 (pc' := 22) kc_91_21 rfl ⟨rfl, rfl⟩ ?_
        refine xi_iaload (pc' := 23) (v := 0) kc_91_22 rfl (F 94 _ hl_94) (by decide) rfl (xi_in (n := 7) (by decide) (by decide)) rfl ?_
        refine xi_iconst (pc' := 24) (v := 1) kc_91_23 rfl rfl ?_
        refine xi_iadd (pc' := 25) (v := 1) kc_91_24 rfl rfl ?_
        refine xi_iastore (pc' := 26) (x' := [0, 0, 1, 0, 0, 0, 0]) kc_91_25 rfl (F 94 _ hl_94) rfl (xi_in (n := 7) (by decide) (by decide)) rfl (fun hh1 eh1 => ?_)
        refine xi_iload_n (pc' := 27) (x := (-2)) kc_91_26 rfl rfl ?_
        refine xi_ireturn kc_91_27 mr_91 rfl ?_
        show xw J ov 99 181 (13, [(0, .ref 0), (1, .int 0), (2, .int a2), (3, .int 0)], [.int (-2)], hh1) _
        refine xi_ireturn kc_181_13 mr_181 rfl ?_
        show xw J ov 100 196 (1398, [(4, .int 0), (3, .ref 167), (2, .ref 115), (1, .ref 0), (0, .ref 1000000)], [.int (-2)], hh1) _
        refine xi_aload_n (pc' := 1399) (x := 115) kc_196_1398 rfl rfl ?_
        refine xi_aload_n (pc' := 1400) (x := 1000000) kc_196_1399 rfl rfl ?_
        refine xi_iload (pc' := 1402) (x := 0) kc_196_1400 rfl rfl ?_
        refine xi_iconst (pc' := 1403) (v := 1) kc_196_1402 rfl rfl ?_
        refine xi_iadd (pc' := 1404) (v := 1) kc_196_1403 rfl rfl ?_
        refine xi_ialoadO (pc' := 1405) (v := a1) kc_196_1404 rfl (by decide) hov0 (xi_in (n := 6) (by decide) (by decide)) rfl ?_
        refine xi_ift (pc' := 1412) kc_196_1405 rfl (xc_eq_t (X := a1.toInt) (Y := 0) rfl (by decide) (by omega)) ?_
        refine xi_iconst (pc' := 1413) (v := 0) kc_196_1412 rfl rfl ?_
        refine xi_aload_n (pc' := 1414) (x := 1000000) kc_196_1413 rfl rfl ?_
        refine xi_iload (pc' := 1416) (x := 0) kc_196_1414 rfl rfl ?_
        refine xi_iconst (pc' := 1417) (v := 2) kc_196_1416 rfl rfl ?_
        refine xi_iadd (pc' := 1418) (v := 2) kc_196_1417 rfl rfl ?_
        refine xi_ialoadO (pc' := 1419) (v := a2) kc_196_1418 rfl (by decide) hov0 (xi_in (n := 6) (by decide) (by decide)) rfl ?_
        refine xi_aload_n (pc' := 1420) (x := 1000000) kc_196_1419 rfl rfl ?_
        refine xi_iload (pc' := 1422) (x := 0) kc_196_1420 rfl rfl ?_
        refine xi_iconst (pc' := 1423) (v := 3) kc_196_1422 rfl rfl ?_
        refine xi_iadd (pc' := 1424) (v := 3) kc_196_1423 rfl rfl ?_
        refine xi_ialoadO (pc' := 1425) (v := a3) kc_196_1424 rfl (by decide) hov0 (xi_in (n := 6) (by decide) (by decide)) rfl ?_
        refine xi_ift (pc' := 1432) kc_196_1425 rfl (xc_eq_t (X := a3.toInt) (Y := 0) rfl (by decide) (by omega)) ?_
        refine xi_iconst (pc' := 1433) (v := 0) kc_196_1432 rfl rfl ?_
        refine xi_virtual (mj := 73) (as := [.int 0, .int a2, .int 0]) (st1 := [.int (-2)]) (lv0 := [(0, .ref 115), (1, .int 0), (2, .int a2), (3, .int 0)]) kc_196_1433 rfl rfl rfl rfl rfl ((eh1.2.1 115 (by decide)).trans (F 115 _ hl_115)) (Nat.le_of_ble_eq_true rfl) (hJ _ _ _ _ (by decide)) (xm_le ml_73 rfl) rfl ?_
        refine xi_aload_n (pc' := 1) (x := 115) kc_73_0 rfl rfl ?_
        refine xi_iconst (pc' := 2) (v := 0) kc_73_1 rfl rfl ?_
        refine xi_putfield (pc' := 5) (fs' := [.int 0, .int 0, .ref 116, .ref 117, .ref 118, .ref 119, .ref 120, .ref 121, .ref 122, .ref 123, .ref 124, .ref 125, .ref 126, .ref 127, .ref 128, .ref 129, .int 4, .ref 130, .int 0, .ref 131, .ref 132, .ref 133, .ref 134, .int 0, .ref 135, .ref 136, .ref 137, .ref 138, .ref 139, .ref 140, .ref 141, .ref 142, .int 0, .int 0, .int 0, .ref 143, .ref 144, .ref 145, .ref 146, .ref 147, .ref 148, .int 0, .ref 149, .ref 150, .ref 151, .int 0, .ref 152, .ref 153, .ref 154, .ref 155, .ref 156, .ref 157, .ref 158, .ref 159, .int 0, .ref 160, .int 0, .ref 161, .ref 162, .ref 163, .ref 164, .int 0, .ref 165, .ref 166]) kc_73_2 rfl rfl rfl ((eh1.2.1 115 (by decide)).trans (F 115 _ hl_115)) rfl rfl rfl (Nat.le_of_ble_eq_true rfl) rfl (fun hh2 eh2 => ?_)
        refine xi_iload_n (pc' := 6) (x := a2) kc_73_5 rfl rfl ?_
        refine xi_iconst (pc' := 7) (v := 0) kc_73_6 rfl rfl ?_
        refine xi_iconst (pc' := 8) (v := 3) kc_73_7 rfl rfl ?_
        refine xi_static (mj := 12) (as := [.int a2, .int 0, .int 3]) (st1 := []) (lv0 := [(0, .int a2), (1, .int 0), (2, .int 3)]) kc_73_8 rfl rfl (Nat.le_of_ble_eq_true rfl) rfl rfl (Nat.le_of_ble_eq_true rfl) (hJ _ _ _ _ (by decide)) (xm_le ml_12 rfl) rfl ?_
        refine xi_iload_n (pc' := 1) (x := a2) kc_12_0 rfl rfl ?_
        refine xi_iload_n (pc' := 2) (x := 0) kc_12_1 rfl rfl ?_
        refine xi_cmt (pc' := 14) kc_12_2 rfl (xc_lt_t (X := a2.toInt) (Y := 0) rfl (by decide) (by omega)) ?_
        refine xi_iconst (pc' := 15) (v := 0) kc_12_14 rfl rfl ?_
        refine xi_ireturn kc_12_15 mr_12 rfl ?_
        show xw J ov 99 73 (11, [(0, .ref 115), (1, .int 0), (2, .int a2), (3, .int 0)], [.int 0], hh2) _
        refine xi_iff (pc' := 14) kc_73_11 rfl rfl ?_
        refine xi_aload_n (pc' := 15) (x := 115) kc_73_14 rfl rfl ?_
        refine xi_bipush (pc' := 17) (v := (-2)) kc_73_15 rfl rfl ?_
        refine xi_virtual (mj := 13) (as := [.int (-2)]) (st1 := []) (lv0 := [(0, .ref 115), (1, .int (-2))]) kc_73_17 rfl rfl rfl rfl rfl eh2.1 (Nat.le_of_ble_eq_true rfl) (hJ _ _ _ _ (by decide)) (xm_le ml_13 rfl) rfl ?_
        refine xi_aload_n (pc' := 1) (x := 115) kc_13_0 rfl rfl ?_
        refine xi_getfield (pc' := 4) (v := .ref 140) kc_13_1 rfl rfl rfl eh2.1 rfl ?_
        refine xi_iload_n (pc' := 5) (x := (-2)) kc_13_4 rfl rfl ?_
        refine xi_ineg (pc' := 6) (v := 2) kc_13_5 rfl rfl ?_
        refine xi_dup2 (pc' := 7) kc_13_6 rfl ⟨rfl, rfl⟩ ?_
        refine xi_iaload (pc' := 8) (v := 0) kc_13_7 rfl ((eh2.2.1 140 (by decide)).trans ((eh1.2.1 140 (by decide)).trans (F 140 _ hl_140))) (by decide) rfl (xi_in (n := 7) (by decide) (by decide)) rfl ?_
        refine xi_iconst (pc' := 9) (v := 1) kc_13_8 rfl rfl ?_
        refine xi_iadd (pc' := 10) (v := 1) kc_13_9 rfl rfl ?_
        refine xi_iastore (pc' := 11) (x' := [0, 0, 1, 0, 0, 0, 0]) kc_13_10 rfl ((eh2.2.1 140 (by decide)).trans ((eh1.2.1 140 (by decide)).trans (F 140 _ hl_140))) rfl (xi_in (n := 7) (by decide) (by decide)) rfl (fun hh3 eh3 => ?_)
        refine xi_iload_n (pc' := 12) (x := (-2)) kc_13_11 rfl rfl ?_
        refine xi_ireturn kc_13_12 mr_13 rfl ?_
        show xw J ov 99 73 (20, [(0, .ref 115), (1, .int 0), (2, .int a2), (3, .int 0)], [.int (-2)], hh3) _
        refine xi_ireturn kc_73_20 mr_73 rfl ?_
        show xw J ov 100 196 (1436, [(4, .int 0), (3, .ref 167), (2, .ref 115), (1, .ref 0), (0, .ref 1000000)], [.int (-2), .int (-2)], hh3) _
        refine xi_cmt (pc' := 1528) kc_196_1436 rfl rfl ?_
        refine xi_iinc (pc' := 1531) (x := 0) (v := 6) (lv' := [(4, .int 6), (3, .ref 167), (2, .ref 115), (1, .ref 0), (0, .ref 1000000)]) kc_196_1528 rfl rfl rfl rfl (xm_lt ml_196 rfl) ?_
        refine xi_goto (pc' := 23) kc_196_1531 rfl ?_
        refine xi_iload (pc' := 25) (x := 6) kc_196_23 rfl rfl ?_
        refine xi_aload_n (pc' := 26) (x := 1000000) kc_196_25 rfl rfl ?_
        refine xi_arraylength (pc' := 27) (n := 6) (v := 6) kc_196_26 rfl (xl_lenO (by decide) hov0 rfl) rfl ?_
        refine xi_bipush (pc' := 29) (v := 6) kc_196_27 rfl rfl ?_
        refine xi_isub (pc' := 30) (v := 0) kc_196_29 rfl rfl ?_
        refine xi_cmt (pc' := 1534) kc_196_30 rfl rfl ?_
        refine xi_iconst (pc' := 1535) (v := 1) kc_196_1534 rfl rfl ?_
        refine xi_ireturn kc_196_1535 mr_196 rfl ?_
        refine ⟨rfl, ?_, ?_⟩
        · rw [eh3.2.2.1, eh2.2.2.1, eh1.2.2.1]; exact hn0
        · rw [eh3.2.2.2, eh2.2.2.2, eh1.2.2.2]; exact hz0
      · refine xi_iff (pc' := 4) kc_118_1 rfl (xc_lt_f (X := a2.toInt) (Y := 0) rfl (by decide) (by omega)) ?_
        refine xi_iload_n (pc' := 5) (x := a2) kc_118_4 rfl rfl ?_
        refine xi_iconst (pc' := 6) (v := 4) kc_118_5 rfl rfl ?_
        by_cases c4 : 4 ≤ a2.toInt
        · refine xi_cmt (pc' := 13) kc_118_6 rfl (xc_ge_t (X := a2.toInt) (Y := 4) rfl (by decide) (by omega)) ?_
          refine xi_iconst (pc' := 14) (v := 0) kc_118_13 rfl rfl ?_
          refine xi_ireturn kc_118_14 mr_118 rfl ?_
          show xw J ov 99 181 (4, [(0, .ref 0), (1, .int 0), (2, .int a2), (3, .int 0)], [.int 0], h0) _
          refine xi_iff (pc' := 7) kc_181_4 rfl rfl ?_
          refine xi_aload_n (pc' := 8) (x := 0) kc_181_7 rfl rfl ?_
          refine xi_bipush (pc' := 10) (v := (-2)) kc_181_8 rfl rfl ?_
          refine xi_virtual (mj := 91) (as := [.int (-2)]) (st1 := []) (lv0 := [(0, .ref 0), (1, .int (-2))]) kc_181_10 rfl rfl rfl rfl rfl (F 0 _ hl_0) (Nat.le_of_ble_eq_true rfl) (hJ _ _ _ _ (by decide)) (xm_le ml_91 rfl) rfl ?_
          refine xi_iload_n (pc' := 1) (x := (-2)) kc_91_0 rfl rfl ?_
          refine xi_ineg (pc' := 2) (v := 2) kc_91_1 rfl rfl ?_
          refine xi_istore_n (pc' := 3) (lv' := [(2, .int 2), (0, .ref 0), (1, .int (-2))]) kc_91_2 rfl rfl (xm_lt ml_91 rfl) ?_
          refine xi_iload_n (pc' := 4) (x := 2) kc_91_3 rfl rfl ?_
          refine xi_iff (pc' := 7) kc_91_4 rfl rfl ?_
          refine xi_iload_n (pc' := 8) (x := 2) kc_91_7 rfl rfl ?_
          refine xi_aload_n (pc' := 9) (x := 0) kc_91_8 rfl rfl ?_
          refine xi_getfield (pc' := 12) (v := .ref 94) kc_91_9 rfl rfl rfl (F 0 _ hl_0) rfl ?_
          refine xi_arraylength (pc' := 13) (n := 7) (v := 7) kc_91_12 rfl (xl_lenI (by decide) (by decide) (F 94 _ hl_94) (by simp only [List.length_replicate, List.length_cons, List.length_nil])) rfl ?_
          refine xi_cmf (pc' := 16) kc_91_13 rfl rfl ?_
          refine xi_aload_n (pc' := 17) (x := 0) kc_91_16 rfl rfl ?_
          refine xi_getfield (pc' := 20) (v := .ref 94) kc_91_17 rfl rfl rfl (F 0 _ hl_0) rfl ?_
          refine xi_iload_n (pc' := 21) (x := 2) kc_91_20 rfl rfl ?_
          refine xi_dup2 (pc' := 22) kc_91_21 rfl ⟨rfl, rfl⟩ ?_
          refine xi_iaload (pc' := 23) (v := 0) kc_91_22 rfl (F 94 _ hl_94) (by decide) rfl (xi_in (n := 7) (by decide) (by decide)) rfl ?_
          refine xi_iconst (pc' := 24) (v := 1) kc_91_23 rfl rfl ?_
          refine xi_iadd (pc' := 25) (v := 1) kc_91_24 rfl rfl ?_
          refine xi_iastore (pc' := 26) (x' := [0, 0, 1, 0, 0, 0, 0]) kc_91_25 rfl (F 94 _ hl_94) rfl (xi_in (n := 7) (by decide) (by decide)) rfl (fun hh1 eh1 => ?_)
          refine xi_iload_n (pc' := 27) (x := (-2)) kc_91_26 rfl rfl ?_
          refine xi_ireturn kc_91_27 mr_91 rfl ?_
          show xw J ov 99 181 (13, [(0, .ref 0), (1, .int 0), (2, .int a2), (3, .int 0)], [.int (-2)], hh1) _
          refine xi_ireturn kc_181_13 mr_181 rfl ?_
          show xw J ov 100 196 (1398, [(4, .int 0), (3, .ref 167), (2, .ref 115), (1, .ref 0), (0, .ref 1000000)], [.int (-2)], hh1) _
          refine xi_aload_n (pc' := 1399) (x := 115) kc_196_1398 rfl rfl ?_
          refine xi_aload_n (pc' := 1400) (x := 1000000) kc_196_1399 rfl rfl ?_
          refine xi_iload (pc' := 1402) (x := 0) kc_196_1400 rfl rfl ?_
          refine xi_iconst (pc' := 1403) (v := 1) kc_196_1402 rfl rfl ?_
          refine xi_iadd (pc' := 1404) (v := 1) kc_196_1403 rfl rfl ?_
          refine xi_ialoadO (pc' := 1405) (v := a1) kc_196_1404 rfl (by decide) hov0 (xi_in (n := 6) (by decide) (by decide)) rfl ?_
          refine xi_ift (pc' := 1412) kc_196_1405 rfl (xc_eq_t (X := a1.toInt) (Y := 0) rfl (by decide) (by omega)) ?_
          refine xi_iconst (pc' := 1413) (v := 0) kc_196_1412 rfl rfl ?_
          refine xi_aload_n (pc' := 1414) (x := 1000000) kc_196_1413 rfl rfl ?_
          refine xi_iload (pc' := 1416) (x := 0) kc_196_1414 rfl rfl ?_
          refine xi_iconst (pc' := 1417) (v := 2) kc_196_1416 rfl rfl ?_
          refine xi_iadd (pc' := 1418) (v := 2) kc_196_1417 rfl rfl ?_
          refine xi_ialoadO (pc' := 1419) (v := a2) kc_196_1418 rfl (by decide) hov0 (xi_in (n := 6) (by decide) (by decide)) rfl ?_
          refine xi_aload_n (pc' := 1420) (x := 1000000) kc_196_1419 rfl rfl ?_
          refine xi_iload (pc' := 1422) (x := 0) kc_196_1420 rfl rfl ?_
          refine xi_iconst (pc' := 1423) (v := 3) kc_196_1422 rfl rfl ?_
          refine xi_iadd (pc' := 1424) (v := 3) kc_196_1423 rfl rfl ?_
          refine xi_ialoadO (pc' := 1425) (v := a3) kc_196_1424 rfl (by decide) hov0 (xi_in (n := 6) (by decide) (by decide)) rfl ?_
          refine xi_ift (pc' := 1432) kc_196_1425 rfl (xc_eq_t (X := a3.toInt) (Y := 0) rfl (by decide) (by omega)) ?_
          refine xi_iconst (pc' := 1433) (v := 0) kc_196_1432 rfl rfl ?_
          refine xi_virtual (mj := 73) (as := [.int 0, .int a2, .int 0]) (st1 := [.int (-2)]) (lv0 := [(0, .ref 115), (1, .int 0), (2, .int a2), (3, .int 0)]) kc_196_1433 rfl rfl rfl rfl rfl ((eh1.2.1 115 (by decide)).trans (F 115 _ hl_115)) (Nat.le_of_ble_eq_true rfl) (hJ _ _ _ _ (by decide)) (xm_le ml_73 rfl) rfl ?_
          refine xi_aload_n (pc' := 1) (x := 115) kc_73_0 rfl rfl ?_
          refine xi_iconst (pc' := 2) (v := 0) kc_73_1 rfl rfl ?_
          refine xi_putfield (pc' := 5) (fs' := [.int 0, .int 0, .ref 116, .ref 117, .ref 118, .ref 119, .ref 120, .ref 121, .ref 122, .ref 123, .ref 124, .ref 125, .ref 126, .ref 127, .ref 128, .ref 129, .int 4, .ref 130, .int 0, .ref 131, .ref 132, .ref 133, .ref 134, .int 0, .ref 135, .ref 136, .ref 137, .ref 138, .ref 139, .ref 140, .ref 141, .ref 142, .int 0, .int 0, .int 0, .ref 143, .ref 144, .ref 145, .ref 146, .ref 147, .ref 148, .int 0, .ref 149, .ref 150, .ref 151, .int 0, .ref 152, .ref 153, .ref 154, .ref 155, .ref 156, .ref 157, .ref 158, .ref 159, .int 0, .ref 160, .int 0, .ref 161, .ref 162, .ref 163, .ref 164, .int 0, .ref 165, .ref 166]) kc_73_2 rfl rfl rfl ((eh1.2.1 115 (by decide)).trans (F 115 _ hl_115)) rfl rfl rfl (Nat.le_of_ble_eq_true rfl) rfl (fun hh2 eh2 => ?_)
          refine xi_iload_n (pc' := 6) (x := a2) kc_73_5 rfl rfl ?_
          refine xi_iconst (pc' := 7) (v := 0) kc_73_6 rfl rfl ?_
          refine xi_iconst (pc' := 8) (v := 3) kc_73_7 rfl rfl ?_
          refine xi_static (mj := 12) (as := [.int a2, .int 0, .int 3]) (st1 := []) (lv0 := [(0, .int a2), (1, .int 0), (2, .int 3)]) kc_73_8 rfl rfl (Nat.le_of_ble_eq_true rfl) rfl rfl (Nat.le_of_ble_eq_true rfl) (hJ _ _ _ _ (by decide)) (xm_le ml_12 rfl) rfl ?_
          refine xi_iload_n (pc' := 1) (x := a2) kc_12_0 rfl rfl ?_
          refine xi_iload_n (pc' := 2) (x := 0) kc_12_1 rfl rfl ?_
          refine xi_cmf (pc' := 5) kc_12_2 rfl (xc_lt_f (X := a2.toInt) (Y := 0) rfl (by decide) (by omega)) ?_
          refine xi_iload_n (pc' := 6) (x := a2) kc_12_5 rfl rfl ?_
          refine xi_iload_n (pc' := 7) (x := 3) kc_12_6 rfl rfl ?_
          refine xi_cmt (pc' := 14) kc_12_7 rfl (xc_gt_t (X := a2.toInt) (Y := 3) rfl (by decide) (by omega)) ?_
          refine xi_iconst (pc' := 15) (v := 0) kc_12_14 rfl rfl ?_
          refine xi_ireturn kc_12_15 mr_12 rfl ?_
          show xw J ov 99 73 (11, [(0, .ref 115), (1, .int 0), (2, .int a2), (3, .int 0)], [.int 0], hh2) _
          refine xi_iff (pc' := 14) kc_73_11 rfl rfl ?_
          refine xi_aload_n (pc' := 15) (x := 115) kc_73_14 rfl rfl ?_
          refine xi_bipush (pc' := 17) (v := (-2)) kc_73_15 rfl rfl ?_
          refine xi_virtual (mj := 13) (as := [.int (-2)]) (st1 := []) (lv0 := [(0, .ref 115), (1, .int (-2))]) kc_73_17 rfl rfl rfl rfl rfl eh2.1 (Nat.le_of_ble_eq_true rfl) (hJ _ _ _ _ (by decide)) (xm_le ml_13 rfl) rfl ?_
          refine xi_aload_n (pc' := 1) (x := 115) kc_13_0 rfl rfl ?_
          refine xi_getfield (pc' := 4) (v := .ref 140) kc_13_1 rfl rfl rfl eh2.1 rfl ?_
          refine xi_iload_n (pc' := 5) (x := (-2)) kc_13_4 rfl rfl ?_
          refine xi_ineg (pc' := 6) (v := 2) kc_13_5 rfl rfl ?_
          refine xi_dup2 (pc' := 7) kc_13_6 rfl ⟨rfl, rfl⟩ ?_
          refine xi_iaload (pc' := 8) (v := 0) kc_13_7 rfl ((eh2.2.1 140 (by decide)).trans ((eh1.2.1 140 (by decide)).trans (F 140 _ hl_140))) (by decide) rfl (xi_in (n := 7) (by decide) (by decide)) rfl ?_
          refine xi_iconst (pc' := 9) (v := 1) kc_13_8 rfl rfl ?_
          refine xi_iadd (pc' := 10) (v := 1) kc_13_9 rfl rfl ?_
          refine xi_iastore (pc' := 11) (x' := [0, 0, 1, 0, 0, 0, 0]) kc_13_10 rfl ((eh2.2.1 140 (by decide)).trans ((eh1.2.1 140 (by decide)).trans (F 140 _ hl_140))) rfl (xi_in (n := 7) (by decide) (by decide)) rfl (fun hh3 eh3 => ?_)
          refine xi_iload_n (pc' := 12) (x := (-2)) kc_13_11 rfl rfl ?_
          refine xi_ireturn kc_13_12 mr_13 rfl ?_
          show xw J ov 99 73 (20, [(0, .ref 115), (1, .int 0), (2, .int a2), (3, .int 0)], [.int (-2)], hh3) _
          refine xi_ireturn kc_73_20 mr_73 rfl ?_
          show xw J ov 100 196 (1436, [(4, .int 0), (3, .ref 167), (2, .ref 115), (1, .ref 0), (0, .ref 1000000)], [.int (-2), .int (-2)], hh3) _
          refine xi_cmt (pc' := 1528) kc_196_1436 rfl rfl ?_
          refine xi_iinc (pc' := 1531) (x := 0) (v := 6) (lv' := [(4, .int 6), (3, .ref 167), (2, .ref 115), (1, .ref 0), (0, .ref 1000000)]) kc_196_1528 rfl rfl rfl rfl (xm_lt ml_196 rfl) ?_
          refine xi_goto (pc' := 23) kc_196_1531 rfl ?_
          refine xi_iload (pc' := 25) (x := 6) kc_196_23 rfl rfl ?_
          refine xi_aload_n (pc' := 26) (x := 1000000) kc_196_25 rfl rfl ?_
          refine xi_arraylength (pc' := 27) (n := 6) (v := 6) kc_196_26 rfl (xl_lenO (by decide) hov0 rfl) rfl ?_
          refine xi_bipush (pc' := 29) (v := 6) kc_196_27 rfl rfl ?_
          refine xi_isub (pc' := 30) (v := 0) kc_196_29 rfl rfl ?_
          refine xi_cmt (pc' := 1534) kc_196_30 rfl rfl ?_
          refine xi_iconst (pc' := 1535) (v := 1) kc_196_1534 rfl rfl ?_
          refine xi_ireturn kc_196_1535 mr_196 rfl ?_
          refine ⟨rfl, ?_, ?_⟩
          · rw [eh3.2.2.1, eh2.2.2.1, eh1.2.2.1]; exact hn0
          · rw [eh3.2.2.2, eh2.2.2.2, eh1.2.2.2]; exact hz0
        · refine xi_cmf (pc' := 9) kc_118_6 rfl (xc_ge_f (X := a2.toInt) (Y := 4) rfl (by decide) (by omega)) ?_
          refine xi_iconst (pc' := 10) (v := 1) kc_118_9 rfl rfl ?_
          refine xi_goto (pc' := 14) kc_118_10 rfl ?_
          refine xi_ireturn kc_118_14 mr_118 rfl ?_
          show xw J ov 99 181 (4, [(0, .ref 0), (1, .int 0), (2, .int a2), (3, .int 0)], [.int 1], h0) _
          refine xi_ift (pc' := 14) kc_181_4 rfl rfl ?_
          refine xi_aload_n (pc' := 15) (x := 0) kc_181_14 rfl rfl ?_
          refine xi_getfield (pc' := 18) (v := .ref 85) kc_181_15 rfl rfl rfl (F 0 _ hl_0) rfl ?_
          refine xi_iload_n (pc' := 19) (x := 0) kc_181_18 rfl rfl ?_
          refine xi_iload_n (pc' := 20) (x := a2) kc_181_19 rfl rfl ?_
          refine xi_iload_n (pc' := 21) (x := 0) kc_181_20 rfl rfl ?_
          refine xi_aload_n (pc' := 22) (x := 0) kc_181_21 rfl rfl ?_
          refine xi_getfield (pc' := 25) (v := .int 0) kc_181_22 rfl rfl rfl (F 0 _ hl_0) rfl ?_
          refine xi_virtual (mj := 182) (as := [.int 0, .int a2, .int 0, .int 0]) (st1 := []) (lv0 := [(0, .ref 85), (1, .int 0), (2, .int a2), (3, .int 0), (4, .int 0)]) kc_181_25 rfl rfl rfl rfl rfl (F 85 _ hl_85) (Nat.le_of_ble_eq_true rfl) (hJ _ _ _ _ (by decide)) (xm_le ml_182 rfl) rfl ?_
          refine xi_iload_n (pc' := 1) (x := a2) kc_182_0 rfl rfl ?_
          refine xi_static (mj := 118) (as := [.int a2]) (st1 := []) (lv0 := [(0, .int a2)]) kc_182_1 rfl rfl (Nat.le_of_ble_eq_true rfl) rfl rfl (Nat.le_of_ble_eq_true rfl) (hJ _ _ _ _ (by decide)) (xm_le ml_118 rfl) rfl ?_
          refine xi_iload_n (pc' := 1) (x := a2) kc_118_0 rfl rfl ?_
          refine xi_iff (pc' := 4) kc_118_1 rfl (xc_lt_f (X := a2.toInt) (Y := 0) rfl (by decide) (by omega)) ?_
          refine xi_iload_n (pc' := 5) (x := a2) kc_118_4 rfl rfl ?_
          refine xi_iconst (pc' := 6) (v := 4) kc_118_5 rfl rfl ?_
          refine xi_cmf (pc' := 9) kc_118_6 rfl (xc_ge_f (X := a2.toInt) (Y := 4) rfl (by decide) (by omega)) ?_
          refine xi_iconst (pc' := 10) (v := 1) kc_118_9 rfl rfl ?_
          refine xi_goto (pc' := 14) kc_118_10 rfl ?_
          refine xi_ireturn kc_118_14 mr_118 rfl ?_
          show xw J ov 98 182 (4, [(0, .ref 85), (1, .int 0), (2, .int a2), (3, .int 0), (4, .int 0)], [.int 1], h0) _
          refine xi_ift (pc' := 8) kc_182_4 rfl rfl ?_
          refine xi_iload_n (pc' := 9) (x := 0) kc_182_8 rfl rfl ?_
          refine xi_ift (pc' := 19) kc_182_9 rfl rfl ?_
          refine xi_aload_n (pc' := 20) (x := 85) kc_182_19 rfl rfl ?_
          refine xi_getfield (pc' := 23) (v := .ref 90) kc_182_20 rfl rfl rfl (F 85 _ hl_85) rfl ?_
          refine xi_astore (pc' := 25) (lv' := [(5, .ref 90), (0, .ref 85), (1, .int 0), (2, .int a2), (3, .int 0), (4, .int 0)]) kc_182_23 rfl rfl (xm_lt ml_182 rfl) ?_
          refine xi_aload (pc' := 27) (x := 90) kc_182_25 rfl rfl ?_
          refine xi_iload_n (pc' := 28) (x := a2) kc_182_27 rfl rfl ?_
          refine xi_iload_n (pc' := 29) (x := 0) kc_182_28 rfl rfl ?_
          refine xi_ift (pc' := 36) kc_182_29 rfl rfl ?_
          refine xi_iconst (pc' := 37) (v := 2) kc_182_36 rfl rfl ?_
          have lq6 : (List.replicate 4 0 : List Int32).length = 4 := by simp only [List.length_replicate, List.length_cons, List.length_nil, List.length_set]
          obtain ⟨x5, hx5⟩ : ∃ q, (List.replicate 4 0 : List Int32).set (Int32.toNatClampNeg a2) (2) = q := ⟨_, rfl⟩
          have lx5 : x5.length = 4 := by rw [← hx5, List.length_set]; exact lq6
          refine xi_iastore (pc' := 38) (x' := x5) kc_182_37 rfl (F 90 _ hl_90) rfl (xi_in (by omega) (by rw [lq6]; omega)) hx5 (fun hh1 eh1 => ?_)
          refine xi_iload_n (pc' := 39) (x := 0) kc_182_38 rfl rfl ?_
          refine xi_ift (pc' := 50) kc_182_39 rfl rfl ?_
          refine xi_return kc_182_50 mr_182 ?_
          show xw J ov 99 181 (28, [(0, .ref 0), (1, .int 0), (2, .int a2), (3, .int 0)], [], hh1) _
          refine xi_iconst (pc' := 29) (v := 1) kc_181_28 rfl rfl ?_
          refine xi_ireturn kc_181_29 mr_181 rfl ?_
          show xw J ov 100 196 (1398, [(4, .int 0), (3, .ref 167), (2, .ref 115), (1, .ref 0), (0, .ref 1000000)], [.int 1], hh1) _
          refine xi_aload_n (pc' := 1399) (x := 115) kc_196_1398 rfl rfl ?_
          refine xi_aload_n (pc' := 1400) (x := 1000000) kc_196_1399 rfl rfl ?_
          refine xi_iload (pc' := 1402) (x := 0) kc_196_1400 rfl rfl ?_
          refine xi_iconst (pc' := 1403) (v := 1) kc_196_1402 rfl rfl ?_
          refine xi_iadd (pc' := 1404) (v := 1) kc_196_1403 rfl rfl ?_
          refine xi_ialoadO (pc' := 1405) (v := a1) kc_196_1404 rfl (by decide) hov0 (xi_in (n := 6) (by decide) (by decide)) rfl ?_
          refine xi_ift (pc' := 1412) kc_196_1405 rfl (xc_eq_t (X := a1.toInt) (Y := 0) rfl (by decide) (by omega)) ?_
          refine xi_iconst (pc' := 1413) (v := 0) kc_196_1412 rfl rfl ?_
          refine xi_aload_n (pc' := 1414) (x := 1000000) kc_196_1413 rfl rfl ?_
          refine xi_iload (pc' := 1416) (x := 0) kc_196_1414 rfl rfl ?_
          refine xi_iconst (pc' := 1417) (v := 2) kc_196_1416 rfl rfl ?_
          refine xi_iadd (pc' := 1418) (v := 2) kc_196_1417 rfl rfl ?_
          refine xi_ialoadO (pc' := 1419) (v := a2) kc_196_1418 rfl (by decide) hov0 (xi_in (n := 6) (by decide) (by decide)) rfl ?_
          refine xi_aload_n (pc' := 1420) (x := 1000000) kc_196_1419 rfl rfl ?_
          refine xi_iload (pc' := 1422) (x := 0) kc_196_1420 rfl rfl ?_
          refine xi_iconst (pc' := 1423) (v := 3) kc_196_1422 rfl rfl ?_
          refine xi_iadd (pc' := 1424) (v := 3) kc_196_1423 rfl rfl ?_
          refine xi_ialoadO (pc' := 1425) (v := a3) kc_196_1424 rfl (by decide) hov0 (xi_in (n := 6) (by decide) (by decide)) rfl ?_
          refine xi_ift (pc' := 1432) kc_196_1425 rfl (xc_eq_t (X := a3.toInt) (Y := 0) rfl (by decide) (by omega)) ?_
          refine xi_iconst (pc' := 1433) (v := 0) kc_196_1432 rfl rfl ?_
          refine xi_virtual (mj := 73) (as := [.int 0, .int a2, .int 0]) (st1 := [.int 1]) (lv0 := [(0, .ref 115), (1, .int 0), (2, .int a2), (3, .int 0)]) kc_196_1433 rfl rfl rfl rfl rfl ((eh1.2.1 115 (by decide)).trans (F 115 _ hl_115)) (Nat.le_of_ble_eq_true rfl) (hJ _ _ _ _ (by decide)) (xm_le ml_73 rfl) rfl ?_
          refine xi_aload_n (pc' := 1) (x := 115) kc_73_0 rfl rfl ?_
          refine xi_iconst (pc' := 2) (v := 0) kc_73_1 rfl rfl ?_
          refine xi_putfield (pc' := 5) (fs' := [.int 0, .int 0, .ref 116, .ref 117, .ref 118, .ref 119, .ref 120, .ref 121, .ref 122, .ref 123, .ref 124, .ref 125, .ref 126, .ref 127, .ref 128, .ref 129, .int 4, .ref 130, .int 0, .ref 131, .ref 132, .ref 133, .ref 134, .int 0, .ref 135, .ref 136, .ref 137, .ref 138, .ref 139, .ref 140, .ref 141, .ref 142, .int 0, .int 0, .int 0, .ref 143, .ref 144, .ref 145, .ref 146, .ref 147, .ref 148, .int 0, .ref 149, .ref 150, .ref 151, .int 0, .ref 152, .ref 153, .ref 154, .ref 155, .ref 156, .ref 157, .ref 158, .ref 159, .int 0, .ref 160, .int 0, .ref 161, .ref 162, .ref 163, .ref 164, .int 0, .ref 165, .ref 166]) kc_73_2 rfl rfl rfl ((eh1.2.1 115 (by decide)).trans (F 115 _ hl_115)) rfl rfl rfl (Nat.le_of_ble_eq_true rfl) rfl (fun hh2 eh2 => ?_)
          refine xi_iload_n (pc' := 6) (x := a2) kc_73_5 rfl rfl ?_
          refine xi_iconst (pc' := 7) (v := 0) kc_73_6 rfl rfl ?_
          refine xi_iconst (pc' := 8) (v := 3) kc_73_7 rfl rfl ?_
          refine xi_static (mj := 12) (as := [.int a2, .int 0, .int 3]) (st1 := []) (lv0 := [(0, .int a2), (1, .int 0), (2, .int 3)]) kc_73_8 rfl rfl (Nat.le_of_ble_eq_true rfl) rfl rfl (Nat.le_of_ble_eq_true rfl) (hJ _ _ _ _ (by decide)) (xm_le ml_12 rfl) rfl ?_
          refine xi_iload_n (pc' := 1) (x := a2) kc_12_0 rfl rfl ?_
          refine xi_iload_n (pc' := 2) (x := 0) kc_12_1 rfl rfl ?_
          refine xi_cmf (pc' := 5) kc_12_2 rfl (xc_lt_f (X := a2.toInt) (Y := 0) rfl (by decide) (by omega)) ?_
          refine xi_iload_n (pc' := 6) (x := a2) kc_12_5 rfl rfl ?_
          refine xi_iload_n (pc' := 7) (x := 3) kc_12_6 rfl rfl ?_
          refine xi_cmf (pc' := 10) kc_12_7 rfl (xc_gt_f (X := a2.toInt) (Y := 3) rfl (by decide) (by omega)) ?_
          refine xi_iconst (pc' := 11) (v := 1) kc_12_10 rfl rfl ?_
          refine xi_goto (pc' := 15) kc_12_11 rfl ?_
          refine xi_ireturn kc_12_15 mr_12 rfl ?_
          show xw J ov 99 73 (11, [(0, .ref 115), (1, .int 0), (2, .int a2), (3, .int 0)], [.int 1], hh2) _
          refine xi_ift (pc' := 21) kc_73_11 rfl rfl ?_
          refine xi_aload_n (pc' := 22) (x := 115) kc_73_21 rfl rfl ?_
          refine xi_getfield (pc' := 25) (v := .ref 165) kc_73_22 rfl rfl rfl eh2.1 rfl ?_
          refine xi_iconst (pc' := 26) (v := 2) kc_73_25 rfl rfl ?_
          refine xi_iload_n (pc' := 27) (x := a2) kc_73_26 rfl rfl ?_
          obtain ⟨v7, ev7⟩ : ∃ q : Int32, 2 * a2 = q := ⟨_, rfl⟩
          have zv7 : v7.toInt = (2) * a2.toInt := by rw [← ev7]; exact (xz_mul (X := 2) (Y := a2.toInt) (by decide) rfl (by omega) (by omega)).trans (by omega)
          refine xi_imul (pc' := 28) (v := v7) kc_73_27 rfl ev7 ?_
          refine xi_iload_n (pc' := 29) (x := 0) kc_73_28 rfl rfl ?_
          refine xi_ift (pc' := 36) kc_73_29 rfl rfl ?_
          refine xi_iconst (pc' := 37) (v := 0) kc_73_36 rfl rfl ?_
          obtain ⟨v8, ev8⟩ : ∃ q : Int32, v7 + 0 = q := ⟨_, rfl⟩
          have zv8 : v8.toInt = (2) * a2.toInt := by rw [← ev8]; exact (xz_add (X := (2) * a2.toInt) (Y := 0) zv7 (by decide) (by omega) (by omega)).trans (by omega)
          refine xi_iadd (pc' := 38) (v := v8) kc_73_37 rfl ev8 ?_
          refine xi_iload_n (pc' := 39) (x := 0) kc_73_38 rfl rfl ?_
          refine xi_ift (pc' := 46) kc_73_39 rfl rfl ?_
          refine xi_iconst (pc' := 47) (v := 0) kc_73_46 rfl rfl ?_
          have lq10 : (List.replicate 8 (-1) : List Int32).length = 8 := by simp only [List.length_replicate, List.length_cons, List.length_nil, List.length_set]
          obtain ⟨x9, hx9⟩ : ∃ q, (List.replicate 8 (-1) : List Int32).set (Int32.toNatClampNeg v8) (0) = q := ⟨_, rfl⟩
          have lx9 : x9.length = 8 := by rw [← hx9, List.length_set]; exact lq10
          refine xi_iastore (pc' := 48) (x' := x9) kc_73_47 rfl ((eh2.2.1 165 (by decide)).trans ((eh1.2.1 165 (by decide)).trans (F 165 _ hl_165))) rfl (xi_in (by rw [zv8]; omega) (by rw [lq10]; rw [zv8]; omega)) hx9 (fun hh3 eh3 => ?_)
          refine xi_aload_n (pc' := 49) (x := 115) kc_73_48 rfl rfl ?_
          refine xi_getfield (pc' := 52) (v := .ref 166) kc_73_49 rfl rfl rfl ((eh3.2.1 115 (by decide)).trans eh2.1) rfl ?_
          refine xi_iload_n (pc' := 53) (x := a2) kc_73_52 rfl rfl ?_
          refine xi_iload_n (pc' := 54) (x := 0) kc_73_53 rfl rfl ?_
          refine xi_ift (pc' := 64) kc_73_54 rfl rfl ?_
          refine xi_aload_n (pc' := 65) (x := 115) kc_73_64 rfl rfl ?_
          refine xi_getfield (pc' := 68) (v := .ref 166) kc_73_65 rfl rfl rfl ((eh3.2.1 115 (by decide)).trans eh2.1) rfl ?_
          refine xi_iload_n (pc' := 69) (x := a2) kc_73_68 rfl rfl ?_
          refine xi_iaload (pc' := 70) (v := (-1)) kc_73_69 rfl ((eh3.2.1 166 (by decide)).trans ((eh2.2.1 166 (by decide)).trans ((eh1.2.1 166 (by decide)).trans (F 166 _ hl_166)))) (by decide) rfl (xi_in (by omega) (by simp only [List.length_replicate]; omega)) (xa_rep (by omega) (by omega)) ?_
          have lq12 : (List.replicate 4 (-1) : List Int32).length = 4 := by simp only [List.length_replicate, List.length_cons, List.length_nil, List.length_set]
          obtain ⟨x11, hx11⟩ : ∃ q, (List.replicate 4 (-1) : List Int32).set (Int32.toNatClampNeg a2) ((-1)) = q := ⟨_, rfl⟩
          have lx11 : x11.length = 4 := by rw [← hx11, List.length_set]; exact lq12
          refine xi_iastore (pc' := 71) (x' := x11) kc_73_70 rfl ((eh3.2.1 166 (by decide)).trans ((eh2.2.1 166 (by decide)).trans ((eh1.2.1 166 (by decide)).trans (F 166 _ hl_166)))) rfl (xi_in (by omega) (by rw [lq12]; omega)) hx11 (fun hh4 eh4 => ?_)
          refine xi_iconst (pc' := 72) (v := 1) kc_73_71 rfl rfl ?_
          refine xi_ireturn kc_73_72 mr_73 rfl ?_
          show xw J ov 100 196 (1436, [(4, .int 0), (3, .ref 167), (2, .ref 115), (1, .ref 0), (0, .ref 1000000)], [.int 1, .int 1], hh4) _
          refine xi_cmt (pc' := 1528) kc_196_1436 rfl rfl ?_
          refine xi_iinc (pc' := 1531) (x := 0) (v := 6) (lv' := [(4, .int 6), (3, .ref 167), (2, .ref 115), (1, .ref 0), (0, .ref 1000000)]) kc_196_1528 rfl rfl rfl rfl (xm_lt ml_196 rfl) ?_
          refine xi_goto (pc' := 23) kc_196_1531 rfl ?_
          refine xi_iload (pc' := 25) (x := 6) kc_196_23 rfl rfl ?_
          refine xi_aload_n (pc' := 26) (x := 1000000) kc_196_25 rfl rfl ?_
          refine xi_arraylength (pc' := 27) (n := 6) (v := 6) kc_196_26 rfl (xl_lenO (by decide) hov0 rfl) rfl ?_
          refine xi_bipush (pc' := 29) (v := 6) kc_196_27 rfl rfl ?_
          refine xi_isub (pc' := 30) (v := 0) kc_196_29 rfl rfl ?_
          refine xi_cmt (pc' := 1534) kc_196_30 rfl rfl ?_
          refine xi_iconst (pc' := 1535) (v := 1) kc_196_1534 rfl rfl ?_
          refine xi_ireturn kc_196_1535 mr_196 rfl ?_
          refine ⟨rfl, ?_, ?_⟩
          · rw [eh4.2.2.1, eh3.2.2.1, eh2.2.2.1, eh1.2.2.1]; exact hn0
          · rw [eh4.2.2.2, eh3.2.2.2, eh2.2.2.2, eh1.2.2.2]; exact hz0
    · refine xi_iff (pc' := 1390) kc_196_1387 rfl (xc_eq_f (X := a3.toInt) (Y := 0) rfl (by decide) (by omega)) ?_
      refine xi_iconst (pc' := 1391) (v := 1) kc_196_1390 rfl rfl ?_
      refine xi_goto (pc' := 1395) kc_196_1391 rfl ?_
      refine xi_virtual (mj := 181) (as := [.int 0, .int a2, .int 1]) (st1 := []) (lv0 := [(0, .ref 0), (1, .int 0), (2, .int a2), (3, .int 1)]) kc_196_1395 rfl rfl rfl rfl rfl (F 0 _ hl_0) (Nat.le_of_ble_eq_true rfl) (hJ _ _ _ _ (by decide)) (xm_le ml_181 rfl) rfl ?_
      refine xi_iload_n (pc' := 1) (x := a2) kc_181_0 rfl rfl ?_
      refine xi_static (mj := 118) (as := [.int a2]) (st1 := []) (lv0 := [(0, .int a2)]) kc_181_1 rfl rfl (Nat.le_of_ble_eq_true rfl) rfl rfl (Nat.le_of_ble_eq_true rfl) (hJ _ _ _ _ (by decide)) (xm_le ml_118 rfl) rfl ?_
      refine xi_iload_n (pc' := 1) (x := a2) kc_118_0 rfl rfl ?_
      by_cases c13 : a2.toInt < 0
      · refine xi_ift (pc' := 13) kc_118_1 rfl (xc_lt_t (X := a2.toInt) (Y := 0) rfl (by decide) (by omega)) ?_
        refine xi_iconst (pc' := 14) (v := 0) kc_118_13 rfl rfl ?_
        refine xi_ireturn kc_118_14 mr_118 rfl ?_
        show xw J ov 99 181 (4, [(0, .ref 0), (1, .int 0), (2, .int a2), (3, .int 1)], [.int 0], h0) _
        refine xi_iff (pc' := 7) kc_181_4 rfl rfl ?_
        refine xi_aload_n (pc' := 8) (x := 0) kc_181_7 rfl rfl ?_
        refine xi_bipush (pc' := 10) (v := (-2)) kc_181_8 rfl rfl ?_
        refine xi_virtual (mj := 91) (as := [.int (-2)]) (st1 := []) (lv0 := [(0, .ref 0), (1, .int (-2))]) kc_181_10 rfl rfl rfl rfl rfl (F 0 _ hl_0) (Nat.le_of_ble_eq_true rfl) (hJ _ _ _ _ (by decide)) (xm_le ml_91 rfl) rfl ?_
        refine xi_iload_n (pc' := 1) (x := (-2)) kc_91_0 rfl rfl ?_
        refine xi_ineg (pc' := 2) (v := 2) kc_91_1 rfl rfl ?_
        refine xi_istore_n (pc' := 3) (lv' := [(2, .int 2), (0, .ref 0), (1, .int (-2))]) kc_91_2 rfl rfl (xm_lt ml_91 rfl) ?_
        refine xi_iload_n (pc' := 4) (x := 2) kc_91_3 rfl rfl ?_
        refine xi_iff (pc' := 7) kc_91_4 rfl rfl ?_
        refine xi_iload_n (pc' := 8) (x := 2) kc_91_7 rfl rfl ?_
        refine xi_aload_n (pc' := 9) (x := 0) kc_91_8 rfl rfl ?_
        refine xi_getfield (pc' := 12) (v := .ref 94) kc_91_9 rfl rfl rfl (F 0 _ hl_0) rfl ?_
        refine xi_arraylength (pc' := 13) (n := 7) (v := 7) kc_91_12 rfl (xl_lenI (by decide) (by decide) (F 94 _ hl_94) (by simp only [List.length_replicate, List.length_cons, List.length_nil])) rfl ?_
        refine xi_cmf (pc' := 16) kc_91_13 rfl rfl ?_
        refine xi_aload_n (pc' := 17) (x := 0) kc_91_16 rfl rfl ?_
        refine xi_getfield (pc' := 20) (v := .ref 94) kc_91_17 rfl rfl rfl (F 0 _ hl_0) rfl ?_
        refine xi_iload_n (pc' := 21) (x := 2) kc_91_20 rfl rfl ?_
        refine xi_dup2 (pc' := 22) kc_91_21 rfl ⟨rfl, rfl⟩ ?_
        refine xi_iaload (pc' := 23) (v := 0) kc_91_22 rfl (F 94 _ hl_94) (by decide) rfl (xi_in (n := 7) (by decide) (by decide)) rfl ?_
        refine xi_iconst (pc' := 24) (v := 1) kc_91_23 rfl rfl ?_
        refine xi_iadd (pc' := 25) (v := 1) kc_91_24 rfl rfl ?_
        refine xi_iastore (pc' := 26) (x' := [0, 0, 1, 0, 0, 0, 0]) kc_91_25 rfl (F 94 _ hl_94) rfl (xi_in (n := 7) (by decide) (by decide)) rfl (fun hh1 eh1 => ?_)
        refine xi_iload_n (pc' := 27) (x := (-2)) kc_91_26 rfl rfl ?_
        refine xi_ireturn kc_91_27 mr_91 rfl ?_
        show xw J ov 99 181 (13, [(0, .ref 0), (1, .int 0), (2, .int a2), (3, .int 1)], [.int (-2)], hh1) _
        refine xi_ireturn kc_181_13 mr_181 rfl ?_
        show xw J ov 100 196 (1398, [(4, .int 0), (3, .ref 167), (2, .ref 115), (1, .ref 0), (0, .ref 1000000)], [.int (-2)], hh1) _
        refine xi_aload_n (pc' := 1399) (x := 115) kc_196_1398 rfl rfl ?_
        refine xi_aload_n (pc' := 1400) (x := 1000000) kc_196_1399 rfl rfl ?_
        refine xi_iload (pc' := 1402) (x := 0) kc_196_1400 rfl rfl ?_
        refine xi_iconst (pc' := 1403) (v := 1) kc_196_1402 rfl rfl ?_
        refine xi_iadd (pc' := 1404) (v := 1) kc_196_1403 rfl rfl ?_
        refine xi_ialoadO (pc' := 1405) (v := a1) kc_196_1404 rfl (by decide) hov0 (xi_in (n := 6) (by decide) (by decide)) rfl ?_
        refine xi_ift (pc' := 1412) kc_196_1405 rfl (xc_eq_t (X := a1.toInt) (Y := 0) rfl (by decide) (by omega)) ?_
        refine xi_iconst (pc' := 1413) (v := 0) kc_196_1412 rfl rfl ?_
        refine xi_aload_n (pc' := 1414) (x := 1000000) kc_196_1413 rfl rfl ?_
        refine xi_iload (pc' := 1416) (x := 0) kc_196_1414 rfl rfl ?_
        refine xi_iconst (pc' := 1417) (v := 2) kc_196_1416 rfl rfl ?_
        refine xi_iadd (pc' := 1418) (v := 2) kc_196_1417 rfl rfl ?_
        refine xi_ialoadO (pc' := 1419) (v := a2) kc_196_1418 rfl (by decide) hov0 (xi_in (n := 6) (by decide) (by decide)) rfl ?_
        refine xi_aload_n (pc' := 1420) (x := 1000000) kc_196_1419 rfl rfl ?_
        refine xi_iload (pc' := 1422) (x := 0) kc_196_1420 rfl rfl ?_
        refine xi_iconst (pc' := 1423) (v := 3) kc_196_1422 rfl rfl ?_
        refine xi_iadd (pc' := 1424) (v := 3) kc_196_1423 rfl rfl ?_
        refine xi_ialoadO (pc' := 1425) (v := a3) kc_196_1424 rfl (by decide) hov0 (xi_in (n := 6) (by decide) (by decide)) rfl ?_
        refine xi_iff (pc' := 1428) kc_196_1425 rfl (xc_eq_f (X := a3.toInt) (Y := 0) rfl (by decide) (by omega)) ?_
        refine xi_iconst (pc' := 1429) (v := 1) kc_196_1428 rfl rfl ?_
        refine xi_goto (pc' := 1433) kc_196_1429 rfl ?_
        refine xi_virtual (mj := 73) (as := [.int 0, .int a2, .int 1]) (st1 := [.int (-2)]) (lv0 := [(0, .ref 115), (1, .int 0), (2, .int a2), (3, .int 1)]) kc_196_1433 rfl rfl rfl rfl rfl ((eh1.2.1 115 (by decide)).trans (F 115 _ hl_115)) (Nat.le_of_ble_eq_true rfl) (hJ _ _ _ _ (by decide)) (xm_le ml_73 rfl) rfl ?_
        refine xi_aload_n (pc' := 1) (x := 115) kc_73_0 rfl rfl ?_
        refine xi_iconst (pc' := 2) (v := 0) kc_73_1 rfl rfl ?_
        refine xi_putfield (pc' := 5) (fs' := [.int 0, .int 0, .ref 116, .ref 117, .ref 118, .ref 119, .ref 120, .ref 121, .ref 122, .ref 123, .ref 124, .ref 125, .ref 126, .ref 127, .ref 128, .ref 129, .int 4, .ref 130, .int 0, .ref 131, .ref 132, .ref 133, .ref 134, .int 0, .ref 135, .ref 136, .ref 137, .ref 138, .ref 139, .ref 140, .ref 141, .ref 142, .int 0, .int 0, .int 0, .ref 143, .ref 144, .ref 145, .ref 146, .ref 147, .ref 148, .int 0, .ref 149, .ref 150, .ref 151, .int 0, .ref 152, .ref 153, .ref 154, .ref 155, .ref 156, .ref 157, .ref 158, .ref 159, .int 0, .ref 160, .int 0, .ref 161, .ref 162, .ref 163, .ref 164, .int 0, .ref 165, .ref 166]) kc_73_2 rfl rfl rfl ((eh1.2.1 115 (by decide)).trans (F 115 _ hl_115)) rfl rfl rfl (Nat.le_of_ble_eq_true rfl) rfl (fun hh2 eh2 => ?_)
        refine xi_iload_n (pc' := 6) (x := a2) kc_73_5 rfl rfl ?_
        refine xi_iconst (pc' := 7) (v := 0) kc_73_6 rfl rfl ?_
        refine xi_iconst (pc' := 8) (v := 3) kc_73_7 rfl rfl ?_
        refine xi_static (mj := 12) (as := [.int a2, .int 0, .int 3]) (st1 := []) (lv0 := [(0, .int a2), (1, .int 0), (2, .int 3)]) kc_73_8 rfl rfl (Nat.le_of_ble_eq_true rfl) rfl rfl (Nat.le_of_ble_eq_true rfl) (hJ _ _ _ _ (by decide)) (xm_le ml_12 rfl) rfl ?_
        refine xi_iload_n (pc' := 1) (x := a2) kc_12_0 rfl rfl ?_
        refine xi_iload_n (pc' := 2) (x := 0) kc_12_1 rfl rfl ?_
        refine xi_cmt (pc' := 14) kc_12_2 rfl (xc_lt_t (X := a2.toInt) (Y := 0) rfl (by decide) (by omega)) ?_
        refine xi_iconst (pc' := 15) (v := 0) kc_12_14 rfl rfl ?_
        refine xi_ireturn kc_12_15 mr_12 rfl ?_
        show xw J ov 99 73 (11, [(0, .ref 115), (1, .int 0), (2, .int a2), (3, .int 1)], [.int 0], hh2) _
        refine xi_iff (pc' := 14) kc_73_11 rfl rfl ?_
        refine xi_aload_n (pc' := 15) (x := 115) kc_73_14 rfl rfl ?_
        refine xi_bipush (pc' := 17) (v := (-2)) kc_73_15 rfl rfl ?_
        refine xi_virtual (mj := 13) (as := [.int (-2)]) (st1 := []) (lv0 := [(0, .ref 115), (1, .int (-2))]) kc_73_17 rfl rfl rfl rfl rfl eh2.1 (Nat.le_of_ble_eq_true rfl) (hJ _ _ _ _ (by decide)) (xm_le ml_13 rfl) rfl ?_
        refine xi_aload_n (pc' := 1) (x := 115) kc_13_0 rfl rfl ?_
        refine xi_getfield (pc' := 4) (v := .ref 140) kc_13_1 rfl rfl rfl eh2.1 rfl ?_
        refine xi_iload_n (pc' := 5) (x := (-2)) kc_13_4 rfl rfl ?_
        refine xi_ineg (pc' := 6) (v := 2) kc_13_5 rfl rfl ?_
        refine xi_dup2 (pc' := 7) kc_13_6 rfl ⟨rfl, rfl⟩ ?_
        refine xi_iaload (pc' := 8) (v := 0) kc_13_7 rfl ((eh2.2.1 140 (by decide)).trans ((eh1.2.1 140 (by decide)).trans (F 140 _ hl_140))) (by decide) rfl (xi_in (n := 7) (by decide) (by decide)) rfl ?_
        refine xi_iconst (pc' := 9) (v := 1) kc_13_8 rfl rfl ?_
        refine xi_iadd (pc' := 10) (v := 1) kc_13_9 rfl rfl ?_
        refine xi_iastore (pc' := 11) (x' := [0, 0, 1, 0, 0, 0, 0]) kc_13_10 rfl ((eh2.2.1 140 (by decide)).trans ((eh1.2.1 140 (by decide)).trans (F 140 _ hl_140))) rfl (xi_in (n := 7) (by decide) (by decide)) rfl (fun hh3 eh3 => ?_)
        refine xi_iload_n (pc' := 12) (x := (-2)) kc_13_11 rfl rfl ?_
        refine xi_ireturn kc_13_12 mr_13 rfl ?_
        show xw J ov 99 73 (20, [(0, .ref 115), (1, .int 0), (2, .int a2), (3, .int 1)], [.int (-2)], hh3) _
        refine xi_ireturn kc_73_20 mr_73 rfl ?_
        show xw J ov 100 196 (1436, [(4, .int 0), (3, .ref 167), (2, .ref 115), (1, .ref 0), (0, .ref 1000000)], [.int (-2), .int (-2)], hh3) _
        refine xi_cmt (pc' := 1528) kc_196_1436 rfl rfl ?_
        refine xi_iinc (pc' := 1531) (x := 0) (v := 6) (lv' := [(4, .int 6), (3, .ref 167), (2, .ref 115), (1, .ref 0), (0, .ref 1000000)]) kc_196_1528 rfl rfl rfl rfl (xm_lt ml_196 rfl) ?_
        refine xi_goto (pc' := 23) kc_196_1531 rfl ?_
        refine xi_iload (pc' := 25) (x := 6) kc_196_23 rfl rfl ?_
        refine xi_aload_n (pc' := 26) (x := 1000000) kc_196_25 rfl rfl ?_
        refine xi_arraylength (pc' := 27) (n := 6) (v := 6) kc_196_26 rfl (xl_lenO (by decide) hov0 rfl) rfl ?_
        refine xi_bipush (pc' := 29) (v := 6) kc_196_27 rfl rfl ?_
        refine xi_isub (pc' := 30) (v := 0) kc_196_29 rfl rfl ?_
        refine xi_cmt (pc' := 1534) kc_196_30 rfl rfl ?_
        refine xi_iconst (pc' := 1535) (v := 1) kc_196_1534 rfl rfl ?_
        refine xi_ireturn kc_196_1535 mr_196 rfl ?_
        refine ⟨rfl, ?_, ?_⟩
        · rw [eh3.2.2.1, eh2.2.2.1, eh1.2.2.1]; exact hn0
        · rw [eh3.2.2.2, eh2.2.2.2, eh1.2.2.2]; exact hz0
      · refine xi_iff (pc' := 4) kc_118_1 rfl (xc_lt_f (X := a2.toInt) (Y := 0) rfl (by decide) (by omega)) ?_
        refine xi_iload_n (pc' := 5) (x := a2) kc_118_4 rfl rfl ?_
        refine xi_iconst (pc' := 6) (v := 4) kc_118_5 rfl rfl ?_
        by_cases c14 : 4 ≤ a2.toInt
        · refine xi_cmt (pc' := 13) kc_118_6 rfl (xc_ge_t (X := a2.toInt) (Y := 4) rfl (by decide) (by omega)) ?_
          refine xi_iconst (pc' := 14) (v := 0) kc_118_13 rfl rfl ?_
          refine xi_ireturn kc_118_14 mr_118 rfl ?_
          show xw J ov 99 181 (4, [(0, .ref 0), (1, .int 0), (2, .int a2), (3, .int 1)], [.int 0], h0) _
          refine xi_iff (pc' := 7) kc_181_4 rfl rfl ?_
          refine xi_aload_n (pc' := 8) (x := 0) kc_181_7 rfl rfl ?_
          refine xi_bipush (pc' := 10) (v := (-2)) kc_181_8 rfl rfl ?_
          refine xi_virtual (mj := 91) (as := [.int (-2)]) (st1 := []) (lv0 := [(0, .ref 0), (1, .int (-2))]) kc_181_10 rfl rfl rfl rfl rfl (F 0 _ hl_0) (Nat.le_of_ble_eq_true rfl) (hJ _ _ _ _ (by decide)) (xm_le ml_91 rfl) rfl ?_
          refine xi_iload_n (pc' := 1) (x := (-2)) kc_91_0 rfl rfl ?_
          refine xi_ineg (pc' := 2) (v := 2) kc_91_1 rfl rfl ?_
          refine xi_istore_n (pc' := 3) (lv' := [(2, .int 2), (0, .ref 0), (1, .int (-2))]) kc_91_2 rfl rfl (xm_lt ml_91 rfl) ?_
          refine xi_iload_n (pc' := 4) (x := 2) kc_91_3 rfl rfl ?_
          refine xi_iff (pc' := 7) kc_91_4 rfl rfl ?_
          refine xi_iload_n (pc' := 8) (x := 2) kc_91_7 rfl rfl ?_
          refine xi_aload_n (pc' := 9) (x := 0) kc_91_8 rfl rfl ?_
          refine xi_getfield (pc' := 12) (v := .ref 94) kc_91_9 rfl rfl rfl (F 0 _ hl_0) rfl ?_
          refine xi_arraylength (pc' := 13) (n := 7) (v := 7) kc_91_12 rfl (xl_lenI (by decide) (by decide) (F 94 _ hl_94) (by simp only [List.length_replicate, List.length_cons, List.length_nil])) rfl ?_
          refine xi_cmf (pc' := 16) kc_91_13 rfl rfl ?_
          refine xi_aload_n (pc' := 17) (x := 0) kc_91_16 rfl rfl ?_
          refine xi_getfield (pc' := 20) (v := .ref 94) kc_91_17 rfl rfl rfl (F 0 _ hl_0) rfl ?_
          refine xi_iload_n (pc' := 21) (x := 2) kc_91_20 rfl rfl ?_
          refine xi_dup2 (pc' := 22) kc_91_21 rfl ⟨rfl, rfl⟩ ?_
          refine xi_iaload (pc' := 23) (v := 0) kc_91_22 rfl (F 94 _ hl_94) (by decide) rfl (xi_in (n := 7) (by decide) (by decide)) rfl ?_
          refine xi_iconst (pc' := 24) (v := 1) kc_91_23 rfl rfl ?_
          refine xi_iadd (pc' := 25) (v := 1) kc_91_24 rfl rfl ?_
          refine xi_iastore (pc' := 26) (x' := [0, 0, 1, 0, 0, 0, 0]) kc_91_25 rfl (F 94 _ hl_94) rfl (xi_in (n := 7) (by decide) (by decide)) rfl (fun hh1 eh1 => ?_)
          refine xi_iload_n (pc' := 27) (x := (-2)) kc_91_26 rfl rfl ?_
          refine xi_ireturn kc_91_27 mr_91 rfl ?_
          show xw J ov 99 181 (13, [(0, .ref 0), (1, .int 0), (2, .int a2), (3, .int 1)], [.int (-2)], hh1) _
          refine xi_ireturn kc_181_13 mr_181 rfl ?_
          show xw J ov 100 196 (1398, [(4, .int 0), (3, .ref 167), (2, .ref 115), (1, .ref 0), (0, .ref 1000000)], [.int (-2)], hh1) _
          refine xi_aload_n (pc' := 1399) (x := 115) kc_196_1398 rfl rfl ?_
          refine xi_aload_n (pc' := 1400) (x := 1000000) kc_196_1399 rfl rfl ?_
          refine xi_iload (pc' := 1402) (x := 0) kc_196_1400 rfl rfl ?_
          refine xi_iconst (pc' := 1403) (v := 1) kc_196_1402 rfl rfl ?_
          refine xi_iadd (pc' := 1404) (v := 1) kc_196_1403 rfl rfl ?_
          refine xi_ialoadO (pc' := 1405) (v := a1) kc_196_1404 rfl (by decide) hov0 (xi_in (n := 6) (by decide) (by decide)) rfl ?_
          refine xi_ift (pc' := 1412) kc_196_1405 rfl (xc_eq_t (X := a1.toInt) (Y := 0) rfl (by decide) (by omega)) ?_
          refine xi_iconst (pc' := 1413) (v := 0) kc_196_1412 rfl rfl ?_
          refine xi_aload_n (pc' := 1414) (x := 1000000) kc_196_1413 rfl rfl ?_
          refine xi_iload (pc' := 1416) (x := 0) kc_196_1414 rfl rfl ?_
          refine xi_iconst (pc' := 1417) (v := 2) kc_196_1416 rfl rfl ?_
          refine xi_iadd (pc' := 1418) (v := 2) kc_196_1417 rfl rfl ?_
          refine xi_ialoadO (pc' := 1419) (v := a2) kc_196_1418 rfl (by decide) hov0 (xi_in (n := 6) (by decide) (by decide)) rfl ?_
          refine xi_aload_n (pc' := 1420) (x := 1000000) kc_196_1419 rfl rfl ?_
          refine xi_iload (pc' := 1422) (x := 0) kc_196_1420 rfl rfl ?_
          refine xi_iconst (pc' := 1423) (v := 3) kc_196_1422 rfl rfl ?_
          refine xi_iadd (pc' := 1424) (v := 3) kc_196_1423 rfl rfl ?_
          refine xi_ialoadO (pc' := 1425) (v := a3) kc_196_1424 rfl (by decide) hov0 (xi_in (n := 6) (by decide) (by decide)) rfl ?_
          refine xi_iff (pc' := 1428) kc_196_1425 rfl (xc_eq_f (X := a3.toInt) (Y := 0) rfl (by decide) (by omega)) ?_
          refine xi_iconst (pc' := 1429) (v := 1) kc_196_1428 rfl rfl ?_
          refine xi_goto (pc' := 1433) kc_196_1429 rfl ?_
          refine xi_virtual (mj := 73) (as := [.int 0, .int a2, .int 1]) (st1 := [.int (-2)]) (lv0 := [(0, .ref 115), (1, .int 0), (2, .int a2), (3, .int 1)]) kc_196_1433 rfl rfl rfl rfl rfl ((eh1.2.1 115 (by decide)).trans (F 115 _ hl_115)) (Nat.le_of_ble_eq_true rfl) (hJ _ _ _ _ (by decide)) (xm_le ml_73 rfl) rfl ?_
          refine xi_aload_n (pc' := 1) (x := 115) kc_73_0 rfl rfl ?_
          refine xi_iconst (pc' := 2) (v := 0) kc_73_1 rfl rfl ?_
          refine xi_putfield (pc' := 5) (fs' := [.int 0, .int 0, .ref 116, .ref 117, .ref 118, .ref 119, .ref 120, .ref 121, .ref 122, .ref 123, .ref 124, .ref 125, .ref 126, .ref 127, .ref 128, .ref 129, .int 4, .ref 130, .int 0, .ref 131, .ref 132, .ref 133, .ref 134, .int 0, .ref 135, .ref 136, .ref 137, .ref 138, .ref 139, .ref 140, .ref 141, .ref 142, .int 0, .int 0, .int 0, .ref 143, .ref 144, .ref 145, .ref 146, .ref 147, .ref 148, .int 0, .ref 149, .ref 150, .ref 151, .int 0, .ref 152, .ref 153, .ref 154, .ref 155, .ref 156, .ref 157, .ref 158, .ref 159, .int 0, .ref 160, .int 0, .ref 161, .ref 162, .ref 163, .ref 164, .int 0, .ref 165, .ref 166]) kc_73_2 rfl rfl rfl ((eh1.2.1 115 (by decide)).trans (F 115 _ hl_115)) rfl rfl rfl (Nat.le_of_ble_eq_true rfl) rfl (fun hh2 eh2 => ?_)
          refine xi_iload_n (pc' := 6) (x := a2) kc_73_5 rfl rfl ?_
          refine xi_iconst (pc' := 7) (v := 0) kc_73_6 rfl rfl ?_
          refine xi_iconst (pc' := 8) (v := 3) kc_73_7 rfl rfl ?_
          refine xi_static (mj := 12) (as := [.int a2, .int 0, .int 3]) (st1 := []) (lv0 := [(0, .int a2), (1, .int 0), (2, .int 3)]) kc_73_8 rfl rfl (Nat.le_of_ble_eq_true rfl) rfl rfl (Nat.le_of_ble_eq_true rfl) (hJ _ _ _ _ (by decide)) (xm_le ml_12 rfl) rfl ?_
          refine xi_iload_n (pc' := 1) (x := a2) kc_12_0 rfl rfl ?_
          refine xi_iload_n (pc' := 2) (x := 0) kc_12_1 rfl rfl ?_
          refine xi_cmf (pc' := 5) kc_12_2 rfl (xc_lt_f (X := a2.toInt) (Y := 0) rfl (by decide) (by omega)) ?_
          refine xi_iload_n (pc' := 6) (x := a2) kc_12_5 rfl rfl ?_
          refine xi_iload_n (pc' := 7) (x := 3) kc_12_6 rfl rfl ?_
          refine xi_cmt (pc' := 14) kc_12_7 rfl (xc_gt_t (X := a2.toInt) (Y := 3) rfl (by decide) (by omega)) ?_
          refine xi_iconst (pc' := 15) (v := 0) kc_12_14 rfl rfl ?_
          refine xi_ireturn kc_12_15 mr_12 rfl ?_
          show xw J ov 99 73 (11, [(0, .ref 115), (1, .int 0), (2, .int a2), (3, .int 1)], [.int 0], hh2) _
          refine xi_iff (pc' := 14) kc_73_11 rfl rfl ?_
          refine xi_aload_n (pc' := 15) (x := 115) kc_73_14 rfl rfl ?_
          refine xi_bipush (pc' := 17) (v := (-2)) kc_73_15 rfl rfl ?_
          refine xi_virtual (mj := 13) (as := [.int (-2)]) (st1 := []) (lv0 := [(0, .ref 115), (1, .int (-2))]) kc_73_17 rfl rfl rfl rfl rfl eh2.1 (Nat.le_of_ble_eq_true rfl) (hJ _ _ _ _ (by decide)) (xm_le ml_13 rfl) rfl ?_
          refine xi_aload_n (pc' := 1) (x := 115) kc_13_0 rfl rfl ?_
          refine xi_getfield (pc' := 4) (v := .ref 140) kc_13_1 rfl rfl rfl eh2.1 rfl ?_
          refine xi_iload_n (pc' := 5) (x := (-2)) kc_13_4 rfl rfl ?_
          refine xi_ineg (pc' := 6) (v := 2) kc_13_5 rfl rfl ?_
          refine xi_dup2 (pc' := 7) kc_13_6 rfl ⟨rfl, rfl⟩ ?_
          refine xi_iaload (pc' := 8) (v := 0) kc_13_7 rfl ((eh2.2.1 140 (by decide)).trans ((eh1.2.1 140 (by decide)).trans (F 140 _ hl_140))) (by decide) rfl (xi_in (n := 7) (by decide) (by decide)) rfl ?_
          refine xi_iconst (pc' := 9) (v := 1) kc_13_8 rfl rfl ?_
          refine xi_iadd (pc' := 10) (v := 1) kc_13_9 rfl rfl ?_
          refine xi_iastore (pc' := 11) (x' := [0, 0, 1, 0, 0, 0, 0]) kc_13_10 rfl ((eh2.2.1 140 (by decide)).trans ((eh1.2.1 140 (by decide)).trans (F 140 _ hl_140))) rfl (xi_in (n := 7) (by decide) (by decide)) rfl (fun hh3 eh3 => ?_)
          refine xi_iload_n (pc' := 12) (x := (-2)) kc_13_11 rfl rfl ?_
          refine xi_ireturn kc_13_12 mr_13 rfl ?_
          show xw J ov 99 73 (20, [(0, .ref 115), (1, .int 0), (2, .int a2), (3, .int 1)], [.int (-2)], hh3) _
          refine xi_ireturn kc_73_20 mr_73 rfl ?_
          show xw J ov 100 196 (1436, [(4, .int 0), (3, .ref 167), (2, .ref 115), (1, .ref 0), (0, .ref 1000000)], [.int (-2), .int (-2)], hh3) _
          refine xi_cmt (pc' := 1528) kc_196_1436 rfl rfl ?_
          refine xi_iinc (pc' := 1531) (x := 0) (v := 6) (lv' := [(4, .int 6), (3, .ref 167), (2, .ref 115), (1, .ref 0), (0, .ref 1000000)]) kc_196_1528 rfl rfl rfl rfl (xm_lt ml_196 rfl) ?_
          refine xi_goto (pc' := 23) kc_196_1531 rfl ?_
          refine xi_iload (pc' := 25) (x := 6) kc_196_23 rfl rfl ?_
          refine xi_aload_n (pc' := 26) (x := 1000000) kc_196_25 rfl rfl ?_
          refine xi_arraylength (pc' := 27) (n := 6) (v := 6) kc_196_26 rfl (xl_lenO (by decide) hov0 rfl) rfl ?_
          refine xi_bipush (pc' := 29) (v := 6) kc_196_27 rfl rfl ?_
          refine xi_isub (pc' := 30) (v := 0) kc_196_29 rfl rfl ?_
          refine xi_cmt (pc' := 1534) kc_196_30 rfl rfl ?_
          refine xi_iconst (pc' := 1535) (v := 1) kc_196_1534 rfl rfl ?_
          refine xi_ireturn kc_196_1535 mr_196 rfl ?_
          refine ⟨rfl, ?_, ?_⟩
          · rw [eh3.2.2.1, eh2.2.2.1, eh1.2.2.1]; exact hn0
          · rw [eh3.2.2.2, eh2.2.2.2, eh1.2.2.2]; exact hz0
        · refine xi_cmf (pc' := 9) kc_118_6 rfl (xc_ge_f (X := a2.toInt) (Y := 4) rfl (by decide) (by omega)) ?_
          refine xi_iconst (pc' := 10) (v := 1) kc_118_9 rfl rfl ?_
          refine xi_goto (pc' := 14) kc_118_10 rfl ?_
          refine xi_ireturn kc_118_14 mr_118 rfl ?_
          show xw J ov 99 181 (4, [(0, .ref 0), (1, .int 0), (2, .int a2), (3, .int 1)], [.int 1], h0) _
          refine xi_ift (pc' := 14) kc_181_4 rfl rfl ?_
          refine xi_aload_n (pc' := 15) (x := 0) kc_181_14 rfl rfl ?_
          refine xi_getfield (pc' := 18) (v := .ref 85) kc_181_15 rfl rfl rfl (F 0 _ hl_0) rfl ?_
          refine xi_iload_n (pc' := 19) (x := 0) kc_181_18 rfl rfl ?_
          refine xi_iload_n (pc' := 20) (x := a2) kc_181_19 rfl rfl ?_
          refine xi_iload_n (pc' := 21) (x := 1) kc_181_20 rfl rfl ?_
          refine xi_aload_n (pc' := 22) (x := 0) kc_181_21 rfl rfl ?_
          refine xi_getfield (pc' := 25) (v := .int 0) kc_181_22 rfl rfl rfl (F 0 _ hl_0) rfl ?_
          refine xi_virtual (mj := 182) (as := [.int 0, .int a2, .int 1, .int 0]) (st1 := []) (lv0 := [(0, .ref 85), (1, .int 0), (2, .int a2), (3, .int 1), (4, .int 0)]) kc_181_25 rfl rfl rfl rfl rfl (F 85 _ hl_85) (Nat.le_of_ble_eq_true rfl) (hJ _ _ _ _ (by decide)) (xm_le ml_182 rfl) rfl ?_
          refine xi_iload_n (pc' := 1) (x := a2) kc_182_0 rfl rfl ?_
          refine xi_static (mj := 118) (as := [.int a2]) (st1 := []) (lv0 := [(0, .int a2)]) kc_182_1 rfl rfl (Nat.le_of_ble_eq_true rfl) rfl rfl (Nat.le_of_ble_eq_true rfl) (hJ _ _ _ _ (by decide)) (xm_le ml_118 rfl) rfl ?_
          refine xi_iload_n (pc' := 1) (x := a2) kc_118_0 rfl rfl ?_
          refine xi_iff (pc' := 4) kc_118_1 rfl (xc_lt_f (X := a2.toInt) (Y := 0) rfl (by decide) (by omega)) ?_
          refine xi_iload_n (pc' := 5) (x := a2) kc_118_4 rfl rfl ?_
          refine xi_iconst (pc' := 6) (v := 4) kc_118_5 rfl rfl ?_
          refine xi_cmf (pc' := 9) kc_118_6 rfl (xc_ge_f (X := a2.toInt) (Y := 4) rfl (by decide) (by omega)) ?_
          refine xi_iconst (pc' := 10) (v := 1) kc_118_9 rfl rfl ?_
          refine xi_goto (pc' := 14) kc_118_10 rfl ?_
          refine xi_ireturn kc_118_14 mr_118 rfl ?_
          show xw J ov 98 182 (4, [(0, .ref 85), (1, .int 0), (2, .int a2), (3, .int 1), (4, .int 0)], [.int 1], h0) _
          refine xi_ift (pc' := 8) kc_182_4 rfl rfl ?_
          refine xi_iload_n (pc' := 9) (x := 0) kc_182_8 rfl rfl ?_
          refine xi_ift (pc' := 19) kc_182_9 rfl rfl ?_
          refine xi_aload_n (pc' := 20) (x := 85) kc_182_19 rfl rfl ?_
          refine xi_getfield (pc' := 23) (v := .ref 90) kc_182_20 rfl rfl rfl (F 85 _ hl_85) rfl ?_
          refine xi_astore (pc' := 25) (lv' := [(5, .ref 90), (0, .ref 85), (1, .int 0), (2, .int a2), (3, .int 1), (4, .int 0)]) kc_182_23 rfl rfl (xm_lt ml_182 rfl) ?_
          refine xi_aload (pc' := 27) (x := 90) kc_182_25 rfl rfl ?_
          refine xi_iload_n (pc' := 28) (x := a2) kc_182_27 rfl rfl ?_
          refine xi_iload_n (pc' := 29) (x := 1) kc_182_28 rfl rfl ?_
          refine xi_iff (pc' := 32) kc_182_29 rfl rfl ?_
          refine xi_iconst (pc' := 33) (v := 1) kc_182_32 rfl rfl ?_
          refine xi_goto (pc' := 37) kc_182_33 rfl ?_
          have lq16 : (List.replicate 4 0 : List Int32).length = 4 := by simp only [List.length_replicate, List.length_cons, List.length_nil, List.length_set]
          obtain ⟨x15, hx15⟩ : ∃ q, (List.replicate 4 0 : List Int32).set (Int32.toNatClampNeg a2) (1) = q := ⟨_, rfl⟩
          have lx15 : x15.length = 4 := by rw [← hx15, List.length_set]; exact lq16
          refine xi_iastore (pc' := 38) (x' := x15) kc_182_37 rfl (F 90 _ hl_90) rfl (xi_in (by omega) (by rw [lq16]; omega)) hx15 (fun hh1 eh1 => ?_)
          refine xi_iload_n (pc' := 39) (x := 1) kc_182_38 rfl rfl ?_
          refine xi_iff (pc' := 42) kc_182_39 rfl rfl ?_
          refine xi_aload_n (pc' := 43) (x := 85) kc_182_42 rfl rfl ?_
          refine xi_getfield (pc' := 46) (v := .ref 92) kc_182_43 rfl rfl rfl ((eh1.2.1 85 (by decide)).trans (F 85 _ hl_85)) rfl ?_
          refine xi_iload_n (pc' := 47) (x := a2) kc_182_46 rfl rfl ?_
          refine xi_iload (pc' := 49) (x := 0) kc_182_47 rfl rfl ?_
          have lq18 : (List.replicate 4 (-9) : List Int32).length = 4 := by simp only [List.length_replicate, List.length_cons, List.length_nil, List.length_set]
          obtain ⟨x17, hx17⟩ : ∃ q, (List.replicate 4 (-9) : List Int32).set (Int32.toNatClampNeg a2) (0) = q := ⟨_, rfl⟩
          have lx17 : x17.length = 4 := by rw [← hx17, List.length_set]; exact lq18
          refine xi_iastore (pc' := 50) (x' := x17) kc_182_49 rfl ((eh1.2.1 92 (by decide)).trans (F 92 _ hl_92)) rfl (xi_in (by omega) (by rw [lq18]; omega)) hx17 (fun hh2 eh2 => ?_)
          refine xi_return kc_182_50 mr_182 ?_
          show xw J ov 99 181 (28, [(0, .ref 0), (1, .int 0), (2, .int a2), (3, .int 1)], [], hh2) _
          refine xi_iconst (pc' := 29) (v := 1) kc_181_28 rfl rfl ?_
          refine xi_ireturn kc_181_29 mr_181 rfl ?_
          show xw J ov 100 196 (1398, [(4, .int 0), (3, .ref 167), (2, .ref 115), (1, .ref 0), (0, .ref 1000000)], [.int 1], hh2) _
          refine xi_aload_n (pc' := 1399) (x := 115) kc_196_1398 rfl rfl ?_
          refine xi_aload_n (pc' := 1400) (x := 1000000) kc_196_1399 rfl rfl ?_
          refine xi_iload (pc' := 1402) (x := 0) kc_196_1400 rfl rfl ?_
          refine xi_iconst (pc' := 1403) (v := 1) kc_196_1402 rfl rfl ?_
          refine xi_iadd (pc' := 1404) (v := 1) kc_196_1403 rfl rfl ?_
          refine xi_ialoadO (pc' := 1405) (v := a1) kc_196_1404 rfl (by decide) hov0 (xi_in (n := 6) (by decide) (by decide)) rfl ?_
          refine xi_ift (pc' := 1412) kc_196_1405 rfl (xc_eq_t (X := a1.toInt) (Y := 0) rfl (by decide) (by omega)) ?_
          refine xi_iconst (pc' := 1413) (v := 0) kc_196_1412 rfl rfl ?_
          refine xi_aload_n (pc' := 1414) (x := 1000000) kc_196_1413 rfl rfl ?_
          refine xi_iload (pc' := 1416) (x := 0) kc_196_1414 rfl rfl ?_
          refine xi_iconst (pc' := 1417) (v := 2) kc_196_1416 rfl rfl ?_
          refine xi_iadd (pc' := 1418) (v := 2) kc_196_1417 rfl rfl ?_
          refine xi_ialoadO (pc' := 1419) (v := a2) kc_196_1418 rfl (by decide) hov0 (xi_in (n := 6) (by decide) (by decide)) rfl ?_
          refine xi_aload_n (pc' := 1420) (x := 1000000) kc_196_1419 rfl rfl ?_
          refine xi_iload (pc' := 1422) (x := 0) kc_196_1420 rfl rfl ?_
          refine xi_iconst (pc' := 1423) (v := 3) kc_196_1422 rfl rfl ?_
          refine xi_iadd (pc' := 1424) (v := 3) kc_196_1423 rfl rfl ?_
          refine xi_ialoadO (pc' := 1425) (v := a3) kc_196_1424 rfl (by decide) hov0 (xi_in (n := 6) (by decide) (by decide)) rfl ?_
          refine xi_iff (pc' := 1428) kc_196_1425 rfl (xc_eq_f (X := a3.toInt) (Y := 0) rfl (by decide) (by omega)) ?_
          refine xi_iconst (pc' := 1429) (v := 1) kc_196_1428 rfl rfl ?_
          refine xi_goto (pc' := 1433) kc_196_1429 rfl ?_
          refine xi_virtual (mj := 73) (as := [.int 0, .int a2, .int 1]) (st1 := [.int 1]) (lv0 := [(0, .ref 115), (1, .int 0), (2, .int a2), (3, .int 1)]) kc_196_1433 rfl rfl rfl rfl rfl ((eh2.2.1 115 (by decide)).trans ((eh1.2.1 115 (by decide)).trans (F 115 _ hl_115))) (Nat.le_of_ble_eq_true rfl) (hJ _ _ _ _ (by decide)) (xm_le ml_73 rfl) rfl ?_
          refine xi_aload_n (pc' := 1) (x := 115) kc_73_0 rfl rfl ?_
          refine xi_iconst (pc' := 2) (v := 0) kc_73_1 rfl rfl ?_
          refine xi_putfield (pc' := 5) (fs' := [.int 0, .int 0, .ref 116, .ref 117, .ref 118, .ref 119, .ref 120, .ref 121, .ref 122, .ref 123, .ref 124, .ref 125, .ref 126, .ref 127, .ref 128, .ref 129, .int 4, .ref 130, .int 0, .ref 131, .ref 132, .ref 133, .ref 134, .int 0, .ref 135, .ref 136, .ref 137, .ref 138, .ref 139, .ref 140, .ref 141, .ref 142, .int 0, .int 0, .int 0, .ref 143, .ref 144, .ref 145, .ref 146, .ref 147, .ref 148, .int 0, .ref 149, .ref 150, .ref 151, .int 0, .ref 152, .ref 153, .ref 154, .ref 155, .ref 156, .ref 157, .ref 158, .ref 159, .int 0, .ref 160, .int 0, .ref 161, .ref 162, .ref 163, .ref 164, .int 0, .ref 165, .ref 166]) kc_73_2 rfl rfl rfl ((eh2.2.1 115 (by decide)).trans ((eh1.2.1 115 (by decide)).trans (F 115 _ hl_115))) rfl rfl rfl (Nat.le_of_ble_eq_true rfl) rfl (fun hh3 eh3 => ?_)
          refine xi_iload_n (pc' := 6) (x := a2) kc_73_5 rfl rfl ?_
          refine xi_iconst (pc' := 7) (v := 0) kc_73_6 rfl rfl ?_
          refine xi_iconst (pc' := 8) (v := 3) kc_73_7 rfl rfl ?_
          refine xi_static (mj := 12) (as := [.int a2, .int 0, .int 3]) (st1 := []) (lv0 := [(0, .int a2), (1, .int 0), (2, .int 3)]) kc_73_8 rfl rfl (Nat.le_of_ble_eq_true rfl) rfl rfl (Nat.le_of_ble_eq_true rfl) (hJ _ _ _ _ (by decide)) (xm_le ml_12 rfl) rfl ?_
          refine xi_iload_n (pc' := 1) (x := a2) kc_12_0 rfl rfl ?_
          refine xi_iload_n (pc' := 2) (x := 0) kc_12_1 rfl rfl ?_
          refine xi_cmf (pc' := 5) kc_12_2 rfl (xc_lt_f (X := a2.toInt) (Y := 0) rfl (by decide) (by omega)) ?_
          refine xi_iload_n (pc' := 6) (x := a2) kc_12_5 rfl rfl ?_
          refine xi_iload_n (pc' := 7) (x := 3) kc_12_6 rfl rfl ?_
          refine xi_cmf (pc' := 10) kc_12_7 rfl (xc_gt_f (X := a2.toInt) (Y := 3) rfl (by decide) (by omega)) ?_
          refine xi_iconst (pc' := 11) (v := 1) kc_12_10 rfl rfl ?_
          refine xi_goto (pc' := 15) kc_12_11 rfl ?_
          refine xi_ireturn kc_12_15 mr_12 rfl ?_
          show xw J ov 99 73 (11, [(0, .ref 115), (1, .int 0), (2, .int a2), (3, .int 1)], [.int 1], hh3) _
          refine xi_ift (pc' := 21) kc_73_11 rfl rfl ?_
          refine xi_aload_n (pc' := 22) (x := 115) kc_73_21 rfl rfl ?_
          refine xi_getfield (pc' := 25) (v := .ref 165) kc_73_22 rfl rfl rfl eh3.1 rfl ?_
          refine xi_iconst (pc' := 26) (v := 2) kc_73_25 rfl rfl ?_
          refine xi_iload_n (pc' := 27) (x := a2) kc_73_26 rfl rfl ?_
          obtain ⟨v19, ev19⟩ : ∃ q : Int32, 2 * a2 = q := ⟨_, rfl⟩
          have zv19 : v19.toInt = (2) * a2.toInt := by rw [← ev19]; exact (xz_mul (X := 2) (Y := a2.toInt) (by decide) rfl (by omega) (by omega)).trans (by omega)
          refine xi_imul (pc' := 28) (v := v19) kc_73_27 rfl ev19 ?_
          refine xi_iload_n (pc' := 29) (x := 0) kc_73_28 rfl rfl ?_
          refine xi_ift (pc' := 36) kc_73_29 rfl rfl ?_
          refine xi_iconst (pc' := 37) (v := 0) kc_73_36 rfl rfl ?_
          obtain ⟨v20, ev20⟩ : ∃ q : Int32, v19 + 0 = q := ⟨_, rfl⟩
          have zv20 : v20.toInt = (2) * a2.toInt := by rw [← ev20]; exact (xz_add (X := (2) * a2.toInt) (Y := 0) zv19 (by decide) (by omega) (by omega)).trans (by omega)
          refine xi_iadd (pc' := 38) (v := v20) kc_73_37 rfl ev20 ?_
          refine xi_iload_n (pc' := 39) (x := 1) kc_73_38 rfl rfl ?_
          refine xi_iff (pc' := 42) kc_73_39 rfl rfl ?_
          refine xi_iconst (pc' := 43) (v := 1) kc_73_42 rfl rfl ?_
          refine xi_goto (pc' := 47) kc_73_43 rfl ?_
          have lq22 : (List.replicate 8 (-1) : List Int32).length = 8 := by simp only [List.length_replicate, List.length_cons, List.length_nil, List.length_set]
          obtain ⟨x21, hx21⟩ : ∃ q, (List.replicate 8 (-1) : List Int32).set (Int32.toNatClampNeg v20) (1) = q := ⟨_, rfl⟩
          have lx21 : x21.length = 8 := by rw [← hx21, List.length_set]; exact lq22
          refine xi_iastore (pc' := 48) (x' := x21) kc_73_47 rfl ((eh3.2.1 165 (by decide)).trans ((eh2.2.1 165 (by decide)).trans ((eh1.2.1 165 (by decide)).trans (F 165 _ hl_165)))) rfl (xi_in (by rw [zv20]; omega) (by rw [lq22]; rw [zv20]; omega)) hx21 (fun hh4 eh4 => ?_)
          refine xi_aload_n (pc' := 49) (x := 115) kc_73_48 rfl rfl ?_
          refine xi_getfield (pc' := 52) (v := .ref 166) kc_73_49 rfl rfl rfl ((eh4.2.1 115 (by decide)).trans eh3.1) rfl ?_
          refine xi_iload_n (pc' := 53) (x := a2) kc_73_52 rfl rfl ?_
          refine xi_iload_n (pc' := 54) (x := 1) kc_73_53 rfl rfl ?_
          refine xi_iff (pc' := 57) kc_73_54 rfl rfl ?_
          refine xi_aload_n (pc' := 58) (x := 115) kc_73_57 rfl rfl ?_
          refine xi_getfield (pc' := 61) (v := .int 0) kc_73_58 rfl rfl rfl ((eh4.2.1 115 (by decide)).trans eh3.1) rfl ?_
          refine xi_goto (pc' := 70) kc_73_61 rfl ?_
          have lq24 : (List.replicate 4 (-1) : List Int32).length = 4 := by simp only [List.length_replicate, List.length_cons, List.length_nil, List.length_set]
          obtain ⟨x23, hx23⟩ : ∃ q, (List.replicate 4 (-1) : List Int32).set (Int32.toNatClampNeg a2) (0) = q := ⟨_, rfl⟩
          have lx23 : x23.length = 4 := by rw [← hx23, List.length_set]; exact lq24
          refine xi_iastore (pc' := 71) (x' := x23) kc_73_70 rfl ((eh4.2.1 166 (by decide)).trans ((eh3.2.1 166 (by decide)).trans ((eh2.2.1 166 (by decide)).trans ((eh1.2.1 166 (by decide)).trans (F 166 _ hl_166))))) rfl (xi_in (by omega) (by rw [lq24]; omega)) hx23 (fun hh5 eh5 => ?_)
          refine xi_iconst (pc' := 72) (v := 1) kc_73_71 rfl rfl ?_
          refine xi_ireturn kc_73_72 mr_73 rfl ?_
          show xw J ov 100 196 (1436, [(4, .int 0), (3, .ref 167), (2, .ref 115), (1, .ref 0), (0, .ref 1000000)], [.int 1, .int 1], hh5) _
          refine xi_cmt (pc' := 1528) kc_196_1436 rfl rfl ?_
          refine xi_iinc (pc' := 1531) (x := 0) (v := 6) (lv' := [(4, .int 6), (3, .ref 167), (2, .ref 115), (1, .ref 0), (0, .ref 1000000)]) kc_196_1528 rfl rfl rfl rfl (xm_lt ml_196 rfl) ?_
          refine xi_goto (pc' := 23) kc_196_1531 rfl ?_
          refine xi_iload (pc' := 25) (x := 6) kc_196_23 rfl rfl ?_
          refine xi_aload_n (pc' := 26) (x := 1000000) kc_196_25 rfl rfl ?_
          refine xi_arraylength (pc' := 27) (n := 6) (v := 6) kc_196_26 rfl (xl_lenO (by decide) hov0 rfl) rfl ?_
          refine xi_bipush (pc' := 29) (v := 6) kc_196_27 rfl rfl ?_
          refine xi_isub (pc' := 30) (v := 0) kc_196_29 rfl rfl ?_
          refine xi_cmt (pc' := 1534) kc_196_30 rfl rfl ?_
          refine xi_iconst (pc' := 1535) (v := 1) kc_196_1534 rfl rfl ?_
          refine xi_ireturn kc_196_1535 mr_196 rfl ?_
          refine ⟨rfl, ?_, ?_⟩
          · rw [eh5.2.2.1, eh4.2.2.1, eh3.2.2.1, eh2.2.2.1, eh1.2.2.1]; exact hn0
          · rw [eh5.2.2.2, eh4.2.2.2, eh3.2.2.2, eh2.2.2.2, eh1.2.2.2]; exact hz0
  · refine xi_iff (pc' := 1370) kc_196_1367 rfl (xc_eq_f (X := a1.toInt) (Y := 0) rfl (by decide) (by omega)) ?_
    refine xi_iconst (pc' := 1371) (v := 1) kc_196_1370 rfl rfl ?_
    refine xi_goto (pc' := 1375) kc_196_1371 rfl ?_
    refine xi_aload_n (pc' := 1376) (x := 1000000) kc_196_1375 rfl rfl ?_
    refine xi_iload (pc' := 1378) (x := 0) kc_196_1376 rfl rfl ?_
    refine xi_iconst (pc' := 1379) (v := 2) kc_196_1378 rfl rfl ?_
    refine xi_iadd (pc' := 1380) (v := 2) kc_196_1379 rfl rfl ?_
    refine xi_ialoadO (pc' := 1381) (v := a2) kc_196_1380 rfl (by decide) hov0 (xi_in (n := 6) (by decide) (by decide)) rfl ?_
    refine xi_aload_n (pc' := 1382) (x := 1000000) kc_196_1381 rfl rfl ?_
    refine xi_iload (pc' := 1384) (x := 0) kc_196_1382 rfl rfl ?_
    refine xi_iconst (pc' := 1385) (v := 3) kc_196_1384 rfl rfl ?_
    refine xi_iadd (pc' := 1386) (v := 3) kc_196_1385 rfl rfl ?_
    refine xi_ialoadO (pc' := 1387) (v := a3) kc_196_1386 rfl (by decide) hov0 (xi_in (n := 6) (by decide) (by decide)) rfl ?_
    by_cases c25 : a3.toInt = 0
    · refine xi_ift (pc' := 1394) kc_196_1387 rfl (xc_eq_t (X := a3.toInt) (Y := 0) rfl (by decide) (by omega)) ?_
      refine xi_iconst (pc' := 1395) (v := 0) kc_196_1394 rfl rfl ?_
      refine xi_virtual (mj := 181) (as := [.int 1, .int a2, .int 0]) (st1 := []) (lv0 := [(0, .ref 0), (1, .int 1), (2, .int a2), (3, .int 0)]) kc_196_1395 rfl rfl rfl rfl rfl (F 0 _ hl_0) (Nat.le_of_ble_eq_true rfl) (hJ _ _ _ _ (by decide)) (xm_le ml_181 rfl) rfl ?_
      refine xi_iload_n (pc' := 1) (x := a2) kc_181_0 rfl rfl ?_
      refine xi_static (mj := 118) (as := [.int a2]) (st1 := []) (lv0 := [(0, .int a2)]) kc_181_1 rfl rfl (Nat.le_of_ble_eq_true rfl) rfl rfl (Nat.le_of_ble_eq_true rfl) (hJ _ _ _ _ (by decide)) (xm_le ml_118 rfl) rfl ?_
      refine xi_iload_n (pc' := 1) (x := a2) kc_118_0 rfl rfl ?_
      by_cases c26 : a2.toInt < 0
      · refine xi_ift (pc' := 13) kc_118_1 rfl (xc_lt_t (X := a2.toInt) (Y := 0) rfl (by decide) (by omega)) ?_
        refine xi_iconst (pc' := 14) (v := 0) kc_118_13 rfl rfl ?_
        refine xi_ireturn kc_118_14 mr_118 rfl ?_
        show xw J ov 99 181 (4, [(0, .ref 0), (1, .int 1), (2, .int a2), (3, .int 0)], [.int 0], h0) _
        refine xi_iff (pc' := 7) kc_181_4 rfl rfl ?_
        refine xi_aload_n (pc' := 8) (x := 0) kc_181_7 rfl rfl ?_
        refine xi_bipush (pc' := 10) (v := (-2)) kc_181_8 rfl rfl ?_
        refine xi_virtual (mj := 91) (as := [.int (-2)]) (st1 := []) (lv0 := [(0, .ref 0), (1, .int (-2))]) kc_181_10 rfl rfl rfl rfl rfl (F 0 _ hl_0) (Nat.le_of_ble_eq_true rfl) (hJ _ _ _ _ (by decide)) (xm_le ml_91 rfl) rfl ?_
        refine xi_iload_n (pc' := 1) (x := (-2)) kc_91_0 rfl rfl ?_
        refine xi_ineg (pc' := 2) (v := 2) kc_91_1 rfl rfl ?_
        refine xi_istore_n (pc' := 3) (lv' := [(2, .int 2), (0, .ref 0), (1, .int (-2))]) kc_91_2 rfl rfl (xm_lt ml_91 rfl) ?_
        refine xi_iload_n (pc' := 4) (x := 2) kc_91_3 rfl rfl ?_
        refine xi_iff (pc' := 7) kc_91_4 rfl rfl ?_
        refine xi_iload_n (pc' := 8) (x := 2) kc_91_7 rfl rfl ?_
        refine xi_aload_n (pc' := 9) (x := 0) kc_91_8 rfl rfl ?_
        refine xi_getfield (pc' := 12) (v := .ref 94) kc_91_9 rfl rfl rfl (F 0 _ hl_0) rfl ?_
        refine xi_arraylength (pc' := 13) (n := 7) (v := 7) kc_91_12 rfl (xl_lenI (by decide) (by decide) (F 94 _ hl_94) (by simp only [List.length_replicate, List.length_cons, List.length_nil])) rfl ?_
        refine xi_cmf (pc' := 16) kc_91_13 rfl rfl ?_
        refine xi_aload_n (pc' := 17) (x := 0) kc_91_16 rfl rfl ?_
        refine xi_getfield (pc' := 20) (v := .ref 94) kc_91_17 rfl rfl rfl (F 0 _ hl_0) rfl ?_
        refine xi_iload_n (pc' := 21) (x := 2) kc_91_20 rfl rfl ?_
        refine xi_dup2 (pc' := 22) kc_91_21 rfl ⟨rfl, rfl⟩ ?_
        refine xi_iaload (pc' := 23) (v := 0) kc_91_22 rfl (F 94 _ hl_94) (by decide) rfl (xi_in (n := 7) (by decide) (by decide)) rfl ?_
        refine xi_iconst (pc' := 24) (v := 1) kc_91_23 rfl rfl ?_
        refine xi_iadd (pc' := 25) (v := 1) kc_91_24 rfl rfl ?_
        refine xi_iastore (pc' := 26) (x' := [0, 0, 1, 0, 0, 0, 0]) kc_91_25 rfl (F 94 _ hl_94) rfl (xi_in (n := 7) (by decide) (by decide)) rfl (fun hh1 eh1 => ?_)
        refine xi_iload_n (pc' := 27) (x := (-2)) kc_91_26 rfl rfl ?_
        refine xi_ireturn kc_91_27 mr_91 rfl ?_
        show xw J ov 99 181 (13, [(0, .ref 0), (1, .int 1), (2, .int a2), (3, .int 0)], [.int (-2)], hh1) _
        refine xi_ireturn kc_181_13 mr_181 rfl ?_
        show xw J ov 100 196 (1398, [(4, .int 0), (3, .ref 167), (2, .ref 115), (1, .ref 0), (0, .ref 1000000)], [.int (-2)], hh1) _
        refine xi_aload_n (pc' := 1399) (x := 115) kc_196_1398 rfl rfl ?_
        refine xi_aload_n (pc' := 1400) (x := 1000000) kc_196_1399 rfl rfl ?_
        refine xi_iload (pc' := 1402) (x := 0) kc_196_1400 rfl rfl ?_
        refine xi_iconst (pc' := 1403) (v := 1) kc_196_1402 rfl rfl ?_
        refine xi_iadd (pc' := 1404) (v := 1) kc_196_1403 rfl rfl ?_
        refine xi_ialoadO (pc' := 1405) (v := a1) kc_196_1404 rfl (by decide) hov0 (xi_in (n := 6) (by decide) (by decide)) rfl ?_
        refine xi_iff (pc' := 1408) kc_196_1405 rfl (xc_eq_f (X := a1.toInt) (Y := 0) rfl (by decide) (by omega)) ?_
        refine xi_iconst (pc' := 1409) (v := 1) kc_196_1408 rfl rfl ?_
        refine xi_goto (pc' := 1413) kc_196_1409 rfl ?_
        refine xi_aload_n (pc' := 1414) (x := 1000000) kc_196_1413 rfl rfl ?_
        refine xi_iload (pc' := 1416) (x := 0) kc_196_1414 rfl rfl ?_
        refine xi_iconst (pc' := 1417) (v := 2) kc_196_1416 rfl rfl ?_
        refine xi_iadd (pc' := 1418) (v := 2) kc_196_1417 rfl rfl ?_
        refine xi_ialoadO (pc' := 1419) (v := a2) kc_196_1418 rfl (by decide) hov0 (xi_in (n := 6) (by decide) (by decide)) rfl ?_
        refine xi_aload_n (pc' := 1420) (x := 1000000) kc_196_1419 rfl rfl ?_
        refine xi_iload (pc' := 1422) (x := 0) kc_196_1420 rfl rfl ?_
        refine xi_iconst (pc' := 1423) (v := 3) kc_196_1422 rfl rfl ?_
        refine xi_iadd (pc' := 1424) (v := 3) kc_196_1423 rfl rfl ?_
        refine xi_ialoadO (pc' := 1425) (v := a3) kc_196_1424 rfl (by decide) hov0 (xi_in (n := 6) (by decide) (by decide)) rfl ?_
        refine xi_ift (pc' := 1432) kc_196_1425 rfl (xc_eq_t (X := a3.toInt) (Y := 0) rfl (by decide) (by omega)) ?_
        refine xi_iconst (pc' := 1433) (v := 0) kc_196_1432 rfl rfl ?_
        refine xi_virtual (mj := 73) (as := [.int 1, .int a2, .int 0]) (st1 := [.int (-2)]) (lv0 := [(0, .ref 115), (1, .int 1), (2, .int a2), (3, .int 0)]) kc_196_1433 rfl rfl rfl rfl rfl ((eh1.2.1 115 (by decide)).trans (F 115 _ hl_115)) (Nat.le_of_ble_eq_true rfl) (hJ _ _ _ _ (by decide)) (xm_le ml_73 rfl) rfl ?_
        refine xi_aload_n (pc' := 1) (x := 115) kc_73_0 rfl rfl ?_
        refine xi_iconst (pc' := 2) (v := 0) kc_73_1 rfl rfl ?_
        refine xi_putfield (pc' := 5) (fs' := [.int 0, .int 0, .ref 116, .ref 117, .ref 118, .ref 119, .ref 120, .ref 121, .ref 122, .ref 123, .ref 124, .ref 125, .ref 126, .ref 127, .ref 128, .ref 129, .int 4, .ref 130, .int 0, .ref 131, .ref 132, .ref 133, .ref 134, .int 0, .ref 135, .ref 136, .ref 137, .ref 138, .ref 139, .ref 140, .ref 141, .ref 142, .int 0, .int 0, .int 0, .ref 143, .ref 144, .ref 145, .ref 146, .ref 147, .ref 148, .int 0, .ref 149, .ref 150, .ref 151, .int 0, .ref 152, .ref 153, .ref 154, .ref 155, .ref 156, .ref 157, .ref 158, .ref 159, .int 0, .ref 160, .int 0, .ref 161, .ref 162, .ref 163, .ref 164, .int 0, .ref 165, .ref 166]) kc_73_2 rfl rfl rfl ((eh1.2.1 115 (by decide)).trans (F 115 _ hl_115)) rfl rfl rfl (Nat.le_of_ble_eq_true rfl) rfl (fun hh2 eh2 => ?_)
        refine xi_iload_n (pc' := 6) (x := a2) kc_73_5 rfl rfl ?_
        refine xi_iconst (pc' := 7) (v := 0) kc_73_6 rfl rfl ?_
        refine xi_iconst (pc' := 8) (v := 3) kc_73_7 rfl rfl ?_
        refine xi_static (mj := 12) (as := [.int a2, .int 0, .int 3]) (st1 := []) (lv0 := [(0, .int a2), (1, .int 0), (2, .int 3)]) kc_73_8 rfl rfl (Nat.le_of_ble_eq_true rfl) rfl rfl (Nat.le_of_ble_eq_true rfl) (hJ _ _ _ _ (by decide)) (xm_le ml_12 rfl) rfl ?_
        refine xi_iload_n (pc' := 1) (x := a2) kc_12_0 rfl rfl ?_
        refine xi_iload_n (pc' := 2) (x := 0) kc_12_1 rfl rfl ?_
        refine xi_cmt (pc' := 14) kc_12_2 rfl (xc_lt_t (X := a2.toInt) (Y := 0) rfl (by decide) (by omega)) ?_
        refine xi_iconst (pc' := 15) (v := 0) kc_12_14 rfl rfl ?_
        refine xi_ireturn kc_12_15 mr_12 rfl ?_
        show xw J ov 99 73 (11, [(0, .ref 115), (1, .int 1), (2, .int a2), (3, .int 0)], [.int 0], hh2) _
        refine xi_iff (pc' := 14) kc_73_11 rfl rfl ?_
        refine xi_aload_n (pc' := 15) (x := 115) kc_73_14 rfl rfl ?_
        refine xi_bipush (pc' := 17) (v := (-2)) kc_73_15 rfl rfl ?_
        refine xi_virtual (mj := 13) (as := [.int (-2)]) (st1 := []) (lv0 := [(0, .ref 115), (1, .int (-2))]) kc_73_17 rfl rfl rfl rfl rfl eh2.1 (Nat.le_of_ble_eq_true rfl) (hJ _ _ _ _ (by decide)) (xm_le ml_13 rfl) rfl ?_
        refine xi_aload_n (pc' := 1) (x := 115) kc_13_0 rfl rfl ?_
        refine xi_getfield (pc' := 4) (v := .ref 140) kc_13_1 rfl rfl rfl eh2.1 rfl ?_
        refine xi_iload_n (pc' := 5) (x := (-2)) kc_13_4 rfl rfl ?_
        refine xi_ineg (pc' := 6) (v := 2) kc_13_5 rfl rfl ?_
        refine xi_dup2 (pc' := 7) kc_13_6 rfl ⟨rfl, rfl⟩ ?_
        refine xi_iaload (pc' := 8) (v := 0) kc_13_7 rfl ((eh2.2.1 140 (by decide)).trans ((eh1.2.1 140 (by decide)).trans (F 140 _ hl_140))) (by decide) rfl (xi_in (n := 7) (by decide) (by decide)) rfl ?_
        refine xi_iconst (pc' := 9) (v := 1) kc_13_8 rfl rfl ?_
        refine xi_iadd (pc' := 10) (v := 1) kc_13_9 rfl rfl ?_
        refine xi_iastore (pc' := 11) (x' := [0, 0, 1, 0, 0, 0, 0]) kc_13_10 rfl ((eh2.2.1 140 (by decide)).trans ((eh1.2.1 140 (by decide)).trans (F 140 _ hl_140))) rfl (xi_in (n := 7) (by decide) (by decide)) rfl (fun hh3 eh3 => ?_)
        refine xi_iload_n (pc' := 12) (x := (-2)) kc_13_11 rfl rfl ?_
        refine xi_ireturn kc_13_12 mr_13 rfl ?_
        show xw J ov 99 73 (20, [(0, .ref 115), (1, .int 1), (2, .int a2), (3, .int 0)], [.int (-2)], hh3) _
        refine xi_ireturn kc_73_20 mr_73 rfl ?_
        show xw J ov 100 196 (1436, [(4, .int 0), (3, .ref 167), (2, .ref 115), (1, .ref 0), (0, .ref 1000000)], [.int (-2), .int (-2)], hh3) _
        refine xi_cmt (pc' := 1528) kc_196_1436 rfl rfl ?_
        refine xi_iinc (pc' := 1531) (x := 0) (v := 6) (lv' := [(4, .int 6), (3, .ref 167), (2, .ref 115), (1, .ref 0), (0, .ref 1000000)]) kc_196_1528 rfl rfl rfl rfl (xm_lt ml_196 rfl) ?_
        refine xi_goto (pc' := 23) kc_196_1531 rfl ?_
        refine xi_iload (pc' := 25) (x := 6) kc_196_23 rfl rfl ?_
        refine xi_aload_n (pc' := 26) (x := 1000000) kc_196_25 rfl rfl ?_
        refine xi_arraylength (pc' := 27) (n := 6) (v := 6) kc_196_26 rfl (xl_lenO (by decide) hov0 rfl) rfl ?_
        refine xi_bipush (pc' := 29) (v := 6) kc_196_27 rfl rfl ?_
        refine xi_isub (pc' := 30) (v := 0) kc_196_29 rfl rfl ?_
        refine xi_cmt (pc' := 1534) kc_196_30 rfl rfl ?_
        refine xi_iconst (pc' := 1535) (v := 1) kc_196_1534 rfl rfl ?_
        refine xi_ireturn kc_196_1535 mr_196 rfl ?_
        refine ⟨rfl, ?_, ?_⟩
        · rw [eh3.2.2.1, eh2.2.2.1, eh1.2.2.1]; exact hn0
        · rw [eh3.2.2.2, eh2.2.2.2, eh1.2.2.2]; exact hz0
      · refine xi_iff (pc' := 4) kc_118_1 rfl (xc_lt_f (X := a2.toInt) (Y := 0) rfl (by decide) (by omega)) ?_
        refine xi_iload_n (pc' := 5) (x := a2) kc_118_4 rfl rfl ?_
        refine xi_iconst (pc' := 6) (v := 4) kc_118_5 rfl rfl ?_
        by_cases c27 : 4 ≤ a2.toInt
        · refine xi_cmt (pc' := 13) kc_118_6 rfl (xc_ge_t (X := a2.toInt) (Y := 4) rfl (by decide) (by omega)) ?_
          refine xi_iconst (pc' := 14) (v := 0) kc_118_13 rfl rfl ?_
          refine xi_ireturn kc_118_14 mr_118 rfl ?_
          show xw J ov 99 181 (4, [(0, .ref 0), (1, .int 1), (2, .int a2), (3, .int 0)], [.int 0], h0) _
          refine xi_iff (pc' := 7) kc_181_4 rfl rfl ?_
          refine xi_aload_n (pc' := 8) (x := 0) kc_181_7 rfl rfl ?_
          refine xi_bipush (pc' := 10) (v := (-2)) kc_181_8 rfl rfl ?_
          refine xi_virtual (mj := 91) (as := [.int (-2)]) (st1 := []) (lv0 := [(0, .ref 0), (1, .int (-2))]) kc_181_10 rfl rfl rfl rfl rfl (F 0 _ hl_0) (Nat.le_of_ble_eq_true rfl) (hJ _ _ _ _ (by decide)) (xm_le ml_91 rfl) rfl ?_
          refine xi_iload_n (pc' := 1) (x := (-2)) kc_91_0 rfl rfl ?_
          refine xi_ineg (pc' := 2) (v := 2) kc_91_1 rfl rfl ?_
          refine xi_istore_n (pc' := 3) (lv' := [(2, .int 2), (0, .ref 0), (1, .int (-2))]) kc_91_2 rfl rfl (xm_lt ml_91 rfl) ?_
          refine xi_iload_n (pc' := 4) (x := 2) kc_91_3 rfl rfl ?_
          refine xi_iff (pc' := 7) kc_91_4 rfl rfl ?_
          refine xi_iload_n (pc' := 8) (x := 2) kc_91_7 rfl rfl ?_
          refine xi_aload_n (pc' := 9) (x := 0) kc_91_8 rfl rfl ?_
          refine xi_getfield (pc' := 12) (v := .ref 94) kc_91_9 rfl rfl rfl (F 0 _ hl_0) rfl ?_
          refine xi_arraylength (pc' := 13) (n := 7) (v := 7) kc_91_12 rfl (xl_lenI (by decide) (by decide) (F 94 _ hl_94) (by simp only [List.length_replicate, List.length_cons, List.length_nil])) rfl ?_
          refine xi_cmf (pc' := 16) kc_91_13 rfl rfl ?_
          refine xi_aload_n (pc' := 17) (x := 0) kc_91_16 rfl rfl ?_
          refine xi_getfield (pc' := 20) (v := .ref 94) kc_91_17 rfl rfl rfl (F 0 _ hl_0) rfl ?_
          refine xi_iload_n (pc' := 21) (x := 2) kc_91_20 rfl rfl ?_
          refine xi_dup2 (pc' := 22) kc_91_21 rfl ⟨rfl, rfl⟩ ?_
          refine xi_iaload (pc' := 23) (v := 0) kc_91_22 rfl (F 94 _ hl_94) (by decide) rfl (xi_in (n := 7) (by decide) (by decide)) rfl ?_
          refine xi_iconst (pc' := 24) (v := 1) kc_91_23 rfl rfl ?_
          refine xi_iadd (pc' := 25) (v := 1) kc_91_24 rfl rfl ?_
          refine xi_iastore (pc' := 26) (x' := [0, 0, 1, 0, 0, 0, 0]) kc_91_25 rfl (F 94 _ hl_94) rfl (xi_in (n := 7) (by decide) (by decide)) rfl (fun hh1 eh1 => ?_)
          refine xi_iload_n (pc' := 27) (x := (-2)) kc_91_26 rfl rfl ?_
          refine xi_ireturn kc_91_27 mr_91 rfl ?_
          show xw J ov 99 181 (13, [(0, .ref 0), (1, .int 1), (2, .int a2), (3, .int 0)], [.int (-2)], hh1) _
          refine xi_ireturn kc_181_13 mr_181 rfl ?_
          show xw J ov 100 196 (1398, [(4, .int 0), (3, .ref 167), (2, .ref 115), (1, .ref 0), (0, .ref 1000000)], [.int (-2)], hh1) _
          refine xi_aload_n (pc' := 1399) (x := 115) kc_196_1398 rfl rfl ?_
          refine xi_aload_n (pc' := 1400) (x := 1000000) kc_196_1399 rfl rfl ?_
          refine xi_iload (pc' := 1402) (x := 0) kc_196_1400 rfl rfl ?_
          refine xi_iconst (pc' := 1403) (v := 1) kc_196_1402 rfl rfl ?_
          refine xi_iadd (pc' := 1404) (v := 1) kc_196_1403 rfl rfl ?_
          refine xi_ialoadO (pc' := 1405) (v := a1) kc_196_1404 rfl (by decide) hov0 (xi_in (n := 6) (by decide) (by decide)) rfl ?_
          refine xi_iff (pc' := 1408) kc_196_1405 rfl (xc_eq_f (X := a1.toInt) (Y := 0) rfl (by decide) (by omega)) ?_
          refine xi_iconst (pc' := 1409) (v := 1) kc_196_1408 rfl rfl ?_
          refine xi_goto (pc' := 1413) kc_196_1409 rfl ?_
          refine xi_aload_n (pc' := 1414) (x := 1000000) kc_196_1413 rfl rfl ?_
          refine xi_iload (pc' := 1416) (x := 0) kc_196_1414 rfl rfl ?_
          refine xi_iconst (pc' := 1417) (v := 2) kc_196_1416 rfl rfl ?_
          refine xi_iadd (pc' := 1418) (v := 2) kc_196_1417 rfl rfl ?_
          refine xi_ialoadO (pc' := 1419) (v := a2) kc_196_1418 rfl (by decide) hov0 (xi_in (n := 6) (by decide) (by decide)) rfl ?_
          refine xi_aload_n (pc' := 1420) (x := 1000000) kc_196_1419 rfl rfl ?_
          refine xi_iload (pc' := 1422) (x := 0) kc_196_1420 rfl rfl ?_
          refine xi_iconst (pc' := 1423) (v := 3) kc_196_1422 rfl rfl ?_
          refine xi_iadd (pc' := 1424) (v := 3) kc_196_1423 rfl rfl ?_
          refine xi_ialoadO (pc' := 1425) (v := a3) kc_196_1424 rfl (by decide) hov0 (xi_in (n := 6) (by decide) (by decide)) rfl ?_
          refine xi_ift (pc' := 1432) kc_196_1425 rfl (xc_eq_t (X := a3.toInt) (Y := 0) rfl (by decide) (by omega)) ?_
          refine xi_iconst (pc' := 1433) (v := 0) kc_196_1432 rfl rfl ?_
          refine xi_virtual (mj := 73) (as := [.int 1, .int a2, .int 0]) (st1 := [.int (-2)]) (lv0 := [(0, .ref 115), (1, .int 1), (2, .int a2), (3, .int 0)]) kc_196_1433 rfl rfl rfl rfl rfl ((eh1.2.1 115 (by decide)).trans (F 115 _ hl_115)) (Nat.le_of_ble_eq_true rfl) (hJ _ _ _ _ (by decide)) (xm_le ml_73 rfl) rfl ?_
          refine xi_aload_n (pc' := 1) (x := 115) kc_73_0 rfl rfl ?_
          refine xi_iconst (pc' := 2) (v := 0) kc_73_1 rfl rfl ?_
          refine xi_putfield (pc' := 5) (fs' := [.int 0, .int 0, .ref 116, .ref 117, .ref 118, .ref 119, .ref 120, .ref 121, .ref 122, .ref 123, .ref 124, .ref 125, .ref 126, .ref 127, .ref 128, .ref 129, .int 4, .ref 130, .int 0, .ref 131, .ref 132, .ref 133, .ref 134, .int 0, .ref 135, .ref 136, .ref 137, .ref 138, .ref 139, .ref 140, .ref 141, .ref 142, .int 0, .int 0, .int 0, .ref 143, .ref 144, .ref 145, .ref 146, .ref 147, .ref 148, .int 0, .ref 149, .ref 150, .ref 151, .int 0, .ref 152, .ref 153, .ref 154, .ref 155, .ref 156, .ref 157, .ref 158, .ref 159, .int 0, .ref 160, .int 0, .ref 161, .ref 162, .ref 163, .ref 164, .int 0, .ref 165, .ref 166]) kc_73_2 rfl rfl rfl ((eh1.2.1 115 (by decide)).trans (F 115 _ hl_115)) rfl rfl rfl (Nat.le_of_ble_eq_true rfl) rfl (fun hh2 eh2 => ?_)
          refine xi_iload_n (pc' := 6) (x := a2) kc_73_5 rfl rfl ?_
          refine xi_iconst (pc' := 7) (v := 0) kc_73_6 rfl rfl ?_
          refine xi_iconst (pc' := 8) (v := 3) kc_73_7 rfl rfl ?_
          refine xi_static (mj := 12) (as := [.int a2, .int 0, .int 3]) (st1 := []) (lv0 := [(0, .int a2), (1, .int 0), (2, .int 3)]) kc_73_8 rfl rfl (Nat.le_of_ble_eq_true rfl) rfl rfl (Nat.le_of_ble_eq_true rfl) (hJ _ _ _ _ (by decide)) (xm_le ml_12 rfl) rfl ?_
          refine xi_iload_n (pc' := 1) (x := a2) kc_12_0 rfl rfl ?_
          refine xi_iload_n (pc' := 2) (x := 0) kc_12_1 rfl rfl ?_
          refine xi_cmf (pc' := 5) kc_12_2 rfl (xc_lt_f (X := a2.toInt) (Y := 0) rfl (by decide) (by omega)) ?_
          refine xi_iload_n (pc' := 6) (x := a2) kc_12_5 rfl rfl ?_
          refine xi_iload_n (pc' := 7) (x := 3) kc_12_6 rfl rfl ?_
          refine xi_cmt (pc' := 14) kc_12_7 rfl (xc_gt_t (X := a2.toInt) (Y := 3) rfl (by decide) (by omega)) ?_
          refine xi_iconst (pc' := 15) (v := 0) kc_12_14 rfl rfl ?_
          refine xi_ireturn kc_12_15 mr_12 rfl ?_
          show xw J ov 99 73 (11, [(0, .ref 115), (1, .int 1), (2, .int a2), (3, .int 0)], [.int 0], hh2) _
          refine xi_iff (pc' := 14) kc_73_11 rfl rfl ?_
          refine xi_aload_n (pc' := 15) (x := 115) kc_73_14 rfl rfl ?_
          refine xi_bipush (pc' := 17) (v := (-2)) kc_73_15 rfl rfl ?_
          refine xi_virtual (mj := 13) (as := [.int (-2)]) (st1 := []) (lv0 := [(0, .ref 115), (1, .int (-2))]) kc_73_17 rfl rfl rfl rfl rfl eh2.1 (Nat.le_of_ble_eq_true rfl) (hJ _ _ _ _ (by decide)) (xm_le ml_13 rfl) rfl ?_
          refine xi_aload_n (pc' := 1) (x := 115) kc_13_0 rfl rfl ?_
          refine xi_getfield (pc' := 4) (v := .ref 140) kc_13_1 rfl rfl rfl eh2.1 rfl ?_
          refine xi_iload_n (pc' := 5) (x := (-2)) kc_13_4 rfl rfl ?_
          refine xi_ineg (pc' := 6) (v := 2) kc_13_5 rfl rfl ?_
          refine xi_dup2 (pc' := 7) kc_13_6 rfl ⟨rfl, rfl⟩ ?_
          refine xi_iaload (pc' := 8) (v := 0) kc_13_7 rfl ((eh2.2.1 140 (by decide)).trans ((eh1.2.1 140 (by decide)).trans (F 140 _ hl_140))) (by decide) rfl (xi_in (n := 7) (by decide) (by decide)) rfl ?_
          refine xi_iconst (pc' := 9) (v := 1) kc_13_8 rfl rfl ?_
          refine xi_iadd (pc' := 10) (v := 1) kc_13_9 rfl rfl ?_
          refine xi_iastore (pc' := 11) (x' := [0, 0, 1, 0, 0, 0, 0]) kc_13_10 rfl ((eh2.2.1 140 (by decide)).trans ((eh1.2.1 140 (by decide)).trans (F 140 _ hl_140))) rfl (xi_in (n := 7) (by decide) (by decide)) rfl (fun hh3 eh3 => ?_)
          refine xi_iload_n (pc' := 12) (x := (-2)) kc_13_11 rfl rfl ?_
          refine xi_ireturn kc_13_12 mr_13 rfl ?_
          show xw J ov 99 73 (20, [(0, .ref 115), (1, .int 1), (2, .int a2), (3, .int 0)], [.int (-2)], hh3) _
          refine xi_ireturn kc_73_20 mr_73 rfl ?_
          show xw J ov 100 196 (1436, [(4, .int 0), (3, .ref 167), (2, .ref 115), (1, .ref 0), (0, .ref 1000000)], [.int (-2), .int (-2)], hh3) _
          refine xi_cmt (pc' := 1528) kc_196_1436 rfl rfl ?_
          refine xi_iinc (pc' := 1531) (x := 0) (v := 6) (lv' := [(4, .int 6), (3, .ref 167), (2, .ref 115), (1, .ref 0), (0, .ref 1000000)]) kc_196_1528 rfl rfl rfl rfl (xm_lt ml_196 rfl) ?_
          refine xi_goto (pc' := 23) kc_196_1531 rfl ?_
          refine xi_iload (pc' := 25) (x := 6) kc_196_23 rfl rfl ?_
          refine xi_aload_n (pc' := 26) (x := 1000000) kc_196_25 rfl rfl ?_
          refine xi_arraylength (pc' := 27) (n := 6) (v := 6) kc_196_26 rfl (xl_lenO (by decide) hov0 rfl) rfl ?_
          refine xi_bipush (pc' := 29) (v := 6) kc_196_27 rfl rfl ?_
          refine xi_isub (pc' := 30) (v := 0) kc_196_29 rfl rfl ?_
          refine xi_cmt (pc' := 1534) kc_196_30 rfl rfl ?_
          refine xi_iconst (pc' := 1535) (v := 1) kc_196_1534 rfl rfl ?_
          refine xi_ireturn kc_196_1535 mr_196 rfl ?_
          refine ⟨rfl, ?_, ?_⟩
          · rw [eh3.2.2.1, eh2.2.2.1, eh1.2.2.1]; exact hn0
          · rw [eh3.2.2.2, eh2.2.2.2, eh1.2.2.2]; exact hz0
        · refine xi_cmf (pc' := 9) kc_118_6 rfl (xc_ge_f (X := a2.toInt) (Y := 4) rfl (by decide) (by omega)) ?_
          refine xi_iconst (pc' := 10) (v := 1) kc_118_9 rfl rfl ?_
          refine xi_goto (pc' := 14) kc_118_10 rfl ?_
          refine xi_ireturn kc_118_14 mr_118 rfl ?_
          show xw J ov 99 181 (4, [(0, .ref 0), (1, .int 1), (2, .int a2), (3, .int 0)], [.int 1], h0) _
          refine xi_ift (pc' := 14) kc_181_4 rfl rfl ?_
          refine xi_aload_n (pc' := 15) (x := 0) kc_181_14 rfl rfl ?_
          refine xi_getfield (pc' := 18) (v := .ref 85) kc_181_15 rfl rfl rfl (F 0 _ hl_0) rfl ?_
          refine xi_iload_n (pc' := 19) (x := 1) kc_181_18 rfl rfl ?_
          refine xi_iload_n (pc' := 20) (x := a2) kc_181_19 rfl rfl ?_
          refine xi_iload_n (pc' := 21) (x := 0) kc_181_20 rfl rfl ?_
          refine xi_aload_n (pc' := 22) (x := 0) kc_181_21 rfl rfl ?_
          refine xi_getfield (pc' := 25) (v := .int 0) kc_181_22 rfl rfl rfl (F 0 _ hl_0) rfl ?_
          refine xi_virtual (mj := 182) (as := [.int 1, .int a2, .int 0, .int 0]) (st1 := []) (lv0 := [(0, .ref 85), (1, .int 1), (2, .int a2), (3, .int 0), (4, .int 0)]) kc_181_25 rfl rfl rfl rfl rfl (F 85 _ hl_85) (Nat.le_of_ble_eq_true rfl) (hJ _ _ _ _ (by decide)) (xm_le ml_182 rfl) rfl ?_
          refine xi_iload_n (pc' := 1) (x := a2) kc_182_0 rfl rfl ?_
          refine xi_static (mj := 118) (as := [.int a2]) (st1 := []) (lv0 := [(0, .int a2)]) kc_182_1 rfl rfl (Nat.le_of_ble_eq_true rfl) rfl rfl (Nat.le_of_ble_eq_true rfl) (hJ _ _ _ _ (by decide)) (xm_le ml_118 rfl) rfl ?_
          refine xi_iload_n (pc' := 1) (x := a2) kc_118_0 rfl rfl ?_
          refine xi_iff (pc' := 4) kc_118_1 rfl (xc_lt_f (X := a2.toInt) (Y := 0) rfl (by decide) (by omega)) ?_
          refine xi_iload_n (pc' := 5) (x := a2) kc_118_4 rfl rfl ?_
          refine xi_iconst (pc' := 6) (v := 4) kc_118_5 rfl rfl ?_
          refine xi_cmf (pc' := 9) kc_118_6 rfl (xc_ge_f (X := a2.toInt) (Y := 4) rfl (by decide) (by omega)) ?_
          refine xi_iconst (pc' := 10) (v := 1) kc_118_9 rfl rfl ?_
          refine xi_goto (pc' := 14) kc_118_10 rfl ?_
          refine xi_ireturn kc_118_14 mr_118 rfl ?_
          show xw J ov 98 182 (4, [(0, .ref 85), (1, .int 1), (2, .int a2), (3, .int 0), (4, .int 0)], [.int 1], h0) _
          refine xi_ift (pc' := 8) kc_182_4 rfl rfl ?_
          refine xi_iload_n (pc' := 9) (x := 1) kc_182_8 rfl rfl ?_
          refine xi_iff (pc' := 12) kc_182_9 rfl rfl ?_
          refine xi_aload_n (pc' := 13) (x := 85) kc_182_12 rfl rfl ?_
          refine xi_getfield (pc' := 16) (v := .ref 91) kc_182_13 rfl rfl rfl (F 85 _ hl_85) rfl ?_
          refine xi_goto (pc' := 23) kc_182_16 rfl ?_
          refine xi_astore (pc' := 25) (lv' := [(5, .ref 91), (0, .ref 85), (1, .int 1), (2, .int a2), (3, .int 0), (4, .int 0)]) kc_182_23 rfl rfl (xm_lt ml_182 rfl) ?_
          refine xi_aload (pc' := 27) (x := 91) kc_182_25 rfl rfl ?_
          refine xi_iload_n (pc' := 28) (x := a2) kc_182_27 rfl rfl ?_
          refine xi_iload_n (pc' := 29) (x := 0) kc_182_28 rfl rfl ?_
          refine xi_ift (pc' := 36) kc_182_29 rfl rfl ?_
          refine xi_iconst (pc' := 37) (v := 2) kc_182_36 rfl rfl ?_
          have lq29 : (List.replicate 4 0 : List Int32).length = 4 := by simp only [List.length_replicate, List.length_cons, List.length_nil, List.length_set]
          obtain ⟨x28, hx28⟩ : ∃ q, (List.replicate 4 0 : List Int32).set (Int32.toNatClampNeg a2) (2) = q := ⟨_, rfl⟩
          have lx28 : x28.length = 4 := by rw [← hx28, List.length_set]; exact lq29
          refine xi_iastore (pc' := 38) (x' := x28) kc_182_37 rfl (F 91 _ hl_91) rfl (xi_in (by omega) (by rw [lq29]; omega)) hx28 (fun hh1 eh1 => ?_)
          refine xi_iload_n (pc' := 39) (x := 0) kc_182_38 rfl rfl ?_
          refine xi_ift (pc' := 50) kc_182_39 rfl rfl ?_
          refine xi_return kc_182_50 mr_182 ?_
          show xw J ov 99 181 (28, [(0, .ref 0), (1, .int 1), (2, .int a2), (3, .int 0)], [], hh1) _
          refine xi_iconst (pc' := 29) (v := 1) kc_181_28 rfl rfl ?_
          refine xi_ireturn kc_181_29 mr_181 rfl ?_
          show xw J ov 100 196 (1398, [(4, .int 0), (3, .ref 167), (2, .ref 115), (1, .ref 0), (0, .ref 1000000)], [.int 1], hh1) _
          refine xi_aload_n (pc' := 1399) (x := 115) kc_196_1398 rfl rfl ?_
          refine xi_aload_n (pc' := 1400) (x := 1000000) kc_196_1399 rfl rfl ?_
          refine xi_iload (pc' := 1402) (x := 0) kc_196_1400 rfl rfl ?_
          refine xi_iconst (pc' := 1403) (v := 1) kc_196_1402 rfl rfl ?_
          refine xi_iadd (pc' := 1404) (v := 1) kc_196_1403 rfl rfl ?_
          refine xi_ialoadO (pc' := 1405) (v := a1) kc_196_1404 rfl (by decide) hov0 (xi_in (n := 6) (by decide) (by decide)) rfl ?_
          refine xi_iff (pc' := 1408) kc_196_1405 rfl (xc_eq_f (X := a1.toInt) (Y := 0) rfl (by decide) (by omega)) ?_
          refine xi_iconst (pc' := 1409) (v := 1) kc_196_1408 rfl rfl ?_
          refine xi_goto (pc' := 1413) kc_196_1409 rfl ?_
          refine xi_aload_n (pc' := 1414) (x := 1000000) kc_196_1413 rfl rfl ?_
          refine xi_iload (pc' := 1416) (x := 0) kc_196_1414 rfl rfl ?_
          refine xi_iconst (pc' := 1417) (v := 2) kc_196_1416 rfl rfl ?_
          refine xi_iadd (pc' := 1418) (v := 2) kc_196_1417 rfl rfl ?_
          refine xi_ialoadO (pc' := 1419) (v := a2) kc_196_1418 rfl (by decide) hov0 (xi_in (n := 6) (by decide) (by decide)) rfl ?_
          refine xi_aload_n (pc' := 1420) (x := 1000000) kc_196_1419 rfl rfl ?_
          refine xi_iload (pc' := 1422) (x := 0) kc_196_1420 rfl rfl ?_
          refine xi_iconst (pc' := 1423) (v := 3) kc_196_1422 rfl rfl ?_
          refine xi_iadd (pc' := 1424) (v := 3) kc_196_1423 rfl rfl ?_
          refine xi_ialoadO (pc' := 1425) (v := a3) kc_196_1424 rfl (by decide) hov0 (xi_in (n := 6) (by decide) (by decide)) rfl ?_
          refine xi_ift (pc' := 1432) kc_196_1425 rfl (xc_eq_t (X := a3.toInt) (Y := 0) rfl (by decide) (by omega)) ?_
          refine xi_iconst (pc' := 1433) (v := 0) kc_196_1432 rfl rfl ?_
          refine xi_virtual (mj := 73) (as := [.int 1, .int a2, .int 0]) (st1 := [.int 1]) (lv0 := [(0, .ref 115), (1, .int 1), (2, .int a2), (3, .int 0)]) kc_196_1433 rfl rfl rfl rfl rfl ((eh1.2.1 115 (by decide)).trans (F 115 _ hl_115)) (Nat.le_of_ble_eq_true rfl) (hJ _ _ _ _ (by decide)) (xm_le ml_73 rfl) rfl ?_
          refine xi_aload_n (pc' := 1) (x := 115) kc_73_0 rfl rfl ?_
          refine xi_iconst (pc' := 2) (v := 0) kc_73_1 rfl rfl ?_
          refine xi_putfield (pc' := 5) (fs' := [.int 0, .int 0, .ref 116, .ref 117, .ref 118, .ref 119, .ref 120, .ref 121, .ref 122, .ref 123, .ref 124, .ref 125, .ref 126, .ref 127, .ref 128, .ref 129, .int 4, .ref 130, .int 0, .ref 131, .ref 132, .ref 133, .ref 134, .int 0, .ref 135, .ref 136, .ref 137, .ref 138, .ref 139, .ref 140, .ref 141, .ref 142, .int 0, .int 0, .int 0, .ref 143, .ref 144, .ref 145, .ref 146, .ref 147, .ref 148, .int 0, .ref 149, .ref 150, .ref 151, .int 0, .ref 152, .ref 153, .ref 154, .ref 155, .ref 156, .ref 157, .ref 158, .ref 159, .int 0, .ref 160, .int 0, .ref 161, .ref 162, .ref 163, .ref 164, .int 0, .ref 165, .ref 166]) kc_73_2 rfl rfl rfl ((eh1.2.1 115 (by decide)).trans (F 115 _ hl_115)) rfl rfl rfl (Nat.le_of_ble_eq_true rfl) rfl (fun hh2 eh2 => ?_)
          refine xi_iload_n (pc' := 6) (x := a2) kc_73_5 rfl rfl ?_
          refine xi_iconst (pc' := 7) (v := 0) kc_73_6 rfl rfl ?_
          refine xi_iconst (pc' := 8) (v := 3) kc_73_7 rfl rfl ?_
          refine xi_static (mj := 12) (as := [.int a2, .int 0, .int 3]) (st1 := []) (lv0 := [(0, .int a2), (1, .int 0), (2, .int 3)]) kc_73_8 rfl rfl (Nat.le_of_ble_eq_true rfl) rfl rfl (Nat.le_of_ble_eq_true rfl) (hJ _ _ _ _ (by decide)) (xm_le ml_12 rfl) rfl ?_
          refine xi_iload_n (pc' := 1) (x := a2) kc_12_0 rfl rfl ?_
          refine xi_iload_n (pc' := 2) (x := 0) kc_12_1 rfl rfl ?_
          refine xi_cmf (pc' := 5) kc_12_2 rfl (xc_lt_f (X := a2.toInt) (Y := 0) rfl (by decide) (by omega)) ?_
          refine xi_iload_n (pc' := 6) (x := a2) kc_12_5 rfl rfl ?_
          refine xi_iload_n (pc' := 7) (x := 3) kc_12_6 rfl rfl ?_
          refine xi_cmf (pc' := 10) kc_12_7 rfl (xc_gt_f (X := a2.toInt) (Y := 3) rfl (by decide) (by omega)) ?_
          refine xi_iconst (pc' := 11) (v := 1) kc_12_10 rfl rfl ?_
          refine xi_goto (pc' := 15) kc_12_11 rfl ?_
          refine xi_ireturn kc_12_15 mr_12 rfl ?_
          show xw J ov 99 73 (11, [(0, .ref 115), (1, .int 1), (2, .int a2), (3, .int 0)], [.int 1], hh2) _
          refine xi_ift (pc' := 21) kc_73_11 rfl rfl ?_
          refine xi_aload_n (pc' := 22) (x := 115) kc_73_21 rfl rfl ?_
          refine xi_getfield (pc' := 25) (v := .ref 165) kc_73_22 rfl rfl rfl eh2.1 rfl ?_
          refine xi_iconst (pc' := 26) (v := 2) kc_73_25 rfl rfl ?_
          refine xi_iload_n (pc' := 27) (x := a2) kc_73_26 rfl rfl ?_
          obtain ⟨v30, ev30⟩ : ∃ q : Int32, 2 * a2 = q := ⟨_, rfl⟩
          have zv30 : v30.toInt = (2) * a2.toInt := by rw [← ev30]; exact (xz_mul (X := 2) (Y := a2.toInt) (by decide) rfl (by omega) (by omega)).trans (by omega)
          refine xi_imul (pc' := 28) (v := v30) kc_73_27 rfl ev30 ?_
          refine xi_iload_n (pc' := 29) (x := 1) kc_73_28 rfl rfl ?_
          refine xi_iff (pc' := 32) kc_73_29 rfl rfl ?_
          refine xi_iconst (pc' := 33) (v := 1) kc_73_32 rfl rfl ?_
          refine xi_goto (pc' := 37) kc_73_33 rfl ?_
          obtain ⟨v31, ev31⟩ : ∃ q : Int32, v30 + 1 = q := ⟨_, rfl⟩
          have zv31 : v31.toInt = ((2) * a2.toInt + 1) := by rw [← ev31]; exact (xz_add (X := (2) * a2.toInt) (Y := 1) zv30 (by decide) (by omega) (by omega)).trans (by omega)
          refine xi_iadd (pc' := 38) (v := v31) kc_73_37 rfl ev31 ?_
          refine xi_iload_n (pc' := 39) (x := 0) kc_73_38 rfl rfl ?_
          refine xi_ift (pc' := 46) kc_73_39 rfl rfl ?_
          refine xi_iconst (pc' := 47) (v := 0) kc_73_46 rfl rfl ?_
          have lq33 : (List.replicate 8 (-1) : List Int32).length = 8 := by simp only [List.length_replicate, List.length_cons, List.length_nil, List.length_set]
          obtain ⟨x32, hx32⟩ : ∃ q, (List.replicate 8 (-1) : List Int32).set (Int32.toNatClampNeg v31) (0) = q := ⟨_, rfl⟩
          have lx32 : x32.length = 8 := by rw [← hx32, List.length_set]; exact lq33
          refine xi_iastore (pc' := 48) (x' := x32) kc_73_47 rfl ((eh2.2.1 165 (by decide)).trans ((eh1.2.1 165 (by decide)).trans (F 165 _ hl_165))) rfl (xi_in (by rw [zv31]; omega) (by rw [lq33]; rw [zv31]; omega)) hx32 (fun hh3 eh3 => ?_)
          refine xi_aload_n (pc' := 49) (x := 115) kc_73_48 rfl rfl ?_
          refine xi_getfield (pc' := 52) (v := .ref 166) kc_73_49 rfl rfl rfl ((eh3.2.1 115 (by decide)).trans eh2.1) rfl ?_
          refine xi_iload_n (pc' := 53) (x := a2) kc_73_52 rfl rfl ?_
          refine xi_iload_n (pc' := 54) (x := 0) kc_73_53 rfl rfl ?_
          refine xi_ift (pc' := 64) kc_73_54 rfl rfl ?_
          refine xi_aload_n (pc' := 65) (x := 115) kc_73_64 rfl rfl ?_
          refine xi_getfield (pc' := 68) (v := .ref 166) kc_73_65 rfl rfl rfl ((eh3.2.1 115 (by decide)).trans eh2.1) rfl ?_
          refine xi_iload_n (pc' := 69) (x := a2) kc_73_68 rfl rfl ?_
          refine xi_iaload (pc' := 70) (v := (-1)) kc_73_69 rfl ((eh3.2.1 166 (by decide)).trans ((eh2.2.1 166 (by decide)).trans ((eh1.2.1 166 (by decide)).trans (F 166 _ hl_166)))) (by decide) rfl (xi_in (by omega) (by simp only [List.length_replicate]; omega)) (xa_rep (by omega) (by omega)) ?_
          have lq35 : (List.replicate 4 (-1) : List Int32).length = 4 := by simp only [List.length_replicate, List.length_cons, List.length_nil, List.length_set]
          obtain ⟨x34, hx34⟩ : ∃ q, (List.replicate 4 (-1) : List Int32).set (Int32.toNatClampNeg a2) ((-1)) = q := ⟨_, rfl⟩
          have lx34 : x34.length = 4 := by rw [← hx34, List.length_set]; exact lq35
          refine xi_iastore (pc' := 71) (x' := x34) kc_73_70 rfl ((eh3.2.1 166 (by decide)).trans ((eh2.2.1 166 (by decide)).trans ((eh1.2.1 166 (by decide)).trans (F 166 _ hl_166)))) rfl (xi_in (by omega) (by rw [lq35]; omega)) hx34 (fun hh4 eh4 => ?_)
          refine xi_iconst (pc' := 72) (v := 1) kc_73_71 rfl rfl ?_
          refine xi_ireturn kc_73_72 mr_73 rfl ?_
          show xw J ov 100 196 (1436, [(4, .int 0), (3, .ref 167), (2, .ref 115), (1, .ref 0), (0, .ref 1000000)], [.int 1, .int 1], hh4) _
          refine xi_cmt (pc' := 1528) kc_196_1436 rfl rfl ?_
          refine xi_iinc (pc' := 1531) (x := 0) (v := 6) (lv' := [(4, .int 6), (3, .ref 167), (2, .ref 115), (1, .ref 0), (0, .ref 1000000)]) kc_196_1528 rfl rfl rfl rfl (xm_lt ml_196 rfl) ?_
          refine xi_goto (pc' := 23) kc_196_1531 rfl ?_
          refine xi_iload (pc' := 25) (x := 6) kc_196_23 rfl rfl ?_
          refine xi_aload_n (pc' := 26) (x := 1000000) kc_196_25 rfl rfl ?_
          refine xi_arraylength (pc' := 27) (n := 6) (v := 6) kc_196_26 rfl (xl_lenO (by decide) hov0 rfl) rfl ?_
          refine xi_bipush (pc' := 29) (v := 6) kc_196_27 rfl rfl ?_
          refine xi_isub (pc' := 30) (v := 0) kc_196_29 rfl rfl ?_
          refine xi_cmt (pc' := 1534) kc_196_30 rfl rfl ?_
          refine xi_iconst (pc' := 1535) (v := 1) kc_196_1534 rfl rfl ?_
          refine xi_ireturn kc_196_1535 mr_196 rfl ?_
          refine ⟨rfl, ?_, ?_⟩
          · rw [eh4.2.2.1, eh3.2.2.1, eh2.2.2.1, eh1.2.2.1]; exact hn0
          · rw [eh4.2.2.2, eh3.2.2.2, eh2.2.2.2, eh1.2.2.2]; exact hz0
    · refine xi_iff (pc' := 1390) kc_196_1387 rfl (xc_eq_f (X := a3.toInt) (Y := 0) rfl (by decide) (by omega)) ?_
      refine xi_iconst (pc' := 1391) (v := 1) kc_196_1390 rfl rfl ?_
      refine xi_goto (pc' := 1395) kc_196_1391 rfl ?_
      refine xi_virtual (mj := 181) (as := [.int 1, .int a2, .int 1]) (st1 := []) (lv0 := [(0, .ref 0), (1, .int 1), (2, .int a2), (3, .int 1)]) kc_196_1395 rfl rfl rfl rfl rfl (F 0 _ hl_0) (Nat.le_of_ble_eq_true rfl) (hJ _ _ _ _ (by decide)) (xm_le ml_181 rfl) rfl ?_
      refine xi_iload_n (pc' := 1) (x := a2) kc_181_0 rfl rfl ?_
      refine xi_static (mj := 118) (as := [.int a2]) (st1 := []) (lv0 := [(0, .int a2)]) kc_181_1 rfl rfl (Nat.le_of_ble_eq_true rfl) rfl rfl (Nat.le_of_ble_eq_true rfl) (hJ _ _ _ _ (by decide)) (xm_le ml_118 rfl) rfl ?_
      refine xi_iload_n (pc' := 1) (x := a2) kc_118_0 rfl rfl ?_
      by_cases c36 : a2.toInt < 0
      · refine xi_ift (pc' := 13) kc_118_1 rfl (xc_lt_t (X := a2.toInt) (Y := 0) rfl (by decide) (by omega)) ?_
        refine xi_iconst (pc' := 14) (v := 0) kc_118_13 rfl rfl ?_
        refine xi_ireturn kc_118_14 mr_118 rfl ?_
        show xw J ov 99 181 (4, [(0, .ref 0), (1, .int 1), (2, .int a2), (3, .int 1)], [.int 0], h0) _
        refine xi_iff (pc' := 7) kc_181_4 rfl rfl ?_
        refine xi_aload_n (pc' := 8) (x := 0) kc_181_7 rfl rfl ?_
        refine xi_bipush (pc' := 10) (v := (-2)) kc_181_8 rfl rfl ?_
        refine xi_virtual (mj := 91) (as := [.int (-2)]) (st1 := []) (lv0 := [(0, .ref 0), (1, .int (-2))]) kc_181_10 rfl rfl rfl rfl rfl (F 0 _ hl_0) (Nat.le_of_ble_eq_true rfl) (hJ _ _ _ _ (by decide)) (xm_le ml_91 rfl) rfl ?_
        refine xi_iload_n (pc' := 1) (x := (-2)) kc_91_0 rfl rfl ?_
        refine xi_ineg (pc' := 2) (v := 2) kc_91_1 rfl rfl ?_
        refine xi_istore_n (pc' := 3) (lv' := [(2, .int 2), (0, .ref 0), (1, .int (-2))]) kc_91_2 rfl rfl (xm_lt ml_91 rfl) ?_
        refine xi_iload_n (pc' := 4) (x := 2) kc_91_3 rfl rfl ?_
        refine xi_iff (pc' := 7) kc_91_4 rfl rfl ?_
        refine xi_iload_n (pc' := 8) (x := 2) kc_91_7 rfl rfl ?_
        refine xi_aload_n (pc' := 9) (x := 0) kc_91_8 rfl rfl ?_
        refine xi_getfield (pc' := 12) (v := .ref 94) kc_91_9 rfl rfl rfl (F 0 _ hl_0) rfl ?_
        refine xi_arraylength (pc' := 13) (n := 7) (v := 7) kc_91_12 rfl (xl_lenI (by decide) (by decide) (F 94 _ hl_94) (by simp only [List.length_replicate, List.length_cons, List.length_nil])) rfl ?_
        refine xi_cmf (pc' := 16) kc_91_13 rfl rfl ?_
        refine xi_aload_n (pc' := 17) (x := 0) kc_91_16 rfl rfl ?_
        refine xi_getfield (pc' := 20) (v := .ref 94) kc_91_17 rfl rfl rfl (F 0 _ hl_0) rfl ?_
        refine xi_iload_n (pc' := 21) (x := 2) kc_91_20 rfl rfl ?_
        refine xi_dup2 (pc' := 22) kc_91_21 rfl ⟨rfl, rfl⟩ ?_
        refine xi_iaload (pc' := 23) (v := 0) kc_91_22 rfl (F 94 _ hl_94) (by decide) rfl (xi_in (n := 7) (by decide) (by decide)) rfl ?_
        refine xi_iconst (pc' := 24) (v := 1) kc_91_23 rfl rfl ?_
        refine xi_iadd (pc' := 25) (v := 1) kc_91_24 rfl rfl ?_
        refine xi_iastore (pc' := 26) (x' := [0, 0, 1, 0, 0, 0, 0]) kc_91_25 rfl (F 94 _ hl_94) rfl (xi_in (n := 7) (by decide) (by decide)) rfl (fun hh1 eh1 => ?_)
        refine xi_iload_n (pc' := 27) (x := (-2)) kc_91_26 rfl rfl ?_
        refine xi_ireturn kc_91_27 mr_91 rfl ?_
        show xw J ov 99 181 (13, [(0, .ref 0), (1, .int 1), (2, .int a2), (3, .int 1)], [.int (-2)], hh1) _
        refine xi_ireturn kc_181_13 mr_181 rfl ?_
        show xw J ov 100 196 (1398, [(4, .int 0), (3, .ref 167), (2, .ref 115), (1, .ref 0), (0, .ref 1000000)], [.int (-2)], hh1) _
        refine xi_aload_n (pc' := 1399) (x := 115) kc_196_1398 rfl rfl ?_
        refine xi_aload_n (pc' := 1400) (x := 1000000) kc_196_1399 rfl rfl ?_
        refine xi_iload (pc' := 1402) (x := 0) kc_196_1400 rfl rfl ?_
        refine xi_iconst (pc' := 1403) (v := 1) kc_196_1402 rfl rfl ?_
        refine xi_iadd (pc' := 1404) (v := 1) kc_196_1403 rfl rfl ?_
        refine xi_ialoadO (pc' := 1405) (v := a1) kc_196_1404 rfl (by decide) hov0 (xi_in (n := 6) (by decide) (by decide)) rfl ?_
        refine xi_iff (pc' := 1408) kc_196_1405 rfl (xc_eq_f (X := a1.toInt) (Y := 0) rfl (by decide) (by omega)) ?_
        refine xi_iconst (pc' := 1409) (v := 1) kc_196_1408 rfl rfl ?_
        refine xi_goto (pc' := 1413) kc_196_1409 rfl ?_
        refine xi_aload_n (pc' := 1414) (x := 1000000) kc_196_1413 rfl rfl ?_
        refine xi_iload (pc' := 1416) (x := 0) kc_196_1414 rfl rfl ?_
        refine xi_iconst (pc' := 1417) (v := 2) kc_196_1416 rfl rfl ?_
        refine xi_iadd (pc' := 1418) (v := 2) kc_196_1417 rfl rfl ?_
        refine xi_ialoadO (pc' := 1419) (v := a2) kc_196_1418 rfl (by decide) hov0 (xi_in (n := 6) (by decide) (by decide)) rfl ?_
        refine xi_aload_n (pc' := 1420) (x := 1000000) kc_196_1419 rfl rfl ?_
        refine xi_iload (pc' := 1422) (x := 0) kc_196_1420 rfl rfl ?_
        refine xi_iconst (pc' := 1423) (v := 3) kc_196_1422 rfl rfl ?_
        refine xi_iadd (pc' := 1424) (v := 3) kc_196_1423 rfl rfl ?_
        refine xi_ialoadO (pc' := 1425) (v := a3) kc_196_1424 rfl (by decide) hov0 (xi_in (n := 6) (by decide) (by decide)) rfl ?_
        refine xi_iff (pc' := 1428) kc_196_1425 rfl (xc_eq_f (X := a3.toInt) (Y := 0) rfl (by decide) (by omega)) ?_
        refine xi_iconst (pc' := 1429) (v := 1) kc_196_1428 rfl rfl ?_
        refine xi_goto (pc' := 1433) kc_196_1429 rfl ?_
        refine xi_virtual (mj := 73) (as := [.int 1, .int a2, .int 1]) (st1 := [.int (-2)]) (lv0 := [(0, .ref 115), (1, .int 1), (2, .int a2), (3, .int 1)]) kc_196_1433 rfl rfl rfl rfl rfl ((eh1.2.1 115 (by decide)).trans (F 115 _ hl_115)) (Nat.le_of_ble_eq_true rfl) (hJ _ _ _ _ (by decide)) (xm_le ml_73 rfl) rfl ?_
        refine xi_aload_n (pc' := 1) (x := 115) kc_73_0 rfl rfl ?_
        refine xi_iconst (pc' := 2) (v := 0) kc_73_1 rfl rfl ?_
        refine xi_putfield (pc' := 5) (fs' := [.int 0, .int 0, .ref 116, .ref 117, .ref 118, .ref 119, .ref 120, .ref 121, .ref 122, .ref 123, .ref 124, .ref 125, .ref 126, .ref 127, .ref 128, .ref 129, .int 4, .ref 130, .int 0, .ref 131, .ref 132, .ref 133, .ref 134, .int 0, .ref 135, .ref 136, .ref 137, .ref 138, .ref 139, .ref 140, .ref 141, .ref 142, .int 0, .int 0, .int 0, .ref 143, .ref 144, .ref 145, .ref 146, .ref 147, .ref 148, .int 0, .ref 149, .ref 150, .ref 151, .int 0, .ref 152, .ref 153, .ref 154, .ref 155, .ref 156, .ref 157, .ref 158, .ref 159, .int 0, .ref 160, .int 0, .ref 161, .ref 162, .ref 163, .ref 164, .int 0, .ref 165, .ref 166]) kc_73_2 rfl rfl rfl ((eh1.2.1 115 (by decide)).trans (F 115 _ hl_115)) rfl rfl rfl (Nat.le_of_ble_eq_true rfl) rfl (fun hh2 eh2 => ?_)
        refine xi_iload_n (pc' := 6) (x := a2) kc_73_5 rfl rfl ?_
        refine xi_iconst (pc' := 7) (v := 0) kc_73_6 rfl rfl ?_
        refine xi_iconst (pc' := 8) (v := 3) kc_73_7 rfl rfl ?_
        refine xi_static (mj := 12) (as := [.int a2, .int 0, .int 3]) (st1 := []) (lv0 := [(0, .int a2), (1, .int 0), (2, .int 3)]) kc_73_8 rfl rfl (Nat.le_of_ble_eq_true rfl) rfl rfl (Nat.le_of_ble_eq_true rfl) (hJ _ _ _ _ (by decide)) (xm_le ml_12 rfl) rfl ?_
        refine xi_iload_n (pc' := 1) (x := a2) kc_12_0 rfl rfl ?_
        refine xi_iload_n (pc' := 2) (x := 0) kc_12_1 rfl rfl ?_
        refine xi_cmt (pc' := 14) kc_12_2 rfl (xc_lt_t (X := a2.toInt) (Y := 0) rfl (by decide) (by omega)) ?_
        refine xi_iconst (pc' := 15) (v := 0) kc_12_14 rfl rfl ?_
        refine xi_ireturn kc_12_15 mr_12 rfl ?_
        show xw J ov 99 73 (11, [(0, .ref 115), (1, .int 1), (2, .int a2), (3, .int 1)], [.int 0], hh2) _
        refine xi_iff (pc' := 14) kc_73_11 rfl rfl ?_
        refine xi_aload_n (pc' := 15) (x := 115) kc_73_14 rfl rfl ?_
        refine xi_bipush (pc' := 17) (v := (-2)) kc_73_15 rfl rfl ?_
        refine xi_virtual (mj := 13) (as := [.int (-2)]) (st1 := []) (lv0 := [(0, .ref 115), (1, .int (-2))]) kc_73_17 rfl rfl rfl rfl rfl eh2.1 (Nat.le_of_ble_eq_true rfl) (hJ _ _ _ _ (by decide)) (xm_le ml_13 rfl) rfl ?_
        refine xi_aload_n (pc' := 1) (x := 115) kc_13_0 rfl rfl ?_
        refine xi_getfield (pc' := 4) (v := .ref 140) kc_13_1 rfl rfl rfl eh2.1 rfl ?_
        refine xi_iload_n (pc' := 5) (x := (-2)) kc_13_4 rfl rfl ?_
        refine xi_ineg (pc' := 6) (v := 2) kc_13_5 rfl rfl ?_
        refine xi_dup2 (pc' := 7) kc_13_6 rfl ⟨rfl, rfl⟩ ?_
        refine xi_iaload (pc' := 8) (v := 0) kc_13_7 rfl ((eh2.2.1 140 (by decide)).trans ((eh1.2.1 140 (by decide)).trans (F 140 _ hl_140))) (by decide) rfl (xi_in (n := 7) (by decide) (by decide)) rfl ?_
        refine xi_iconst (pc' := 9) (v := 1) kc_13_8 rfl rfl ?_
        refine xi_iadd (pc' := 10) (v := 1) kc_13_9 rfl rfl ?_
        refine xi_iastore (pc' := 11) (x' := [0, 0, 1, 0, 0, 0, 0]) kc_13_10 rfl ((eh2.2.1 140 (by decide)).trans ((eh1.2.1 140 (by decide)).trans (F 140 _ hl_140))) rfl (xi_in (n := 7) (by decide) (by decide)) rfl (fun hh3 eh3 => ?_)
        refine xi_iload_n (pc' := 12) (x := (-2)) kc_13_11 rfl rfl ?_
        refine xi_ireturn kc_13_12 mr_13 rfl ?_
        show xw J ov 99 73 (20, [(0, .ref 115), (1, .int 1), (2, .int a2), (3, .int 1)], [.int (-2)], hh3) _
        refine xi_ireturn kc_73_20 mr_73 rfl ?_
        show xw J ov 100 196 (1436, [(4, .int 0), (3, .ref 167), (2, .ref 115), (1, .ref 0), (0, .ref 1000000)], [.int (-2), .int (-2)], hh3) _
        refine xi_cmt (pc' := 1528) kc_196_1436 rfl rfl ?_
        refine xi_iinc (pc' := 1531) (x := 0) (v := 6) (lv' := [(4, .int 6), (3, .ref 167), (2, .ref 115), (1, .ref 0), (0, .ref 1000000)]) kc_196_1528 rfl rfl rfl rfl (xm_lt ml_196 rfl) ?_
        refine xi_goto (pc' := 23) kc_196_1531 rfl ?_
        refine xi_iload (pc' := 25) (x := 6) kc_196_23 rfl rfl ?_
        refine xi_aload_n (pc' := 26) (x := 1000000) kc_196_25 rfl rfl ?_
        refine xi_arraylength (pc' := 27) (n := 6) (v := 6) kc_196_26 rfl (xl_lenO (by decide) hov0 rfl) rfl ?_
        refine xi_bipush (pc' := 29) (v := 6) kc_196_27 rfl rfl ?_
        refine xi_isub (pc' := 30) (v := 0) kc_196_29 rfl rfl ?_
        refine xi_cmt (pc' := 1534) kc_196_30 rfl rfl ?_
        refine xi_iconst (pc' := 1535) (v := 1) kc_196_1534 rfl rfl ?_
        refine xi_ireturn kc_196_1535 mr_196 rfl ?_
        refine ⟨rfl, ?_, ?_⟩
        · rw [eh3.2.2.1, eh2.2.2.1, eh1.2.2.1]; exact hn0
        · rw [eh3.2.2.2, eh2.2.2.2, eh1.2.2.2]; exact hz0
      · refine xi_iff (pc' := 4) kc_118_1 rfl (xc_lt_f (X := a2.toInt) (Y := 0) rfl (by decide) (by omega)) ?_
        refine xi_iload_n (pc' := 5) (x := a2) kc_118_4 rfl rfl ?_
        refine xi_iconst (pc' := 6) (v := 4) kc_118_5 rfl rfl ?_
        by_cases c37 : 4 ≤ a2.toInt
        · refine xi_cmt (pc' := 13) kc_118_6 rfl (xc_ge_t (X := a2.toInt) (Y := 4) rfl (by decide) (by omega)) ?_
          refine xi_iconst (pc' := 14) (v := 0) kc_118_13 rfl rfl ?_
          refine xi_ireturn kc_118_14 mr_118 rfl ?_
          show xw J ov 99 181 (4, [(0, .ref 0), (1, .int 1), (2, .int a2), (3, .int 1)], [.int 0], h0) _
          refine xi_iff (pc' := 7) kc_181_4 rfl rfl ?_
          refine xi_aload_n (pc' := 8) (x := 0) kc_181_7 rfl rfl ?_
          refine xi_bipush (pc' := 10) (v := (-2)) kc_181_8 rfl rfl ?_
          refine xi_virtual (mj := 91) (as := [.int (-2)]) (st1 := []) (lv0 := [(0, .ref 0), (1, .int (-2))]) kc_181_10 rfl rfl rfl rfl rfl (F 0 _ hl_0) (Nat.le_of_ble_eq_true rfl) (hJ _ _ _ _ (by decide)) (xm_le ml_91 rfl) rfl ?_
          refine xi_iload_n (pc' := 1) (x := (-2)) kc_91_0 rfl rfl ?_
          refine xi_ineg (pc' := 2) (v := 2) kc_91_1 rfl rfl ?_
          refine xi_istore_n (pc' := 3) (lv' := [(2, .int 2), (0, .ref 0), (1, .int (-2))]) kc_91_2 rfl rfl (xm_lt ml_91 rfl) ?_
          refine xi_iload_n (pc' := 4) (x := 2) kc_91_3 rfl rfl ?_
          refine xi_iff (pc' := 7) kc_91_4 rfl rfl ?_
          refine xi_iload_n (pc' := 8) (x := 2) kc_91_7 rfl rfl ?_
          refine xi_aload_n (pc' := 9) (x := 0) kc_91_8 rfl rfl ?_
          refine xi_getfield (pc' := 12) (v := .ref 94) kc_91_9 rfl rfl rfl (F 0 _ hl_0) rfl ?_
          refine xi_arraylength (pc' := 13) (n := 7) (v := 7) kc_91_12 rfl (xl_lenI (by decide) (by decide) (F 94 _ hl_94) (by simp only [List.length_replicate, List.length_cons, List.length_nil])) rfl ?_
          refine xi_cmf (pc' := 16) kc_91_13 rfl rfl ?_
          refine xi_aload_n (pc' := 17) (x := 0) kc_91_16 rfl rfl ?_
          refine xi_getfield (pc' := 20) (v := .ref 94) kc_91_17 rfl rfl rfl (F 0 _ hl_0) rfl ?_
          refine xi_iload_n (pc' := 21) (x := 2) kc_91_20 rfl rfl ?_
          refine xi_dup2 (pc' := 22) kc_91_21 rfl ⟨rfl, rfl⟩ ?_
          refine xi_iaload (pc' := 23) (v := 0) kc_91_22 rfl (F 94 _ hl_94) (by decide) rfl (xi_in (n := 7) (by decide) (by decide)) rfl ?_
          refine xi_iconst (pc' := 24) (v := 1) kc_91_23 rfl rfl ?_
          refine xi_iadd (pc' := 25) (v := 1) kc_91_24 rfl rfl ?_
          refine xi_iastore (pc' := 26) (x' := [0, 0, 1, 0, 0, 0, 0]) kc_91_25 rfl (F 94 _ hl_94) rfl (xi_in (n := 7) (by decide) (by decide)) rfl (fun hh1 eh1 => ?_)
          refine xi_iload_n (pc' := 27) (x := (-2)) kc_91_26 rfl rfl ?_
          refine xi_ireturn kc_91_27 mr_91 rfl ?_
          show xw J ov 99 181 (13, [(0, .ref 0), (1, .int 1), (2, .int a2), (3, .int 1)], [.int (-2)], hh1) _
          refine xi_ireturn kc_181_13 mr_181 rfl ?_
          show xw J ov 100 196 (1398, [(4, .int 0), (3, .ref 167), (2, .ref 115), (1, .ref 0), (0, .ref 1000000)], [.int (-2)], hh1) _
          refine xi_aload_n (pc' := 1399) (x := 115) kc_196_1398 rfl rfl ?_
          refine xi_aload_n (pc' := 1400) (x := 1000000) kc_196_1399 rfl rfl ?_
          refine xi_iload (pc' := 1402) (x := 0) kc_196_1400 rfl rfl ?_
          refine xi_iconst (pc' := 1403) (v := 1) kc_196_1402 rfl rfl ?_
          refine xi_iadd (pc' := 1404) (v := 1) kc_196_1403 rfl rfl ?_
          refine xi_ialoadO (pc' := 1405) (v := a1) kc_196_1404 rfl (by decide) hov0 (xi_in (n := 6) (by decide) (by decide)) rfl ?_
          refine xi_iff (pc' := 1408) kc_196_1405 rfl (xc_eq_f (X := a1.toInt) (Y := 0) rfl (by decide) (by omega)) ?_
          refine xi_iconst (pc' := 1409) (v := 1) kc_196_1408 rfl rfl ?_
          refine xi_goto (pc' := 1413) kc_196_1409 rfl ?_
          refine xi_aload_n (pc' := 1414) (x := 1000000) kc_196_1413 rfl rfl ?_
          refine xi_iload (pc' := 1416) (x := 0) kc_196_1414 rfl rfl ?_
          refine xi_iconst (pc' := 1417) (v := 2) kc_196_1416 rfl rfl ?_
          refine xi_iadd (pc' := 1418) (v := 2) kc_196_1417 rfl rfl ?_
          refine xi_ialoadO (pc' := 1419) (v := a2) kc_196_1418 rfl (by decide) hov0 (xi_in (n := 6) (by decide) (by decide)) rfl ?_
          refine xi_aload_n (pc' := 1420) (x := 1000000) kc_196_1419 rfl rfl ?_
          refine xi_iload (pc' := 1422) (x := 0) kc_196_1420 rfl rfl ?_
          refine xi_iconst (pc' := 1423) (v := 3) kc_196_1422 rfl rfl ?_
          refine xi_iadd (pc' := 1424) (v := 3) kc_196_1423 rfl rfl ?_
          refine xi_ialoadO (pc' := 1425) (v := a3) kc_196_1424 rfl (by decide) hov0 (xi_in (n := 6) (by decide) (by decide)) rfl ?_
          refine xi_iff (pc' := 1428) kc_196_1425 rfl (xc_eq_f (X := a3.toInt) (Y := 0) rfl (by decide) (by omega)) ?_
          refine xi_iconst (pc' := 1429) (v := 1) kc_196_1428 rfl rfl ?_
          refine xi_goto (pc' := 1433) kc_196_1429 rfl ?_
          refine xi_virtual (mj := 73) (as := [.int 1, .int a2, .int 1]) (st1 := [.int (-2)]) (lv0 := [(0, .ref 115), (1, .int 1), (2, .int a2), (3, .int 1)]) kc_196_1433 rfl rfl rfl rfl rfl ((eh1.2.1 115 (by decide)).trans (F 115 _ hl_115)) (Nat.le_of_ble_eq_true rfl) (hJ _ _ _ _ (by decide)) (xm_le ml_73 rfl) rfl ?_
          refine xi_aload_n (pc' := 1) (x := 115) kc_73_0 rfl rfl ?_
          refine xi_iconst (pc' := 2) (v := 0) kc_73_1 rfl rfl ?_
          refine xi_putfield (pc' := 5) (fs' := [.int 0, .int 0, .ref 116, .ref 117, .ref 118, .ref 119, .ref 120, .ref 121, .ref 122, .ref 123, .ref 124, .ref 125, .ref 126, .ref 127, .ref 128, .ref 129, .int 4, .ref 130, .int 0, .ref 131, .ref 132, .ref 133, .ref 134, .int 0, .ref 135, .ref 136, .ref 137, .ref 138, .ref 139, .ref 140, .ref 141, .ref 142, .int 0, .int 0, .int 0, .ref 143, .ref 144, .ref 145, .ref 146, .ref 147, .ref 148, .int 0, .ref 149, .ref 150, .ref 151, .int 0, .ref 152, .ref 153, .ref 154, .ref 155, .ref 156, .ref 157, .ref 158, .ref 159, .int 0, .ref 160, .int 0, .ref 161, .ref 162, .ref 163, .ref 164, .int 0, .ref 165, .ref 166]) kc_73_2 rfl rfl rfl ((eh1.2.1 115 (by decide)).trans (F 115 _ hl_115)) rfl rfl rfl (Nat.le_of_ble_eq_true rfl) rfl (fun hh2 eh2 => ?_)
          refine xi_iload_n (pc' := 6) (x := a2) kc_73_5 rfl rfl ?_
          refine xi_iconst (pc' := 7) (v := 0) kc_73_6 rfl rfl ?_
          refine xi_iconst (pc' := 8) (v := 3) kc_73_7 rfl rfl ?_
          refine xi_static (mj := 12) (as := [.int a2, .int 0, .int 3]) (st1 := []) (lv0 := [(0, .int a2), (1, .int 0), (2, .int 3)]) kc_73_8 rfl rfl (Nat.le_of_ble_eq_true rfl) rfl rfl (Nat.le_of_ble_eq_true rfl) (hJ _ _ _ _ (by decide)) (xm_le ml_12 rfl) rfl ?_
          refine xi_iload_n (pc' := 1) (x := a2) kc_12_0 rfl rfl ?_
          refine xi_iload_n (pc' := 2) (x := 0) kc_12_1 rfl rfl ?_
          refine xi_cmf (pc' := 5) kc_12_2 rfl (xc_lt_f (X := a2.toInt) (Y := 0) rfl (by decide) (by omega)) ?_
          refine xi_iload_n (pc' := 6) (x := a2) kc_12_5 rfl rfl ?_
          refine xi_iload_n (pc' := 7) (x := 3) kc_12_6 rfl rfl ?_
          refine xi_cmt (pc' := 14) kc_12_7 rfl (xc_gt_t (X := a2.toInt) (Y := 3) rfl (by decide) (by omega)) ?_
          refine xi_iconst (pc' := 15) (v := 0) kc_12_14 rfl rfl ?_
          refine xi_ireturn kc_12_15 mr_12 rfl ?_
          show xw J ov 99 73 (11, [(0, .ref 115), (1, .int 1), (2, .int a2), (3, .int 1)], [.int 0], hh2) _
          refine xi_iff (pc' := 14) kc_73_11 rfl rfl ?_
          refine xi_aload_n (pc' := 15) (x := 115) kc_73_14 rfl rfl ?_
          refine xi_bipush (pc' := 17) (v := (-2)) kc_73_15 rfl rfl ?_
          refine xi_virtual (mj := 13) (as := [.int (-2)]) (st1 := []) (lv0 := [(0, .ref 115), (1, .int (-2))]) kc_73_17 rfl rfl rfl rfl rfl eh2.1 (Nat.le_of_ble_eq_true rfl) (hJ _ _ _ _ (by decide)) (xm_le ml_13 rfl) rfl ?_
          refine xi_aload_n (pc' := 1) (x := 115) kc_13_0 rfl rfl ?_
          refine xi_getfield (pc' := 4) (v := .ref 140) kc_13_1 rfl rfl rfl eh2.1 rfl ?_
          refine xi_iload_n (pc' := 5) (x := (-2)) kc_13_4 rfl rfl ?_
          refine xi_ineg (pc' := 6) (v := 2) kc_13_5 rfl rfl ?_
          refine xi_dup2 (pc' := 7) kc_13_6 rfl ⟨rfl, rfl⟩ ?_
          refine xi_iaload (pc' := 8) (v := 0) kc_13_7 rfl ((eh2.2.1 140 (by decide)).trans ((eh1.2.1 140 (by decide)).trans (F 140 _ hl_140))) (by decide) rfl (xi_in (n := 7) (by decide) (by decide)) rfl ?_
          refine xi_iconst (pc' := 9) (v := 1) kc_13_8 rfl rfl ?_
          refine xi_iadd (pc' := 10) (v := 1) kc_13_9 rfl rfl ?_
          refine xi_iastore (pc' := 11) (x' := [0, 0, 1, 0, 0, 0, 0]) kc_13_10 rfl ((eh2.2.1 140 (by decide)).trans ((eh1.2.1 140 (by decide)).trans (F 140 _ hl_140))) rfl (xi_in (n := 7) (by decide) (by decide)) rfl (fun hh3 eh3 => ?_)
          refine xi_iload_n (pc' := 12) (x := (-2)) kc_13_11 rfl rfl ?_
          refine xi_ireturn kc_13_12 mr_13 rfl ?_
          show xw J ov 99 73 (20, [(0, .ref 115), (1, .int 1), (2, .int a2), (3, .int 1)], [.int (-2)], hh3) _
          refine xi_ireturn kc_73_20 mr_73 rfl ?_
          show xw J ov 100 196 (1436, [(4, .int 0), (3, .ref 167), (2, .ref 115), (1, .ref 0), (0, .ref 1000000)], [.int (-2), .int (-2)], hh3) _
          refine xi_cmt (pc' := 1528) kc_196_1436 rfl rfl ?_
          refine xi_iinc (pc' := 1531) (x := 0) (v := 6) (lv' := [(4, .int 6), (3, .ref 167), (2, .ref 115), (1, .ref 0), (0, .ref 1000000)]) kc_196_1528 rfl rfl rfl rfl (xm_lt ml_196 rfl) ?_
          refine xi_goto (pc' := 23) kc_196_1531 rfl ?_
          refine xi_iload (pc' := 25) (x := 6) kc_196_23 rfl rfl ?_
          refine xi_aload_n (pc' := 26) (x := 1000000) kc_196_25 rfl rfl ?_
          refine xi_arraylength (pc' := 27) (n := 6) (v := 6) kc_196_26 rfl (xl_lenO (by decide) hov0 rfl) rfl ?_
          refine xi_bipush (pc' := 29) (v := 6) kc_196_27 rfl rfl ?_
          refine xi_isub (pc' := 30) (v := 0) kc_196_29 rfl rfl ?_
          refine xi_cmt (pc' := 1534) kc_196_30 rfl rfl ?_
          refine xi_iconst (pc' := 1535) (v := 1) kc_196_1534 rfl rfl ?_
          refine xi_ireturn kc_196_1535 mr_196 rfl ?_
          refine ⟨rfl, ?_, ?_⟩
          · rw [eh3.2.2.1, eh2.2.2.1, eh1.2.2.1]; exact hn0
          · rw [eh3.2.2.2, eh2.2.2.2, eh1.2.2.2]; exact hz0
        · refine xi_cmf (pc' := 9) kc_118_6 rfl (xc_ge_f (X := a2.toInt) (Y := 4) rfl (by decide) (by omega)) ?_
          refine xi_iconst (pc' := 10) (v := 1) kc_118_9 rfl rfl ?_
          refine xi_goto (pc' := 14) kc_118_10 rfl ?_
          refine xi_ireturn kc_118_14 mr_118 rfl ?_
          show xw J ov 99 181 (4, [(0, .ref 0), (1, .int 1), (2, .int a2), (3, .int 1)], [.int 1], h0) _
          refine xi_ift (pc' := 14) kc_181_4 rfl rfl ?_
          refine xi_aload_n (pc' := 15) (x := 0) kc_181_14 rfl rfl ?_
          refine xi_getfield (pc' := 18) (v := .ref 85) kc_181_15 rfl rfl rfl (F 0 _ hl_0) rfl ?_
          refine xi_iload_n (pc' := 19) (x := 1) kc_181_18 rfl rfl ?_
          refine xi_iload_n (pc' := 20) (x := a2) kc_181_19 rfl rfl ?_
          refine xi_iload_n (pc' := 21) (x := 1) kc_181_20 rfl rfl ?_
          refine xi_aload_n (pc' := 22) (x := 0) kc_181_21 rfl rfl ?_
          refine xi_getfield (pc' := 25) (v := .int 0) kc_181_22 rfl rfl rfl (F 0 _ hl_0) rfl ?_
          refine xi_virtual (mj := 182) (as := [.int 1, .int a2, .int 1, .int 0]) (st1 := []) (lv0 := [(0, .ref 85), (1, .int 1), (2, .int a2), (3, .int 1), (4, .int 0)]) kc_181_25 rfl rfl rfl rfl rfl (F 85 _ hl_85) (Nat.le_of_ble_eq_true rfl) (hJ _ _ _ _ (by decide)) (xm_le ml_182 rfl) rfl ?_
          refine xi_iload_n (pc' := 1) (x := a2) kc_182_0 rfl rfl ?_
          refine xi_static (mj := 118) (as := [.int a2]) (st1 := []) (lv0 := [(0, .int a2)]) kc_182_1 rfl rfl (Nat.le_of_ble_eq_true rfl) rfl rfl (Nat.le_of_ble_eq_true rfl) (hJ _ _ _ _ (by decide)) (xm_le ml_118 rfl) rfl ?_
          refine xi_iload_n (pc' := 1) (x := a2) kc_118_0 rfl rfl ?_
          refine xi_iff (pc' := 4) kc_118_1 rfl (xc_lt_f (X := a2.toInt) (Y := 0) rfl (by decide) (by omega)) ?_
          refine xi_iload_n (pc' := 5) (x := a2) kc_118_4 rfl rfl ?_
          refine xi_iconst (pc' := 6) (v := 4) kc_118_5 rfl rfl ?_
          refine xi_cmf (pc' := 9) kc_118_6 rfl (xc_ge_f (X := a2.toInt) (Y := 4) rfl (by decide) (by omega)) ?_
          refine xi_iconst (pc' := 10) (v := 1) kc_118_9 rfl rfl ?_
          refine xi_goto (pc' := 14) kc_118_10 rfl ?_
          refine xi_ireturn kc_118_14 mr_118 rfl ?_
          show xw J ov 98 182 (4, [(0, .ref 85), (1, .int 1), (2, .int a2), (3, .int 1), (4, .int 0)], [.int 1], h0) _
          refine xi_ift (pc' := 8) kc_182_4 rfl rfl ?_
          refine xi_iload_n (pc' := 9) (x := 1) kc_182_8 rfl rfl ?_
          refine xi_iff (pc' := 12) kc_182_9 rfl rfl ?_
          refine xi_aload_n (pc' := 13) (x := 85) kc_182_12 rfl rfl ?_
          refine xi_getfield (pc' := 16) (v := .ref 91) kc_182_13 rfl rfl rfl (F 85 _ hl_85) rfl ?_
          refine xi_goto (pc' := 23) kc_182_16 rfl ?_
          refine xi_astore (pc' := 25) (lv' := [(5, .ref 91), (0, .ref 85), (1, .int 1), (2, .int a2), (3, .int 1), (4, .int 0)]) kc_182_23 rfl rfl (xm_lt ml_182 rfl) ?_
          refine xi_aload (pc' := 27) (x := 91) kc_182_25 rfl rfl ?_
          refine xi_iload_n (pc' := 28) (x := a2) kc_182_27 rfl rfl ?_
          refine xi_iload_n (pc' := 29) (x := 1) kc_182_28 rfl rfl ?_
          refine xi_iff (pc' := 32) kc_182_29 rfl rfl ?_
          refine xi_iconst (pc' := 33) (v := 1) kc_182_32 rfl rfl ?_
          refine xi_goto (pc' := 37) kc_182_33 rfl ?_
          have lq39 : (List.replicate 4 0 : List Int32).length = 4 := by simp only [List.length_replicate, List.length_cons, List.length_nil, List.length_set]
          obtain ⟨x38, hx38⟩ : ∃ q, (List.replicate 4 0 : List Int32).set (Int32.toNatClampNeg a2) (1) = q := ⟨_, rfl⟩
          have lx38 : x38.length = 4 := by rw [← hx38, List.length_set]; exact lq39
          refine xi_iastore (pc' := 38) (x' := x38) kc_182_37 rfl (F 91 _ hl_91) rfl (xi_in (by omega) (by rw [lq39]; omega)) hx38 (fun hh1 eh1 => ?_)
          refine xi_iload_n (pc' := 39) (x := 1) kc_182_38 rfl rfl ?_
          refine xi_iff (pc' := 42) kc_182_39 rfl rfl ?_
          refine xi_aload_n (pc' := 43) (x := 85) kc_182_42 rfl rfl ?_
          refine xi_getfield (pc' := 46) (v := .ref 92) kc_182_43 rfl rfl rfl ((eh1.2.1 85 (by decide)).trans (F 85 _ hl_85)) rfl ?_
          refine xi_iload_n (pc' := 47) (x := a2) kc_182_46 rfl rfl ?_
          refine xi_iload (pc' := 49) (x := 0) kc_182_47 rfl rfl ?_
          have lq41 : (List.replicate 4 (-9) : List Int32).length = 4 := by simp only [List.length_replicate, List.length_cons, List.length_nil, List.length_set]
          obtain ⟨x40, hx40⟩ : ∃ q, (List.replicate 4 (-9) : List Int32).set (Int32.toNatClampNeg a2) (0) = q := ⟨_, rfl⟩
          have lx40 : x40.length = 4 := by rw [← hx40, List.length_set]; exact lq41
          refine xi_iastore (pc' := 50) (x' := x40) kc_182_49 rfl ((eh1.2.1 92 (by decide)).trans (F 92 _ hl_92)) rfl (xi_in (by omega) (by rw [lq41]; omega)) hx40 (fun hh2 eh2 => ?_)
          refine xi_return kc_182_50 mr_182 ?_
          show xw J ov 99 181 (28, [(0, .ref 0), (1, .int 1), (2, .int a2), (3, .int 1)], [], hh2) _
          refine xi_iconst (pc' := 29) (v := 1) kc_181_28 rfl rfl ?_
          refine xi_ireturn kc_181_29 mr_181 rfl ?_
          show xw J ov 100 196 (1398, [(4, .int 0), (3, .ref 167), (2, .ref 115), (1, .ref 0), (0, .ref 1000000)], [.int 1], hh2) _
          refine xi_aload_n (pc' := 1399) (x := 115) kc_196_1398 rfl rfl ?_
          refine xi_aload_n (pc' := 1400) (x := 1000000) kc_196_1399 rfl rfl ?_
          refine xi_iload (pc' := 1402) (x := 0) kc_196_1400 rfl rfl ?_
          refine xi_iconst (pc' := 1403) (v := 1) kc_196_1402 rfl rfl ?_
          refine xi_iadd (pc' := 1404) (v := 1) kc_196_1403 rfl rfl ?_
          refine xi_ialoadO (pc' := 1405) (v := a1) kc_196_1404 rfl (by decide) hov0 (xi_in (n := 6) (by decide) (by decide)) rfl ?_
          refine xi_iff (pc' := 1408) kc_196_1405 rfl (xc_eq_f (X := a1.toInt) (Y := 0) rfl (by decide) (by omega)) ?_
          refine xi_iconst (pc' := 1409) (v := 1) kc_196_1408 rfl rfl ?_
          refine xi_goto (pc' := 1413) kc_196_1409 rfl ?_
          refine xi_aload_n (pc' := 1414) (x := 1000000) kc_196_1413 rfl rfl ?_
          refine xi_iload (pc' := 1416) (x := 0) kc_196_1414 rfl rfl ?_
          refine xi_iconst (pc' := 1417) (v := 2) kc_196_1416 rfl rfl ?_
          refine xi_iadd (pc' := 1418) (v := 2) kc_196_1417 rfl rfl ?_
          refine xi_ialoadO (pc' := 1419) (v := a2) kc_196_1418 rfl (by decide) hov0 (xi_in (n := 6) (by decide) (by decide)) rfl ?_
          refine xi_aload_n (pc' := 1420) (x := 1000000) kc_196_1419 rfl rfl ?_
          refine xi_iload (pc' := 1422) (x := 0) kc_196_1420 rfl rfl ?_
          refine xi_iconst (pc' := 1423) (v := 3) kc_196_1422 rfl rfl ?_
          refine xi_iadd (pc' := 1424) (v := 3) kc_196_1423 rfl rfl ?_
          refine xi_ialoadO (pc' := 1425) (v := a3) kc_196_1424 rfl (by decide) hov0 (xi_in (n := 6) (by decide) (by decide)) rfl ?_
          refine xi_iff (pc' := 1428) kc_196_1425 rfl (xc_eq_f (X := a3.toInt) (Y := 0) rfl (by decide) (by omega)) ?_
          refine xi_iconst (pc' := 1429) (v := 1) kc_196_1428 rfl rfl ?_
          refine xi_goto (pc' := 1433) kc_196_1429 rfl ?_
          refine xi_virtual (mj := 73) (as := [.int 1, .int a2, .int 1]) (st1 := [.int 1]) (lv0 := [(0, .ref 115), (1, .int 1), (2, .int a2), (3, .int 1)]) kc_196_1433 rfl rfl rfl rfl rfl ((eh2.2.1 115 (by decide)).trans ((eh1.2.1 115 (by decide)).trans (F 115 _ hl_115))) (Nat.le_of_ble_eq_true rfl) (hJ _ _ _ _ (by decide)) (xm_le ml_73 rfl) rfl ?_
          refine xi_aload_n (pc' := 1) (x := 115) kc_73_0 rfl rfl ?_
          refine xi_iconst (pc' := 2) (v := 0) kc_73_1 rfl rfl ?_
          refine xi_putfield (pc' := 5) (fs' := [.int 0, .int 0, .ref 116, .ref 117, .ref 118, .ref 119, .ref 120, .ref 121, .ref 122, .ref 123, .ref 124, .ref 125, .ref 126, .ref 127, .ref 128, .ref 129, .int 4, .ref 130, .int 0, .ref 131, .ref 132, .ref 133, .ref 134, .int 0, .ref 135, .ref 136, .ref 137, .ref 138, .ref 139, .ref 140, .ref 141, .ref 142, .int 0, .int 0, .int 0, .ref 143, .ref 144, .ref 145, .ref 146, .ref 147, .ref 148, .int 0, .ref 149, .ref 150, .ref 151, .int 0, .ref 152, .ref 153, .ref 154, .ref 155, .ref 156, .ref 157, .ref 158, .ref 159, .int 0, .ref 160, .int 0, .ref 161, .ref 162, .ref 163, .ref 164, .int 0, .ref 165, .ref 166]) kc_73_2 rfl rfl rfl ((eh2.2.1 115 (by decide)).trans ((eh1.2.1 115 (by decide)).trans (F 115 _ hl_115))) rfl rfl rfl (Nat.le_of_ble_eq_true rfl) rfl (fun hh3 eh3 => ?_)
          refine xi_iload_n (pc' := 6) (x := a2) kc_73_5 rfl rfl ?_
          refine xi_iconst (pc' := 7) (v := 0) kc_73_6 rfl rfl ?_
          refine xi_iconst (pc' := 8) (v := 3) kc_73_7 rfl rfl ?_
          refine xi_static (mj := 12) (as := [.int a2, .int 0, .int 3]) (st1 := []) (lv0 := [(0, .int a2), (1, .int 0), (2, .int 3)]) kc_73_8 rfl rfl (Nat.le_of_ble_eq_true rfl) rfl rfl (Nat.le_of_ble_eq_true rfl) (hJ _ _ _ _ (by decide)) (xm_le ml_12 rfl) rfl ?_
          refine xi_iload_n (pc' := 1) (x := a2) kc_12_0 rfl rfl ?_
          refine xi_iload_n (pc' := 2) (x := 0) kc_12_1 rfl rfl ?_
          refine xi_cmf (pc' := 5) kc_12_2 rfl (xc_lt_f (X := a2.toInt) (Y := 0) rfl (by decide) (by omega)) ?_
          refine xi_iload_n (pc' := 6) (x := a2) kc_12_5 rfl rfl ?_
          refine xi_iload_n (pc' := 7) (x := 3) kc_12_6 rfl rfl ?_
          refine xi_cmf (pc' := 10) kc_12_7 rfl (xc_gt_f (X := a2.toInt) (Y := 3) rfl (by decide) (by omega)) ?_
          refine xi_iconst (pc' := 11) (v := 1) kc_12_10 rfl rfl ?_
          refine xi_goto (pc' := 15) kc_12_11 rfl ?_
          refine xi_ireturn kc_12_15 mr_12 rfl ?_
          show xw J ov 99 73 (11, [(0, .ref 115), (1, .int 1), (2, .int a2), (3, .int 1)], [.int 1], hh3) _
          refine xi_ift (pc' := 21) kc_73_11 rfl rfl ?_
          refine xi_aload_n (pc' := 22) (x := 115) kc_73_21 rfl rfl ?_
          refine xi_getfield (pc' := 25) (v := .ref 165) kc_73_22 rfl rfl rfl eh3.1 rfl ?_
          refine xi_iconst (pc' := 26) (v := 2) kc_73_25 rfl rfl ?_
          refine xi_iload_n (pc' := 27) (x := a2) kc_73_26 rfl rfl ?_
          obtain ⟨v42, ev42⟩ : ∃ q : Int32, 2 * a2 = q := ⟨_, rfl⟩
          have zv42 : v42.toInt = (2) * a2.toInt := by rw [← ev42]; exact (xz_mul (X := 2) (Y := a2.toInt) (by decide) rfl (by omega) (by omega)).trans (by omega)
          refine xi_imul (pc' := 28) (v := v42) kc_73_27 rfl ev42 ?_
          refine xi_iload_n (pc' := 29) (x := 1) kc_73_28 rfl rfl ?_
          refine xi_iff (pc' := 32) kc_73_29 rfl rfl ?_
          refine xi_iconst (pc' := 33) (v := 1) kc_73_32 rfl rfl ?_
          refine xi_goto (pc' := 37) kc_73_33 rfl ?_
          obtain ⟨v43, ev43⟩ : ∃ q : Int32, v42 + 1 = q := ⟨_, rfl⟩
          have zv43 : v43.toInt = ((2) * a2.toInt + 1) := by rw [← ev43]; exact (xz_add (X := (2) * a2.toInt) (Y := 1) zv42 (by decide) (by omega) (by omega)).trans (by omega)
          refine xi_iadd (pc' := 38) (v := v43) kc_73_37 rfl ev43 ?_
          refine xi_iload_n (pc' := 39) (x := 1) kc_73_38 rfl rfl ?_
          refine xi_iff (pc' := 42) kc_73_39 rfl rfl ?_
          refine xi_iconst (pc' := 43) (v := 1) kc_73_42 rfl rfl ?_
          refine xi_goto (pc' := 47) kc_73_43 rfl ?_
          have lq45 : (List.replicate 8 (-1) : List Int32).length = 8 := by simp only [List.length_replicate, List.length_cons, List.length_nil, List.length_set]
          obtain ⟨x44, hx44⟩ : ∃ q, (List.replicate 8 (-1) : List Int32).set (Int32.toNatClampNeg v43) (1) = q := ⟨_, rfl⟩
          have lx44 : x44.length = 8 := by rw [← hx44, List.length_set]; exact lq45
          refine xi_iastore (pc' := 48) (x' := x44) kc_73_47 rfl ((eh3.2.1 165 (by decide)).trans ((eh2.2.1 165 (by decide)).trans ((eh1.2.1 165 (by decide)).trans (F 165 _ hl_165)))) rfl (xi_in (by rw [zv43]; omega) (by rw [lq45]; rw [zv43]; omega)) hx44 (fun hh4 eh4 => ?_)
          refine xi_aload_n (pc' := 49) (x := 115) kc_73_48 rfl rfl ?_
          refine xi_getfield (pc' := 52) (v := .ref 166) kc_73_49 rfl rfl rfl ((eh4.2.1 115 (by decide)).trans eh3.1) rfl ?_
          refine xi_iload_n (pc' := 53) (x := a2) kc_73_52 rfl rfl ?_
          refine xi_iload_n (pc' := 54) (x := 1) kc_73_53 rfl rfl ?_
          refine xi_iff (pc' := 57) kc_73_54 rfl rfl ?_
          refine xi_aload_n (pc' := 58) (x := 115) kc_73_57 rfl rfl ?_
          refine xi_getfield (pc' := 61) (v := .int 0) kc_73_58 rfl rfl rfl ((eh4.2.1 115 (by decide)).trans eh3.1) rfl ?_
          refine xi_goto (pc' := 70) kc_73_61 rfl ?_
          have lq47 : (List.replicate 4 (-1) : List Int32).length = 4 := by simp only [List.length_replicate, List.length_cons, List.length_nil, List.length_set]
          obtain ⟨x46, hx46⟩ : ∃ q, (List.replicate 4 (-1) : List Int32).set (Int32.toNatClampNeg a2) (0) = q := ⟨_, rfl⟩
          have lx46 : x46.length = 4 := by rw [← hx46, List.length_set]; exact lq47
          refine xi_iastore (pc' := 71) (x' := x46) kc_73_70 rfl ((eh4.2.1 166 (by decide)).trans ((eh3.2.1 166 (by decide)).trans ((eh2.2.1 166 (by decide)).trans ((eh1.2.1 166 (by decide)).trans (F 166 _ hl_166))))) rfl (xi_in (by omega) (by rw [lq47]; omega)) hx46 (fun hh5 eh5 => ?_)
          refine xi_iconst (pc' := 72) (v := 1) kc_73_71 rfl rfl ?_
          refine xi_ireturn kc_73_72 mr_73 rfl ?_
          show xw J ov 100 196 (1436, [(4, .int 0), (3, .ref 167), (2, .ref 115), (1, .ref 0), (0, .ref 1000000)], [.int 1, .int 1], hh5) _
          refine xi_cmt (pc' := 1528) kc_196_1436 rfl rfl ?_
          refine xi_iinc (pc' := 1531) (x := 0) (v := 6) (lv' := [(4, .int 6), (3, .ref 167), (2, .ref 115), (1, .ref 0), (0, .ref 1000000)]) kc_196_1528 rfl rfl rfl rfl (xm_lt ml_196 rfl) ?_
          refine xi_goto (pc' := 23) kc_196_1531 rfl ?_
          refine xi_iload (pc' := 25) (x := 6) kc_196_23 rfl rfl ?_
          refine xi_aload_n (pc' := 26) (x := 1000000) kc_196_25 rfl rfl ?_
          refine xi_arraylength (pc' := 27) (n := 6) (v := 6) kc_196_26 rfl (xl_lenO (by decide) hov0 rfl) rfl ?_
          refine xi_bipush (pc' := 29) (v := 6) kc_196_27 rfl rfl ?_
          refine xi_isub (pc' := 30) (v := 0) kc_196_29 rfl rfl ?_
          refine xi_cmt (pc' := 1534) kc_196_30 rfl rfl ?_
          refine xi_iconst (pc' := 1535) (v := 1) kc_196_1534 rfl rfl ?_
          refine xi_ireturn kc_196_1535 mr_196 rfl ?_
          refine ⟨rfl, ?_, ?_⟩
          · rw [eh5.2.2.1, eh4.2.2.1, eh3.2.2.1, eh2.2.2.1, eh1.2.2.1]; exact hn0
          · rw [eh5.2.2.2, eh4.2.2.2, eh3.2.2.2, eh2.2.2.2, eh1.2.2.2]; exact hz0
