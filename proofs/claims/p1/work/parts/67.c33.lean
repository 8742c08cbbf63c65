set_option maxHeartbeats 8000000 in
theorem lc_33 {J : xe_J} {ov : List (List Int32)} (hJ : ∀ d mj as h, mj ≠ xe_loff → J d mj as h = none) {a0 a1 a2 a3 a4 a5 : Int32} (hov0 : ov[0]? = some [a0, a1, a2, a3, a4, a5]) (hov1 : ov[1]? = some [10, 0, 0, 0, 0, 0]) (hov2 : ov[2]? = some [99, 30, 50, 50, 1, 99999]) {h0 : xe_H} (F : xf_fr h0) (hn0 : h0.length ≤ 600002) (hz0 : xe_sz h0 ≤ 7302232) : xw J ov 100 196 (1503, [(4, .int 0), (3, .ref 167), (2, .ref 115), (1, .ref 0), (0, .ref 1000000)], [], h0) xf_Q := by
  have rr1 := xc_rng a1
  have rr2 := xc_rng a2
  have rr3 := xc_rng a3
  have rr4 := xc_rng a4
  have rr5 := xc_rng a5
  refine xi_aload_n (pc' := 1504) (x := 0) kc_196_1503 rfl rfl ?_
  refine xi_aload_n (pc' := 1505) (x := 1000000) kc_196_1504 rfl rfl ?_
  refine xi_iload (pc' := 1507) (x := 0) kc_196_1505 rfl rfl ?_
  refine xi_iconst (pc' := 1508) (v := 1) kc_196_1507 rfl rfl ?_
  refine xi_iadd (pc' := 1509) (v := 1) kc_196_1508 rfl rfl ?_
  refine xi_ialoadO (pc' := 1510) (v := a1) kc_196_1509 rfl (by decide) hov0 (xi_in (n := 6) (by decide) (by decide)) rfl ?_
  refine xi_virtual (mj := 191) (as := [.int a1]) (st1 := []) (lv0 := [(0, .ref 0), (1, .int a1)]) kc_196_1510 rfl rfl rfl rfl rfl (F 0 _ hl_0) (Nat.le_of_ble_eq_true rfl) (hJ _ _ _ _ (by decide)) (xm_le ml_191 rfl) rfl ?_
  refine xi_iload_n (pc' := 1) (x := a1) kc_191_0 rfl rfl ?_
  by_cases c1 : a1.toInt = 0
  · refine xi_tsi (pc' := 56) (z := 0) kc_191_1 (by omega) rfl (by decide) ?_
    refine xi_aload_n (pc' := 57) (x := 0) kc_191_56 rfl rfl ?_
    refine xi_getfield (pc' := 60) (v := .int 0) kc_191_57 rfl rfl rfl (F 0 _ hl_0) rfl ?_
    refine xi_ireturn kc_191_60 mr_191 rfl ?_
    show xw J ov 100 196 (1513, [(4, .int 0), (3, .ref 167), (2, .ref 115), (1, .ref 0), (0, .ref 1000000)], [.int 0], h0) _
    refine xi_aload_n (pc' := 1514) (x := 115) kc_196_1513 rfl rfl ?_
    refine xi_aload_n (pc' := 1515) (x := 1000000) kc_196_1514 rfl rfl ?_
    refine xi_iload (pc' := 1517) (x := 0) kc_196_1515 rfl rfl ?_
    refine xi_iconst (pc' := 1518) (v := 1) kc_196_1517 rfl rfl ?_
    refine xi_iadd (pc' := 1519) (v := 1) kc_196_1518 rfl rfl ?_
    refine xi_ialoadO (pc' := 1520) (v := a1) kc_196_1519 rfl (by decide) hov0 (xi_in (n := 6) (by decide) (by decide)) rfl ?_
    refine xi_virtual (mj := 76) (as := [.int a1]) (st1 := [.int 0]) (lv0 := [(0, .ref 115), (1, .int a1)]) kc_196_1520 rfl rfl rfl rfl rfl (F 115 _ hl_115) (Nat.le_of_ble_eq_true rfl) (hJ _ _ _ _ (by decide)) (xm_le ml_76 rfl) rfl ?_
    refine xi_aload_n (pc' := 1) (x := 115) kc_76_0 rfl rfl ?_
    refine xi_iconst (pc' := 2) (v := 0) kc_76_1 rfl rfl ?_
    refine xi_putfield (pc' := 5) (fs' := [.int 0, .int 0, .ref 116, .ref 117, .ref 118, .ref 119, .ref 120, .ref 121, .ref 122, .ref 123, .ref 124, .ref 125, .ref 126, .ref 127, .ref 128, .ref 129, .int 4, .ref 130, .int 0, .ref 131, .ref 132, .ref 133, .ref 134, .int 0, .ref 135, .ref 136, .ref 137, .ref 138, .ref 139, .ref 140, .ref 141, .ref 142, .int 0, .int 0, .int 0, .ref 143, .ref 144, .ref 145, .ref 146, .ref 147, .ref 148, .int 0, .ref 149, .ref 150, .ref 151, .int 0, .ref 152, .ref 153, .ref 154, .ref 155, .ref 156, .ref 157, .ref 158, .ref 159, .int 0, .ref 160, .int 0, .ref 161, .ref 162, .ref 163, .ref 164, .int 0, .ref 165, .ref 166]) kc_76_2 rfl rfl rfl (F 115 _ hl_115) rfl rfl rfl (Nat.le_of_ble_eq_true rfl) rfl (fun hh1 eh1 => ?_)
    refine xi_iconst (pc' := 6) (v := 0) kc_76_5 rfl rfl ?_
    refine xi_istore_n (pc' := 7) (lv' := [(2, .int 0), (0, .ref 115), (1, .int a1)]) kc_76_6 rfl rfl (xm_lt ml_76 rfl) ?_
    refine xi_iload_n (pc' := 8) (x := a1) kc_76_7 rfl rfl ?_
    refine xi_tsi (pc' := 64) (z := 0) kc_76_8 (by omega) rfl (by decide) ?_
    refine xi_aload_n (pc' := 65) (x := 115) kc_76_64 rfl rfl ?_
    refine xi_getfield (pc' := 68) (v := .int 0) kc_76_65 rfl rfl rfl eh1.1 rfl ?_
    refine xi_ireturn kc_76_68 mr_76 rfl ?_
    show xw J ov 100 196 (1523, [(4, .int 0), (3, .ref 167), (2, .ref 115), (1, .ref 0), (0, .ref 1000000)], [.int 0, .int 0], hh1) _
    refine xi_cmt (pc' := 1528) kc_196_1523 rfl rfl ?_
    refine xi_iinc (pc' := 1531) (x := 0) (v := 6) (lv' := [(4, .int 6), (3, .ref 167), (2, .ref 115), (1, .ref 0), (0, .ref 1000000)]) kc_196_1528 rfl rfl rfl rfl (xm_lt ml_196 rfl) ?_
    refine xi_goto (pc' := 23) kc_196_1531 rfl ?_
    refine xi_iload (pc' := 25) (x := 6) kc_196_23 rfl rfl ?_
    refine xi_aload_n (pc' := 26) (x := 1000000) kc_196_25 rfl rfl ?_
    refine xi_arraylength (pc' := 27) (n := 6) (v := 6) kc_196_26 rfl (xl_lenO (by decide) hov0 rfl) rfl ?_
    refine xi_bipush (pc' := 29) (v := 6) kc_196_27 rfl rfl ?_
    refine xi_isub (pc' := 30) (v := 0) kc_196_29 rfl rfl ?_
    refine xi_cmt (pc' := 1534) kc_196_30 rfl rfl ?_
    refine xi_iconst (pc' := 1535) (v := 1) kc_196_1534 rfl rfl ?_
    refine xi_ireturn kc_196_1535 mr_196 rfl ?_
    refine ⟨rfl, ?_, ?_⟩
    · rw [eh1.2.2.1]; exact hn0
    · rw [eh1.2.2.2]; exact hz0
  by_cases c2 : a1.toInt = 1
  · refine xi_tsi (pc' := 61) (z := 1) kc_191_1 (by omega) rfl (by decide) ?_
    refine xi_aload_n (pc' := 62) (x := 0) kc_191_61 rfl rfl ?_
    refine xi_getfield (pc' := 65) (v := .ref 1) kc_191_62 rfl rfl rfl (F 0 _ hl_0) rfl ?_
    refine xi_virtual (mj := 192) (as := []) (st1 := []) (lv0 := [(0, .ref 1)]) kc_191_65 rfl rfl rfl rfl rfl (F 1 _ hl_1) (Nat.le_of_ble_eq_true rfl) (hJ _ _ _ _ (by decide)) (xm_le ml_192 rfl) rfl ?_
    refine xi_iconst (pc' := 1) (v := 0) kc_192_0 rfl rfl ?_
    refine xi_istore_n (pc' := 2) (lv' := [(1, .int 0), (0, .ref 1)]) kc_192_1 rfl rfl (xm_lt ml_192 rfl) ?_
    refine xi_iconst (pc' := 3) (v := 0) kc_192_2 rfl rfl ?_
    refine xi_istore_n (pc' := 4) (lv' := [(2, .int 0), (1, .int 0), (0, .ref 1)]) kc_192_3 rfl rfl (xm_lt ml_192 rfl) ?_
    refine xi_iload_n (pc' := 5) (x := 0) kc_192_4 rfl rfl ?_
    refine xi_bipush (pc' := 7) (v := 12) kc_192_5 rfl rfl ?_
    refine xi_cmf (pc' := 10) kc_192_7 rfl rfl ?_
    refine xi_iload_n (pc' := 11) (x := 0) kc_192_10 rfl rfl ?_
    refine xi_aload_n (pc' := 12) (x := 1) kc_192_11 rfl rfl ?_
    refine xi_getfield (pc' := 15) (v := .ref 3) kc_192_12 rfl rfl rfl (F 1 _ hl_1) rfl ?_
    refine xi_iload_n (pc' := 16) (x := 0) kc_192_15 rfl rfl ?_
    refine xi_aaload (pc' := 17) (b := 29) kc_192_16 rfl (F 3 _ hl_3) rfl (xi_in (n := 12) (by decide) (by decide)) rfl ?_
    refine xi_virtual (mj := 106) (as := []) (st1 := [.int 0]) (lv0 := [(0, .ref 29)]) kc_192_17 rfl rfl rfl rfl rfl (F 29 _ hl_29) (Nat.le_of_ble_eq_true rfl) (hJ _ _ _ _ (by decide)) (xm_le ml_106 rfl) rfl ?_
    refine xi_aload_n (pc' := 1) (x := 29) kc_106_0 rfl rfl ?_
    refine xi_getfield (pc' := 4) (v := .int (-9)) kc_106_1 rfl rfl rfl (F 29 _ hl_29) rfl ?_
    refine xi_static (mj := 90) (as := [.int (-9)]) (st1 := []) (lv0 := [(0, .int (-9))]) kc_106_4 rfl rfl (Nat.le_of_ble_eq_true rfl) rfl rfl (Nat.le_of_ble_eq_true rfl) (hJ _ _ _ _ (by decide)) (xm_le ml_90 rfl) rfl ?_
    refine xi_iload_n (pc' := 1) (x := (-9)) kc_90_0 rfl rfl ?_
    refine xi_ift (pc' := 14) kc_90_1 rfl rfl ?_
    refine xi_iconst (pc' := 15) (v := 0) kc_90_14 rfl rfl ?_
    refine xi_ireturn kc_90_15 mr_90 rfl ?_
    show xw J ov 97 106 (7, [(0, .ref 29)], [.int 0], h0) _
    refine xi_ireturn kc_106_7 mr_106 rfl ?_
    show xw J ov 98 192 (20, [(2, .int 0), (1, .int 0), (0, .ref 1)], [.int 0, .int 0], h0) _
    refine xi_ift (pc' := 27) kc_192_20 rfl rfl ?_
    refine xi_iconst (pc' := 28) (v := 0) kc_192_27 rfl rfl ?_
    refine xi_iadd (pc' := 29) (v := 0) kc_192_28 rfl rfl ?_
    refine xi_istore_n (pc' := 30) (lv' := [(1, .int 0), (2, .int 0), (0, .ref 1)]) kc_192_29 rfl rfl (xm_lt ml_192 rfl) ?_
    refine xi_iinc (pc' := 33) (x := 0) (v := 1) (lv' := [(2, .int 1), (1, .int 0), (0, .ref 1)]) kc_192_30 rfl rfl rfl rfl (xm_lt ml_192 rfl) ?_
    refine xi_goto (pc' := 4) kc_192_33 rfl ?_
    refine xi_iload_n (pc' := 5) (x := 1) kc_192_4 rfl rfl ?_
    refine xi_bipush (pc' := 7) (v := 12) kc_192_5 rfl rfl ?_
    refine xi_cmf (pc' := 10) kc_192_7 rfl rfl ?_
    refine xi_iload_n (pc' := 11) (x := 0) kc_192_10 rfl rfl ?_
    refine xi_aload_n (pc' := 12) (x := 1) kc_192_11 rfl rfl ?_
    refine xi_getfield (pc' := 15) (v := .ref 3) kc_192_12 rfl rfl rfl (F 1 _ hl_1) rfl ?_
    refine xi_iload_n (pc' := 16) (x := 1) kc_192_15 rfl rfl ?_
    refine xi_aaload (pc' := 17) (b := 31) kc_192_16 rfl (F 3 _ hl_3) rfl (xi_in (n := 12) (by decide) (by decide)) rfl ?_
    refine xi_virtual (mj := 106) (as := []) (st1 := [.int 0]) (lv0 := [(0, .ref 31)]) kc_192_17 rfl rfl rfl rfl rfl (F 31 _ hl_31) (Nat.le_of_ble_eq_true rfl) (hJ _ _ _ _ (by decide)) (xm_le ml_106 rfl) rfl ?_
    refine xi_aload_n (pc' := 1) (x := 31) kc_106_0 rfl rfl ?_
    refine xi_getfield (pc' := 4) (v := .int (-9)) kc_106_1 rfl rfl rfl (F 31 _ hl_31) rfl ?_
    refine xi_static (mj := 90) (as := [.int (-9)]) (st1 := []) (lv0 := [(0, .int (-9))]) kc_106_4 rfl rfl (Nat.le_of_ble_eq_true rfl) rfl rfl (Nat.le_of_ble_eq_true rfl) (hJ _ _ _ _ (by decide)) (xm_le ml_90 rfl) rfl ?_
    refine xi_iload_n (pc' := 1) (x := (-9)) kc_90_0 rfl rfl ?_
    refine xi_ift (pc' := 14) kc_90_1 rfl rfl ?_
    refine xi_iconst (pc' := 15) (v := 0) kc_90_14 rfl rfl ?_
    refine xi_ireturn kc_90_15 mr_90 rfl ?_
    show xw J ov 97 106 (7, [(0, .ref 31)], [.int 0], h0) _
    refine xi_ireturn kc_106_7 mr_106 rfl ?_
    show xw J ov 98 192 (20, [(2, .int 1), (1, .int 0), (0, .ref 1)], [.int 0, .int 0], h0) _
    refine xi_ift (pc' := 27) kc_192_20 rfl rfl ?_
    refine xi_iconst (pc' := 28) (v := 0) kc_192_27 rfl rfl ?_
    refine xi_iadd (pc' := 29) (v := 0) kc_192_28 rfl rfl ?_
    refine xi_istore_n (pc' := 30) (lv' := [(1, .int 0), (2, .int 1), (0, .ref 1)]) kc_192_29 rfl rfl (xm_lt ml_192 rfl) ?_
    refine xi_iinc (pc' := 33) (x := 1) (v := 2) (lv' := [(2, .int 2), (1, .int 0), (0, .ref 1)]) kc_192_30 rfl rfl rfl rfl (xm_lt ml_192 rfl) ?_
    refine xi_goto (pc' := 4) kc_192_33 rfl ?_
    refine xi_iload_n (pc' := 5) (x := 2) kc_192_4 rfl rfl ?_
    refine xi_bipush (pc' := 7) (v := 12) kc_192_5 rfl rfl ?_
    refine xi_cmf (pc' := 10) kc_192_7 rfl rfl ?_
    refine xi_iload_n (pc' := 11) (x := 0) kc_192_10 rfl rfl ?_
    refine xi_aload_n (pc' := 12) (x := 1) kc_192_11 rfl rfl ?_
    refine xi_getfield (pc' := 15) (v := .ref 3) kc_192_12 rfl rfl rfl (F 1 _ hl_1) rfl ?_
    refine xi_iload_n (pc' := 16) (x := 2) kc_192_15 rfl rfl ?_
    refine xi_aaload (pc' := 17) (b := 33) kc_192_16 rfl (F 3 _ hl_3) rfl (xi_in (n := 12) (by decide) (by decide)) rfl ?_
    refine xi_virtual (mj := 106) (as := []) (st1 := [.int 0]) (lv0 := [(0, .ref 33)]) kc_192_17 rfl rfl rfl rfl rfl (F 33 _ hl_33) (Nat.le_of_ble_eq_true rfl) (hJ _ _ _ _ (by decide)) (xm_le ml_106 rfl) rfl ?_
    refine xi_aload_n (pc' := 1) (x := 33) kc_106_0 rfl rfl ?_
    refine xi_getfield (pc' := 4) (v := .int (-9)) kc_106_1 rfl rfl rfl (F 33 _ hl_33) rfl ?_
    refine xi_static (mj := 90) (as := [.int (-9)]) (st1 := []) (lv0 := [(0, .int (-9))]) kc_106_4 rfl rfl (Nat.le_of_ble_eq_true rfl) rfl rfl (Nat.le_of_ble_eq_true rfl) (hJ _ _ _ _ (by decide)) (xm_le ml_90 rfl) rfl ?_
    refine xi_iload_n (pc' := 1) (x := (-9)) kc_90_0 rfl rfl ?_
    refine xi_ift (pc' := 14) kc_90_1 rfl rfl ?_
    refine xi_iconst (pc' := 15) (v := 0) kc_90_14 rfl rfl ?_
    refine xi_ireturn kc_90_15 mr_90 rfl ?_
    show xw J ov 97 106 (7, [(0, .ref 33)], [.int 0], h0) _
    refine xi_ireturn kc_106_7 mr_106 rfl ?_
    show xw J ov 98 192 (20, [(2, .int 2), (1, .int 0), (0, .ref 1)], [.int 0, .int 0], h0) _
    refine xi_ift (pc' := 27) kc_192_20 rfl rfl ?_
    refine xi_iconst (pc' := 28) (v := 0) kc_192_27 rfl rfl ?_
    refine xi_iadd (pc' := 29) (v := 0) kc_192_28 rfl rfl ?_
    refine xi_istore_n (pc' := 30) (lv' := [(1, .int 0), (2, .int 2), (0, .ref 1)]) kc_192_29 rfl rfl (xm_lt ml_192 rfl) ?_
    refine xi_iinc (pc' := 33) (x := 2) (v := 3) (lv' := [(2, .int 3), (1, .int 0), (0, .ref 1)]) kc_192_30 rfl rfl rfl rfl (xm_lt ml_192 rfl) ?_
    refine xi_goto (pc' := 4) kc_192_33 rfl ?_
    refine xi_iload_n (pc' := 5) (x := 3) kc_192_4 rfl rfl ?_
    refine xi_bipush (pc' := 7) (v := 12) kc_192_5 rfl rfl ?_
    refine xi_cmf (pc' := 10) kc_192_7 rfl rfl ?_
    refine xi_iload_n (pc' := 11) (x := 0) kc_192_10 rfl rfl ?_
    refine xi_aload_n (pc' := 12) (x := 1) kc_192_11 rfl rfl ?_
    refine xi_getfield (pc' := 15) (v := .ref 3) kc_192_12 rfl rfl rfl (F 1 _ hl_1) rfl ?_
    refine xi_iload_n (pc' := 16) (x := 3) kc_192_15 rfl rfl ?_
    refine xi_aaload (pc' := 17) (b := 35) kc_192_16 rfl (F 3 _ hl_3) rfl (xi_in (n := 12) (by decide) (by decide)) rfl ?_
    refine xi_virtual (mj := 106) (as := []) (st1 := [.int 0]) (lv0 := [(0, .ref 35)]) kc_192_17 rfl rfl rfl rfl rfl (F 35 _ hl_35) (Nat.le_of_ble_eq_true rfl) (hJ _ _ _ _ (by decide)) (xm_le ml_106 rfl) rfl ?_
    refine xi_aload_n (pc' := 1) (x := 35) kc_106_0 rfl rfl ?_
    refine xi_getfield (pc' := 4) (v := .int (-9)) kc_106_1 rfl rfl rfl (F 35 _ hl_35) rfl ?_
    refine xi_static (mj := 90) (as := [.int (-9)]) (st1 := []) (lv0 := [(0, .int (-9))]) kc_106_4 rfl rfl (Nat.le_of_ble_eq_true rfl) rfl rfl (Nat.le_of_ble_eq_true rfl) (hJ _ _ _ _ (by decide)) (xm_le ml_90 rfl) rfl ?_
    refine xi_iload_n (pc' := 1) (x := (-9)) kc_90_0 rfl rfl ?_
    refine xi_ift (pc' := 14) kc_90_1 rfl rfl ?_
    refine xi_iconst (pc' := 15) (v := 0) kc_90_14 rfl rfl ?_
    refine xi_ireturn kc_90_15 mr_90 rfl ?_
    show xw J ov 97 106 (7, [(0, .ref 35)], [.int 0], h0) _
    refine xi_ireturn kc_106_7 mr_106 rfl ?_
    show xw J ov 98 192 (20, [(2, .int 3), (1, .int 0), (0, .ref 1)], [.int 0, .int 0], h0) _
    refine xi_ift (pc' := 27) kc_192_20 rfl rfl ?_
    refine xi_iconst (pc' := 28) (v := 0) kc_192_27 rfl rfl ?_
    refine xi_iadd (pc' := 29) (v := 0) kc_192_28 rfl rfl ?_
    refine xi_istore_n (pc' := 30) (lv' := [(1, .int 0), (2, .int 3), (0, .ref 1)]) kc_192_29 rfl rfl (xm_lt ml_192 rfl) ?_
    refine xi_iinc (pc' := 33) (x := 3) (v := 4) (lv' := [(2, .int 4), (1, .int 0), (0, .ref 1)]) kc_192_30 rfl rfl rfl rfl (xm_lt ml_192 rfl) ?_
    refine xi_goto (pc' := 4) kc_192_33 rfl ?_
    refine xi_iload_n (pc' := 5) (x := 4) kc_192_4 rfl rfl ?_
    refine xi_bipush (pc' := 7) (v := 12) kc_192_5 rfl rfl ?_
    refine xi_cmf (pc' := 10) kc_192_7 rfl rfl ?_
    refine xi_iload_n (pc' := 11) (x := 0) kc_192_10 rfl rfl ?_
    refine xi_aload_n (pc' := 12) (x := 1) kc_192_11 rfl rfl ?_
    refine xi_getfield (pc' := 15) (v := .ref 3) kc_192_12 rfl rfl rfl (F 1 _ hl_1) rfl ?_
    refine xi_iload_n (pc' := 16) (x := 4) kc_192_15 rfl rfl ?_
    refine xi_aaload (pc' := 17) (b := 37) kc_192_16 rfl (F 3 _ hl_3) rfl (xi_in (n := 12) (by decide) (by decide)) rfl ?_
    refine xi_virtual (mj := 106) (as := []) (st1 := [.int 0]) (lv0 := [(0, .ref 37)]) kc_192_17 rfl rfl rfl rfl rfl (F 37 _ hl_37) (Nat.le_of_ble_eq_true rfl) (hJ _ _ _ _ (by decide)) (xm_le ml_106 rfl) rfl ?_
    refine xi_aload_n (pc' := 1) (x := 37) kc_106_0 rfl rfl ?_
    refine xi_getfield (pc' := 4) (v := .int (-9)) kc_106_1 rfl rfl rfl (F 37 _ hl_37) rfl ?_
    refine xi_static (mj := 90) (as := [.int (-9)]) (st1 := []) (lv0 := [(0, .int (-9))]) kc_106_4 rfl rfl (Nat.le_of_ble_eq_true rfl) rfl rfl (Nat.le_of_ble_eq_true rfl) (hJ _ _ _ _ (by decide)) (xm_le ml_90 rfl) rfl ?_
    refine xi_iload_n (pc' := 1) (x := (-9)) kc_90_0 rfl rfl ?_
    refine xi_ift (pc' := 14) kc_90_1 rfl rfl ?_
    refine xi_iconst (pc' := 15) (v := 0) kc_90_14 rfl rfl ?_
    refine xi_ireturn kc_90_15 mr_90 rfl ?_
    show xw J ov 97 106 (7, [(0, .ref 37)], [.int 0], h0) _
    refine xi_ireturn kc_106_7 mr_106 rfl ?_
    show xw J ov 98 192 (20, [(2, .int 4), (1, .int 0), (0, .ref 1)], [.int 0, .int 0], h0) _
    refine xi_ift (pc' := 27) kc_192_20 rfl rfl ?_
    refine xi_iconst (pc' := 28) (v := 0) kc_192_27 rfl rfl ?_
    refine xi_iadd (pc' := 29) (v := 0) kc_192_28 rfl rfl ?_
    refine xi_istore_n (pc' := 30) (lv' := [(1, .int 0), (2, .int 4), (0, .ref 1)]) kc_192_29 rfl rfl (xm_lt ml_192 rfl) ?_
    refine xi_iinc (pc' := 33) (x := 4) (v := 5) (lv' := [(2, .int 5), (1, .int 0), (0, .ref 1)]) kc_192_30 rfl rfl rfl rfl (xm_lt ml_192 rfl) ?_
    refine xi_goto (pc' := 4) kc_192_33 rfl ?_
    refine xi_iload_n (pc' := 5) (x := 5) kc_192_4 rfl rfl ?_
    refine xi_bipush (pc' := 7) (v := 12) kc_192_5 rfl rfl ?_
    refine xi_cmf (pc' := 10) kc_192_7 rfl rfl ?_
    refine xi_iload_n (pc' := 11) (x := 0) kc_192_10 rfl rfl ?_
    refine xi_aload_n (pc' := 12) (x := 1) kc_192_11 rfl rfl ?_
    refine xi_getfield (pc' := 15) (v := .ref 3) kc_192_12 rfl rfl rfl (F 1 _ hl_1) rfl ?_
    refine xi_iload_n (pc' := 16) (x := 5) kc_192_15 rfl rfl ?_
    refine xi_aaload (pc' := 17) (b := 39) kc_192_16 rfl (F 3 _ hl_3) rfl (xi_in (n := 12) (by decide) (by decide)) rfl ?_
    refine xi_virtual (mj := 106) (as := []) (st1 := [.int 0]) (lv0 := [(0, .ref 39)]) kc_192_17 rfl rfl rfl rfl rfl (F 39 _ hl_39) (Nat.le_of_ble_eq_true rfl) (hJ _ _ _ _ (by decide)) (xm_le ml_106 rfl) rfl ?_
    refine xi_aload_n (pc' := 1) (x := 39) kc_106_0 rfl rfl ?_
    refine xi_getfield (pc' := 4) (v := .int (-9)) kc_106_1 rfl rfl rfl (F 39 _ hl_39) rfl ?_
    refine xi_static (mj := 90) (as := [.int (-9)]) (st1 := []) (lv0 := [(0, .int (-9))]) kc_106_4 rfl rfl (Nat.le_of_ble_eq_true rfl) rfl rfl (Nat.le_of_ble_eq_true rfl) (hJ _ _ _ _ (by decide)) (xm_le ml_90 rfl) rfl ?_
    refine xi_iload_n (pc' := 1) (x := (-9)) kc_90_0 rfl rfl ?_
    refine xi_ift (pc' := 14) kc_90_1 rfl rfl ?_
    refine xi_iconst (pc' := 15) (v := 0) kc_90_14 rfl rfl ?_
    refine xi_ireturn kc_90_15 mr_90 rfl ?_
    show xw J ov 97 106 (7, [(0, .ref 39)], [.int 0], h0) _
    refine xi_ireturn kc_106_7 mr_106 rfl ?_
    show xw J ov 98 192 (20, [(2, .int 5), (1, .int 0), (0, .ref 1)], [.int 0, .int 0], h0) _
    refine xi_ift (pc' := 27) kc_192_20 rfl rfl ?_
    refine xi_iconst (pc' := 28) (v := 0) kc_192_27 rfl rfl ?_
    refine xi_iadd (pc' := 29) (v := 0) kc_192_28 rfl rfl ?_
    refine xi_istore_n (pc' := 30) (lv' := [(1, .int 0), (2, .int 5), (0, .ref 1)]) kc_192_29 rfl rfl (xm_lt ml_192 rfl) ?_
    refine xi_iinc (pc' := 33) (x := 5) (v := 6) (lv' := [(2, .int 6), (1, .int 0), (0, .ref 1)]) kc_192_30 rfl rfl rfl rfl (xm_lt ml_192 rfl) ?_
    refine xi_goto (pc' := 4) kc_192_33 rfl ?_
    refine xi_iload_n (pc' := 5) (x := 6) kc_192_4 rfl rfl ?_
    refine xi_bipush (pc' := 7) (v := 12) kc_192_5 rfl rfl ?_
    refine xi_cmf (pc' := 10) kc_192_7 rfl rfl ?_
    refine xi_iload_n (pc' := 11) (x := 0) kc_192_10 rfl rfl ?_
    refine xi_aload_n (pc' := 12) (x := 1) kc_192_11 rfl rfl ?_
    refine xi_getfield (pc' := 15) (v := .ref 3) kc_192_12 rfl rfl rfl (F 1 _ hl_1) rfl ?_
    refine xi_iload_n (pc' := 16) (x := 6) kc_192_15 rfl rfl ?_
    refine xi_aaload (pc' := 17) (b := 41) kc_192_16 rfl (F 3 _ hl_3) rfl (xi_in (n := 12) (by decide) (by decide)) rfl ?_
    refine xi_virtual (mj := 106) (as := []) (st1 := [.int 0]) (lv0 := [(0, .ref 41)]) kc_192_17 rfl rfl rfl rfl rfl (F 41 _ hl_41) (Nat.le_of_ble_eq_true rfl) (hJ _ _ _ _ (by decide)) (xm_le ml_106 rfl) rfl ?_
    refine xi_aload_n (pc' := 1) (x := 41) kc_106_0 rfl rfl ?_
    refine xi_getfield (pc' := 4) (v := .int (-9)) kc_106_1 rfl rfl rfl (F 41 _ hl_41) rfl ?_
    refine xi_static (mj := 90) (as := [.int (-9)]) (st1 := []) (lv0 := [(0, .int (-9))]) kc_106_4 rfl rfl (Nat.le_of_ble_eq_true rfl) rfl rfl (Nat.le_of_ble_eq_true rfl) (hJ _ _ _ _ (by decide)) (xm_le ml_90 rfl) rfl ?_
    refine xi_iload_n (pc' := 1) (x := (-9)) kc_90_0 rfl rfl ?_
    refine xi_ift (pc' := 14) kc_90_1 rfl rfl ?_
    refine xi_iconst (pc' := 15) (v := 0) kc_90_14 rfl rfl ?_
    refine xi_ireturn kc_90_15 mr_90 rfl ?_
    show xw J ov 97 106 (7, [(0, .ref 41)], [.int 0], h0) _
    refine xi_ireturn kc_106_7 mr_106 rfl ?_
    show xw J ov 98 192 (20, [(2, .int 6), (1, .int 0), (0, .ref 1)], [.int 0, .int 0], h0) _
    refine xi_ift (pc' := 27) kc_192_20 rfl rfl ?_
    refine xi_iconst (pc' := 28) (v := 0) kc_192_27 rfl rfl ?_
    refine xi_iadd (pc' := 29) (v := 0) kc_192_28 rfl rfl ?_
    refine xi_istore_n (pc' := 30) (lv' := [(1, .int 0), (2, .int 6), (0, .ref 1)]) kc_192_29 rfl rfl (xm_lt ml_192 rfl) ?_
    refine xi_iinc (pc' := 33) (x := 6) (v := 7) (lv' := [(2, .int 7), (1, .int 0), (0, .ref 1)]) kc_192_30 rfl rfl rfl rfl (xm_lt ml_192 rfl) ?_
    refine xi_goto (pc' := 4) kc_192_33 rfl ?_
    refine xi_iload_n (pc' := 5) (x := 7) kc_192_4 rfl rfl ?_
    refine xi_bipush (pc' := 7) (v := 12) kc_192_5 rfl rfl ?_
    refine xi_cmf (pc' := 10) kc_192_7 rfl rfl ?_
    refine xi_iload_n (pc' := 11) (x := 0) kc_192_10 rfl rfl ?_
    refine xi_aload_n (pc' := 12) (x := 1) kc_192_11 rfl rfl ?_
    refine xi_getfield (pc' := 15) (v := .ref 3) kc_192_12 rfl rfl rfl (F 1 _ hl_1) rfl ?_
    refine xi_iload_n (pc' := 16) (x := 7) kc_192_15 rfl rfl ?_
    refine xi_aaload (pc' := 17) (b := 43) kc_192_16 rfl (F 3 _ hl_3) rfl (xi_in (n := 12) (by decide) (by decide)) rfl ?_
    refine xi_virtual (mj := 106) (as := []) (st1 := [.int 0]) (lv0 := [(0, .ref 43)]) kc_192_17 rfl rfl rfl rfl rfl (F 43 _ hl_43) (Nat.le_of_ble_eq_true rfl) (hJ _ _ _ _ (by decide)) (xm_le ml_106 rfl) rfl ?_
    refine xi_aload_n (pc' := 1) (x := 43) kc_106_0 rfl rfl ?_
    refine xi_getfield (pc' := 4) (v := .int (-9)) kc_106_1 rfl rfl rfl (F 43 _ hl_43) rfl ?_
    refine xi_static (mj := 90) (as := [.int (-9)]) (st1 := []) (lv0 := [(0, .int (-9))]) kc_106_4 rfl rfl (Nat.le_of_ble_eq_true rfl) rfl rfl (Nat.le_of_ble_eq_true rfl) (hJ _ _ _ _ (by decide)) (xm_le ml_90 rfl) rfl ?_
    refine xi_iload_n (pc' := 1) (x := (-9)) kc_90_0 rfl rfl ?_
    refine xi_ift (pc' := 14) kc_90_1 rfl rfl ?_
    refine xi_iconst (pc' := 15) (v := 0) kc_90_14 rfl rfl ?_
    refine xi_ireturn kc_90_15 mr_90 rfl ?_
    show xw J ov 97 106 (7, [(0, .ref 43)], [.int 0], h0) _
    refine xi_ireturn kc_106_7 mr_106 rfl ?_
    show xw J ov 98 192 (20, [(2, .int 7), (1, .int 0), (0, .ref 1)], [.int 0, .int 0], h0) _
    refine xi_ift (pc' := 27) kc_192_20 rfl rfl ?_
    refine xi_iconst (pc' := 28) (v := 0) kc_192_27 rfl rfl ?_
    refine xi_iadd (pc' := 29) (v := 0) kc_192_28 rfl rfl ?_
    refine xi_istore_n (pc' := 30) (lv' := [(1, .int 0), (2, .int 7), (0, .ref 1)]) kc_192_29 rfl rfl (xm_lt ml_192 rfl) ?_
    refine xi_iinc (pc' := 33) (x := 7) (v := 8) (lv' := [(2, .int 8), (1, .int 0), (0, .ref 1)]) kc_192_30 rfl rfl rfl rfl (xm_lt ml_192 rfl) ?_
    refine xi_goto (pc' := 4) kc_192_33 rfl ?_
    refine xi_iload_n (pc' := 5) (x := 8) kc_192_4 rfl rfl ?_
    refine xi_bipush (pc' := 7) (v := 12) kc_192_5 rfl rfl ?_
    refine xi_cmf (pc' := 10) kc_192_7 rfl rfl ?_
    refine xi_iload_n (pc' := 11) (x := 0) kc_192_10 rfl rfl ?_
    refine xi_aload_n (pc' := 12) (x := 1) kc_192_11 rfl rfl ?_
    refine xi_getfield (pc' := 15) (v := .ref 3) kc_192_12 rfl rfl rfl (F 1 _ hl_1) rfl ?_
    refine xi_iload_n (pc' := 16) (x := 8) kc_192_15 rfl rfl ?_
    refine xi_aaload (pc' := 17) (b := 45) kc_192_16 rfl (F 3 _ hl_3) rfl (xi_in (n := 12) (by decide) (by decide)) rfl ?_
    refine xi_virtual (mj := 106) (as := []) (st1 := [.int 0]) (lv0 := [(0, .ref 45)]) kc_192_17 rfl rfl rfl rfl rfl (F 45 _ hl_45) (Nat.le_of_ble_eq_true rfl) (hJ _ _ _ _ (by decide)) (xm_le ml_106 rfl) rfl ?_
    refine xi_aload_n (pc' := 1) (x := 45) kc_106_0 rfl rfl ?_
    refine xi_getfield (pc' := 4) (v := .int (-9)) kc_106_1 rfl rfl rfl (F 45 _ hl_45) rfl ?_
    refine xi_static (mj := 90) (as := [.int (-9)]) (st1 := []) (lv0 := [(0, .int (-9))]) kc_106_4 rfl rfl (Nat.le_of_ble_eq_true rfl) rfl rfl (Nat.le_of_ble_eq_true rfl) (hJ _ _ _ _ (by decide)) (xm_le ml_90 rfl) rfl ?_
    refine xi_iload_n (pc' := 1) (x := (-9)) kc_90_0 rfl rfl ?_
    refine xi_ift (pc' := 14) kc_90_1 rfl rfl ?_
    refine xi_iconst (pc' := 15) (v := 0) kc_90_14 rfl rfl ?_
    refine xi_ireturn kc_90_15 mr_90 rfl ?_
    show xw J ov 97 106 (7, [(0, .ref 45)], [.int 0], h0) _
    refine xi_ireturn kc_106_7 mr_106 rfl ?_
    show xw J ov 98 192 (20, [(2, .int 8), (1, .int 0), (0, .ref 1)], [.int 0, .int 0], h0) _
    refine xi_ift (pc' := 27) kc_192_20 rfl rfl ?_
    refine xi_iconst (pc' := 28) (v := 0) kc_192_27 rfl rfl ?_
    refine xi_iadd (pc' := 29) (v := 0) kc_192_28 rfl rfl ?_
    refine xi_istore_n (pc' := 30) (lv' := [(1, .int 0), (2, .int 8), (0, .ref 1)]) kc_192_29 rfl rfl (xm_lt ml_192 rfl) ?_
    refine xi_iinc (pc' := 33) (x := 8) (v := 9) (lv' := [(2, .int 9), (1, .int 0), (0, .ref 1)]) kc_192_30 rfl rfl rfl rfl (xm_lt ml_192 rfl) ?_
    refine xi_goto (pc' := 4) kc_192_33 rfl ?_
    refine xi_iload_n (pc' := 5) (x := 9) kc_192_4 rfl rfl ?_
    refine xi_bipush (pc' := 7) (v := 12) kc_192_5 rfl rfl ?_
    refine xi_cmf (pc' := 10) kc_192_7 rfl rfl ?_
    refine xi_iload_n (pc' := 11) (x := 0) kc_192_10 rfl rfl ?_
    refine xi_aload_n (pc' := 12) (x := 1) kc_192_11 rfl rfl ?_
    refine xi_getfield (pc' := 15) (v := .ref 3) kc_192_12 rfl rfl rfl (F 1 _ hl_1) rfl ?_
    refine xi_iload_n (pc' := 16) (x := 9) kc_192_15 rfl rfl ?_
    refine xi_aaload (pc' := 17) (b := 47) kc_192_16 rfl (F 3 _ hl_3) rfl (xi_in (n := 12) (by decide) (by decide)) rfl ?_
    refine xi_virtual (mj := 106) (as := []) (st1 := [.int 0]) (lv0 := [(0, .ref 47)]) kc_192_17 rfl rfl rfl rfl rfl (F 47 _ hl_47) (Nat.le_of_ble_eq_true rfl) (hJ _ _ _ _ (by decide)) (xm_le ml_106 rfl) rfl ?_
    refine xi_aload_n (pc' := 1) (x := 47) kc_106_0 rfl rfl ?_
    refine xi_getfield (pc' := 4) (v := .int (-9)) kc_106_1 rfl rfl rfl (F 47 _ hl_47) rfl ?_
    refine xi_static (mj := 90) (as := [.int (-9)]) (st1 := []) (lv0 := [(0, .int (-9))]) kc_106_4 rfl rfl (Nat.le_of_ble_eq_true rfl) rfl rfl (Nat.le_of_ble_eq_true rfl) (hJ _ _ _ _ (by decide)) (xm_le ml_90 rfl) rfl ?_
    refine xi_iload_n (pc' := 1) (x := (-9)) kc_90_0 rfl rfl ?_
    refine xi_ift (pc' := 14) kc_90_1 rfl rfl ?_
    refine xi_iconst (pc' := 15) (v := 0) kc_90_14 rfl rfl ?_
    refine xi_ireturn kc_90_15 mr_90 rfl ?_
    show xw J ov 97 106 (7, [(0, .ref 47)], [.int 0], h0) _
    refine xi_ireturn kc_106_7 mr_106 rfl ?_
    show xw J ov 98 192 (20, [(2, .int 9), (1, .int 0), (0, .ref 1)], [.int 0, .int 0], h0) _
    refine xi_ift (pc' := 27) kc_192_20 rfl rfl ?_
    refine xi_iconst (pc' := 28) (v := 0) kc_192_27 rfl rfl ?_
    refine xi_iadd (pc' := 29) (v := 0) kc_192_28 rfl rfl ?_
    refine xi_istore_n (pc' := 30) (lv' := [(1, .int 0), (2, .int 9), (0, .ref 1)]) kc_192_29 rfl rfl (xm_lt ml_192 rfl) ?_
    refine xi_iinc (pc' := 33) (x := 9) (v := 10) (lv' := [(2, .int 10), (1, .int 0), (0, .ref 1)]) kc_192_30 rfl rfl rfl rfl (xm_lt ml_192 rfl) ?_
    refine xi_goto (pc' := 4) kc_192_33 rfl ?_
    refine xi_iload_n (pc' := 5) (x := 10) kc_192_4 rfl rfl ?_
    refine xi_bipush (pc' := 7) (v := 12) kc_192_5 rfl rfl ?_
    refine xi_cmf (pc' := 10) kc_192_7 rfl rfl ?_
    refine xi_iload_n (pc' := 11) (x := 0) kc_192_10 rfl rfl ?_
    refine xi_aload_n (pc' := 12) (x := 1) kc_192_11 rfl rfl ?_
    refine xi_getfield (pc' := 15) (v := .ref 3) kc_192_12 rfl rfl rfl (F 1 _ hl_1) rfl ?_
    refine xi_iload_n (pc' := 16) (x := 10) kc_192_15 rfl rfl ?_
    refine xi_aaload (pc' := 17) (b := 49) kc_192_16 rfl (F 3 _ hl_3) rfl (xi_in (n := 12) (by decide) (by decide)) rfl ?_
    refine xi_virtual (mj := 106) (as := []) (st1 := [.int 0]) (lv0 := [(0, .ref 49)]) kc_192_17 rfl rfl rfl rfl rfl (F 49 _ hl_49) (Nat.le_of_ble_eq_true rfl) (hJ _ _ _ _ (by decide)) (xm_le ml_106 rfl) rfl ?_
    refine xi_aload_n (pc' := 1) (x := 49) kc_106_0 rfl rfl ?_
    refine xi_getfield (pc' := 4) (v := .int (-9)) kc_106_1 rfl rfl rfl (F 49 _ hl_49) rfl ?_
    refine xi_static (mj := 90) (as := [.int (-9)]) (st1 := []) (lv0 := [(0, .int (-9))]) kc_106_4 rfl rfl (Nat.le_of_ble_eq_true rfl) rfl rfl (Nat.le_of_ble_eq_true rfl) (hJ _ _ _ _ (by decide)) (xm_le ml_90 rfl) rfl ?_
    refine xi_iload_n (pc' := 1) (x := (-9)) kc_90_0 rfl rfl ?_
    refine xi_ift (pc' := 14) kc_90_1 rfl rfl ?_
    refine xi_iconst (pc' := 15) (v := 0) kc_90_14 rfl rfl ?_
    refine xi_ireturn kc_90_15 mr_90 rfl ?_
    show xw J ov 97 106 (7, [(0, .ref 49)], [.int 0], h0) _
    refine xi_ireturn kc_106_7 mr_106 rfl ?_
    show xw J ov 98 192 (20, [(2, .int 10), (1, .int 0), (0, .ref 1)], [.int 0, .int 0], h0) _
    refine xi_ift (pc' := 27) kc_192_20 rfl rfl ?_
    refine xi_iconst (pc' := 28) (v := 0) kc_192_27 rfl rfl ?_
    refine xi_iadd (pc' := 29) (v := 0) kc_192_28 rfl rfl ?_
    refine xi_istore_n (pc' := 30) (lv' := [(1, .int 0), (2, .int 10), (0, .ref 1)]) kc_192_29 rfl rfl (xm_lt ml_192 rfl) ?_
    refine xi_iinc (pc' := 33) (x := 10) (v := 11) (lv' := [(2, .int 11), (1, .int 0), (0, .ref 1)]) kc_192_30 rfl rfl rfl rfl (xm_lt ml_192 rfl) ?_
    refine xi_goto (pc' := 4) kc_192_33 rfl ?_
    refine xi_iload_n (pc' := 5) (x := 11) kc_192_4 rfl rfl ?_
    refine xi_bipush (pc' := 7) (v := 12) kc_192_5 rfl rfl ?_
    refine xi_cmf (pc' := 10) kc_192_7 rfl rfl ?_
    refine xi_iload_n (pc' := 11) (x := 0) kc_192_10 rfl rfl ?_
    refine xi_aload_n (pc' := 12) (x := 1) kc_192_11 rfl rfl ?_
    refine xi_getfield (pc' := 15) (v := .ref 3) kc_192_12 rfl rfl rfl (F 1 _ hl_1) rfl ?_
    refine xi_iload_n (pc' := 16) (x := 11) kc_192_15 rfl rfl ?_
    refine xi_aaload (pc' := 17) (b := 51) kc_192_16 rfl (F 3 _ hl_3) rfl (xi_in (n := 12) (by decide) (by decide)) rfl ?_
    refine xi_virtual (mj := 106) (as := []) (st1 := [.int 0]) (lv0 := [(0, .ref 51)]) kc_192_17 rfl rfl rfl rfl rfl (F 51 _ hl_51) (Nat.le_of_ble_eq_true rfl) (hJ _ _ _ _ (by decide)) (xm_le ml_106 rfl) rfl ?_
    refine xi_aload_n (pc' := 1) (x := 51) kc_106_0 rfl rfl ?_
    refine xi_getfield (pc' := 4) (v := .int (-9)) kc_106_1 rfl rfl rfl (F 51 _ hl_51) rfl ?_
    refine xi_static (mj := 90) (as := [.int (-9)]) (st1 := []) (lv0 := [(0, .int (-9))]) kc_106_4 rfl rfl (Nat.le_of_ble_eq_true rfl) rfl rfl (Nat.le_of_ble_eq_true rfl) (hJ _ _ _ _ (by decide)) (xm_le ml_90 rfl) rfl ?_
    refine xi_iload_n (pc' := 1) (x := (-9)) kc_90_0 rfl rfl ?_
    refine xi_ift (pc' := 14) kc_90_1 rfl rfl ?_
    refine xi_iconst (pc' := 15) (v := 0) kc_90_14 rfl rfl ?_
    refine xi_ireturn kc_90_15 mr_90 rfl ?_
    show xw J ov 97 106 (7, [(0, .ref 51)], [.int 0], h0) _
    refine xi_ireturn kc_106_7 mr_106 rfl ?_
    show xw J ov 98 192 (20, [(2, .int 11), (1, .int 0), (0, .ref 1)], [.int 0, .int 0], h0) _
    refine xi_ift (pc' := 27) kc_192_20 rfl rfl ?_
    refine xi_iconst (pc' := 28) (v := 0) kc_192_27 rfl rfl ?_
    refine xi_iadd (pc' := 29) (v := 0) kc_192_28 rfl rfl ?_
    refine xi_istore_n (pc' := 30) (lv' := [(1, .int 0), (2, .int 11), (0, .ref 1)]) kc_192_29 rfl rfl (xm_lt ml_192 rfl) ?_
    refine xi_iinc (pc' := 33) (x := 11) (v := 12) (lv' := [(2, .int 12), (1, .int 0), (0, .ref 1)]) kc_192_30 rfl rfl rfl rfl (xm_lt ml_192 rfl) ?_
    refine xi_goto (pc' := 4) kc_192_33 rfl ?_
    refine xi_iload_n (pc' := 5) (x := 12) kc_192_4 rfl rfl ?_
    refine xi_bipush (pc' := 7) (v := 12) kc_192_5 rfl rfl ?_
    refine xi_cmt (pc' := 36) kc_192_7 rfl rfl ?_
    refine xi_iload_n (pc' := 37) (x := 0) kc_192_36 rfl rfl ?_
    refine xi_ireturn kc_192_37 mr_192 rfl ?_
    show xw J ov 99 191 (68, [(0, .ref 0), (1, .int a1)], [.int 0], h0) _
    refine xi_ireturn kc_191_68 mr_191 rfl ?_
    show xw J ov 100 196 (1513, [(4, .int 0), (3, .ref 167), (2, .ref 115), (1, .ref 0), (0, .ref 1000000)], [.int 0], h0) _
    refine xi_aload_n (pc' := 1514) (x := 115) kc_196_1513 rfl rfl ?_
    refine xi_aload_n (pc' := 1515) (x := 1000000) kc_196_1514 rfl rfl ?_
    refine xi_iload (pc' := 1517) (x := 0) kc_196_1515 rfl rfl ?_
    refine xi_iconst (pc' := 1518) (v := 1) kc_196_1517 rfl rfl ?_
    refine xi_iadd (pc' := 1519) (v := 1) kc_196_1518 rfl rfl ?_
    refine xi_ialoadO (pc' := 1520) (v := a1) kc_196_1519 rfl (by decide) hov0 (xi_in (n := 6) (by decide) (by decide)) rfl ?_
    refine xi_virtual (mj := 76) (as := [.int a1]) (st1 := [.int 0]) (lv0 := [(0, .ref 115), (1, .int a1)]) kc_196_1520 rfl rfl rfl rfl rfl (F 115 _ hl_115) (Nat.le_of_ble_eq_true rfl) (hJ _ _ _ _ (by decide)) (xm_le ml_76 rfl) rfl ?_
    refine xi_aload_n (pc' := 1) (x := 115) kc_76_0 rfl rfl ?_
    refine xi_iconst (pc' := 2) (v := 0) kc_76_1 rfl rfl ?_
    refine xi_putfield (pc' := 5) (fs' := [.int 0, .int 0, .ref 116, .ref 117, .ref 118, .ref 119, .ref 120, .ref 121, .ref 122, .ref 123, .ref 124, .ref 125, .ref 126, .ref 127, .ref 128, .ref 129, .int 4, .ref 130, .int 0, .ref 131, .ref 132, .ref 133, .ref 134, .int 0, .ref 135, .ref 136, .ref 137, .ref 138, .ref 139, .ref 140, .ref 141, .ref 142, .int 0, .int 0, .int 0, .ref 143, .ref 144, .ref 145, .ref 146, .ref 147, .ref 148, .int 0, .ref 149, .ref 150, .ref 151, .int 0, .ref 152, .ref 153, .ref 154, .ref 155, .ref 156, .ref 157, .ref 158, .ref 159, .int 0, .ref 160, .int 0, .ref 161, .ref 162, .ref 163, .ref 164, .int 0, .ref 165, .ref 166]) kc_76_2 rfl rfl rfl (F 115 _ hl_115) rfl rfl rfl (Nat.le_of_ble_eq_true rfl) rfl (fun hh1 eh1 => ?_)
    refine xi_iconst (pc' := 6) (v := 0) kc_76_5 rfl rfl ?_
    refine xi_istore_n (pc' := 7) (lv' := [(2, .int 0), (0, .ref 115), (1, .int a1)]) kc_76_6 rfl rfl (xm_lt ml_76 rfl) ?_
    refine xi_iload_n (pc' := 8) (x := a1) kc_76_7 rfl rfl ?_
    refine xi_tsi (pc' := 69) (z := 1) kc_76_8 (by omega) rfl (by decide) ?_
    refine xi_iconst (pc' := 70) (v := 0) kc_76_69 rfl rfl ?_
    refine xi_istore_n (pc' := 71) (lv' := [(3, .int 0), (2, .int 0), (0, .ref 115), (1, .int a1)]) kc_76_70 rfl rfl (xm_lt ml_76 rfl) ?_
    refine xi_iload_n (pc' := 72) (x := 0) kc_76_71 rfl rfl ?_
    refine xi_bipush (pc' := 74) (v := 12) kc_76_72 rfl rfl ?_
    refine xi_cmf (pc' := 77) kc_76_74 rfl rfl ?_
    refine xi_iload_n (pc' := 78) (x := 0) kc_76_77 rfl rfl ?_
    refine xi_aload_n (pc' := 79) (x := 115) kc_76_78 rfl rfl ?_
    refine xi_getfield (pc' := 82) (v := .ref 125) kc_76_79 rfl rfl rfl eh1.1 rfl ?_
    refine xi_iload_n (pc' := 83) (x := 0) kc_76_82 rfl rfl ?_
    refine xi_iaload (pc' := 84) (v := (-9)) kc_76_83 rfl ((eh1.2.1 125 (by decide)).trans (F 125 _ hl_125)) (by decide) rfl (xi_in (n := 12) (by decide) (by decide)) rfl ?_
    refine xi_ift (pc' := 91) kc_76_84 rfl rfl ?_
    refine xi_iconst (pc' := 92) (v := 0) kc_76_91 rfl rfl ?_
    refine xi_iadd (pc' := 93) (v := 0) kc_76_92 rfl rfl ?_
    refine xi_istore_n (pc' := 94) (lv' := [(2, .int 0), (3, .int 0), (0, .ref 115), (1, .int a1)]) kc_76_93 rfl rfl (xm_lt ml_76 rfl) ?_
    refine xi_iinc (pc' := 97) (x := 0) (v := 1) (lv' := [(3, .int 1), (2, .int 0), (0, .ref 115), (1, .int a1)]) kc_76_94 rfl rfl rfl rfl (xm_lt ml_76 rfl) ?_
    refine xi_goto (pc' := 71) kc_76_97 rfl ?_
    refine xi_iload_n (pc' := 72) (x := 1) kc_76_71 rfl rfl ?_
    refine xi_bipush (pc' := 74) (v := 12) kc_76_72 rfl rfl ?_
    refine xi_cmf (pc' := 77) kc_76_74 rfl rfl ?_
    refine xi_iload_n (pc' := 78) (x := 0) kc_76_77 rfl rfl ?_
    refine xi_aload_n (pc' := 79) (x := 115) kc_76_78 rfl rfl ?_
    refine xi_getfield (pc' := 82) (v := .ref 125) kc_76_79 rfl rfl rfl eh1.1 rfl ?_
    refine xi_iload_n (pc' := 83) (x := 1) kc_76_82 rfl rfl ?_
    refine xi_iaload (pc' := 84) (v := (-9)) kc_76_83 rfl ((eh1.2.1 125 (by decide)).trans (F 125 _ hl_125)) (by decide) rfl (xi_in (n := 12) (by decide) (by decide)) rfl ?_
    refine xi_ift (pc' := 91) kc_76_84 rfl rfl ?_
    refine xi_iconst (pc' := 92) (v := 0) kc_76_91 rfl rfl ?_
    refine xi_iadd (pc' := 93) (v := 0) kc_76_92 rfl rfl ?_
    refine xi_istore_n (pc' := 94) (lv' := [(2, .int 0), (3, .int 1), (0, .ref 115), (1, .int a1)]) kc_76_93 rfl rfl (xm_lt ml_76 rfl) ?_
    refine xi_iinc (pc' := 97) (x := 1) (v := 2) (lv' := [(3, .int 2), (2, .int 0), (0, .ref 115), (1, .int a1)]) kc_76_94 rfl rfl rfl rfl (xm_lt ml_76 rfl) ?_
    refine xi_goto (pc' := 71) kc_76_97 rfl ?_
    refine xi_iload_n (pc' := 72) (x := 2) kc_76_71 rfl rfl ?_
    refine xi_bipush (pc' := 74) (v := 12) kc_76_72 rfl rfl ?_
    refine xi_cmf (pc' := 77) kc_76_74 rfl rfl ?_
    refine xi_iload_n (pc' := 78) (x := 0) kc_76_77 rfl rfl ?_
    refine xi_aload_n (pc' := 79) (x := 115) kc_76_78 rfl rfl ?_
    refine xi_getfield (pc' := 82) (v := .ref 125) kc_76_79 rfl rfl rfl eh1.1 rfl ?_
    refine xi_iload_n (pc' := 83) (x := 2) kc_76_82 rfl rfl ?_
    refine xi_iaload (pc' := 84) (v := (-9)) kc_76_83 rfl ((eh1.2.1 125 (by decide)).trans (F 125 _ hl_125)) (by decide) rfl (xi_in (n := 12) (by decide) (by decide)) rfl ?_
    refine xi_ift (pc' := 91) kc_76_84 rfl rfl ?_
    refine xi_iconst (pc' := 92) (v := 0) kc_76_91 rfl rfl ?_
    refine xi_iadd (pc' := 93) (v := 0) kc_76_92 rfl rfl ?_
    refine xi_istore_n (pc' := 94) (lv' := [(2, .int 0), (3, .int 2), (0, .ref 115), (1, .int a1)]) kc_76_93 rfl rfl (xm_lt ml_76 rfl) ?_
    refine xi_iinc (pc' := 97) (x := 2) (v := 3) (lv' := [(3, .int 3), (2, .int 0), (0, .ref 115), (1, .int a1)]) kc_76_94 rfl rfl rfl rfl (xm_lt ml_76 rfl) ?_
    refine xi_goto (pc' := 71) kc_76_97 rfl ?_
    refine xi_iload_n (pc' := 72) (x := 3) kc_76_71 rfl rfl ?_
    refine xi_bipush (pc' := 74) (v := 12) kc_76_72 rfl rfl ?_
    refine xi_cmf (pc' := 77) kc_76_74 rfl rfl ?_
    refine xi_iload_n (pc' := 78) (x := 0) kc_76_77 rfl rfl ?_
    refine xi_aload_n (pc' := 79) (x := 115) kc_76_78 rfl rfl ?_
    refine xi_getfield (pc' := 82) (v := .ref 125) kc_76_79 rfl rfl rfl eh1.1 rfl ?_
    refine xi_iload_n (pc' := 83) (x := 3) kc_76_82 rfl rfl ?_
    refine xi_iaload (pc' := 84) (v := (-9)) kc_76_83 rfl ((eh1.2.1 125 (by decide)).trans (F 125 _ hl_125)) (by decide) rfl (xi_in (n := 12) (by decide) (by decide)) rfl ?_
    refine xi_ift (pc' := 91) kc_76_84 rfl rfl ?_
    refine xi_iconst (pc' := 92) (v := 0) kc_76_91 rfl rfl ?_
    refine xi_iadd (pc' := 93) (v := 0) kc_76_92 rfl rfl ?_
    refine xi_istore_n (pc' := 94) (lv' := [(2, .int 0), (3, .int 3), (0, .ref 115), (1, .int a1)]) kc_76_93 rfl rfl (xm_lt ml_76 rfl) ?_
    refine xi_iinc (pc' := 97) (x := 3) (v := 4) (lv' := [(3, .int 4), (2, .int 0), (0, .ref 115), (1, .int a1)]) kc_76_94 rfl rfl rfl rfl (xm_lt ml_76 rfl) ?_
    refine xi_goto (pc' := 71) kc_76_97 rfl ?_
    refine xi_iload_n (pc' := 72) (x := 4) kc_76_71 rfl rfl ?_
    refine xi_bipush (pc' := 74) (v := 12) kc_76_72 rfl rfl ?_
    refine xi_cmf (pc' := 77) kc_76_74 rfl rfl ?_
    refine xi_iload_n (pc' := 78) (x := 0) kc_76_77 rfl rfl ?_
    refine xi_aload_n (pc' := 79) (x := 115) kc_76_78 rfl rfl ?_
    refine xi_getfield (pc' := 82) (v := .ref 125) kc_76_79 rfl rfl rfl eh1.1 rfl ?_
    refine xi_iload_n (pc' := 83) (x := 4) kc_76_82 rfl rfl ?_
    refine xi_iaload (pc' := 84) (v := (-9)) kc_76_83 rfl ((eh1.2.1 125 (by decide)).trans (F 125 _ hl_125)) (by decide) rfl (xi_in (n := 12) (by decide) (by decide)) rfl ?_
    refine xi_ift (pc' := 91) kc_76_84 rfl rfl ?_
    refine xi_iconst (pc' := 92) (v := 0) kc_76_91 rfl rfl ?_
    refine xi_iadd (pc' := 93) (v := 0) kc_76_92 rfl rfl ?_
    refine xi_istore_n (pc' := 94) (lv' := [(2, .int 0), (3, .int 4), (0, .ref 115), (1, .int a1)]) kc_76_93 rfl rfl (xm_lt ml_76 rfl) ?_
    refine xi_iinc (pc' := 97) (x := 4) (v := 5) (lv' := [(3, .int 5), (2, .int 0), (0, .ref 115), (1, .int a1)]) kc_76_94 rfl rfl rfl rfl (xm_lt ml_76 rfl) ?_
    refine xi_goto (pc' := 71) kc_76_97 rfl ?_
    refine xi_iload_n (pc' := 72) (x := 5) kc_76_71 rfl rfl ?_
    refine xi_bipush (pc' := 74) (v := 12) kc_76_72 rfl rfl ?_
    refine xi_cmf (pc' := 77) kc_76_74 rfl rfl ?_
    refine xi_iload_n (pc' := 78) (x := 0) kc_76_77 rfl rfl ?_
    refine xi_aload_n (pc' := 79) (x := 115) kc_76_78 rfl rfl ?_
    refine xi_getfield (pc' := 82) (v := .ref 125) kc_76_79 rfl rfl rfl eh1.1 rfl ?_
    refine xi_iload_n (pc' := 83) (x := 5) kc_76_82 rfl rfl ?_
    refine xi_iaload (pc' := 84) (v := (-9)) kc_76_83 rfl ((eh1.2.1 125 (by decide)).trans (F 125 _ hl_125)) (by decide) rfl (xi_in (n := 12) (by decide) (by decide)) rfl ?_
    refine xi_ift (pc' := 91) kc_76_84 rfl rfl ?_
    refine xi_iconst (pc' := 92) (v := 0) kc_76_91 rfl rfl ?_
    refine xi_iadd (pc' := 93) (v := 0) kc_76_92 rfl rfl ?_
    refine xi_istore_n (pc' := 94) (lv' := [(2, .int 0), (3, .int 5), (0, .ref 115), (1, .int a1)]) kc_76_93 rfl rfl (xm_lt ml_76 rfl) ?_
    refine xi_iinc (pc' := 97) (x := 5) (v := 6) (lv' := [(3, .int 6), (2, .int 0), (0, .ref 115), (1, .int a1)]) kc_76_94 rfl rfl rfl rfl (xm_lt ml_76 rfl) ?_
    refine xi_goto (pc' := 71) kc_76_97 rfl ?_
    refine xi_iload_n (pc' := 72) (x := 6) kc_76_71 rfl rfl ?_
    refine xi_bipush (pc' := 74) (v := 12) kc_76_72 rfl rfl ?_
    refine xi_cmf (pc' := 77) kc_76_74 rfl rfl ?_
    refine xi_iload_n (pc' := 78) (x := 0) kc_76_77 rfl rfl ?_
    refine xi_aload_n (pc' := 79) (x := 115) kc_76_78 rfl rfl ?_
    refine xi_getfield (pc' := 82) (v := .ref 125) kc_76_79 rfl rfl rfl eh1.1 rfl ?_
    refine xi_iload_n (pc' := 83) (x := 6) kc_76_82 rfl rfl ?_
    refine xi_iaload (pc' := 84) (v := (-9)) kc_76_83 rfl ((eh1.2.1 125 (by decide)).trans (F 125 _ hl_125)) (by decide) rfl (xi_in (n := 12) (by decide) (by decide)) rfl ?_
    refine xi_ift (pc' := 91) kc_76_84 rfl rfl ?_
    refine xi_iconst (pc' := 92) (v := 0) kc_76_91 rfl rfl ?_
    refine xi_iadd (pc' := 93) (v := 0) kc_76_92 rfl rfl ?_
    refine xi_istore_n (pc' := 94) (lv' := [(2, .int 0), (3, .int 6), (0, .ref 115), (1, .int a1)]) kc_76_93 rfl rfl (xm_lt ml_76 rfl) ?_
    refine xi_iinc (pc' := 97) (x := 6) (v := 7) (lv' := [(3, .int 7), (2, .int 0), (0, .ref 115), (1, .int a1)]) kc_76_94 rfl rfl rfl rfl (xm_lt ml_76 rfl) ?_
    refine xi_goto (pc' := 71) kc_76_97 rfl ?_
    refine xi_iload_n (pc' := 72) (x := 7) kc_76_71 rfl rfl ?_
    refine xi_bipush (pc' := 74) (v := 12) kc_76_72 rfl rfl ?_
    refine xi_cmf (pc' := 77) kc_76_74 rfl rfl ?_
    refine xi_iload_n (pc' := 78) (x := 0) kc_76_77 rfl rfl ?_
    refine xi_aload_n (pc' := 79) (x := 115) kc_76_78 rfl rfl ?_
    refine xi_getfield (pc' := 82) (v := .ref 125) kc_76_79 rfl rfl rfl eh1.1 rfl ?_
    refine xi_iload_n (pc' := 83) (x := 7) kc_76_82 rfl rfl ?_
    refine xi_iaload (pc' := 84) (v := (-9)) kc_76_83 rfl ((eh1.2.1 125 (by decide)).trans (F 125 _ hl_125)) (by decide) rfl (xi_in (n := 12) (by decide) (by decide)) rfl ?_
    refine xi_ift (pc' := 91) kc_76_84 rfl rfl ?_
    refine xi_iconst (pc' := 92) (v := 0) kc_76_91 rfl rfl ?_
    refine xi_iadd (pc' := 93) (v := 0) kc_76_92 rfl rfl ?_
    refine xi_istore_n (pc' := 94) (lv' := [(2, .int 0), (3, .int 7), (0, .ref 115), (1, .int a1)]) kc_76_93 rfl rfl (xm_lt ml_76 rfl) ?_
    refine xi_iinc (pc' := 97) (x := 7) (v := 8) (lv' := [(3, .int 8), (2, .int 0), (0, .ref 115), (1, .int a1)]) kc_76_94 rfl rfl rfl rfl (xm_lt ml_76 rfl) ?_
    refine xi_goto (pc' := 71) kc_76_97 rfl ?_
    refine xi_iload_n (pc' := 72) (x := 8) kc_76_71 rfl rfl ?_
    refine xi_bipush (pc' := 74) (v := 12) kc_76_72 rfl rfl ?_
    refine xi_cmf (pc' := 77) kc_76_74 rfl rfl ?_
    refine xi_iload_n (pc' := 78) (x := 0) kc_76_77 rfl rfl ?_
    refine xi_aload_n (pc' := 79) (x := 115) kc_76_78 rfl rfl ?_
    refine xi_getfield (pc' := 82) (v := .ref 125) kc_76_79 rfl rfl rfl eh1.1 rfl ?_
    refine xi_iload_n (pc' := 83) (x := 8) kc_76_82 rfl rfl ?_
    refine xi_iaload (pc' := 84) (v := (-9)) kc_76_83 rfl ((eh1.2.1 125 (by decide)).trans (F 125 _ hl_125)) (by decide) rfl (xi_in (n := 12) (by decide) (by decide)) rfl ?_
    refine xi_ift (pc' := 91) kc_76_84 rfl rfl ?_
    refine xi_iconst (pc' := 92) (v := 0) kc_76_91 rfl rfl ?_
    refine xi_iadd (pc' := 93) (v := 0) kc_76_92 rfl rfl ?_
    refine xi_istore_n (pc' := 94) (lv' := [(2, .int 0), (3, .int 8), (0, .ref 115), (1, .int a1)]) kc_76_93 rfl rfl (xm_lt ml_76 rfl) ?_
    refine xi_iinc (pc' := 97) (x := 8) (v := 9) (lv' := [(3, .int 9), (2, .int 0), (0, .ref 115), (1, .int a1)]) kc_76_94 rfl rfl rfl rfl (xm_lt ml_76 rfl) ?_
    refine xi_goto (pc' := 71) kc_76_97 rfl ?_
    refine xi_iload_n (pc' := 72) (x := 9) kc_76_71 rfl rfl ?_
    refine xi_bipush (pc' := 74) (v := 12) kc_76_72 rfl rfl ?_
    refine xi_cmf (pc' := 77) kc_76_74 rfl rfl ?_
    refine xi_iload_n (pc' := 78) (x := 0) kc_76_77 rfl rfl ?_
    refine xi_aload_n (pc' := 79) (x := 115) kc_76_78 rfl rfl ?_
    refine xi_getfield (pc' := 82) (v := .ref 125) kc_76_79 rfl rfl rfl eh1.1 rfl ?_
    refine xi_iload_n (pc' := 83) (x := 9) kc_76_82 rfl rfl ?_
    refine xi_iaload (pc' := 84) (v := (-9)) kc_76_83 rfl ((eh1.2.1 125 (by decide)).trans (F 125 _ hl_125)) (by decide) rfl (xi_in (n := 12) (by decide) (by decide)) rfl ?_
    refine xi_ift (pc' := 91) kc_76_84 rfl rfl ?_
    refine xi_iconst (pc' := 92) (v := 0) kc_76_91 rfl rfl ?_
    refine xi_iadd (pc' := 93) (v := 0) kc_76_92 rfl rfl ?_
    refine xi_istore_n (pc' := 94) (lv' := [(2, .int 0), (3, .int 9), (0, .ref 115), (1, .int a1)]) kc_76_93 rfl rfl (xm_lt ml_76 rfl) ?_
    refine xi_iinc (pc' := 97) (x := 9) (v := 10) (lv' := [(3, .int 10), (2, .int 0), (0, .ref 115), (1, .int a1)]) kc_76_94 rfl rfl rfl rfl (xm_lt ml_76 rfl) ?_
    refine xi_goto (pc' := 71) kc_76_97 rfl ?_
    refine xi_iload_n (pc' := 72) (x := 10) kc_76_71 rfl rfl ?_
    refine xi_bipush (pc' := 74) (v := 12) kc_76_72 rfl rfl ?_
    refine xi_cmf (pc' := 77) kc_76_74 rfl rfl ?_
    refine xi_iload_n (pc' := 78) (x := 0) kc_76_77 rfl rfl ?_
    refine xi_aload_n (pc' := 79) (x := 115) kc_76_78 rfl rfl ?_
    refine xi_getfield (pc' := 82) (v := .ref 125) kc_76_79 rfl rfl rfl eh1.1 rfl ?_
    refine xi_iload_n (pc' := 83) (x := 10) kc_76_82 rfl rfl ?_
    refine xi_iaload (pc' := 84) (v := (-9)) kc_76_83 rfl ((eh1.2.1 125 (by decide)).trans (F 125 _ hl_125)) (by decide) rfl (xi_in (n := 12) (by decide) (by decide)) rfl ?_
    refine xi_ift (pc' := 91) kc_76_84 rfl rfl ?_
    refine xi_iconst (pc' := 92) (v := 0) kc_76_91 rfl rfl ?_
    refine xi_iadd (pc' := 93) (v := 0) kc_76_92 rfl rfl ?_
    refine xi_istore_n (pc' := 94) (lv' := [(2, .int 0), (3, .int 10), (0, .ref 115), (1, .int a1)]) kc_76_93 rfl rfl (xm_lt ml_76 rfl) ?_
    refine xi_iinc (pc' := 97) (x := 10) (v := 11) (lv' := [(3, .int 11), (2, .int 0), (0, .ref 115), (1, .int a1)]) kc_76_94 rfl rfl rfl rfl (xm_lt ml_76 rfl) ?_
    refine xi_goto (pc' := 71) kc_76_97 rfl ?_
    refine xi_iload_n (pc' := 72) (x := 11) kc_76_71 rfl rfl ?_
    refine xi_bipush (pc' := 74) (v := 12) kc_76_72 rfl rfl ?_
    refine xi_cmf (pc' := 77) kc_76_74 rfl rfl ?_
    refine xi_iload_n (pc' := 78) (x := 0) kc_76_77 rfl rfl ?_
    refine xi_aload_n (pc' := 79) (x := 115) kc_76_78 rfl rfl ?_
    refine xi_getfield (pc' := 82) (v := .ref 125) kc_76_79 rfl rfl rfl eh1.1 rfl ?_
    refine xi_iload_n (pc' := 83) (x := 11) kc_76_82 rfl rfl ?_
    refine xi_iaload (pc' := 84) (v := (-9)) kc_76_83 rfl ((eh1.2.1 125 (by decide)).trans (F 125 _ hl_125)) (by decide) rfl (xi_in (n := 12) (by decide) (by decide)) rfl ?_
    refine xi_ift (pc' := 91) kc_76_84 rfl rfl ?_
    refine xi_iconst (pc' := 92) (v := 0) kc_76_91 rfl rfl ?_
    refine xi_iadd (pc' := 93) (v := 0) kc_76_92 rfl rfl ?_
    refine xi_istore_n (pc' := 94) (lv' := [(2, .int 0), (3, .int 11), (0, .ref 115), (1, .int a1)]) kc_76_93 rfl rfl (xm_lt ml_76 rfl) ?_
    refine xi_iinc (pc' := 97) (x := 11) (v := 12) (lv' := [(3, .int 12), (2, .int 0), (0, .ref 115), (1, .int a1)]) kc_76_94 rfl rfl rfl rfl (xm_lt ml_76 rfl) ?_
    refine xi_goto (pc' := 71) kc_76_97 rfl ?_
    refine xi_iload_n (pc' := 72) (x := 12) kc_76_71 rfl rfl ?_
    refine xi_bipush (pc' := 74) (v := 12) kc_76_72 rfl rfl ?_
    refine xi_cmt (pc' := 100) kc_76_74 rfl rfl ?_
    refine xi_iload_n (pc' := 101) (x := 0) kc_76_100 rfl rfl ?_
    refine xi_ireturn kc_76_101 mr_76 rfl ?_
    show xw J ov 100 196 (1523, [(4, .int 0), (3, .ref 167), (2, .ref 115), (1, .ref 0), (0, .ref 1000000)], [.int 0, .int 0], hh1) _
    refine xi_cmt (pc' := 1528) kc_196_1523 rfl rfl ?_
    refine xi_iinc (pc' := 1531) (x := 0) (v := 6) (lv' := [(4, .int 6), (3, .ref 167), (2, .ref 115), (1, .ref 0), (0, .ref 1000000)]) kc_196_1528 rfl rfl rfl rfl (xm_lt ml_196 rfl) ?_
    refine xi_goto (pc' := 23) kc_196_1531 rfl ?_
    refine xi_iload (pc' := 25) (x := 6) kc_196_23 rfl rfl ?_
    refine xi_aload_n (pc' := 26) (x := 1000000) kc_196_25 rfl rfl ?_
    refine xi_arraylength (pc' := 27) (n := 6) (v := 6) kc_196_26 rfl (xl_lenO (by decide) hov0 rfl) rfl ?_
    refine xi_bipush (pc' := 29) (v := 6) kc_196_27 rfl rfl ?_
    refine xi_isub (pc' := 30) (v := 0) kc_196_29 rfl rfl ?_
    refine xi_cmt (pc' := 1534) kc_196_30 rfl rfl ?_
    refine xi_iconst (pc' := 1535) (v := 1) kc_196_1534 rfl rfl ?_
    refine xi_ireturn kc_196_1535 mr_196 rfl ?_
    refine ⟨rfl, ?_, ?_⟩
    · rw [eh1.2.2.1]; exact hn0
    · rw [eh1.2.2.2]; exact hz0
  by_cases c3 : a1.toInt = 2
  · refine xi_tsi (pc' := 69) (z := 2) kc_191_1 (by omega) rfl (by decide) ?_
    refine xi_aload_n (pc' := 70) (x := 0) kc_191_69 rfl rfl ?_
    refine xi_getfield (pc' := 73) (v := .ref 66) kc_191_70 rfl rfl rfl (F 0 _ hl_0) rfl ?_
    refine xi_getfield (pc' := 76) (v := .int 0) kc_191_73 rfl rfl rfl (F 66 _ hl_66) rfl ?_
    refine xi_ireturn kc_191_76 mr_191 rfl ?_
    show xw J ov 100 196 (1513, [(4, .int 0), (3, .ref 167), (2, .ref 115), (1, .ref 0), (0, .ref 1000000)], [.int 0], h0) _
    refine xi_aload_n (pc' := 1514) (x := 115) kc_196_1513 rfl rfl ?_
    refine xi_aload_n (pc' := 1515) (x := 1000000) kc_196_1514 rfl rfl ?_
    refine xi_iload (pc' := 1517) (x := 0) kc_196_1515 rfl rfl ?_
    refine xi_iconst (pc' := 1518) (v := 1) kc_196_1517 rfl rfl ?_
    refine xi_iadd (pc' := 1519) (v := 1) kc_196_1518 rfl rfl ?_
    refine xi_ialoadO (pc' := 1520) (v := a1) kc_196_1519 rfl (by decide) hov0 (xi_in (n := 6) (by decide) (by decide)) rfl ?_
    refine xi_virtual (mj := 76) (as := [.int a1]) (st1 := [.int 0]) (lv0 := [(0, .ref 115), (1, .int a1)]) kc_196_1520 rfl rfl rfl rfl rfl (F 115 _ hl_115) (Nat.le_of_ble_eq_true rfl) (hJ _ _ _ _ (by decide)) (xm_le ml_76 rfl) rfl ?_
    refine xi_aload_n (pc' := 1) (x := 115) kc_76_0 rfl rfl ?_
    refine xi_iconst (pc' := 2) (v := 0) kc_76_1 rfl rfl ?_
    refine xi_putfield (pc' := 5) (fs' := [.int 0, .int 0, .ref 116, .ref 117, .ref 118, .ref 119, .ref 120, .ref 121, .ref 122, .ref 123, .ref 124, .ref 125, .ref 126, .ref 127, .ref 128, .ref 129, .int 4, .ref 130, .int 0, .ref 131, .ref 132, .ref 133, .ref 134, .int 0, .ref 135, .ref 136, .ref 137, .ref 138, .ref 139, .ref 140, .ref 141, .ref 142, .int 0, .int 0, .int 0, .ref 143, .ref 144, .ref 145, .ref 146, .ref 147, .ref 148, .int 0, .ref 149, .ref 150, .ref 151, .int 0, .ref 152, .ref 153, .ref 154, .ref 155, .ref 156, .ref 157, .ref 158, .ref 159, .int 0, .ref 160, .int 0, .ref 161, .ref 162, .ref 163, .ref 164, .int 0, .ref 165, .ref 166]) kc_76_2 rfl rfl rfl (F 115 _ hl_115) rfl rfl rfl (Nat.le_of_ble_eq_true rfl) rfl (fun hh1 eh1 => ?_)
    refine xi_iconst (pc' := 6) (v := 0) kc_76_5 rfl rfl ?_
    refine xi_istore_n (pc' := 7) (lv' := [(2, .int 0), (0, .ref 115), (1, .int a1)]) kc_76_6 rfl rfl (xm_lt ml_76 rfl) ?_
    refine xi_iload_n (pc' := 8) (x := a1) kc_76_7 rfl rfl ?_
    refine xi_tsi (pc' := 102) (z := 2) kc_76_8 (by omega) rfl (by decide) ?_
    refine xi_aload_n (pc' := 103) (x := 115) kc_76_102 rfl rfl ?_
    refine xi_getfield (pc' := 106) (v := .int 0) kc_76_103 rfl rfl rfl eh1.1 rfl ?_
    refine xi_ireturn kc_76_106 mr_76 rfl ?_
    show xw J ov 100 196 (1523, [(4, .int 0), (3, .ref 167), (2, .ref 115), (1, .ref 0), (0, .ref 1000000)], [.int 0, .int 0], hh1) _
    refine xi_cmt (pc' := 1528) kc_196_1523 rfl rfl ?_
    refine xi_iinc (pc' := 1531) (x := 0) (v := 6) (lv' := [(4, .int 6), (3, .ref 167), (2, .ref 115), (1, .ref 0), (0, .ref 1000000)]) kc_196_1528 rfl rfl rfl rfl (xm_lt ml_196 rfl) ?_
    refine xi_goto (pc' := 23) kc_196_1531 rfl ?_
    refine xi_iload (pc' := 25) (x := 6) kc_196_23 rfl rfl ?_
    refine xi_aload_n (pc' := 26) (x := 1000000) kc_196_25 rfl rfl ?_
    refine xi_arraylength (pc' := 27) (n := 6) (v := 6) kc_196_26 rfl (xl_lenO (by decide) hov0 rfl) rfl ?_
    refine xi_bipush (pc' := 29) (v := 6) kc_196_27 rfl rfl ?_
    refine xi_isub (pc' := 30) (v := 0) kc_196_29 rfl rfl ?_
    refine xi_cmt (pc' := 1534) kc_196_30 rfl rfl ?_
    refine xi_iconst (pc' := 1535) (v := 1) kc_196_1534 rfl rfl ?_
    refine xi_ireturn kc_196_1535 mr_196 rfl ?_
    refine ⟨rfl, ?_, ?_⟩
    · rw [eh1.2.2.1]; exact hn0
    · rw [eh1.2.2.2]; exact hz0
  by_cases c4 : a1.toInt = 3
  · refine xi_tsi (pc' := 77) (z := 3) kc_191_1 (by omega) rfl (by decide) ?_
    refine xi_aload_n (pc' := 78) (x := 0) kc_191_77 rfl rfl ?_
    refine xi_getfield (pc' := 81) (v := .ref 1) kc_191_78 rfl rfl rfl (F 0 _ hl_0) rfl ?_
    refine xi_getfield (pc' := 84) (v := .int 0) kc_191_81 rfl rfl rfl (F 1 _ hl_1) rfl ?_
    refine xi_ireturn kc_191_84 mr_191 rfl ?_
    show xw J ov 100 196 (1513, [(4, .int 0), (3, .ref 167), (2, .ref 115), (1, .ref 0), (0, .ref 1000000)], [.int 0], h0) _
    refine xi_aload_n (pc' := 1514) (x := 115) kc_196_1513 rfl rfl ?_
    refine xi_aload_n (pc' := 1515) (x := 1000000) kc_196_1514 rfl rfl ?_
    refine xi_iload (pc' := 1517) (x := 0) kc_196_1515 rfl rfl ?_
    refine xi_iconst (pc' := 1518) (v := 1) kc_196_1517 rfl rfl ?_
    refine xi_iadd (pc' := 1519) (v := 1) kc_196_1518 rfl rfl ?_
    refine xi_ialoadO (pc' := 1520) (v := a1) kc_196_1519 rfl (by decide) hov0 (xi_in (n := 6) (by decide) (by decide)) rfl ?_
    refine xi_virtual (mj := 76) (as := [.int a1]) (st1 := [.int 0]) (lv0 := [(0, .ref 115), (1, .int a1)]) kc_196_1520 rfl rfl rfl rfl rfl (F 115 _ hl_115) (Nat.le_of_ble_eq_true rfl) (hJ _ _ _ _ (by decide)) (xm_le ml_76 rfl) rfl ?_
    refine xi_aload_n (pc' := 1) (x := 115) kc_76_0 rfl rfl ?_
    refine xi_iconst (pc' := 2) (v := 0) kc_76_1 rfl rfl ?_
    refine xi_putfield (pc' := 5) (fs' := [.int 0, .int 0, .ref 116, .ref 117, .ref 118, .ref 119, .ref 120, .ref 121, .ref 122, .ref 123, .ref 124, .ref 125, .ref 126, .ref 127, .ref 128, .ref 129, .int 4, .ref 130, .int 0, .ref 131, .ref 132, .ref 133, .ref 134, .int 0, .ref 135, .ref 136, .ref 137, .ref 138, .ref 139, .ref 140, .ref 141, .ref 142, .int 0, .int 0, .int 0, .ref 143, .ref 144, .ref 145, .ref 146, .ref 147, .ref 148, .int 0, .ref 149, .ref 150, .ref 151, .int 0, .ref 152, .ref 153, .ref 154, .ref 155, .ref 156, .ref 157, .ref 158, .ref 159, .int 0, .ref 160, .int 0, .ref 161, .ref 162, .ref 163, .ref 164, .int 0, .ref 165, .ref 166]) kc_76_2 rfl rfl rfl (F 115 _ hl_115) rfl rfl rfl (Nat.le_of_ble_eq_true rfl) rfl (fun hh1 eh1 => ?_)
    refine xi_iconst (pc' := 6) (v := 0) kc_76_5 rfl rfl ?_
    refine xi_istore_n (pc' := 7) (lv' := [(2, .int 0), (0, .ref 115), (1, .int a1)]) kc_76_6 rfl rfl (xm_lt ml_76 rfl) ?_
    refine xi_iload_n (pc' := 8) (x := a1) kc_76_7 rfl rfl ?_
    refine xi_tsi (pc' := 107) (z := 3) kc_76_8 (by omega) rfl (by decide) ?_
    refine xi_aload_n (pc' := 108) (x := 115) kc_76_107 rfl rfl ?_
    refine xi_getfield (pc' := 111) (v := .int 0) kc_76_108 rfl rfl rfl eh1.1 rfl ?_
    refine xi_ireturn kc_76_111 mr_76 rfl ?_
    show xw J ov 100 196 (1523, [(4, .int 0), (3, .ref 167), (2, .ref 115), (1, .ref 0), (0, .ref 1000000)], [.int 0, .int 0], hh1) _
    refine xi_cmt (pc' := 1528) kc_196_1523 rfl rfl ?_
    refine xi_iinc (pc' := 1531) (x := 0) (v := 6) (lv' := [(4, .int 6), (3, .ref 167), (2, .ref 115), (1, .ref 0), (0, .ref 1000000)]) kc_196_1528 rfl rfl rfl rfl (xm_lt ml_196 rfl) ?_
    refine xi_goto (pc' := 23) kc_196_1531 rfl ?_
    refine xi_iload (pc' := 25) (x := 6) kc_196_23 rfl rfl ?_
    refine xi_aload_n (pc' := 26) (x := 1000000) kc_196_25 rfl rfl ?_
    refine xi_arraylength (pc' := 27) (n := 6) (v := 6) kc_196_26 rfl (xl_lenO (by decide) hov0 rfl) rfl ?_
    refine xi_bipush (pc' := 29) (v := 6) kc_196_27 rfl rfl ?_
    refine xi_isub (pc' := 30) (v := 0) kc_196_29 rfl rfl ?_
    refine xi_cmt (pc' := 1534) kc_196_30 rfl rfl ?_
    refine xi_iconst (pc' := 1535) (v := 1) kc_196_1534 rfl rfl ?_
    refine xi_ireturn kc_196_1535 mr_196 rfl ?_
    refine ⟨rfl, ?_, ?_⟩
    · rw [eh1.2.2.1]; exact hn0
    · rw [eh1.2.2.2]; exact hz0
  by_cases c5 : a1.toInt = 4
  · refine xi_tsi (pc' := 85) (z := 4) kc_191_1 (by omega) rfl (by decide) ?_
    refine xi_aload_n (pc' := 86) (x := 0) kc_191_85 rfl rfl ?_
    refine xi_getfield (pc' := 89) (v := .ref 63) kc_191_86 rfl rfl rfl (F 0 _ hl_0) rfl ?_
    refine xi_getfield (pc' := 92) (v := .int 0) kc_191_89 rfl rfl rfl (F 63 _ hl_63) rfl ?_
    refine xi_static (mj := 4) (as := [.int 0]) (st1 := []) (lv0 := [(0, .int 0)]) kc_191_92 rfl rfl (Nat.le_of_ble_eq_true rfl) rfl rfl (Nat.le_of_ble_eq_true rfl) (hJ _ _ _ _ (by decide)) (xm_le ml_4 rfl) rfl ?_
    refine xi_iload_n (pc' := 1) (x := 0) kc_4_0 rfl rfl ?_
    refine xi_iload_n (pc' := 2) (x := 0) kc_4_1 rfl rfl ?_
    refine xi_iconst (pc' := 3) (v := 1) kc_4_2 rfl rfl ?_
    refine xi_iushr (pc' := 4) (v := 0) kc_4_3 rfl rfl ?_
    refine xi_ldc_w (pc' := 7) (v := 1431655765) kc_4_4 rfl rfl ?_
    refine xi_iand (pc' := 8) (v := 0) kc_4_7 rfl rfl ?_
    refine xi_isub (pc' := 9) (v := 0) kc_4_8 rfl rfl ?_
    refine xi_istore_n (pc' := 10) (lv' := [(0, .int 0)]) kc_4_9 rfl rfl (xm_lt ml_4 rfl) ?_
    refine xi_iload_n (pc' := 11) (x := 0) kc_4_10 rfl rfl ?_
    refine xi_ldc_w (pc' := 14) (v := 858993459) kc_4_11 rfl rfl ?_
    refine xi_iand (pc' := 15) (v := 0) kc_4_14 rfl rfl ?_
    refine xi_iload_n (pc' := 16) (x := 0) kc_4_15 rfl rfl ?_
    refine xi_iconst (pc' := 17) (v := 2) kc_4_16 rfl rfl ?_
    refine xi_iushr (pc' := 18) (v := 0) kc_4_17 rfl rfl ?_
    refine xi_ldc_w (pc' := 21) (v := 858993459) kc_4_18 rfl rfl ?_
    refine xi_iand (pc' := 22) (v := 0) kc_4_21 rfl rfl ?_
    refine xi_iadd (pc' := 23) (v := 0) kc_4_22 rfl rfl ?_
    refine xi_istore_n (pc' := 24) (lv' := [(0, .int 0)]) kc_4_23 rfl rfl (xm_lt ml_4 rfl) ?_
    refine xi_iload_n (pc' := 25) (x := 0) kc_4_24 rfl rfl ?_
    refine xi_iload_n (pc' := 26) (x := 0) kc_4_25 rfl rfl ?_
    refine xi_iconst (pc' := 27) (v := 4) kc_4_26 rfl rfl ?_
    refine xi_iushr (pc' := 28) (v := 0) kc_4_27 rfl rfl ?_
    refine xi_iadd (pc' := 29) (v := 0) kc_4_28 rfl rfl ?_
    refine xi_ldc_w (pc' := 32) (v := 252645135) kc_4_29 rfl rfl ?_
    refine xi_iand (pc' := 33) (v := 0) kc_4_32 rfl rfl ?_
    refine xi_istore_n (pc' := 34) (lv' := [(0, .int 0)]) kc_4_33 rfl rfl (xm_lt ml_4 rfl) ?_
    refine xi_iload_n (pc' := 35) (x := 0) kc_4_34 rfl rfl ?_
    refine xi_iload_n (pc' := 36) (x := 0) kc_4_35 rfl rfl ?_
    refine xi_bipush (pc' := 38) (v := 8) kc_4_36 rfl rfl ?_
    refine xi_iushr (pc' := 39) (v := 0) kc_4_38 rfl rfl ?_
    refine xi_iadd (pc' := 40) (v := 0) kc_4_39 rfl rfl ?_
    refine xi_istore_n (pc' := 41) (lv' := [(0, .int 0)]) kc_4_40 rfl rfl (xm_lt ml_4 rfl) ?_
    refine xi_iload_n (pc' := 42) (x := 0) kc_4_41 rfl rfl ?_
    refine xi_iload_n (pc' := 43) (x := 0) kc_4_42 rfl rfl ?_
    refine xi_bipush (pc' := 45) (v := 16) kc_4_43 rfl rfl ?_
    refine xi_iushr (pc' := 46) (v := 0) kc_4_45 rfl rfl ?_
    refine xi_iadd (pc' := 47) (v := 0) kc_4_46 rfl rfl ?_
    refine xi_istore_n (pc' := 48) (lv' := [(0, .int 0)]) kc_4_47 rfl rfl (xm_lt ml_4 rfl) ?_
    refine xi_iload_n (pc' := 49) (x := 0) kc_4_48 rfl rfl ?_
    refine xi_bipush (pc' := 51) (v := 63) kc_4_49 rfl rfl ?_
    refine xi_iand (pc' := 52) (v := 0) kc_4_51 rfl rfl ?_
    refine xi_ireturn kc_4_52 mr_4 rfl ?_
    show xw J ov 99 191 (95, [(0, .ref 0), (1, .int a1)], [.int 0], h0) _
    refine xi_ireturn kc_191_95 mr_191 rfl ?_
    show xw J ov 100 196 (1513, [(4, .int 0), (3, .ref 167), (2, .ref 115), (1, .ref 0), (0, .ref 1000000)], [.int 0], h0) _
    refine xi_aload_n (pc' := 1514) (x := 115) kc_196_1513 rfl rfl ?_
    refine xi_aload_n (pc' := 1515) (x := 1000000) kc_196_1514 rfl rfl ?_
    refine xi_iload (pc' := 1517) (x := 0) kc_196_1515 rfl rfl ?_
    refine xi_iconst (pc' := 1518) (v := 1) kc_196_1517 rfl rfl ?_
    refine xi_iadd (pc' := 1519) (v := 1) kc_196_1518 rfl rfl ?_
    refine xi_ialoadO (pc' := 1520) (v := a1) kc_196_1519 rfl (by decide) hov0 (xi_in (n := 6) (by decide) (by decide)) rfl ?_
    refine xi_virtual (mj := 76) (as := [.int a1]) (st1 := [.int 0]) (lv0 := [(0, .ref 115), (1, .int a1)]) kc_196_1520 rfl rfl rfl rfl rfl (F 115 _ hl_115) (Nat.le_of_ble_eq_true rfl) (hJ _ _ _ _ (by decide)) (xm_le ml_76 rfl) rfl ?_
    refine xi_aload_n (pc' := 1) (x := 115) kc_76_0 rfl rfl ?_
    refine xi_iconst (pc' := 2) (v := 0) kc_76_1 rfl rfl ?_
    refine xi_putfield (pc' := 5) (fs' := [.int 0, .int 0, .ref 116, .ref 117, .ref 118, .ref 119, .ref 120, .ref 121, .ref 122, .ref 123, .ref 124, .ref 125, .ref 126, .ref 127, .ref 128, .ref 129, .int 4, .ref 130, .int 0, .ref 131, .ref 132, .ref 133, .ref 134, .int 0, .ref 135, .ref 136, .ref 137, .ref 138, .ref 139, .ref 140, .ref 141, .ref 142, .int 0, .int 0, .int 0, .ref 143, .ref 144, .ref 145, .ref 146, .ref 147, .ref 148, .int 0, .ref 149, .ref 150, .ref 151, .int 0, .ref 152, .ref 153, .ref 154, .ref 155, .ref 156, .ref 157, .ref 158, .ref 159, .int 0, .ref 160, .int 0, .ref 161, .ref 162, .ref 163, .ref 164, .int 0, .ref 165, .ref 166]) kc_76_2 rfl rfl rfl (F 115 _ hl_115) rfl rfl rfl (Nat.le_of_ble_eq_true rfl) rfl (fun hh1 eh1 => ?_)
    refine xi_iconst (pc' := 6) (v := 0) kc_76_5 rfl rfl ?_
    refine xi_istore_n (pc' := 7) (lv' := [(2, .int 0), (0, .ref 115), (1, .int a1)]) kc_76_6 rfl rfl (xm_lt ml_76 rfl) ?_
    refine xi_iload_n (pc' := 8) (x := a1) kc_76_7 rfl rfl ?_
    refine xi_tsi (pc' := 112) (z := 4) kc_76_8 (by omega) rfl (by decide) ?_
    refine xi_iconst (pc' := 113) (v := 0) kc_76_112 rfl rfl ?_
    refine xi_istore_n (pc' := 114) (lv' := [(3, .int 0), (2, .int 0), (0, .ref 115), (1, .int a1)]) kc_76_113 rfl rfl (xm_lt ml_76 rfl) ?_
    refine xi_iload_n (pc' := 115) (x := 0) kc_76_114 rfl rfl ?_
    refine xi_aload_n (pc' := 116) (x := 115) kc_76_115 rfl rfl ?_
    refine xi_getfield (pc' := 119) (v := .int 0) kc_76_116 rfl rfl rfl eh1.1 rfl ?_
    refine xi_cmt (pc' := 145) kc_76_119 rfl rfl ?_
    refine xi_iload_n (pc' := 146) (x := 0) kc_76_145 rfl rfl ?_
    refine xi_ireturn kc_76_146 mr_76 rfl ?_
    show xw J ov 100 196 (1523, [(4, .int 0), (3, .ref 167), (2, .ref 115), (1, .ref 0), (0, .ref 1000000)], [.int 0, .int 0], hh1) _
    refine xi_cmt (pc' := 1528) kc_196_1523 rfl rfl ?_
    refine xi_iinc (pc' := 1531) (x := 0) (v := 6) (lv' := [(4, .int 6), (3, .ref 167), (2, .ref 115), (1, .ref 0), (0, .ref 1000000)]) kc_196_1528 rfl rfl rfl rfl (xm_lt ml_196 rfl) ?_
    refine xi_goto (pc' := 23) kc_196_1531 rfl ?_
    refine xi_iload (pc' := 25) (x := 6) kc_196_23 rfl rfl ?_
    refine xi_aload_n (pc' := 26) (x := 1000000) kc_196_25 rfl rfl ?_
    refine xi_arraylength (pc' := 27) (n := 6) (v := 6) kc_196_26 rfl (xl_lenO (by decide) hov0 rfl) rfl ?_
    refine xi_bipush (pc' := 29) (v := 6) kc_196_27 rfl rfl ?_
    refine xi_isub (pc' := 30) (v := 0) kc_196_29 rfl rfl ?_
    refine xi_cmt (pc' := 1534) kc_196_30 rfl rfl ?_
    refine xi_iconst (pc' := 1535) (v := 1) kc_196_1534 rfl rfl ?_
    refine xi_ireturn kc_196_1535 mr_196 rfl ?_
    refine ⟨rfl, ?_, ?_⟩
    · rw [eh1.2.2.1]; exact hn0
    · rw [eh1.2.2.2]; exact hz0
  by_cases c6 : a1.toInt = 5
  · refine xi_tsi (pc' := 96) (z := 5) kc_191_1 (by omega) rfl (by decide) ?_
    refine xi_aload_n (pc' := 97) (x := 0) kc_191_96 rfl rfl ?_
    refine xi_getfield (pc' := 100) (v := .ref 75) kc_191_97 rfl rfl rfl (F 0 _ hl_0) rfl ?_
    refine xi_getfield (pc' := 103) (v := .int 0) kc_191_100 rfl rfl rfl (F 75 _ hl_75) rfl ?_
    refine xi_ireturn kc_191_103 mr_191 rfl ?_
    show xw J ov 100 196 (1513, [(4, .int 0), (3, .ref 167), (2, .ref 115), (1, .ref 0), (0, .ref 1000000)], [.int 0], h0) _
    refine xi_aload_n (pc' := 1514) (x := 115) kc_196_1513 rfl rfl ?_
    refine xi_aload_n (pc' := 1515) (x := 1000000) kc_196_1514 rfl rfl ?_
    refine xi_iload (pc' := 1517) (x := 0) kc_196_1515 rfl rfl ?_
    refine xi_iconst (pc' := 1518) (v := 1) kc_196_1517 rfl rfl ?_
    refine xi_iadd (pc' := 1519) (v := 1) kc_196_1518 rfl rfl ?_
    refine xi_ialoadO (pc' := 1520) (v := a1) kc_196_1519 rfl (by decide) hov0 (xi_in (n := 6) (by decide) (by decide)) rfl ?_
    refine xi_virtual (mj := 76) (as := [.int a1]) (st1 := [.int 0]) (lv0 := [(0, .ref 115), (1, .int a1)]) kc_196_1520 rfl rfl rfl rfl rfl (F 115 _ hl_115) (Nat.le_of_ble_eq_true rfl) (hJ _ _ _ _ (by decide)) (xm_le ml_76 rfl) rfl ?_
    refine xi_aload_n (pc' := 1) (x := 115) kc_76_0 rfl rfl ?_
    refine xi_iconst (pc' := 2) (v := 0) kc_76_1 rfl rfl ?_
    refine xi_putfield (pc' := 5) (fs' := [.int 0, .int 0, .ref 116, .ref 117, .ref 118, .ref 119, .ref 120, .ref 121, .ref 122, .ref 123, .ref 124, .ref 125, .ref 126, .ref 127, .ref 128, .ref 129, .int 4, .ref 130, .int 0, .ref 131, .ref 132, .ref 133, .ref 134, .int 0, .ref 135, .ref 136, .ref 137, .ref 138, .ref 139, .ref 140, .ref 141, .ref 142, .int 0, .int 0, .int 0, .ref 143, .ref 144, .ref 145, .ref 146, .ref 147, .ref 148, .int 0, .ref 149, .ref 150, .ref 151, .int 0, .ref 152, .ref 153, .ref 154, .ref 155, .ref 156, .ref 157, .ref 158, .ref 159, .int 0, .ref 160, .int 0, .ref 161, .ref 162, .ref 163, .ref 164, .int 0, .ref 165, .ref 166]) kc_76_2 rfl rfl rfl (F 115 _ hl_115) rfl rfl rfl (Nat.le_of_ble_eq_true rfl) rfl (fun hh1 eh1 => ?_)
    refine xi_iconst (pc' := 6) (v := 0) kc_76_5 rfl rfl ?_
    refine xi_istore_n (pc' := 7) (lv' := [(2, .int 0), (0, .ref 115), (1, .int a1)]) kc_76_6 rfl rfl (xm_lt ml_76 rfl) ?_
    refine xi_iload_n (pc' := 8) (x := a1) kc_76_7 rfl rfl ?_
    refine xi_tsi (pc' := 147) (z := 5) kc_76_8 (by omega) rfl (by decide) ?_
    refine xi_aload_n (pc' := 148) (x := 115) kc_76_147 rfl rfl ?_
    refine xi_getfield (pc' := 151) (v := .int 0) kc_76_148 rfl rfl rfl eh1.1 rfl ?_
    refine xi_ireturn kc_76_151 mr_76 rfl ?_
    show xw J ov 100 196 (1523, [(4, .int 0), (3, .ref 167), (2, .ref 115), (1, .ref 0), (0, .ref 1000000)], [.int 0, .int 0], hh1) _
    refine xi_cmt (pc' := 1528) kc_196_1523 rfl rfl ?_
    refine xi_iinc (pc' := 1531) (x := 0) (v := 6) (lv' := [(4, .int 6), (3, .ref 167), (2, .ref 115), (1, .ref 0), (0, .ref 1000000)]) kc_196_1528 rfl rfl rfl rfl (xm_lt ml_196 rfl) ?_
    refine xi_goto (pc' := 23) kc_196_1531 rfl ?_
    refine xi_iload (pc' := 25) (x := 6) kc_196_23 rfl rfl ?_
    refine xi_aload_n (pc' := 26) (x := 1000000) kc_196_25 rfl rfl ?_
    refine xi_arraylength (pc' := 27) (n := 6) (v := 6) kc_196_26 rfl (xl_lenO (by decide) hov0 rfl) rfl ?_
    refine xi_bipush (pc' := 29) (v := 6) kc_196_27 rfl rfl ?_
    refine xi_isub (pc' := 30) (v := 0) kc_196_29 rfl rfl ?_
    refine xi_cmt (pc' := 1534) kc_196_30 rfl rfl ?_
    refine xi_iconst (pc' := 1535) (v := 1) kc_196_1534 rfl rfl ?_
    refine xi_ireturn kc_196_1535 mr_196 rfl ?_
    refine ⟨rfl, ?_, ?_⟩
    · rw [eh1.2.2.1]; exact hn0
    · rw [eh1.2.2.2]; exact hz0
  by_cases c7 : a1.toInt = 6
  · refine xi_tsi (pc' := 104) (z := 6) kc_191_1 (by omega) rfl (by decide) ?_
    refine xi_aload_n (pc' := 105) (x := 0) kc_191_104 rfl rfl ?_
    refine xi_getfield (pc' := 108) (v := .ref 75) kc_191_105 rfl rfl rfl (F 0 _ hl_0) rfl ?_
    refine xi_virtual (mj := 193) (as := []) (st1 := []) (lv0 := [(0, .ref 75)]) kc_191_108 rfl rfl rfl rfl rfl (F 75 _ hl_75) (Nat.le_of_ble_eq_true rfl) (hJ _ _ _ _ (by decide)) (xm_le ml_193 rfl) rfl ?_
    refine xi_iconst (pc' := 1) (v := 0) kc_193_0 rfl rfl ?_
    refine xi_istore_n (pc' := 2) (lv' := [(1, .int 0), (0, .ref 75)]) kc_193_1 rfl rfl (xm_lt ml_193 rfl) ?_
    refine xi_iconst (pc' := 3) (v := 0) kc_193_2 rfl rfl ?_
    refine xi_istore_n (pc' := 4) (lv' := [(2, .int 0), (1, .int 0), (0, .ref 75)]) kc_193_3 rfl rfl (xm_lt ml_193 rfl) ?_
    refine xi_iload_n (pc' := 5) (x := 0) kc_193_4 rfl rfl ?_
    refine xi_aload_n (pc' := 6) (x := 75) kc_193_5 rfl rfl ?_
    refine xi_getfield (pc' := 9) (v := .int 0) kc_193_6 rfl rfl rfl (F 75 _ hl_75) rfl ?_
    refine xi_cmt (pc' := 41) kc_193_9 rfl rfl ?_
    refine xi_iload_n (pc' := 42) (x := 0) kc_193_41 rfl rfl ?_
    refine xi_ireturn kc_193_42 mr_193 rfl ?_
    show xw J ov 99 191 (111, [(0, .ref 0), (1, .int a1)], [.int 0], h0) _
    refine xi_ireturn kc_191_111 mr_191 rfl ?_
    show xw J ov 100 196 (1513, [(4, .int 0), (3, .ref 167), (2, .ref 115), (1, .ref 0), (0, .ref 1000000)], [.int 0], h0) _
    refine xi_aload_n (pc' := 1514) (x := 115) kc_196_1513 rfl rfl ?_
    refine xi_aload_n (pc' := 1515) (x := 1000000) kc_196_1514 rfl rfl ?_
    refine xi_iload (pc' := 1517) (x := 0) kc_196_1515 rfl rfl ?_
    refine xi_iconst (pc' := 1518) (v := 1) kc_196_1517 rfl rfl ?_
    refine xi_iadd (pc' := 1519) (v := 1) kc_196_1518 rfl rfl ?_
    refine xi_ialoadO (pc' := 1520) (v := a1) kc_196_1519 rfl (by decide) hov0 (xi_in (n := 6) (by decide) (by decide)) rfl ?_
    refine xi_virtual (mj := 76) (as := [.int a1]) (st1 := [.int 0]) (lv0 := [(0, .ref 115), (1, .int a1)]) kc_196_1520 rfl rfl rfl rfl rfl (F 115 _ hl_115) (Nat.le_of_ble_eq_true rfl) (hJ _ _ _ _ (by decide)) (xm_le ml_76 rfl) rfl ?_
    refine xi_aload_n (pc' := 1) (x := 115) kc_76_0 rfl rfl ?_
    refine xi_iconst (pc' := 2) (v := 0) kc_76_1 rfl rfl ?_
    refine xi_putfield (pc' := 5) (fs' := [.int 0, .int 0, .ref 116, .ref 117, .ref 118, .ref 119, .ref 120, .ref 121, .ref 122, .ref 123, .ref 124, .ref 125, .ref 126, .ref 127, .ref 128, .ref 129, .int 4, .ref 130, .int 0, .ref 131, .ref 132, .ref 133, .ref 134, .int 0, .ref 135, .ref 136, .ref 137, .ref 138, .ref 139, .ref 140, .ref 141, .ref 142, .int 0, .int 0, .int 0, .ref 143, .ref 144, .ref 145, .ref 146, .ref 147, .ref 148, .int 0, .ref 149, .ref 150, .ref 151, .int 0, .ref 152, .ref 153, .ref 154, .ref 155, .ref 156, .ref 157, .ref 158, .ref 159, .int 0, .ref 160, .int 0, .ref 161, .ref 162, .ref 163, .ref 164, .int 0, .ref 165, .ref 166]) kc_76_2 rfl rfl rfl (F 115 _ hl_115) rfl rfl rfl (Nat.le_of_ble_eq_true rfl) rfl (fun hh1 eh1 => ?_)
    refine xi_iconst (pc' := 6) (v := 0) kc_76_5 rfl rfl ?_
    refine xi_istore_n (pc' := 7) (lv' := [(2, .int 0), (0, .ref 115), (1, .int a1)]) kc_76_6 rfl rfl (xm_lt ml_76 rfl) ?_
    refine xi_iload_n (pc' := 8) (x := a1) kc_76_7 rfl rfl ?_
    refine xi_tsi (pc' := 152) (z := 6) kc_76_8 (by omega) rfl (by decide) ?_
    refine xi_iconst (pc' := 153) (v := 0) kc_76_152 rfl rfl ?_
    refine xi_istore_n (pc' := 154) (lv' := [(3, .int 0), (2, .int 0), (0, .ref 115), (1, .int a1)]) kc_76_153 rfl rfl (xm_lt ml_76 rfl) ?_
    refine xi_iload_n (pc' := 155) (x := 0) kc_76_154 rfl rfl ?_
    refine xi_aload_n (pc' := 156) (x := 115) kc_76_155 rfl rfl ?_
    refine xi_getfield (pc' := 159) (v := .int 0) kc_76_156 rfl rfl rfl eh1.1 rfl ?_
    refine xi_cmt (pc' := 185) kc_76_159 rfl rfl ?_
    refine xi_iload_n (pc' := 186) (x := 0) kc_76_185 rfl rfl ?_
    refine xi_ireturn kc_76_186 mr_76 rfl ?_
    show xw J ov 100 196 (1523, [(4, .int 0), (3, .ref 167), (2, .ref 115), (1, .ref 0), (0, .ref 1000000)], [.int 0, .int 0], hh1) _
    refine xi_cmt (pc' := 1528) kc_196_1523 rfl rfl ?_
    refine xi_iinc (pc' := 1531) (x := 0) (v := 6) (lv' := [(4, .int 6), (3, .ref 167), (2, .ref 115), (1, .ref 0), (0, .ref 1000000)]) kc_196_1528 rfl rfl rfl rfl (xm_lt ml_196 rfl) ?_
    refine xi_goto (pc' := 23) kc_196_1531 rfl ?_
    refine xi_iload (pc' := 25) (x := 6) kc_196_23 rfl rfl ?_
    refine xi_aload_n (pc' := 26) (x := 1000000) kc_196_25 rfl rfl ?_
    refine xi_arraylength (pc' := 27) (n := 6) (v := 6) kc_196_26 rfl (xl_lenO (by decide) hov0 rfl) rfl ?_
    refine xi_bipush (pc' := 29) (v := 6) kc_196_27 rfl rfl ?_
    refine xi_isub (pc' := 30) (v := 0) kc_196_29 rfl rfl ?_
    refine xi_cmt (pc' := 1534) kc_196_30 rfl rfl ?_
    refine xi_iconst (pc' := 1535) (v := 1) kc_196_1534 rfl rfl ?_
    refine xi_ireturn kc_196_1535 mr_196 rfl ?_
    refine ⟨rfl, ?_, ?_⟩
    · rw [eh1.2.2.1]; exact hn0
    · rw [eh1.2.2.2]; exact hz0
  by_cases c8 : a1.toInt = 7
  · refine xi_tsi (pc' := 112) (z := 7) kc_191_1 (by omega) rfl (by decide) ?_
    refine xi_aload_n (pc' := 113) (x := 0) kc_191_112 rfl rfl ?_
    refine xi_getfield (pc' := 116) (v := .int 0) kc_191_113 rfl rfl rfl (F 0 _ hl_0) rfl ?_
    refine xi_ireturn kc_191_116 mr_191 rfl ?_
    show xw J ov 100 196 (1513, [(4, .int 0), (3, .ref 167), (2, .ref 115), (1, .ref 0), (0, .ref 1000000)], [.int 0], h0) _
    refine xi_aload_n (pc' := 1514) (x := 115) kc_196_1513 rfl rfl ?_
    refine xi_aload_n (pc' := 1515) (x := 1000000) kc_196_1514 rfl rfl ?_
    refine xi_iload (pc' := 1517) (x := 0) kc_196_1515 rfl rfl ?_
    refine xi_iconst (pc' := 1518) (v := 1) kc_196_1517 rfl rfl ?_
    refine xi_iadd (pc' := 1519) (v := 1) kc_196_1518 rfl rfl ?_
    refine xi_ialoadO (pc' := 1520) (v := a1) kc_196_1519 rfl (by decide) hov0 (xi_in (n := 6) (by decide) (by decide)) rfl ?_
    refine xi_virtual (mj := 76) (as := [.int a1]) (st1 := [.int 0]) (lv0 := [(0, .ref 115), (1, .int a1)]) kc_196_1520 rfl rfl rfl rfl rfl (F 115 _ hl_115) (Nat.le_of_ble_eq_true rfl) (hJ _ _ _ _ (by decide)) (xm_le ml_76 rfl) rfl ?_
    refine xi_aload_n (pc' := 1) (x := 115) kc_76_0 rfl rfl ?_
    refine xi_iconst (pc' := 2) (v := 0) kc_76_1 rfl rfl ?_
    refine xi_putfield (pc' := 5) (fs' := [.int 0, .int 0, .ref 116, .ref 117, .ref 118, .ref 119, .ref 120, .ref 121, .ref 122, .ref 123, .ref 124, .ref 125, .ref 126, .ref 127, .ref 128, .ref 129, .int 4, .ref 130, .int 0, .ref 131, .ref 132, .ref 133, .ref 134, .int 0, .ref 135, .ref 136, .ref 137, .ref 138, .ref 139, .ref 140, .ref 141, .ref 142, .int 0, .int 0, .int 0, .ref 143, .ref 144, .ref 145, .ref 146, .ref 147, .ref 148, .int 0, .ref 149, .ref 150, .ref 151, .int 0, .ref 152, .ref 153, .ref 154, .ref 155, .ref 156, .ref 157, .ref 158, .ref 159, .int 0, .ref 160, .int 0, .ref 161, .ref 162, .ref 163, .ref 164, .int 0, .ref 165, .ref 166]) kc_76_2 rfl rfl rfl (F 115 _ hl_115) rfl rfl rfl (Nat.le_of_ble_eq_true rfl) rfl (fun hh1 eh1 => ?_)
    refine xi_iconst (pc' := 6) (v := 0) kc_76_5 rfl rfl ?_
    refine xi_istore_n (pc' := 7) (lv' := [(2, .int 0), (0, .ref 115), (1, .int a1)]) kc_76_6 rfl rfl (xm_lt ml_76 rfl) ?_
    refine xi_iload_n (pc' := 8) (x := a1) kc_76_7 rfl rfl ?_
    refine xi_tsi (pc' := 187) (z := 7) kc_76_8 (by omega) rfl (by decide) ?_
    refine xi_aload_n (pc' := 188) (x := 115) kc_76_187 rfl rfl ?_
    refine xi_getfield (pc' := 191) (v := .int 0) kc_76_188 rfl rfl rfl eh1.1 rfl ?_
    refine xi_ireturn kc_76_191 mr_76 rfl ?_
    show xw J ov 100 196 (1523, [(4, .int 0), (3, .ref 167), (2, .ref 115), (1, .ref 0), (0, .ref 1000000)], [.int 0, .int 0], hh1) _
    refine xi_cmt (pc' := 1528) kc_196_1523 rfl rfl ?_
    refine xi_iinc (pc' := 1531) (x := 0) (v := 6) (lv' := [(4, .int 6), (3, .ref 167), (2, .ref 115), (1, .ref 0), (0, .ref 1000000)]) kc_196_1528 rfl rfl rfl rfl (xm_lt ml_196 rfl) ?_
    refine xi_goto (pc' := 23) kc_196_1531 rfl ?_
    refine xi_iload (pc' := 25) (x := 6) kc_196_23 rfl rfl ?_
    refine xi_aload_n (pc' := 26) (x := 1000000) kc_196_25 rfl rfl ?_
    refine xi_arraylength (pc' := 27) (n := 6) (v := 6) kc_196_26 rfl (xl_lenO (by decide) hov0 rfl) rfl ?_
    refine xi_bipush (pc' := 29) (v := 6) kc_196_27 rfl rfl ?_
    refine xi_isub (pc' := 30) (v := 0) kc_196_29 rfl rfl ?_
    refine xi_cmt (pc' := 1534) kc_196_30 rfl rfl ?_
    refine xi_iconst (pc' := 1535) (v := 1) kc_196_1534 rfl rfl ?_
    refine xi_ireturn kc_196_1535 mr_196 rfl ?_
    refine ⟨rfl, ?_, ?_⟩
    · rw [eh1.2.2.1]; exact hn0
    · rw [eh1.2.2.2]; exact hz0
  by_cases c9 : a1.toInt = 8
  · refine xi_tsi (pc' := 117) (z := 8) kc_191_1 (by omega) rfl (by decide) ?_
    refine xi_aload_n (pc' := 118) (x := 0) kc_191_117 rfl rfl ?_
    refine xi_getfield (pc' := 121) (v := .ref 85) kc_191_118 rfl rfl rfl (F 0 _ hl_0) rfl ?_
    refine xi_getfield (pc' := 124) (v := .int 0) kc_191_121 rfl rfl rfl (F 85 _ hl_85) rfl ?_
    refine xi_ireturn kc_191_124 mr_191 rfl ?_
    show xw J ov 100 196 (1513, [(4, .int 0), (3, .ref 167), (2, .ref 115), (1, .ref 0), (0, .ref 1000000)], [.int 0], h0) _
    refine xi_aload_n (pc' := 1514) (x := 115) kc_196_1513 rfl rfl ?_
    refine xi_aload_n (pc' := 1515) (x := 1000000) kc_196_1514 rfl rfl ?_
    refine xi_iload (pc' := 1517) (x := 0) kc_196_1515 rfl rfl ?_
    refine xi_iconst (pc' := 1518) (v := 1) kc_196_1517 rfl rfl ?_
    refine xi_iadd (pc' := 1519) (v := 1) kc_196_1518 rfl rfl ?_
    refine xi_ialoadO (pc' := 1520) (v := a1) kc_196_1519 rfl (by decide) hov0 (xi_in (n := 6) (by decide) (by decide)) rfl ?_
    refine xi_virtual (mj := 76) (as := [.int a1]) (st1 := [.int 0]) (lv0 := [(0, .ref 115), (1, .int a1)]) kc_196_1520 rfl rfl rfl rfl rfl (F 115 _ hl_115) (Nat.le_of_ble_eq_true rfl) (hJ _ _ _ _ (by decide)) (xm_le ml_76 rfl) rfl ?_
    refine xi_aload_n (pc' := 1) (x := 115) kc_76_0 rfl rfl ?_
    refine xi_iconst (pc' := 2) (v := 0) kc_76_1 rfl rfl ?_
    refine xi_putfield (pc' := 5) (fs' := [.int 0, .int 0, .ref 116, .ref 117, .ref 118, .ref 119, .ref 120, .ref 121, .ref 122, .ref 123, .ref 124, .ref 125, .ref 126, .ref 127, .ref 128, .ref 129, .int 4, .ref 130, .int 0, .ref 131, .ref 132, .ref 133, .ref 134, .int 0, .ref 135, .ref 136, .ref 137, .ref 138, .ref 139, .ref 140, .ref 141, .ref 142, .int 0, .int 0, .int 0, .ref 143, .ref 144, .ref 145, .ref 146, .ref 147, .ref 148, .int 0, .ref 149, .ref 150, .ref 151, .int 0, .ref 152, .ref 153, .ref 154, .ref 155, .ref 156, .ref 157, .ref 158, .ref 159, .int 0, .ref 160, .int 0, .ref 161, .ref 162, .ref 163, .ref 164, .int 0, .ref 165, .ref 166]) kc_76_2 rfl rfl rfl (F 115 _ hl_115) rfl rfl rfl (Nat.le_of_ble_eq_true rfl) rfl (fun hh1 eh1 => ?_)
    refine xi_iconst (pc' := 6) (v := 0) kc_76_5 rfl rfl ?_
    refine xi_istore_n (pc' := 7) (lv' := [(2, .int 0), (0, .ref 115), (1, .int a1)]) kc_76_6 rfl rfl (xm_lt ml_76 rfl) ?_
    refine xi_iload_n (pc' := 8) (x := a1) kc_76_7 rfl rfl ?_
    refine xi_tsi (pc' := 192) (z := 8) kc_76_8 (by omega) rfl (by decide) ?_
    refine xi_aload_n (pc' := 193) (x := 115) kc_76_192 rfl rfl ?_
    refine xi_getfield (pc' := 196) (v := .int 0) kc_76_193 rfl rfl rfl eh1.1 rfl ?_
    refine xi_ireturn kc_76_196 mr_76 rfl ?_
    show xw J ov 100 196 (1523, [(4, .int 0), (3, .ref 167), (2, .ref 115), (1, .ref 0), (0, .ref 1000000)], [.int 0, .int 0], hh1) _
    refine xi_cmt (pc' := 1528) kc_196_1523 rfl rfl ?_
    refine xi_iinc (pc' := 1531) (x := 0) (v := 6) (lv' := [(4, .int 6), (3, .ref 167), (2, .ref 115), (1, .ref 0), (0, .ref 1000000)]) kc_196_1528 rfl rfl rfl rfl (xm_lt ml_196 rfl) ?_
    refine xi_goto (pc' := 23) kc_196_1531 rfl ?_
    refine xi_iload (pc' := 25) (x := 6) kc_196_23 rfl rfl ?_
    refine xi_aload_n (pc' := 26) (x := 1000000) kc_196_25 rfl rfl ?_
    refine xi_arraylength (pc' := 27) (n := 6) (v := 6) kc_196_26 rfl (xl_lenO (by decide) hov0 rfl) rfl ?_
    refine xi_bipush (pc' := 29) (v := 6) kc_196_27 rfl rfl ?_
    refine xi_isub (pc' := 30) (v := 0) kc_196_29 rfl rfl ?_
    refine xi_cmt (pc' := 1534) kc_196_30 rfl rfl ?_
    refine xi_iconst (pc' := 1535) (v := 1) kc_196_1534 rfl rfl ?_
    refine xi_ireturn kc_196_1535 mr_196 rfl ?_
    refine ⟨rfl, ?_, ?_⟩
    · rw [eh1.2.2.1]; exact hn0
    · rw [eh1.2.2.2]; exact hz0
  by_cases c10 : a1.toInt = 9
  · refine xi_tsi (pc' := 125) (z := 9) kc_191_1 (by omega) rfl (by decide) ?_
    refine xi_aload_n (pc' := 126) (x := 0) kc_191_125 rfl rfl ?_
    refine xi_getfield (pc' := 129) (v := .ref 80) kc_191_126 rfl rfl rfl (F 0 _ hl_0) rfl ?_
    refine xi_virtual (mj := 174) (as := []) (st1 := []) (lv0 := [(0, .ref 80)]) kc_191_129 rfl rfl rfl rfl rfl (F 80 _ hl_80) (Nat.le_of_ble_eq_true rfl) (hJ _ _ _ _ (by decide)) (xm_le ml_174 rfl) rfl ?_
    refine xi_iconst (pc' := 1) (v := 0) kc_174_0 rfl rfl ?_
    refine xi_istore_n (pc' := 2) (lv' := [(1, .int 0), (0, .ref 80)]) kc_174_1 rfl rfl (xm_lt ml_174 rfl) ?_
    refine xi_iconst (pc' := 3) (v := 0) kc_174_2 rfl rfl ?_
    refine xi_istore_n (pc' := 4) (lv' := [(2, .int 0), (1, .int 0), (0, .ref 80)]) kc_174_3 rfl rfl (xm_lt ml_174 rfl) ?_
    refine xi_iload_n (pc' := 5) (x := 0) kc_174_4 rfl rfl ?_
    refine xi_bipush (pc' := 7) (v := 24) kc_174_5 rfl rfl ?_
    refine xi_cmf (pc' := 10) kc_174_7 rfl rfl ?_
    refine xi_iload_n (pc' := 11) (x := 0) kc_174_10 rfl rfl ?_
    refine xi_aload_n (pc' := 12) (x := 80) kc_174_11 rfl rfl ?_
    refine xi_getfield (pc' := 15) (v := .ref 83) kc_174_12 rfl rfl rfl (F 80 _ hl_80) rfl ?_
    refine xi_iload_n (pc' := 16) (x := 0) kc_174_15 rfl rfl ?_
    refine xi_iaload (pc' := 17) (v := 2) kc_174_16 rfl (F 83 _ hl_83) (by decide) rfl (xi_in (n := 24) (by decide) (by decide)) rfl ?_
    refine xi_iconst (pc' := 18) (v := 2) kc_174_17 rfl rfl ?_
    refine xi_cmf (pc' := 21) kc_174_18 rfl rfl ?_
    refine xi_iconst (pc' := 22) (v := 0) kc_174_21 rfl rfl ?_
    refine xi_goto (pc' := 26) kc_174_22 rfl ?_
    refine xi_iadd (pc' := 27) (v := 0) kc_174_26 rfl rfl ?_
    refine xi_istore_n (pc' := 28) (lv' := [(1, .int 0), (2, .int 0), (0, .ref 80)]) kc_174_27 rfl rfl (xm_lt ml_174 rfl) ?_
    refine xi_iinc (pc' := 31) (x := 0) (v := 1) (lv' := [(2, .int 1), (1, .int 0), (0, .ref 80)]) kc_174_28 rfl rfl rfl rfl (xm_lt ml_174 rfl) ?_
    refine xi_goto (pc' := 4) kc_174_31 rfl ?_
    refine xi_iload_n (pc' := 5) (x := 1) kc_174_4 rfl rfl ?_
    refine xi_bipush (pc' := 7) (v := 24) kc_174_5 rfl rfl ?_
    refine xi_cmf (pc' := 10) kc_174_7 rfl rfl ?_
    refine xi_iload_n (pc' := 11) (x := 0) kc_174_10 rfl rfl ?_
    refine xi_aload_n (pc' := 12) (x := 80) kc_174_11 rfl rfl ?_
    refine xi_getfield (pc' := 15) (v := .ref 83) kc_174_12 rfl rfl rfl (F 80 _ hl_80) rfl ?_
    refine xi_iload_n (pc' := 16) (x := 1) kc_174_15 rfl rfl ?_
    refine xi_iaload (pc' := 17) (v := 2) kc_174_16 rfl (F 83 _ hl_83) (by decide) rfl (xi_in (n := 24) (by decide) (by decide)) rfl ?_
    refine xi_iconst (pc' := 18) (v := 2) kc_174_17 rfl rfl ?_
    refine xi_cmf (pc' := 21) kc_174_18 rfl rfl ?_
    refine xi_iconst (pc' := 22) (v := 0) kc_174_21 rfl rfl ?_
    refine xi_goto (pc' := 26) kc_174_22 rfl ?_
    refine xi_iadd (pc' := 27) (v := 0) kc_174_26 rfl rfl ?_
    refine xi_istore_n (pc' := 28) (lv' := [(1, .int 0), (2, .int 1), (0, .ref 80)]) kc_174_27 rfl rfl (xm_lt ml_174 rfl) ?_
    refine xi_iinc (pc' := 31) (x := 1) (v := 2) (lv' := [(2, .int 2), (1, .int 0), (0, .ref 80)]) kc_174_28 rfl rfl rfl rfl (xm_lt ml_174 rfl) ?_
    refine xi_goto (pc' := 4) kc_174_31 rfl ?_
    refine xi_iload_n (pc' := 5) (x := 2) kc_174_4 rfl rfl ?_
    refine xi_bipush (pc' := 7) (v := 24) kc_174_5 rfl rfl ?_
    refine xi_cmf (pc' := 10) kc_174_7 rfl rfl ?_
    refine xi_iload_n (pc' := 11) (x := 0) kc_174_10 rfl rfl ?_
    refine xi_aload_n (pc' := 12) (x := 80) kc_174_11 rfl rfl ?_
    refine xi_getfield (pc' := 15) (v := .ref 83) kc_174_12 rfl rfl rfl (F 80 _ hl_80) rfl ?_
    refine xi_iload_n (pc' := 16) (x := 2) kc_174_15 rfl rfl ?_
    refine xi_iaload (pc' := 17) (v := 2) kc_174_16 rfl (F 83 _ hl_83) (by decide) rfl (xi_in (n := 24) (by decide) (by decide)) rfl ?_
    refine xi_iconst (pc' := 18) (v := 2) kc_174_17 rfl rfl ?_
    refine xi_cmf (pc' := 21) kc_174_18 rfl rfl ?_
    refine xi_iconst (pc' := 22) (v := 0) kc_174_21 rfl rfl ?_
    refine xi_goto (pc' := 26) kc_174_22 rfl ?_
    refine xi_iadd (pc' := 27) (v := 0) kc_174_26 rfl rfl ?_
    refine xi_istore_n (pc' := 28) (lv' := [(1, .int 0), (2, .int 2), (0, .ref 80)]) kc_174_27 rfl rfl (xm_lt ml_174 rfl) ?_
    refine xi_iinc (pc' := 31) (x := 2) (v := 3) (lv' := [(2, .int 3), (1, .int 0), (0, .ref 80)]) kc_174_28 rfl rfl rfl rfl (xm_lt ml_174 rfl) ?_
    refine xi_goto (pc' := 4) kc_174_31 rfl ?_
    refine xi_iload_n (pc' := 5) (x := 3) kc_174_4 rfl rfl ?_
    refine xi_bipush (pc' := 7) (v := 24) kc_174_5 rfl rfl ?_
    refine xi_cmf (pc' := 10) kc_174_7 rfl rfl ?_
    refine xi_iload_n (pc' := 11) (x := 0) kc_174_10 rfl rfl ?_
    refine xi_aload_n (pc' := 12) (x := 80) kc_174_11 rfl rfl ?_
    refine xi_getfield (pc' := 15) (v := .ref 83) kc_174_12 rfl rfl rfl (F 80 _ hl_80) rfl ?_
    refine xi_iload_n (pc' := 16) (x := 3) kc_174_15 rfl rfl ?_
    refine xi_iaload (pc' := 17) (v := 2) kc_174_16 rfl (F 83 _ hl_83) (by decide) rfl (xi_in (n := 24) (by decide) (by decide)) rfl ?_
    refine xi_iconst (pc' := 18) (v := 2) kc_174_17 rfl rfl ?_
    refine xi_cmf (pc' := 21) kc_174_18 rfl rfl ?_
    refine xi_iconst (pc' := 22) (v := 0) kc_174_21 rfl rfl ?_
    refine xi_goto (pc' := 26) kc_174_22 rfl ?_
    refine xi_iadd (pc' := 27) (v := 0) kc_174_26 rfl rfl ?_
    refine xi_istore_n (pc' := 28) (lv' := [(1, .int 0), (2, .int 3), (0, .ref 80)]) kc_174_27 rfl rfl (xm_lt ml_174 rfl) ?_
    refine xi_iinc (pc' := 31) (x := 3) (v := 4) (lv' := [(2, .int 4), (1, .int 0), (0, .ref 80)]) kc_174_28 rfl rfl rfl rfl (xm_lt ml_174 rfl) ?_
    refine xi_goto (pc' := 4) kc_174_31 rfl ?_
    refine xi_iload_n (pc' := 5) (x := 4) kc_174_4 rfl rfl ?_
    refine xi_bipush (pc' := 7) (v := 24) kc_174_5 rfl rfl ?_
    refine xi_cmf (pc' := 10) kc_174_7 rfl rfl ?_
    refine xi_iload_n (pc' := 11) (x := 0) kc_174_10 rfl rfl ?_
    refine xi_aload_n (pc' := 12) (x := 80) kc_174_11 rfl rfl ?_
    refine xi_getfield (pc' := 15) (v := .ref 83) kc_174_12 rfl rfl rfl (F 80 _ hl_80) rfl ?_
    refine xi_iload_n (pc' := 16) (x := 4) kc_174_15 rfl rfl ?_
    refine xi_iaload (pc' := 17) (v := 2) kc_174_16 rfl (F 83 _ hl_83) (by decide) rfl (xi_in (n := 24) (by decide) (by decide)) rfl ?_
    refine xi_iconst (pc' := 18) (v := 2) kc_174_17 rfl rfl ?_
    refine xi_cmf (pc' := 21) kc_174_18 rfl rfl ?_
    refine xi_iconst (pc' := 22) (v := 0) kc_174_21 rfl rfl ?_
    refine xi_goto (pc' := 26) kc_174_22 rfl ?_
    refine xi_iadd (pc' := 27) (v := 0) kc_174_26 rfl rfl ?_
    refine xi_istore_n (pc' := 28) (lv' := [(1, .int 0), (2, .int 4), (0, .ref 80)]) kc_174_27 rfl rfl (xm_lt ml_174 rfl) ?_
    refine xi_iinc (pc' := 31) (x := 4) (v := 5) (lv' := [(2, .int 5), (1, .int 0), (0, .ref 80)]) kc_174_28 rfl rfl rfl rfl (xm_lt ml_174 rfl) ?_
    refine xi_goto (pc' := 4) kc_174_31 rfl ?_
    refine xi_iload_n (pc' := 5) (x := 5) kc_174_4 rfl rfl ?_
    refine xi_bipush (pc' := 7) (v := 24) kc_174_5 rfl rfl ?_
    refine xi_cmf (pc' := 10) kc_174_7 rfl rfl ?_
    refine xi_iload_n (pc' := 11) (x := 0) kc_174_10 rfl rfl ?_
    refine xi_aload_n (pc' := 12) (x := 80) kc_174_11 rfl rfl ?_
    refine xi_getfield (pc' := 15) (v := .ref 83) kc_174_12 rfl rfl rfl (F 80 _ hl_80) rfl ?_
    refine xi_iload_n (pc' := 16) (x := 5) kc_174_15 rfl rfl ?_
    refine xi_iaload (pc' := 17) (v := 2) kc_174_16 rfl (F 83 _ hl_83) (by decide) rfl (xi_in (n := 24) (by decide) (by decide)) rfl ?_
    refine xi_iconst (pc' := 18) (v := 2) kc_174_17 rfl rfl ?_
    refine xi_cmf (pc' := 21) kc_174_18 rfl rfl ?_
    refine xi_iconst (pc' := 22) (v := 0) kc_174_21 rfl rfl ?_
    refine xi_goto (pc' := 26) kc_174_22 rfl ?_
    refine xi_iadd (pc' := 27) (v := 0) kc_174_26 rfl rfl ?_
    refine xi_istore_n (pc' := 28) (lv' := [(1, .int 0), (2, .int 5), (0, .ref 80)]) kc_174_27 rfl rfl (xm_lt ml_174 rfl) ?_
    refine xi_iinc (pc' := 31) (x := 5) (v := 6) (lv' := [(2, .int 6), (1, .int 0), (0, .ref 80)]) kc_174_28 rfl rfl rfl rfl (xm_lt ml_174 rfl) ?_
    refine xi_goto (pc' := 4) kc_174_31 rfl ?_
    refine xi_iload_n (pc' := 5) (x := 6) kc_174_4 rfl rfl ?_
    refine xi_bipush (pc' := 7) (v := 24) kc_174_5 rfl rfl ?_
    refine xi_cmf (pc' := 10) kc_174_7 rfl rfl ?_
    refine xi_iload_n (pc' := 11) (x := 0) kc_174_10 rfl rfl ?_
    refine xi_aload_n (pc' := 12) (x := 80) kc_174_11 rfl rfl ?_
    refine xi_getfield (pc' := 15) (v := .ref 83) kc_174_12 rfl rfl rfl (F 80 _ hl_80) rfl ?_
    refine xi_iload_n (pc' := 16) (x := 6) kc_174_15 rfl rfl ?_
    refine xi_iaload (pc' := 17) (v := 2) kc_174_16 rfl (F 83 _ hl_83) (by decide) rfl (xi_in (n := 24) (by decide) (by decide)) rfl ?_
    refine xi_iconst (pc' := 18) (v := 2) kc_174_17 rfl rfl ?_
    refine xi_cmf (pc' := 21) kc_174_18 rfl rfl ?_
    refine xi_iconst (pc' := 22) (v := 0) kc_174_21 rfl rfl ?_
    refine xi_goto (pc' := 26) kc_174_22 rfl ?_
    refine xi_iadd (pc' := 27) (v := 0) kc_174_26 rfl rfl ?_
    refine xi_istore_n (pc' := 28) (lv' := [(1, .int 0), (2, .int 6), (0, .ref 80)]) kc_174_27 rfl rfl (xm_lt ml_174 rfl) ?_
    refine xi_iinc (pc' := 31) (x := 6) (v := 7) (lv' := [(2, .int 7), (1, .int 0), (0, .ref 80)]) kc_174_28 rfl rfl rfl rfl (xm_lt ml_174 rfl) ?_
    refine xi_goto (pc' := 4) kc_174_31 rfl ?_
    refine xi_iload_n (pc' := 5) (x := 7) kc_174_4 rfl rfl ?_
    refine xi_bipush (pc' := 7) (v := 24) kc_174_5 rfl rfl ?_
    refine xi_cmf (pc' := 10) kc_174_7 rfl rfl ?_
    refine xi_iload_n (pc' := 11) (x := 0) kc_174_10 rfl rfl ?_
    refine xi_aload_n (pc' := 12) (x := 80) kc_174_11 rfl rfl ?_
    refine xi_getfield (pc' := 15) (v := .ref 83) kc_174_12 rfl rfl rfl (F 80 _ hl_80) rfl ?_
    refine xi_iload_n (pc' := 16) (x := 7) kc_174_15 rfl rfl ?_
    refine xi_iaload (pc' := 17) (v := 2) kc_174_16 rfl (F 83 _ hl_83) (by decide) rfl (xi_in (n := 24) (by decide) (by decide)) rfl ?_
    refine xi_iconst (pc' := 18) (v := 2) kc_174_17 rfl rfl ?_
    refine xi_cmf (pc' := 21) kc_174_18 rfl rfl ?_
    refine xi_iconst (pc' := 22) (v := 0) kc_174_21 rfl rfl ?_
    refine xi_goto (pc' := 26) kc_174_22 rfl ?_
    refine xi_iadd (pc' := 27) (v := 0) kc_174_26 rfl rfl ?_
    refine xi_istore_n (pc' := 28) (lv' := [(1, .int 0), (2, .int 7), (0, .ref 80)]) kc_174_27 rfl rfl (xm_lt ml_174 rfl) ?_
    refine xi_iinc (pc' := 31) (x := 7) (v := 8) (lv' := [(2, .int 8), (1, .int 0), (0, .ref 80)]) kc_174_28 rfl rfl rfl rfl (xm_lt ml_174 rfl) ?_
    refine xi_goto (pc' := 4) kc_174_31 rfl ?_
    refine xi_iload_n (pc' := 5) (x := 8) kc_174_4 rfl rfl ?_
    refine xi_bipush (pc' := 7) (v := 24) kc_174_5 rfl rfl ?_
    refine xi_cmf (pc' := 10) kc_174_7 rfl rfl ?_
    refine xi_iload_n (pc' := 11) (x := 0) kc_174_10 rfl rfl ?_
    refine xi_aload_n (pc' := 12) (x := 80) kc_174_11 rfl rfl ?_
    refine xi_getfield (pc' := 15) (v := .ref 83) kc_174_12 rfl rfl rfl (F 80 _ hl_80) rfl ?_
    refine xi_iload_n (pc' := 16) (x := 8) kc_174_15 rfl rfl ?_
    refine xi_iaload (pc' := 17) (v := 2) kc_174_16 rfl (F 83 _ hl_83) (by decide) rfl (xi_in (n := 24) (by decide) (by decide)) rfl ?_
    refine xi_iconst (pc' := 18) (v := 2) kc_174_17 rfl rfl ?_
    refine xi_cmf (pc' := 21) kc_174_18 rfl rfl ?_
    refine xi_iconst (pc' := 22) (v := 0) kc_174_21 rfl rfl ?_
    refine xi_goto (pc' := 26) kc_174_22 rfl ?_
    refine xi_iadd (pc' := 27) (v := 0) kc_174_26 rfl rfl ?_
    refine xi_istore_n (pc' := 28) (lv' := [(1, .int 0), (2, .int 8), (0, .ref 80)]) kc_174_27 rfl rfl (xm_lt ml_174 rfl) ?_
    refine xi_iinc (pc' := 31) (x := 8) (v := 9) (lv' := [(2, .int 9), (1, .int 0), (0, .ref 80)]) kc_174_28 rfl rfl rfl rfl (xm_lt ml_174 rfl) ?_
    refine xi_goto (pc' := 4) kc_174_31 rfl ?_
    refine xi_iload_n (pc' := 5) (x := 9) kc_174_4 rfl rfl ?_
    refine xi_bipush (pc' := 7) (v := 24) kc_174_5 rfl rfl ?_
    refine xi_cmf (pc' := 10) kc_174_7 rfl rfl ?_
    refine xi_iload_n (pc' := 11) (x := 0) kc_174_10 rfl rfl ?_
    refine xi_aload_n (pc' := 12) (x := 80) kc_174_11 rfl rfl ?_
    refine xi_getfield (pc' := 15) (v := .ref 83) kc_174_12 rfl rfl rfl (F 80 _ hl_80) rfl ?_
    refine xi_iload_n (pc' := 16) (x := 9) kc_174_15 rfl rfl ?_
    refine xi_iaload (pc' := 17) (v := 2) kc_174_16 rfl (F 83 _ hl_83) (by decide) rfl (xi_in (n := 24) (by decide) (by decide)) rfl ?_
    refine xi_iconst (pc' := 18) (v := 2) kc_174_17 rfl rfl ?_
    refine xi_cmf (pc' := 21) kc_174_18 rfl rfl ?_
    refine xi_iconst (pc' := 22) (v := 0) kc_174_21 rfl rfl ?_
    refine xi_goto (pc' := 26) kc_174_22 rfl ?_
    refine xi_iadd (pc' := 27) (v := 0) kc_174_26 rfl rfl ?_
    refine xi_istore_n (pc' := 28) (lv' := [(1, .int 0), (2, .int 9), (0, .ref 80)]) kc_174_27 rfl rfl (xm_lt ml_174 rfl) ?_
    refine xi_iinc (pc' := 31) (x := 9) (v := 10) (lv' := [(2, .int 10), (1, .int 0), (0, .ref 80)]) kc_174_28 rfl rfl rfl rfl (xm_lt ml_174 rfl) ?_
    refine xi_goto (pc' := 4) kc_174_31 rfl ?_
    refine xi_iload_n (pc' := 5) (x := 10) kc_174_4 rfl rfl ?_
    refine xi_bipush (pc' := 7) (v := 24) kc_174_5 rfl rfl ?_
    refine xi_cmf (pc' := 10) kc_174_7 rfl rfl ?_
    refine xi_iload_n (pc' := 11) (x := 0) kc_174_10 rfl rfl ?_
    refine xi_aload_n (pc' := 12) (x := 80) kc_174_11 rfl rfl ?_
    refine xi_getfield (pc' := 15) (v := .ref 83) kc_174_12 rfl rfl rfl (F 80 _ hl_80) rfl ?_
    refine xi_iload_n (pc' := 16) (x := 10) kc_174_15 rfl rfl ?_
    refine xi_iaload (pc' := 17) (v := 2) kc_174_16 rfl (F 83 _ hl_83) (by decide) rfl (xi_in (n := 24) (by decide) (by decide)) rfl ?_
    refine xi_iconst (pc' := 18) (v := 2) kc_174_17 rfl rfl ?_
    refine xi_cmf (pc' := 21) kc_174_18 rfl rfl ?_
    refine xi_iconst (pc' := 22) (v := 0) kc_174_21 rfl rfl ?_
    refine xi_goto (pc' := 26) kc_174_22 rfl ?_
    refine xi_iadd (pc' := 27) (v := 0) kc_174_26 rfl rfl ?_
    refine xi_istore_n (pc' := 28) (lv' := [(1, .int 0), (2, .int 10), (0, .ref 80)]) kc_174_27 rfl rfl (xm_lt ml_174 rfl) ?_
    refine xi_iinc (pc' := 31) (x := 10) (v := 11) (lv' := [(2, .int 11), (1, .int 0), (0, .ref 80)]) kc_174_28 rfl rfl rfl rfl (xm_lt ml_174 rfl) ?_
    refine xi_goto (pc' := 4) kc_174_31 rfl ?_
    refine xi_iload_n (pc' := 5) (x := 11) kc_174_4 rfl rfl ?_
    refine xi_bipush (pc' := 7) (v := 24) kc_174_5 rfl rfl ?_
    refine xi_cmf (pc' := 10) kc_174_7 rfl rfl ?_
    refine xi_iload_n (pc' := 11) (x := 0) kc_174_10 rfl rfl ?_
    refine xi_aload_n (pc' := 12) (x := 80) kc_174_11 rfl rfl ?_
    refine xi_getfield (pc' := 15) (v := .ref 83) kc_174_12 rfl rfl rfl (F 80 _ hl_80) rfl ?_
    refine xi_iload_n (pc' := 16) (x := 11) kc_174_15 rfl rfl ?_
    refine xi_iaload (pc' := 17) (v := 2) kc_174_16 rfl (F 83 _ hl_83) (by decide) rfl (xi_in (n := 24) (by decide) (by decide)) rfl ?_
    refine xi_iconst (pc' := 18) (v := 2) kc_174_17 rfl rfl ?_
    refine xi_cmf (pc' := 21) kc_174_18 rfl rfl ?_
    refine xi_iconst (pc' := 22) (v := 0) kc_174_21 rfl rfl ?_
    refine xi_goto (pc' := 26) kc_174_22 rfl ?_
    refine xi_iadd (pc' := 27) (v := 0) kc_174_26 rfl rfl ?_
    refine xi_istore_n (pc' := 28) (lv' := [(1, .int 0), (2, .int 11), (0, .ref 80)]) kc_174_27 rfl rfl (xm_lt ml_174 rfl) ?_
    refine xi_iinc (pc' := 31) (x := 11) (v := 12) (lv' := [(2, .int 12), (1, .int 0), (0, .ref 80)]) kc_174_28 rfl rfl rfl rfl (xm_lt ml_174 rfl) ?_
    refine xi_goto (pc' := 4) kc_174_31 rfl ?_
    refine xi_iload_n (pc' := 5) (x := 12) kc_174_4 rfl rfl ?_
    refine xi_bipush (pc' := 7) (v := 24) kc_174_5 rfl rfl ?_
    refine xi_cmf (pc' := 10) kc_174_7 rfl rfl ?_
    refine xi_iload_n (pc' := 11) (x := 0) kc_174_10 rfl rfl ?_
    refine xi_aload_n (pc' := 12) (x := 80) kc_174_11 rfl rfl ?_
    refine xi_getfield (pc' := 15) (v := .ref 83) kc_174_12 rfl rfl rfl (F 80 _ hl_80) rfl ?_
    refine xi_iload_n (pc' := 16) (x := 12) kc_174_15 rfl rfl ?_
    refine xi_iaload (pc' := 17) (v := 2) kc_174_16 rfl (F 83 _ hl_83) (by decide) rfl (xi_in (n := 24) (by decide) (by decide)) rfl ?_
    refine xi_iconst (pc' := 18) (v := 2) kc_174_17 rfl rfl ?_
    refine xi_cmf (pc' := 21) kc_174_18 rfl rfl ?_
    refine xi_iconst (pc' := 22) (v := 0) kc_174_21 rfl rfl ?_
    refine xi_goto (pc' := 26) kc_174_22 rfl ?_
    refine xi_iadd (pc' := 27) (v := 0) kc_174_26 rfl rfl ?_
    refine xi_istore_n (pc' := 28) (lv' := [(1, .int 0), (2, .int 12), (0, .ref 80)]) kc_174_27 rfl rfl (xm_lt ml_174 rfl) ?_
    refine xi_iinc (pc' := 31) (x := 12) (v := 13) (lv' := [(2, .int 13), (1, .int 0), (0, .ref 80)]) kc_174_28 rfl rfl rfl rfl (xm_lt ml_174 rfl) ?_
    refine xi_goto (pc' := 4) kc_174_31 rfl ?_
    refine xi_iload_n (pc' := 5) (x := 13) kc_174_4 rfl rfl ?_
    refine xi_bipush (pc' := 7) (v := 24) kc_174_5 rfl rfl ?_
    refine xi_cmf (pc' := 10) kc_174_7 rfl rfl ?_
    refine xi_iload_n (pc' := 11) (x := 0) kc_174_10 rfl rfl ?_
    refine xi_aload_n (pc' := 12) (x := 80) kc_174_11 rfl rfl ?_
    refine xi_getfield (pc' := 15) (v := .ref 83) kc_174_12 rfl rfl rfl (F 80 _ hl_80) rfl ?_
    refine xi_iload_n (pc' := 16) (x := 13) kc_174_15 rfl rfl ?_
    refine xi_iaload (pc' := 17) (v := 2) kc_174_16 rfl (F 83 _ hl_83) (by decide) rfl (xi_in (n := 24) (by decide) (by decide)) rfl ?_
    refine xi_iconst (pc' := 18) (v := 2) kc_174_17 rfl rfl ?_
    refine xi_cmf (pc' := 21) kc_174_18 rfl rfl ?_
    refine xi_iconst (pc' := 22) (v := 0) kc_174_21 rfl rfl ?_
    refine xi_goto (pc' := 26) kc_174_22 rfl ?_
    refine xi_iadd (pc' := 27) (v := 0) kc_174_26 rfl rfl ?_
    refine xi_istore_n (pc' := 28) (lv' := [(1, .int 0), (2, .int 13), (0, .ref 80)]) kc_174_27 rfl rfl (xm_lt ml_174 rfl) ?_
    refine xi_iinc (pc' := 31) (x := 13) (v := 14) (lv' := [(2, .int 14), (1, .int 0), (0, .ref 80)]) kc_174_28 rfl rfl rfl rfl (xm_lt ml_174 rfl) ?_
    refine xi_goto (pc' := 4) kc_174_31 rfl ?_
    refine xi_iload_n (pc' := 5) (x := 14) kc_174_4 rfl rfl ?_
    refine xi_bipush (pc' := 7) (v := 24) kc_174_5 rfl rfl ?_
    refine xi_cmf (pc' := 10) kc_174_7 rfl rfl ?_
    refine xi_iload_n (pc' := 11) (x := 0) kc_174_10 rfl rfl ?_
    refine xi_aload_n (pc' := 12) (x := 80) kc_174_11 rfl rfl ?_
    refine xi_getfield (pc' := 15) (v := .ref 83) kc_174_12 rfl rfl rfl (F 80 _ hl_80) rfl ?_
    refine xi_iload_n (pc' := 16) (x := 14) kc_174_15 rfl rfl ?_
    refine xi_iaload (pc' := 17) (v := 2) kc_174_16 rfl (F 83 _ hl_83) (by decide) rfl (xi_in (n := 24) (by decide) (by decide)) rfl ?_
    refine xi_iconst (pc' := 18) (v := 2) kc_174_17 rfl rfl ?_
    refine xi_cmf (pc' := 21) kc_174_18 rfl rfl ?_
    refine xi_iconst (pc' := 22) (v := 0) kc_174_21 rfl rfl ?_
    refine xi_goto (pc' := 26) kc_174_22 rfl ?_
    refine xi_iadd (pc' := 27) (v := 0) kc_174_26 rfl rfl ?_
    refine xi_istore_n (pc' := 28) (lv' := [(1, .int 0), (2, .int 14), (0, .ref 80)]) kc_174_27 rfl rfl (xm_lt ml_174 rfl) ?_
    refine xi_iinc (pc' := 31) (x := 14) (v := 15) (lv' := [(2, .int 15), (1, .int 0), (0, .ref 80)]) kc_174_28 rfl rfl rfl rfl (xm_lt ml_174 rfl) ?_
    refine xi_goto (pc' := 4) kc_174_31 rfl ?_
    refine xi_iload_n (pc' := 5) (x := 15) kc_174_4 rfl rfl ?_
    refine xi_bipush (pc' := 7) (v := 24) kc_174_5 rfl rfl ?_
    refine xi_cmf (pc' := 10) kc_174_7 rfl rfl ?_
    refine xi_iload_n (pc' := 11) (x := 0) kc_174_10 rfl rfl ?_
    refine xi_aload_n (pc' := 12) (x := 80) kc_174_11 rfl rfl ?_
    refine xi_getfield (pc' := 15) (v := .ref 83) kc_174_12 rfl rfl rfl (F 80 _ hl_80) rfl ?_
    refine xi_iload_n (pc' := 16) (x := 15) kc_174_15 rfl rfl ?_
    refine xi_iaload (pc' := 17) (v := 2) kc_174_16 rfl (F 83 _ hl_83) (by decide) rfl (xi_in (n := 24) (by decide) (by decide)) rfl ?_
    refine xi_iconst (pc' := 18) (v := 2) kc_174_17 rfl rfl ?_
    refine xi_cmf (pc' := 21) kc_174_18 rfl rfl ?_
    refine xi_iconst (pc' := 22) (v := 0) kc_174_21 rfl rfl ?_
    refine xi_goto (pc' := 26) kc_174_22 rfl ?_
    refine xi_iadd (pc' := 27) (v := 0) kc_174_26 rfl rfl ?_
    refine xi_istore_n (pc' := 28) (lv' := [(1, .int 0), (2, .int 15), (0, .ref 80)]) kc_174_27 rfl rfl (xm_lt ml_174 rfl) ?_
    refine xi_iinc (pc' := 31) (x := 15) (v := 16) (lv' := [(2, .int 16), (1, .int 0), (0, .ref 80)]) kc_174_28 rfl rfl rfl rfl (xm_lt ml_174 rfl) ?_
    refine xi_goto (pc' := 4) kc_174_31 rfl ?_
    refine xi_iload_n (pc' := 5) (x := 16) kc_174_4 rfl rfl ?_
    refine xi_bipush (pc' := 7) (v := 24) kc_174_5 rfl rfl ?_
    refine xi_cmf (pc' := 10) kc_174_7 rfl rfl ?_
    refine xi_iload_n (pc' := 11) (x := 0) kc_174_10 rfl rfl ?_
    refine xi_aload_n (pc' := 12) (x := 80) kc_174_11 rfl rfl ?_
    refine xi_getfield (pc' := 15) (v := .ref 83) kc_174_12 rfl rfl rfl (F 80 _ hl_80) rfl ?_
    refine xi_iload_n (pc' := 16) (x := 16) kc_174_15 rfl rfl ?_
    refine xi_iaload (pc' := 17) (v := 2) kc_174_16 rfl (F 83 _ hl_83) (by decide) rfl (xi_in (n := 24) (by decide) (by decide)) rfl ?_
    refine xi_iconst (pc' := 18) (v := 2) kc_174_17 rfl rfl ?_
    refine xi_cmf (pc' := 21) kc_174_18 rfl rfl ?_
    refine xi_iconst (pc' := 22) (v := 0) kc_174_21 rfl rfl ?_
    refine xi_goto (pc' := 26) kc_174_22 rfl ?_
    refine xi_iadd (pc' := 27) (v := 0) kc_174_26 rfl rfl ?_
    refine xi_istore_n (pc' := 28) (lv' := [(1, .int 0), (2, .int 16), (0, .ref 80)]) kc_174_27 rfl rfl (xm_lt ml_174 rfl) ?_
    refine xi_iinc (pc' := 31) (x := 16) (v := 17) (lv' := [(2, .int 17), (1, .int 0), (0, .ref 80)]) kc_174_28 rfl rfl rfl rfl (xm_lt ml_174 rfl) ?_
    refine xi_goto (pc' := 4) kc_174_31 rfl ?_
    refine xi_iload_n (pc' := 5) (x := 17) kc_174_4 rfl rfl ?_
    refine xi_bipush (pc' := 7) (v := 24) kc_174_5 rfl rfl ?_
    refine xi_cmf (pc' := 10) kc_174_7 rfl rfl ?_
    refine xi_iload_n (pc' := 11) (x := 0) kc_174_10 rfl rfl ?_
    refine xi_aload_n (pc' := 12) (x := 80) kc_174_11 rfl rfl ?_
    refine xi_getfield (pc' := 15) (v := .ref 83) kc_174_12 rfl rfl rfl (F 80 _ hl_80) rfl ?_
    refine xi_iload_n (pc' := 16) (x := 17) kc_174_15 rfl rfl ?_
    refine xi_iaload (pc' := 17) (v := 2) kc_174_16 rfl (F 83 _ hl_83) (by decide) rfl (xi_in (n := 24) (by decide) (by decide)) rfl ?_
    refine xi_iconst (pc' := 18) (v := 2) kc_174_17 rfl rfl ?_
    refine xi_cmf (pc' := 21) kc_174_18 rfl rfl ?_
    refine xi_iconst (pc' := 22) (v := 0) kc_174_21 rfl rfl ?_
    refine xi_goto (pc' := 26) kc_174_22 rfl ?_
    refine xi_iadd (pc' := 27) (v := 0) kc_174_26 rfl rfl ?_
    refine xi_istore_n (pc' := 28) (lv' := [(1, .int 0), (2, .int 17), (0, .ref 80)]) kc_174_27 rfl rfl (xm_lt ml_174 rfl) ?_
    refine xi_iinc (pc' := 31) (x := 17) (v := 18) (lv' := [(2, .int 18), (1, .int 0), (0, .ref 80)]) kc_174_28 rfl rfl rfl rfl (xm_lt ml_174 rfl) ?_
    refine xi_goto (pc' := 4) kc_174_31 rfl ?_
    refine xi_iload_n (pc' := 5) (x := 18) kc_174_4 rfl rfl ?_
    refine xi_bipush (pc' := 7) (v := 24) kc_174_5 rfl rfl ?_
    refine xi_cmf (pc' := 10) kc_174_7 rfl rfl ?_
    refine xi_iload_n (pc' := 11) (x := 0) kc_174_10 rfl rfl ?_
    refine xi_aload_n (pc' := 12) (x := 80) kc_174_11 rfl rfl ?_
    refine xi_getfield (pc' := 15) (v := .ref 83) kc_174_12 rfl rfl rfl (F 80 _ hl_80) rfl ?_
    refine xi_iload_n (pc' := 16) (x := 18) kc_174_15 rfl rfl ?_
    refine xi_iaload (pc' := 17) (v := 2) kc_174_16 rfl (F 83 _ hl_83) (by decide) rfl (xi_in (n := 24) (by decide) (by decide)) rfl ?_
    refine xi_iconst (pc' := 18) (v := 2) kc_174_17 rfl rfl ?_
    refine xi_cmf (pc' := 21) kc_174_18 rfl rfl ?_
    refine xi_iconst (pc' := 22) (v := 0) kc_174_21 rfl rfl ?_
    refine xi_goto (pc' := 26) kc_174_22 rfl ?_
    refine xi_iadd (pc' := 27) (v := 0) kc_174_26 rfl rfl ?_
    refine xi_istore_n (pc' := 28) (lv' := [(1, .int 0), (2, .int 18), (0, .ref 80)]) kc_174_27 rfl rfl (xm_lt ml_174 rfl) ?_
    refine xi_iinc (pc' := 31) (x := 18) (v := 19) (lv' := [(2, .int 19), (1, .int 0), (0, .ref 80)]) kc_174_28 rfl rfl rfl rfl (xm_lt ml_174 rfl) ?_
    refine xi_goto (pc' := 4) kc_174_31 rfl ?_
    refine xi_iload_n (pc' := 5) (x := 19) kc_174_4 rfl rfl ?_
    refine xi_bipush (pc' := 7) (v := 24) kc_174_5 rfl rfl ?_
    refine xi_cmf (pc' := 10) kc_174_7 rfl rfl ?_
    refine xi_iload_n (pc' := 11) (x := 0) kc_174_10 rfl rfl ?_
    refine xi_aload_n (pc' := 12) (x := 80) kc_174_11 rfl rfl ?_
    refine xi_getfield (pc' := 15) (v := .ref 83) kc_174_12 rfl rfl rfl (F 80 _ hl_80) rfl ?_
    refine xi_iload_n (pc' := 16) (x := 19) kc_174_15 rfl rfl ?_
    refine xi_iaload (pc' := 17) (v := 2) kc_174_16 rfl (F 83 _ hl_83) (by decide) rfl (xi_in (n := 24) (by decide) (by decide)) rfl ?_
    refine xi_iconst (pc' := 18) (v := 2) kc_174_17 rfl rfl ?_
    refine xi_cmf (pc' := 21) kc_174_18 rfl rfl ?_
    refine xi_iconst (pc' := 22) (v := 0) kc_174_21 rfl rfl ?_
    refine xi_goto (pc' := 26) kc_174_22 rfl ?_
    refine xi_iadd (pc' := 27) (v := 0) kc_174_26 rfl rfl ?_
    refine xi_istore_n (pc' := 28) (lv' := [(1, .int 0), (2, .int 19), (0, .ref 80)]) kc_174_27 rfl rfl (xm_lt ml_174 rfl) ?_
    refine xi_iinc (pc' := 31) (x := 19) (v := 20) (lv' := [(2, .int 20), (1, .int 0), (0, .ref 80)]) kc_174_28 rfl rfl rfl rfl (xm_lt ml_174 rfl) ?_
    refine xi_goto (pc' := 4) kc_174_31 rfl ?_
    refine xi_iload_n (pc' := 5) (x := 20) kc_174_4 rfl rfl ?_
    refine xi_bipush (pc' := 7) (v := 24) kc_174_5 rfl rfl ?_
    refine xi_cmf (pc' := 10) kc_174_7 rfl rfl ?_
    refine xi_iload_n (pc' := 11) (x := 0) kc_174_10 rfl rfl ?_
    refine xi_aload_n (pc' := 12) (x := 80) kc_174_11 rfl rfl ?_
    refine xi_getfield (pc' := 15) (v := .ref 83) kc_174_12 rfl rfl rfl (F 80 _ hl_80) rfl ?_
    refine xi_iload_n (pc' := 16) (x := 20) kc_174_15 rfl rfl ?_
    refine xi_iaload (pc' := 17) (v := 2) kc_174_16 rfl (F 83 _ hl_83) (by decide) rfl (xi_in (n := 24) (by decide) (by decide)) rfl ?_
    refine xi_iconst (pc' := 18) (v := 2) kc_174_17 rfl rfl ?_
    refine xi_cmf (pc' := 21) kc_174_18 rfl rfl ?_
    refine xi_iconst (pc' := 22) (v := 0) kc_174_21 rfl rfl ?_
    refine xi_goto (pc' := 26) kc_174_22 rfl ?_
    refine xi_iadd (pc' := 27) (v := 0) kc_174_26 rfl rfl ?_
    refine xi_istore_n (pc' := 28) (lv' := [(1, .int 0), (2, .int 20), (0, .ref 80)]) kc_174_27 rfl rfl (xm_lt ml_174 rfl) ?_
    refine xi_iinc (pc' := 31) (x := 20) (v := 21) (lv' := [(2, .int 21), (1, .int 0), (0, .ref 80)]) kc_174_28 rfl rfl rfl rfl (xm_lt ml_174 rfl) ?_
    refine xi_goto (pc' := 4) kc_174_31 rfl ?_
    refine xi_iload_n (pc' := 5) (x := 21) kc_174_4 rfl rfl ?_
    refine xi_bipush (pc' := 7) (v := 24) kc_174_5 rfl rfl ?_
    refine xi_cmf (pc' := 10) kc_174_7 rfl rfl ?_
    refine xi_iload_n (pc' := 11) (x := 0) kc_174_10 rfl rfl ?_
    refine xi_aload_n (pc' := 12) (x := 80) kc_174_11 rfl rfl ?_
    refine xi_getfield (pc' := 15) (v := .ref 83) kc_174_12 rfl rfl rfl (F 80 _ hl_80) rfl ?_
    refine xi_iload_n (pc' := 16) (x := 21) kc_174_15 rfl rfl ?_
    refine xi_iaload (pc' := 17) (v := 2) kc_174_16 rfl (F 83 _ hl_83) (by decide) rfl (xi_in (n := 24) (by decide) (by decide)) rfl ?_
    refine xi_iconst (pc' := 18) (v := 2) kc_174_17 rfl rfl ?_
    refine xi_cmf (pc' := 21) kc_174_18 rfl rfl ?_
    refine xi_iconst (pc' := 22) (v := 0) kc_174_21 rfl rfl ?_
    refine xi_goto (pc' := 26) kc_174_22 rfl ?_
    refine xi_iadd (pc' := 27) (v := 0) kc_174_26 rfl rfl ?_
    refine xi_istore_n (pc' := 28) (lv' := [(1, .int 0), (2, .int 21), (0, .ref 80)]) kc_174_27 rfl rfl (xm_lt ml_174 rfl) ?_
    refine xi_iinc (pc' := 31) (x := 21) (v := 22) (lv' := [(2, .int 22), (1, .int 0), (0, .ref 80)]) kc_174_28 rfl rfl rfl rfl (xm_lt ml_174 rfl) ?_
    refine xi_goto (pc' := 4) kc_174_31 rfl ?_
    refine xi_iload_n (pc' := 5) (x := 22) kc_174_4 rfl rfl ?_
    refine xi_bipush (pc' := 7) (v := 24) kc_174_5 rfl rfl ?_
    refine xi_cmf (pc' := 10) kc_174_7 rfl rfl ?_
    refine xi_iload_n (pc' := 11) (x := 0) kc_174_10 rfl rfl ?_
    refine xi_aload_n (pc' := 12) (x := 80) kc_174_11 rfl rfl ?_
    refine xi_getfield (pc' := 15) (v := .ref 83) kc_174_12 rfl rfl rfl (F 80 _ hl_80) rfl ?_
    refine xi_iload_n (pc' := 16) (x := 22) kc_174_15 rfl rfl ?_
    refine xi_iaload (pc' := 17) (v := 2) kc_174_16 rfl (F 83 _ hl_83) (by decide) rfl (xi_in (n := 24) (by decide) (by decide)) rfl ?_
    refine xi_iconst (pc' := 18) (v := 2) kc_174_17 rfl rfl ?_
    refine xi_cmf (pc' := 21) kc_174_18 rfl rfl ?_
    refine xi_iconst (pc' := 22) (v := 0) kc_174_21 rfl rfl ?_
    refine xi_goto (pc' := 26) kc_174_22 rfl ?_
    refine xi_iadd (pc' := 27) (v := 0) kc_174_26 rfl rfl ?_
    refine xi_istore_n (pc' := 28) (lv' := [(1, .int 0), (2, .int 22), (0, .ref 80)]) kc_174_27 rfl rfl (xm_lt ml_174 rfl) ?_
    refine xi_iinc (pc' := 31) (x := 22) (v := 23) (lv' := [(2, .int 23), (1, .int 0), (0, .ref 80)]) kc_174_28 rfl rfl rfl rfl (xm_lt ml_174 rfl) ?_
    refine xi_goto (pc' := 4) kc_174_31 rfl ?_
    refine xi_iload_n (pc' := 5) (x := 23) kc_174_4 rfl rfl ?_
    refine xi_bipush (pc' := 7) (v := 24) kc_174_5 rfl rfl ?_
    refine xi_cmf (pc' := 10) kc_174_7 rfl rfl ?_
    refine xi_iload_n (pc' := 11) (x := 0) kc_174_10 rfl rfl ?_
    refine xi_aload_n (pc' := 12) (x := 80) kc_174_11 rfl rfl ?_
    refine xi_getfield (pc' := 15) (v := .ref 83) kc_174_12 rfl rfl rfl (F 80 _ hl_80) rfl ?_
    refine xi_iload_n (pc' := 16) (x := 23) kc_174_15 rfl rfl ?_
    refine xi_iaload (pc' := 17) (v := 2) kc_174_16 rfl (F 83 _ hl_83) (by decide) rfl (xi_in (n := 24) (by decide) (by decide)) rfl ?_
    refine xi_iconst (pc' := 18) (v := 2) kc_174_17 rfl rfl ?_
    refine xi_cmf (pc' := 21) kc_174_18 rfl rfl ?_
    refine xi_iconst (pc' := 22) (v := 0) kc_174_21 rfl rfl ?_
    refine xi_goto (pc' := 26) kc_174_22 rfl ?_
    refine xi_iadd (pc' := 27) (v := 0) kc_174_26 rfl rfl ?_
    refine xi_istore_n (pc' := 28) (lv' := [(1, .int 0), (2, .int 23), (0, .ref 80)]) kc_174_27 rfl rfl (xm_lt ml_174 rfl) ?_
    refine xi_iinc (pc' := 31) (x := 23) (v := 24) (lv' := [(2, .int 24), (1, .int 0), (0, .ref 80)]) kc_174_28 rfl rfl rfl rfl (xm_lt ml_174 rfl) ?_
    refine xi_goto (pc' := 4) kc_174_31 rfl ?_
    refine xi_iload_n (pc' := 5) (x := 24) kc_174_4 rfl rfl ?_
    refine xi_bipush (pc' := 7) (v := 24) kc_174_5 rfl rfl ?_
    refine xi_cmt (pc' := 34) kc_174_7 rfl rfl ?_
    refine xi_iload_n (pc' := 35) (x := 0) kc_174_34 rfl rfl ?_
    refine xi_ireturn kc_174_35 mr_174 rfl ?_
    show xw J ov 99 191 (132, [(0, .ref 0), (1, .int a1)], [.int 0], h0) _
    refine xi_ireturn kc_191_132 mr_191 rfl ?_
    show xw J ov 100 196 (1513, [(4, .int 0), (3, .ref 167), (2, .ref 115), (1, .ref 0), (0, .ref 1000000)], [.int 0], h0) _
    refine xi_aload_n (pc' := 1514) (x := 115) kc_196_1513 rfl rfl ?_
    refine xi_aload_n (pc' := 1515) (x := 1000000) kc_196_1514 rfl rfl ?_
    refine xi_iload (pc' := 1517) (x := 0) kc_196_1515 rfl rfl ?_
    refine xi_iconst (pc' := 1518) (v := 1) kc_196_1517 rfl rfl ?_
    refine xi_iadd (pc' := 1519) (v := 1) kc_196_1518 rfl rfl ?_
    refine xi_ialoadO (pc' := 1520) (v := a1) kc_196_1519 rfl (by decide) hov0 (xi_in (n := 6) (by decide) (by decide)) rfl ?_
    refine xi_virtual (mj := 76) (as := [.int a1]) (st1 := [.int 0]) (lv0 := [(0, .ref 115), (1, .int a1)]) kc_196_1520 rfl rfl rfl rfl rfl (F 115 _ hl_115) (Nat.le_of_ble_eq_true rfl) (hJ _ _ _ _ (by decide)) (xm_le ml_76 rfl) rfl ?_
    refine xi_aload_n (pc' := 1) (x := 115) kc_76_0 rfl rfl ?_
    refine xi_iconst (pc' := 2) (v := 0) kc_76_1 rfl rfl ?_
    refine xi_putfield (pc' := 5) (fs' := [.int 0, .int 0, .ref 116, .ref 117, .ref 118, .ref 119, .ref 120, .ref 121, .ref 122, .ref 123, .ref 124, .ref 125, .ref 126, .ref 127, .ref 128, .ref 129, .int 4, .ref 130, .int 0, .ref 131, .ref 132, .ref 133, .ref 134, .int 0, .ref 135, .ref 136, .ref 137, .ref 138, .ref 139, .ref 140, .ref 141, .ref 142, .int 0, .int 0, .int 0, .ref 143, .ref 144, .ref 145, .ref 146, .ref 147, .ref 148, .int 0, .ref 149, .ref 150, .ref 151, .int 0, .ref 152, .ref 153, .ref 154, .ref 155, .ref 156, .ref 157, .ref 158, .ref 159, .int 0, .ref 160, .int 0, .ref 161, .ref 162, .ref 163, .ref 164, .int 0, .ref 165, .ref 166]) kc_76_2 rfl rfl rfl (F 115 _ hl_115) rfl rfl rfl (Nat.le_of_ble_eq_true rfl) rfl (fun hh1 eh1 => ?_)
    refine xi_iconst (pc' := 6) (v := 0) kc_76_5 rfl rfl ?_
    refine xi_istore_n (pc' := 7) (lv' := [(2, .int 0), (0, .ref 115), (1, .int a1)]) kc_76_6 rfl rfl (xm_lt ml_76 rfl) ?_
    refine xi_iload_n (pc' := 8) (x := a1) kc_76_7 rfl rfl ?_
    refine xi_tsi (pc' := 197) (z := 9) kc_76_8 (by omega) rfl (by decide) ?_
    refine xi_aload_n (pc' := 198) (x := 115) kc_76_197 rfl rfl ?_
    refine xi_virtual (mj := 70) (as := []) (st1 := []) (lv0 := [(0, .ref 115)]) kc_76_198 rfl rfl rfl rfl rfl eh1.1 (Nat.le_of_ble_eq_true rfl) (hJ _ _ _ _ (by decide)) (xm_le ml_70 rfl) rfl ?_
    refine xi_aload_n (pc' := 1) (x := 115) kc_70_0 rfl rfl ?_
    refine xi_iconst (pc' := 2) (v := 0) kc_70_1 rfl rfl ?_
    refine xi_putfield (pc' := 5) (fs' := [.int 0, .int 0, .ref 116, .ref 117, .ref 118, .ref 119, .ref 120, .ref 121, .ref 122, .ref 123, .ref 124, .ref 125, .ref 126, .ref 127, .ref 128, .ref 129, .int 4, .ref 130, .int 0, .ref 131, .ref 132, .ref 133, .ref 134, .int 0, .ref 135, .ref 136, .ref 137, .ref 138, .ref 139, .ref 140, .ref 141, .ref 142, .int 0, .int 0, .int 0, .ref 143, .ref 144, .ref 145, .ref 146, .ref 147, .ref 148, .int 0, .ref 149, .ref 150, .ref 151, .int 0, .ref 152, .ref 153, .ref 154, .ref 155, .ref 156, .ref 157, .ref 158, .ref 159, .int 0, .ref 160, .int 0, .ref 161, .ref 162, .ref 163, .ref 164, .int 0, .ref 165, .ref 166]) kc_70_2 rfl rfl rfl eh1.1 rfl rfl rfl (Nat.le_of_ble_eq_true rfl) rfl (fun hh2 eh2 => ?_)
    refine xi_iconst (pc' := 6) (v := 0) kc_70_5 rfl rfl ?_
    refine xi_istore_n (pc' := 7) (lv' := [(1, .int 0), (0, .ref 115)]) kc_70_6 rfl rfl (xm_lt ml_70 rfl) ?_
    refine xi_iload_n (pc' := 8) (x := 0) kc_70_7 rfl rfl ?_
    refine xi_bipush (pc' := 10) (v := 24) kc_70_8 rfl rfl ?_
    refine xi_cmf (pc' := 13) kc_70_10 rfl rfl ?_
    refine xi_aload_n (pc' := 14) (x := 115) kc_70_13 rfl rfl ?_
    refine xi_getfield (pc' := 17) (v := .ref 158) kc_70_14 rfl rfl rfl eh2.1 rfl ?_
    refine xi_iload_n (pc' := 18) (x := 0) kc_70_17 rfl rfl ?_
    refine xi_iaload (pc' := 19) (v := 2) kc_70_18 rfl ((eh2.2.1 158 (by decide)).trans ((eh1.2.1 158 (by decide)).trans (F 158 _ hl_158))) (by decide) rfl (xi_in (n := 24) (by decide) (by decide)) rfl ?_
    refine xi_iconst (pc' := 20) (v := 2) kc_70_19 rfl rfl ?_
    refine xi_cmt (pc' := 43) kc_70_20 rfl rfl ?_
    refine xi_iinc (pc' := 46) (x := 0) (v := 1) (lv' := [(1, .int 1), (0, .ref 115)]) kc_70_43 rfl rfl rfl rfl (xm_lt ml_70 rfl) ?_
    refine xi_goto (pc' := 7) kc_70_46 rfl ?_
    refine xi_iload_n (pc' := 8) (x := 1) kc_70_7 rfl rfl ?_
    refine xi_bipush (pc' := 10) (v := 24) kc_70_8 rfl rfl ?_
    refine xi_cmf (pc' := 13) kc_70_10 rfl rfl ?_
    refine xi_aload_n (pc' := 14) (x := 115) kc_70_13 rfl rfl ?_
    refine xi_getfield (pc' := 17) (v := .ref 158) kc_70_14 rfl rfl rfl eh2.1 rfl ?_
    refine xi_iload_n (pc' := 18) (x := 1) kc_70_17 rfl rfl ?_
    refine xi_iaload (pc' := 19) (v := 2) kc_70_18 rfl ((eh2.2.1 158 (by decide)).trans ((eh1.2.1 158 (by decide)).trans (F 158 _ hl_158))) (by decide) rfl (xi_in (n := 24) (by decide) (by decide)) rfl ?_
    refine xi_iconst (pc' := 20) (v := 2) kc_70_19 rfl rfl ?_
    refine xi_cmt (pc' := 43) kc_70_20 rfl rfl ?_
    refine xi_iinc (pc' := 46) (x := 1) (v := 2) (lv' := [(1, .int 2), (0, .ref 115)]) kc_70_43 rfl rfl rfl rfl (xm_lt ml_70 rfl) ?_
    refine xi_goto (pc' := 7) kc_70_46 rfl ?_
    refine xi_iload_n (pc' := 8) (x := 2) kc_70_7 rfl rfl ?_
    refine xi_bipush (pc' := 10) (v := 24) kc_70_8 rfl rfl ?_
    refine xi_cmf (pc' := 13) kc_70_10 rfl rfl ?_
    refine xi_aload_n (pc' := 14) (x := 115) kc_70_13 rfl rfl ?_
    refine xi_getfield (pc' := 17) (v := .ref 158) kc_70_14 rfl rfl rfl eh2.1 rfl ?_
    refine xi_iload_n (pc' := 18) (x := 2) kc_70_17 rfl rfl ?_
    refine xi_iaload (pc' := 19) (v := 2) kc_70_18 rfl ((eh2.2.1 158 (by decide)).trans ((eh1.2.1 158 (by decide)).trans (F 158 _ hl_158))) (by decide) rfl (xi_in (n := 24) (by decide) (by decide)) rfl ?_
    refine xi_iconst (pc' := 20) (v := 2) kc_70_19 rfl rfl ?_
    refine xi_cmt (pc' := 43) kc_70_20 rfl rfl ?_
    refine xi_iinc (pc' := 46) (x := 2) (v := 3) (lv' := [(1, .int 3), (0, .ref 115)]) kc_70_43 rfl rfl rfl rfl (xm_lt ml_70 rfl) ?_
    refine xi_goto (pc' := 7) kc_70_46 rfl ?_
    refine xi_iload_n (pc' := 8) (x := 3) kc_70_7 rfl rfl ?_
    refine xi_bipush (pc' := 10) (v := 24) kc_70_8 rfl rfl ?_
    refine xi_cmf (pc' := 13) kc_70_10 rfl rfl ?_
    refine xi_aload_n (pc' := 14) (x := 115) kc_70_13 rfl rfl ?_
    refine xi_getfield (pc' := 17) (v := .ref 158) kc_70_14 rfl rfl rfl eh2.1 rfl ?_
    refine xi_iload_n (pc' := 18) (x := 3) kc_70_17 rfl rfl ?_
    refine xi_iaload (pc' := 19) (v := 2) kc_70_18 rfl ((eh2.2.1 158 (by decide)).trans ((eh1.2.1 158 (by decide)).trans (F 158 _ hl_158))) (by decide) rfl (xi_in (n := 24) (by decide) (by decide)) rfl ?_
    refine xi_iconst (pc' := 20) (v := 2) kc_70_19 rfl rfl ?_
    refine xi_cmt (pc' := 43) kc_70_20 rfl rfl ?_
    refine xi_iinc (pc' := 46) (x := 3) (v := 4) (lv' := [(1, .int 4), (0, .ref 115)]) kc_70_43 rfl rfl rfl rfl (xm_lt ml_70 rfl) ?_
    refine xi_goto (pc' := 7) kc_70_46 rfl ?_
    refine xi_iload_n (pc' := 8) (x := 4) kc_70_7 rfl rfl ?_
    refine xi_bipush (pc' := 10) (v := 24) kc_70_8 rfl rfl ?_
    refine xi_cmf (pc' := 13) kc_70_10 rfl rfl ?_
    refine xi_aload_n (pc' := 14) (x := 115) kc_70_13 rfl rfl ?_
    refine xi_getfield (pc' := 17) (v := .ref 158) kc_70_14 rfl rfl rfl eh2.1 rfl ?_
    refine xi_iload_n (pc' := 18) (x := 4) kc_70_17 rfl rfl ?_
    refine xi_iaload (pc' := 19) (v := 2) kc_70_18 rfl ((eh2.2.1 158 (by decide)).trans ((eh1.2.1 158 (by decide)).trans (F 158 _ hl_158))) (by decide) rfl (xi_in (n := 24) (by decide) (by decide)) rfl ?_
    refine xi_iconst (pc' := 20) (v := 2) kc_70_19 rfl rfl ?_
    refine xi_cmt (pc' := 43) kc_70_20 rfl rfl ?_
    refine xi_iinc (pc' := 46) (x := 4) (v := 5) (lv' := [(1, .int 5), (0, .ref 115)]) kc_70_43 rfl rfl rfl rfl (xm_lt ml_70 rfl) ?_
    refine xi_goto (pc' := 7) kc_70_46 rfl ?_
    refine xi_iload_n (pc' := 8) (x := 5) kc_70_7 rfl rfl ?_
    refine xi_bipush (pc' := 10) (v := 24) kc_70_8 rfl rfl ?_
    refine xi_cmf (pc' := 13) kc_70_10 rfl rfl ?_
    refine xi_aload_n (pc' := 14) (x := 115) kc_70_13 rfl rfl ?_
    refine xi_getfield (pc' := 17) (v := .ref 158) kc_70_14 rfl rfl rfl eh2.1 rfl ?_
    refine xi_iload_n (pc' := 18) (x := 5) kc_70_17 rfl rfl ?_
    refine xi_iaload (pc' := 19) (v := 2) kc_70_18 rfl ((eh2.2.1 158 (by decide)).trans ((eh1.2.1 158 (by decide)).trans (F 158 _ hl_158))) (by decide) rfl (xi_in (n := 24) (by decide) (by decide)) rfl ?_
    refine xi_iconst (pc' := 20) (v := 2) kc_70_19 rfl rfl ?_
    refine xi_cmt (pc' := 43) kc_70_20 rfl rfl ?_
    refine xi_iinc (pc' := 46) (x := 5) (v := 6) (lv' := [(1, .int 6), (0, .ref 115)]) kc_70_43 rfl rfl rfl rfl (xm_lt ml_70 rfl) ?_
    refine xi_goto (pc' := 7) kc_70_46 rfl ?_
    refine xi_iload_n (pc' := 8) (x := 6) kc_70_7 rfl rfl ?_
    refine xi_bipush (pc' := 10) (v := 24) kc_70_8 rfl rfl ?_
    refine xi_cmf (pc' := 13) kc_70_10 rfl rfl ?_
    refine xi_aload_n (pc' := 14) (x := 115) kc_70_13 rfl rfl ?_
    refine xi_getfield (pc' := 17) (v := .ref 158) kc_70_14 rfl rfl rfl eh2.1 rfl ?_
    refine xi_iload_n (pc' := 18) (x := 6) kc_70_17 rfl rfl ?_
    refine xi_iaload (pc' := 19) (v := 2) kc_70_18 rfl ((eh2.2.1 158 (by decide)).trans ((eh1.2.1 158 (by decide)).trans (F 158 _ hl_158))) (by decide) rfl (xi_in (n := 24) (by decide) (by decide)) rfl ?_
    refine xi_iconst (pc' := 20) (v := 2) kc_70_19 rfl rfl ?_
    refine xi_cmt (pc' := 43) kc_70_20 rfl rfl ?_
    refine xi_iinc (pc' := 46) (x := 6) (v := 7) (lv' := [(1, .int 7), (0, .ref 115)]) kc_70_43 rfl rfl rfl rfl (xm_lt ml_70 rfl) ?_
    refine xi_goto (pc' := 7) kc_70_46 rfl ?_
    refine xi_iload_n (pc' := 8) (x := 7) kc_70_7 rfl rfl ?_
    refine xi_bipush (pc' := 10) (v := 24) kc_70_8 rfl rfl ?_
    refine xi_cmf (pc' := 13) kc_70_10 rfl rfl ?_
    refine xi_aload_n (pc' := 14) (x := 115) kc_70_13 rfl rfl ?_
    refine xi_getfield (pc' := 17) (v := .ref 158) kc_70_14 rfl rfl rfl eh2.1 rfl ?_
    refine xi_iload_n (pc' := 18) (x := 7) kc_70_17 rfl rfl ?_
    refine xi_iaload (pc' := 19) (v := 2) kc_70_18 rfl ((eh2.2.1 158 (by decide)).trans ((eh1.2.1 158 (by decide)).trans (F 158 _ hl_158))) (by decide) rfl (xi_in (n := 24) (by decide) (by decide)) rfl ?_
    refine xi_iconst (pc' := 20) (v := 2) kc_70_19 rfl rfl ?_
    refine xi_cmt (pc' := 43) kc_70_20 rfl rfl ?_
    refine xi_iinc (pc' := 46) (x := 7) (v := 8) (lv' := [(1, .int 8), (0, .ref 115)]) kc_70_43 rfl rfl rfl rfl (xm_lt ml_70 rfl) ?_
    refine xi_goto (pc' := 7) kc_70_46 rfl ?_
    refine xi_iload_n (pc' := 8) (x := 8) kc_70_7 rfl rfl ?_
    refine xi_bipush (pc' := 10) (v := 24) kc_70_8 rfl rfl ?_
    refine xi_cmf (pc' := 13) kc_70_10 rfl rfl ?_
    refine xi_aload_n (pc' := 14) (x := 115) kc_70_13 rfl rfl ?_
    refine xi_getfield (pc' := 17) (v := .ref 158) kc_70_14 rfl rfl rfl eh2.1 rfl ?_
    refine xi_iload_n (pc' := 18) (x := 8) kc_70_17 rfl rfl ?_
    refine xi_iaload (pc' := 19) (v := 2) kc_70_18 rfl ((eh2.2.1 158 (by decide)).trans ((eh1.2.1 158 (by decide)).trans (F 158 _ hl_158))) (by decide) rfl (xi_in (n := 24) (by decide) (by decide)) rfl ?_
    refine xi_iconst (pc' := 20) (v := 2) kc_70_19 rfl rfl ?_
    refine xi_cmt (pc' := 43) kc_70_20 rfl rfl ?_
    refine xi_iinc (pc' := 46) (x := 8) (v := 9) (lv' := [(1, .int 9), (0, .ref 115)]) kc_70_43 rfl rfl rfl rfl (xm_lt ml_70 rfl) ?_
    refine xi_goto (pc' := 7) kc_70_46 rfl ?_
    refine xi_iload_n (pc' := 8) (x := 9) kc_70_7 rfl rfl ?_
    refine xi_bipush (pc' := 10) (v := 24) kc_70_8 rfl rfl ?_
    refine xi_cmf (pc' := 13) kc_70_10 rfl rfl ?_
    refine xi_aload_n (pc' := 14) (x := 115) kc_70_13 rfl rfl ?_
    refine xi_getfield (pc' := 17) (v := .ref 158) kc_70_14 rfl rfl rfl eh2.1 rfl ?_
    refine xi_iload_n (pc' := 18) (x := 9) kc_70_17 rfl rfl ?_
    refine xi_iaload (pc' := 19) (v := 2) kc_70_18 rfl ((eh2.2.1 158 (by decide)).trans ((eh1.2.1 158 (by decide)).trans (F 158 _ hl_158))) (by decide) rfl (xi_in (n := 24) (by decide) (by decide)) rfl ?_
    refine xi_iconst (pc' := 20) (v := 2) kc_70_19 rfl rfl ?_
    refine xi_cmt (pc' := 43) kc_70_20 rfl rfl ?_
    refine xi_iinc (pc' := 46) (x := 9) (v := 10) (lv' := [(1, .int 10), (0, .ref 115)]) kc_70_43 rfl rfl rfl rfl (xm_lt ml_70 rfl) ?_
    refine xi_goto (pc' := 7) kc_70_46 rfl ?_
    refine xi_iload_n (pc' := 8) (x := 10) kc_70_7 rfl rfl ?_
    refine xi_bipush (pc' := 10) (v := 24) kc_70_8 rfl rfl ?_
    refine xi_cmf (pc' := 13) kc_70_10 rfl rfl ?_
    refine xi_aload_n (pc' := 14) (x := 115) kc_70_13 rfl rfl ?_
    refine xi_getfield (pc' := 17) (v := .ref 158) kc_70_14 rfl rfl rfl eh2.1 rfl ?_
    refine xi_iload_n (pc' := 18) (x := 10) kc_70_17 rfl rfl ?_
    refine xi_iaload (pc' := 19) (v := 2) kc_70_18 rfl ((eh2.2.1 158 (by decide)).trans ((eh1.2.1 158 (by decide)).trans (F 158 _ hl_158))) (by decide) rfl (xi_in (n := 24) (by decide) (by decide)) rfl ?_
    refine xi_iconst (pc' := 20) (v := 2) kc_70_19 rfl rfl ?_
    refine xi_cmt (pc' := 43) kc_70_20 rfl rfl ?_
    refine xi_iinc (pc' := 46) (x := 10) (v := 11) (lv' := [(1, .int 11), (0, .ref 115)]) kc_70_43 rfl rfl rfl rfl (xm_lt ml_70 rfl) ?_
    refine xi_goto (pc' := 7) kc_70_46 rfl ?_
    refine xi_iload_n (pc' := 8) (x := 11) kc_70_7 rfl rfl ?_
    refine xi_bipush (pc' := 10) (v := 24) kc_70_8 rfl rfl ?_
    refine xi_cmf (pc' := 13) kc_70_10 rfl rfl ?_
    refine xi_aload_n (pc' := 14) (x := 115) kc_70_13 rfl rfl ?_
    refine xi_getfield (pc' := 17) (v := .ref 158) kc_70_14 rfl rfl rfl eh2.1 rfl ?_
    refine xi_iload_n (pc' := 18) (x := 11) kc_70_17 rfl rfl ?_
    refine xi_iaload (pc' := 19) (v := 2) kc_70_18 rfl ((eh2.2.1 158 (by decide)).trans ((eh1.2.1 158 (by decide)).trans (F 158 _ hl_158))) (by decide) rfl (xi_in (n := 24) (by decide) (by decide)) rfl ?_
    refine xi_iconst (pc' := 20) (v := 2) kc_70_19 rfl rfl ?_
    refine xi_cmt (pc' := 43) kc_70_20 rfl rfl ?_
    refine xi_iinc (pc' := 46) (x := 11) (v := 12) (lv' := [(1, .int 12), (0, .ref 115)]) kc_70_43 rfl rfl rfl rfl (xm_lt ml_70 rfl) ?_
    refine xi_goto (pc' := 7) kc_70_46 rfl ?_
    refine xi_iload_n (pc' := 8) (x := 12) kc_70_7 rfl rfl ?_
    refine xi_bipush (pc' := 10) (v := 24) kc_70_8 rfl rfl ?_
    refine xi_cmf (pc' := 13) kc_70_10 rfl rfl ?_
    refine xi_aload_n (pc' := 14) (x := 115) kc_70_13 rfl rfl ?_
    refine xi_getfield (pc' := 17) (v := .ref 158) kc_70_14 rfl rfl rfl eh2.1 rfl ?_
    refine xi_iload_n (pc' := 18) (x := 12) kc_70_17 rfl rfl ?_
    refine xi_iaload (pc' := 19) (v := 2) kc_70_18 rfl ((eh2.2.1 158 (by decide)).trans ((eh1.2.1 158 (by decide)).trans (F 158 _ hl_158))) (by decide) rfl (xi_in (n := 24) (by decide) (by decide)) rfl ?_
    refine xi_iconst (pc' := 20) (v := 2) kc_70_19 rfl rfl ?_
    refine xi_cmt (pc' := 43) kc_70_20 rfl rfl ?_
    refine xi_iinc (pc' := 46) (x := 12) (v := 13) (lv' := [(1, .int 13), (0, .ref 115)]) kc_70_43 rfl rfl rfl rfl (xm_lt ml_70 rfl) ?_
    refine xi_goto (pc' := 7) kc_70_46 rfl ?_
    refine xi_iload_n (pc' := 8) (x := 13) kc_70_7 rfl rfl ?_
    refine xi_bipush (pc' := 10) (v := 24) kc_70_8 rfl rfl ?_
    refine xi_cmf (pc' := 13) kc_70_10 rfl rfl ?_
    refine xi_aload_n (pc' := 14) (x := 115) kc_70_13 rfl rfl ?_
    refine xi_getfield (pc' := 17) (v := .ref 158) kc_70_14 rfl rfl rfl eh2.1 rfl ?_
    refine xi_iload_n (pc' := 18) (x := 13) kc_70_17 rfl rfl ?_
    refine xi_iaload (pc' := 19) (v := 2) kc_70_18 rfl ((eh2.2.1 158 (by decide)).trans ((eh1.2.1 158 (by decide)).trans (F 158 _ hl_158))) (by decide) rfl (xi_in (n := 24) (by decide) (by decide)) rfl ?_
    refine xi_iconst (pc' := 20) (v := 2) kc_70_19 rfl rfl ?_
    refine xi_cmt (pc' := 43) kc_70_20 rfl rfl ?_
    refine xi_iinc (pc' := 46) (x := 13) (v := 14) (lv' := [(1, .int 14), (0, .ref 115)]) kc_70_43 rfl rfl rfl rfl (xm_lt ml_70 rfl) ?_
    refine xi_goto (pc' := 7) kc_70_46 rfl ?_
    refine xi_iload_n (pc' := 8) (x := 14) kc_70_7 rfl rfl ?_
    refine xi_bipush (pc' := 10) (v := 24) kc_70_8 rfl rfl ?_
    refine xi_cmf (pc' := 13) kc_70_10 rfl rfl ?_
    refine xi_aload_n (pc' := 14) (x := 115) kc_70_13 rfl rfl ?_
    refine xi_getfield (pc' := 17) (v := .ref 158) kc_70_14 rfl rfl rfl eh2.1 rfl ?_
    refine xi_iload_n (pc' := 18) (x := 14) kc_70_17 rfl rfl ?_
    refine xi_iaload (pc' := 19) (v := 2) kc_70_18 rfl ((eh2.2.1 158 (by decide)).trans ((eh1.2.1 158 (by decide)).trans (F 158 _ hl_158))) (by decide) rfl (xi_in (n := 24) (by decide) (by decide)) rfl ?_
    refine xi_iconst (pc' := 20) (v := 2) kc_70_19 rfl rfl ?_
    refine xi_cmt (pc' := 43) kc_70_20 rfl rfl ?_
    refine xi_iinc (pc' := 46) (x := 14) (v := 15) (lv' := [(1, .int 15), (0, .ref 115)]) kc_70_43 rfl rfl rfl rfl (xm_lt ml_70 rfl) ?_
    refine xi_goto (pc' := 7) kc_70_46 rfl ?_
    refine xi_iload_n (pc' := 8) (x := 15) kc_70_7 rfl rfl ?_
    refine xi_bipush (pc' := 10) (v := 24) kc_70_8 rfl rfl ?_
    refine xi_cmf (pc' := 13) kc_70_10 rfl rfl ?_
    refine xi_aload_n (pc' := 14) (x := 115) kc_70_13 rfl rfl ?_
    refine xi_getfield (pc' := 17) (v := .ref 158) kc_70_14 rfl rfl rfl eh2.1 rfl ?_
    refine xi_iload_n (pc' := 18) (x := 15) kc_70_17 rfl rfl ?_
    refine xi_iaload (pc' := 19) (v := 2) kc_70_18 rfl ((eh2.2.1 158 (by decide)).trans ((eh1.2.1 158 (by decide)).trans (F 158 _ hl_158))) (by decide) rfl (xi_in (n := 24) (by decide) (by decide)) rfl ?_
    refine xi_iconst (pc' := 20) (v := 2) kc_70_19 rfl rfl ?_
    refine xi_cmt (pc' := 43) kc_70_20 rfl rfl ?_
    refine xi_iinc (pc' := 46) (x := 15) (v := 16) (lv' := [(1, .int 16), (0, .ref 115)]) kc_70_43 rfl rfl rfl rfl (xm_lt ml_70 rfl) ?_
    refine xi_goto (pc' := 7) kc_70_46 rfl ?_
    refine xi_iload_n (pc' := 8) (x := 16) kc_70_7 rfl rfl ?_
    refine xi_bipush (pc' := 10) (v := 24) kc_70_8 rfl rfl ?_
    refine xi_cmf (pc' := 13) kc_70_10 rfl rfl ?_
    refine xi_aload_n (pc' := 14) (x := 115) kc_70_13 rfl rfl ?_
    refine xi_getfield (pc' := 17) (v := .ref 158) kc_70_14 rfl rfl rfl eh2.1 rfl ?_
    refine xi_iload_n (pc' := 18) (x := 16) kc_70_17 rfl rfl ?_
    refine xi_iaload (pc' := 19) (v := 2) kc_70_18 rfl ((eh2.2.1 158 (by decide)).trans ((eh1.2.1 158 (by decide)).trans (F 158 _ hl_158))) (by decide) rfl (xi_in (n := 24) (by decide) (by decide)) rfl ?_
    refine xi_iconst (pc' := 20) (v := 2) kc_70_19 rfl rfl ?_
    refine xi_cmt (pc' := 43) kc_70_20 rfl rfl ?_
    refine xi_iinc (pc' := 46) (x := 16) (v := 17) (lv' := [(1, .int 17), (0, .ref 115)]) kc_70_43 rfl rfl rfl rfl (xm_lt ml_70 rfl) ?_
    refine xi_goto (pc' := 7) kc_70_46 rfl ?_
    refine xi_iload_n (pc' := 8) (x := 17) kc_70_7 rfl rfl ?_
    refine xi_bipush (pc' := 10) (v := 24) kc_70_8 rfl rfl ?_
    refine xi_cmf (pc' := 13) kc_70_10 rfl rfl ?_
    refine xi_aload_n (pc' := 14) (x := 115) kc_70_13 rfl rfl ?_
    refine xi_getfield (pc' := 17) (v := .ref 158) kc_70_14 rfl rfl rfl eh2.1 rfl ?_
    refine xi_iload_n (pc' := 18) (x := 17) kc_70_17 rfl rfl ?_
    refine xi_iaload (pc' := 19) (v := 2) kc_70_18 rfl ((eh2.2.1 158 (by decide)).trans ((eh1.2.1 158 (by decide)).trans (F 158 _ hl_158))) (by decide) rfl (xi_in (n := 24) (by decide) (by decide)) rfl ?_
    refine xi_iconst (pc' := 20) (v := 2) kc_70_19 rfl rfl ?_
    refine xi_cmt (pc' := 43) kc_70_20 rfl rfl ?_
    refine xi_iinc (pc' := 46) (x := 17) (v := 18) (lv' := [(1, .int 18), (0, .ref 115)]) kc_70_43 rfl rfl rfl rfl (xm_lt ml_70 rfl) ?_
    refine xi_goto (pc' := 7) kc_70_46 rfl ?_
    refine xi_iload_n (pc' := 8) (x := 18) kc_70_7 rfl rfl ?_
    refine xi_bipush (pc' := 10) (v := 24) kc_70_8 rfl rfl ?_
    refine xi_cmf (pc' := 13) kc_70_10 rfl rfl ?_
    refine xi_aload_n (pc' := 14) (x := 115) kc_70_13 rfl rfl ?_
    refine xi_getfield (pc' := 17) (v := .ref 158) kc_70_14 rfl rfl rfl eh2.1 rfl ?_
    refine xi_iload_n (pc' := 18) (x := 18) kc_70_17 rfl rfl ?_
    refine xi_iaload (pc' := 19) (v := 2) kc_70_18 rfl ((eh2.2.1 158 (by decide)).trans ((eh1.2.1 158 (by decide)).trans (F 158 _ hl_158))) (by decide) rfl (xi_in (n := 24) (by decide) (by decide)) rfl ?_
    refine xi_iconst (pc' := 20) (v := 2) kc_70_19 rfl rfl ?_
    refine xi_cmt (pc' := 43) kc_70_20 rfl rfl ?_
    refine xi_iinc (pc' := 46) (x := 18) (v := 19) (lv' := [(1, .int 19), (0, .ref 115)]) kc_70_43 rfl rfl rfl rfl (xm_lt ml_70 rfl) ?_
    refine xi_goto (pc' := 7) kc_70_46 rfl ?_
    refine xi_iload_n (pc' := 8) (x := 19) kc_70_7 rfl rfl ?_
    refine xi_bipush (pc' := 10) (v := 24) kc_70_8 rfl rfl ?_
    refine xi_cmf (pc' := 13) kc_70_10 rfl rfl ?_
    refine xi_aload_n (pc' := 14) (x := 115) kc_70_13 rfl rfl ?_
    refine xi_getfield (pc' := 17) (v := .ref 158) kc_70_14 rfl rfl rfl eh2.1 rfl ?_
    refine xi_iload_n (pc' := 18) (x := 19) kc_70_17 rfl rfl ?_
    refine xi_iaload (pc' := 19) (v := 2) kc_70_18 rfl ((eh2.2.1 158 (by decide)).trans ((eh1.2.1 158 (by decide)).trans (F 158 _ hl_158))) (by decide) rfl (xi_in (n := 24) (by decide) (by decide)) rfl ?_
    refine xi_iconst (pc' := 20) (v := 2) kc_70_19 rfl rfl ?_
    refine xi_cmt (pc' := 43) kc_70_20 rfl rfl ?_
    refine xi_iinc (pc' := 46) (x := 19) (v := 20) (lv' := [(1, .int 20), (0, .ref 115)]) kc_70_43 rfl rfl rfl rfl (xm_lt ml_70 rfl) ?_
    refine xi_goto (pc' := 7) kc_70_46 rfl ?_
    refine xi_iload_n (pc' := 8) (x := 20) kc_70_7 rfl rfl ?_
    refine xi_bipush (pc' := 10) (v := 24) kc_70_8 rfl rfl ?_
    refine xi_cmf (pc' := 13) kc_70_10 rfl rfl ?_
    refine xi_aload_n (pc' := 14) (x := 115) kc_70_13 rfl rfl ?_
    refine xi_getfield (pc' := 17) (v := .ref 158) kc_70_14 rfl rfl rfl eh2.1 rfl ?_
    refine xi_iload_n (pc' := 18) (x := 20) kc_70_17 rfl rfl ?_
    refine xi_iaload (pc' := 19) (v := 2) kc_70_18 rfl ((eh2.2.1 158 (by decide)).trans ((eh1.2.1 158 (by decide)).trans (F 158 _ hl_158))) (by decide) rfl (xi_in (n := 24) (by decide) (by decide)) rfl ?_
    refine xi_iconst (pc' := 20) (v := 2) kc_70_19 rfl rfl ?_
    refine xi_cmt (pc' := 43) kc_70_20 rfl rfl ?_
    refine xi_iinc (pc' := 46) (x := 20) (v := 21) (lv' := [(1, .int 21), (0, .ref 115)]) kc_70_43 rfl rfl rfl rfl (xm_lt ml_70 rfl) ?_
    refine xi_goto (pc' := 7) kc_70_46 rfl ?_
    refine xi_iload_n (pc' := 8) (x := 21) kc_70_7 rfl rfl ?_
    refine xi_bipush (pc' := 10) (v := 24) kc_70_8 rfl rfl ?_
    refine xi_cmf (pc' := 13) kc_70_10 rfl rfl ?_
    refine xi_aload_n (pc' := 14) (x := 115) kc_70_13 rfl rfl ?_
    refine xi_getfield (pc' := 17) (v := .ref 158) kc_70_14 rfl rfl rfl eh2.1 rfl ?_
    refine xi_iload_n (pc' := 18) (x := 21) kc_70_17 rfl rfl ?_
    refine xi_iaload (pc' := 19) (v := 2) kc_70_18 rfl ((eh2.2.1 158 (by decide)).trans ((eh1.2.1 158 (by decide)).trans (F 158 _ hl_158))) (by decide) rfl (xi_in (n := 24) (by decide) (by decide)) rfl ?_
    refine xi_iconst (pc' := 20) (v := 2) kc_70_19 rfl rfl ?_
    refine xi_cmt (pc' := 43) kc_70_20 rfl rfl ?_
    refine xi_iinc (pc' := 46) (x := 21) (v := 22) (lv' := [(1, .int 22), (0, .ref 115)]) kc_70_43 rfl rfl rfl rfl (xm_lt ml_70 rfl) ?_
    refine xi_goto (pc' := 7) kc_70_46 rfl ?_
    refine xi_iload_n (pc' := 8) (x := 22) kc_70_7 rfl rfl ?_
    refine xi_bipush (pc' := 10) (v := 24) kc_70_8 rfl rfl ?_
    refine xi_cmf (pc' := 13) kc_70_10 rfl rfl ?_
    refine xi_aload_n (pc' := 14) (x := 115) kc_70_13 rfl rfl ?_
    refine xi_getfield (pc' := 17) (v := .ref 158) kc_70_14 rfl rfl rfl eh2.1 rfl ?_
    refine xi_iload_n (pc' := 18) (x := 22) kc_70_17 rfl rfl ?_
    refine xi_iaload (pc' := 19) (v := 2) kc_70_18 rfl ((eh2.2.1 158 (by decide)).trans ((eh1.2.1 158 (by decide)).trans (F 158 _ hl_158))) (by decide) rfl (xi_in (n := 24) (by decide) (by decide)) rfl ?_
    refine xi_iconst (pc' := 20) (v := 2) kc_70_19 rfl rfl ?_
    refine xi_cmt (pc' := 43) kc_70_20 rfl rfl ?_
    refine xi_iinc (pc' := 46) (x := 22) (v := 23) (lv' := [(1, .int 23), (0, .ref 115)]) kc_70_43 rfl rfl rfl rfl (xm_lt ml_70 rfl) ?_
    refine xi_goto (pc' := 7) kc_70_46 rfl ?_
    refine xi_iload_n (pc' := 8) (x := 23) kc_70_7 rfl rfl ?_
    refine xi_bipush (pc' := 10) (v := 24) kc_70_8 rfl rfl ?_
    refine xi_cmf (pc' := 13) kc_70_10 rfl rfl ?_
    refine xi_aload_n (pc' := 14) (x := 115) kc_70_13 rfl rfl ?_
    refine xi_getfield (pc' := 17) (v := .ref 158) kc_70_14 rfl rfl rfl eh2.1 rfl ?_
    refine xi_iload_n (pc' := 18) (x := 23) kc_70_17 rfl rfl ?_
    refine xi_iaload (pc' := 19) (v := 2) kc_70_18 rfl ((eh2.2.1 158 (by decide)).trans ((eh1.2.1 158 (by decide)).trans (F 158 _ hl_158))) (by decide) rfl (xi_in (n := 24) (by decide) (by decide)) rfl ?_
    refine xi_iconst (pc' := 20) (v := 2) kc_70_19 rfl rfl ?_
    refine xi_cmt (pc' := 43) kc_70_20 rfl rfl ?_
    refine xi_iinc (pc' := 46) (x := 23) (v := 24) (lv' := [(1, .int 24), (0, .ref 115)]) kc_70_43 rfl rfl rfl rfl (xm_lt ml_70 rfl) ?_
    refine xi_goto (pc' := 7) kc_70_46 rfl ?_
    refine xi_iload_n (pc' := 8) (x := 24) kc_70_7 rfl rfl ?_
    refine xi_bipush (pc' := 10) (v := 24) kc_70_8 rfl rfl ?_
    refine xi_cmt (pc' := 49) kc_70_10 rfl rfl ?_
    refine xi_return kc_70_49 mr_70 ?_
    show xw J ov 99 76 (201, [(2, .int 0), (0, .ref 115), (1, .int a1)], [], hh2) _
    refine xi_aload_n (pc' := 202) (x := 115) kc_76_201 rfl rfl ?_
    refine xi_getfield (pc' := 205) (v := .int 0) kc_76_202 rfl rfl rfl eh2.1 rfl ?_
    refine xi_ireturn kc_76_205 mr_76 rfl ?_
    show xw J ov 100 196 (1523, [(4, .int 0), (3, .ref 167), (2, .ref 115), (1, .ref 0), (0, .ref 1000000)], [.int 0, .int 0], hh2) _
    refine xi_cmt (pc' := 1528) kc_196_1523 rfl rfl ?_
    refine xi_iinc (pc' := 1531) (x := 0) (v := 6) (lv' := [(4, .int 6), (3, .ref 167), (2, .ref 115), (1, .ref 0), (0, .ref 1000000)]) kc_196_1528 rfl rfl rfl rfl (xm_lt ml_196 rfl) ?_
    refine xi_goto (pc' := 23) kc_196_1531 rfl ?_
    refine xi_iload (pc' := 25) (x := 6) kc_196_23 rfl rfl ?_
    refine xi_aload_n (pc' := 26) (x := 1000000) kc_196_25 rfl rfl ?_
    refine xi_arraylength (pc' := 27) (n := 6) (v := 6) kc_196_26 rfl (xl_lenO (by decide) hov0 rfl) rfl ?_
    refine xi_bipush (pc' := 29) (v := 6) kc_196_27 rfl rfl ?_
    refine xi_isub (pc' := 30) (v := 0) kc_196_29 rfl rfl ?_
    refine xi_cmt (pc' := 1534) kc_196_30 rfl rfl ?_
    refine xi_iconst (pc' := 1535) (v := 1) kc_196_1534 rfl rfl ?_
    refine xi_ireturn kc_196_1535 mr_196 rfl ?_
    refine ⟨rfl, ?_, ?_⟩
    · rw [eh2.2.2.1, eh1.2.2.1]; exact hn0
    · rw [eh2.2.2.2, eh1.2.2.2]; exact hz0
  refine xi_tsd (pc' := 133) kc_191_1 rfl (by omega) ?_
  refine xi_iload_n (pc' := 134) (x := a1) kc_191_133 rfl rfl ?_
  refine xi_bipush (pc' := 136) (v := 11) kc_191_134 rfl rfl ?_
  by_cases c11 : a1.toInt < 11
  · refine xi_cmt (pc' := 157) kc_191_136 rfl (xc_lt_t (X := a1.toInt) (Y := 11) rfl (by decide) (by omega)) ?_
    refine xi_bipush (pc' := 159) (v := (-9)) kc_191_157 rfl rfl ?_
    refine xi_ireturn kc_191_159 mr_191 rfl ?_
    show xw J ov 100 196 (1513, [(4, .int 0), (3, .ref 167), (2, .ref 115), (1, .ref 0), (0, .ref 1000000)], [.int (-9)], h0) _
    refine xi_aload_n (pc' := 1514) (x := 115) kc_196_1513 rfl rfl ?_
    refine xi_aload_n (pc' := 1515) (x := 1000000) kc_196_1514 rfl rfl ?_
    refine xi_iload (pc' := 1517) (x := 0) kc_196_1515 rfl rfl ?_
    refine xi_iconst (pc' := 1518) (v := 1) kc_196_1517 rfl rfl ?_
    refine xi_iadd (pc' := 1519) (v := 1) kc_196_1518 rfl rfl ?_
    refine xi_ialoadO (pc' := 1520) (v := a1) kc_196_1519 rfl (by decide) hov0 (xi_in (n := 6) (by decide) (by decide)) rfl ?_
    refine xi_virtual (mj := 76) (as := [.int a1]) (st1 := [.int (-9)]) (lv0 := [(0, .ref 115), (1, .int a1)]) kc_196_1520 rfl rfl rfl rfl rfl (F 115 _ hl_115) (Nat.le_of_ble_eq_true rfl) (hJ _ _ _ _ (by decide)) (xm_le ml_76 rfl) rfl ?_
    refine xi_aload_n (pc' := 1) (x := 115) kc_76_0 rfl rfl ?_
    refine xi_iconst (pc' := 2) (v := 0) kc_76_1 rfl rfl ?_
    refine xi_putfield (pc' := 5) (fs' := [.int 0, .int 0, .ref 116, .ref 117, .ref 118, .ref 119, .ref 120, .ref 121, .ref 122, .ref 123, .ref 124, .ref 125, .ref 126, .ref 127, .ref 128, .ref 129, .int 4, .ref 130, .int 0, .ref 131, .ref 132, .ref 133, .ref 134, .int 0, .ref 135, .ref 136, .ref 137, .ref 138, .ref 139, .ref 140, .ref 141, .ref 142, .int 0, .int 0, .int 0, .ref 143, .ref 144, .ref 145, .ref 146, .ref 147, .ref 148, .int 0, .ref 149, .ref 150, .ref 151, .int 0, .ref 152, .ref 153, .ref 154, .ref 155, .ref 156, .ref 157, .ref 158, .ref 159, .int 0, .ref 160, .int 0, .ref 161, .ref 162, .ref 163, .ref 164, .int 0, .ref 165, .ref 166]) kc_76_2 rfl rfl rfl (F 115 _ hl_115) rfl rfl rfl (Nat.le_of_ble_eq_true rfl) rfl (fun hh1 eh1 => ?_)
    refine xi_iconst (pc' := 6) (v := 0) kc_76_5 rfl rfl ?_
    refine xi_istore_n (pc' := 7) (lv' := [(2, .int 0), (0, .ref 115), (1, .int a1)]) kc_76_6 rfl rfl (xm_lt ml_76 rfl) ?_
    refine xi_iload_n (pc' := 8) (x := a1) kc_76_7 rfl rfl ?_
    refine xi_tsd (pc' := 206) kc_76_8 rfl (by omega) ?_
    refine xi_iload_n (pc' := 207) (x := a1) kc_76_206 rfl rfl ?_
    refine xi_bipush (pc' := 209) (v := 11) kc_76_207 rfl rfl ?_
    refine xi_bipush (pc' := 211) (v := 16) kc_76_209 rfl rfl ?_
    refine xi_static (mj := 12) (as := [.int a1, .int 11, .int 16]) (st1 := []) (lv0 := [(0, .int a1), (1, .int 11), (2, .int 16)]) kc_76_211 rfl rfl (Nat.le_of_ble_eq_true rfl) rfl rfl (Nat.le_of_ble_eq_true rfl) (hJ _ _ _ _ (by decide)) (xm_le ml_12 rfl) rfl ?_
    refine xi_iload_n (pc' := 1) (x := a1) kc_12_0 rfl rfl ?_
    refine xi_iload_n (pc' := 2) (x := 11) kc_12_1 rfl rfl ?_
    refine xi_cmt (pc' := 14) kc_12_2 rfl (xc_lt_t (X := a1.toInt) (Y := 11) rfl (by decide) (by omega)) ?_
    refine xi_iconst (pc' := 15) (v := 0) kc_12_14 rfl rfl ?_
    refine xi_ireturn kc_12_15 mr_12 rfl ?_
    show xw J ov 99 76 (214, [(2, .int 0), (0, .ref 115), (1, .int a1)], [.int 0], hh1) _
    refine xi_ift (pc' := 229) kc_76_214 rfl rfl ?_
    refine xi_bipush (pc' := 231) (v := (-9)) kc_76_229 rfl rfl ?_
    refine xi_ireturn kc_76_231 mr_76 rfl ?_
    show xw J ov 100 196 (1523, [(4, .int 0), (3, .ref 167), (2, .ref 115), (1, .ref 0), (0, .ref 1000000)], [.int (-9), .int (-9)], hh1) _
    refine xi_cmt (pc' := 1528) kc_196_1523 rfl rfl ?_
    refine xi_iinc (pc' := 1531) (x := 0) (v := 6) (lv' := [(4, .int 6), (3, .ref 167), (2, .ref 115), (1, .ref 0), (0, .ref 1000000)]) kc_196_1528 rfl rfl rfl rfl (xm_lt ml_196 rfl) ?_
    refine xi_goto (pc' := 23) kc_196_1531 rfl ?_
    refine xi_iload (pc' := 25) (x := 6) kc_196_23 rfl rfl ?_
    refine xi_aload_n (pc' := 26) (x := 1000000) kc_196_25 rfl rfl ?_
    refine xi_arraylength (pc' := 27) (n := 6) (v := 6) kc_196_26 rfl (xl_lenO (by decide) hov0 rfl) rfl ?_
    refine xi_bipush (pc' := 29) (v := 6) kc_196_27 rfl rfl ?_
    refine xi_isub (pc' := 30) (v := 0) kc_196_29 rfl rfl ?_
    refine xi_cmt (pc' := 1534) kc_196_30 rfl rfl ?_
    refine xi_iconst (pc' := 1535) (v := 1) kc_196_1534 rfl rfl ?_
    refine xi_ireturn kc_196_1535 mr_196 rfl ?_
    refine ⟨rfl, ?_, ?_⟩
    · rw [eh1.2.2.1]; exact hn0
    · rw [eh1.2.2.2]; exact hz0
  · refine xi_cmf (pc' := 139) kc_191_136 rfl (xc_lt_f (X := a1.toInt) (Y := 11) rfl (by decide) (by omega)) ?_
    refine xi_iload_n (pc' := 140) (x := a1) kc_191_139 rfl rfl ?_
    refine xi_bipush (pc' := 142) (v := 16) kc_191_140 rfl rfl ?_
    by_cases c12 : 16 < a1.toInt
    · refine xi_cmt (pc' := 157) kc_191_142 rfl (xc_gt_t (X := a1.toInt) (Y := 16) rfl (by decide) (by omega)) ?_
      refine xi_bipush (pc' := 159) (v := (-9)) kc_191_157 rfl rfl ?_
      refine xi_ireturn kc_191_159 mr_191 rfl ?_
      show xw J ov 100 196 (1513, [(4, .int 0), (3, .ref 167), (2, .ref 115), (1, .ref 0), (0, .ref 1000000)], [.int (-9)], h0) _
      refine xi_aload_n (pc' := 1514) (x := 115) kc_196_1513 rfl rfl ?_
      refine xi_aload_n (pc' := 1515) (x := 1000000) kc_196_1514 rfl rfl ?_
      refine xi_iload (pc' := 1517) (x := 0) kc_196_1515 rfl rfl ?_
      refine xi_iconst (pc' := 1518) (v := 1) kc_196_1517 rfl rfl ?_
      refine xi_iadd (pc' := 1519) (v := 1) kc_196_1518 rfl rfl ?_
      refine xi_ialoadO (pc' := 1520) (v := a1) kc_196_1519 rfl (by decide) hov0 (xi_in (n := 6) (by decide) (by decide)) rfl ?_
      refine xi_virtual (mj := 76) (as := [.int a1]) (st1 := [.int (-9)]) (lv0 := [(0, .ref 115), (1, .int a1)]) kc_196_1520 rfl rfl rfl rfl rfl (F 115 _ hl_115) (Nat.le_of_ble_eq_true rfl) (hJ _ _ _ _ (by decide)) (xm_le ml_76 rfl) rfl ?_
      refine xi_aload_n (pc' := 1) (x := 115) kc_76_0 rfl rfl ?_
      refine xi_iconst (pc' := 2) (v := 0) kc_76_1 rfl rfl ?_
      refine xi_putfield (pc' := 5) (fs' := [.int 0, .int 0, .ref 116, .ref 117, .ref 118, .ref 119, .ref 120, .ref 121, .ref 122, .ref 123, .ref 124, .ref 125, .ref 126, .ref 127, .ref 128, .ref 129, .int 4, .ref 130, .int 0, .ref 131, .ref 132, .ref 133, .ref 134, .int 0, .ref 135, .ref 136, .ref 137, .ref 138, .ref 139, .ref 140, .ref 141, .ref 142, .int 0, .int 0, .int 0, .ref 143, .ref 144, .ref 145, .ref 146, .ref 147, .ref 148, .int 0, .ref 149, .ref 150, .ref 151, .int 0, .ref 152, .ref 153, .ref 154, .ref 155, .ref 156, .ref 157, .ref 158, .ref 159, .int 0, .ref 160, .int 0, .ref 161, .ref 162, .ref 163, .ref 164, .int 0, .ref 165, .ref 166]) kc_76_2 rfl rfl rfl (F 115 _ hl_115) rfl rfl rfl (Nat.le_of_ble_eq_true rfl) rfl (fun hh1 eh1 => ?_)
      refine xi_iconst (pc' := 6) (v := 0) kc_76_5 rfl rfl ?_
      refine xi_istore_n (pc' := 7) (lv' := [(2, .int 0), (0, .ref 115), (1, .int a1)]) kc_76_6 rfl rfl (xm_lt ml_76 rfl) ?_
      refine xi_iload_n (pc' := 8) (x := a1) kc_76_7 rfl rfl ?_
      refine xi_tsd (pc' := 206) kc_76_8 rfl (by omega) ?_
      refine xi_iload_n (pc' := 207) (x := a1) kc_76_206 rfl rfl ?_
      refine xi_bipush (pc' := 209) (v := 11) kc_76_207 rfl rfl ?_
      refine xi_bipush (pc' := 211) (v := 16) kc_76_209 rfl rfl ?_
      refine xi_static (mj := 12) (as := [.int a1, .int 11, .int 16]) (st1 := []) (lv0 := [(0, .int a1), (1, .int 11), (2, .int 16)]) kc_76_211 rfl rfl (Nat.le_of_ble_eq_true rfl) rfl rfl (Nat.le_of_ble_eq_true rfl) (hJ _ _ _ _ (by decide)) (xm_le ml_12 rfl) rfl ?_
      refine xi_iload_n (pc' := 1) (x := a1) kc_12_0 rfl rfl ?_
      refine xi_iload_n (pc' := 2) (x := 11) kc_12_1 rfl rfl ?_
      refine xi_cmf (pc' := 5) kc_12_2 rfl (xc_lt_f (X := a1.toInt) (Y := 11) rfl (by decide) (by omega)) ?_
      refine xi_iload_n (pc' := 6) (x := a1) kc_12_5 rfl rfl ?_
      refine xi_iload_n (pc' := 7) (x := 16) kc_12_6 rfl rfl ?_
      refine xi_cmt (pc' := 14) kc_12_7 rfl (xc_gt_t (X := a1.toInt) (Y := 16) rfl (by decide) (by omega)) ?_
      refine xi_iconst (pc' := 15) (v := 0) kc_12_14 rfl rfl ?_
      refine xi_ireturn kc_12_15 mr_12 rfl ?_
      show xw J ov 99 76 (214, [(2, .int 0), (0, .ref 115), (1, .int a1)], [.int 0], hh1) _
      refine xi_ift (pc' := 229) kc_76_214 rfl rfl ?_
      refine xi_bipush (pc' := 231) (v := (-9)) kc_76_229 rfl rfl ?_
      refine xi_ireturn kc_76_231 mr_76 rfl ?_
      show xw J ov 100 196 (1523, [(4, .int 0), (3, .ref 167), (2, .ref 115), (1, .ref 0), (0, .ref 1000000)], [.int (-9), .int (-9)], hh1) _
      refine xi_cmt (pc' := 1528) kc_196_1523 rfl rfl ?_
      refine xi_iinc (pc' := 1531) (x := 0) (v := 6) (lv' := [(4, .int 6), (3, .ref 167), (2, .ref 115), (1, .ref 0), (0, .ref 1000000)]) kc_196_1528 rfl rfl rfl rfl (xm_lt ml_196 rfl) ?_
      refine xi_goto (pc' := 23) kc_196_1531 rfl ?_
      refine xi_iload (pc' := 25) (x := 6) kc_196_23 rfl rfl ?_
      refine xi_aload_n (pc' := 26) (x := 1000000) kc_196_25 rfl rfl ?_
      refine xi_arraylength (pc' := 27) (n := 6) (v := 6) kc_196_26 rfl (xl_lenO (by decide) hov0 rfl) rfl ?_
      refine xi_bipush (pc' := 29) (v := 6) kc_196_27 rfl rfl ?_
      refine xi_isub (pc' := 30) (v := 0) kc_196_29 rfl rfl ?_
      refine xi_cmt (pc' := 1534) kc_196_30 rfl rfl ?_
      refine xi_iconst (pc' := 1535) (v := 1) kc_196_1534 rfl rfl ?_
      refine xi_ireturn kc_196_1535 mr_196 rfl ?_
      refine ⟨rfl, ?_, ?_⟩
      · rw [eh1.2.2.1]; exact hn0
      · rw [eh1.2.2.2]; exact hz0
    · refine xi_cmf (pc' := 145) kc_191_142 rfl (xc_gt_f (X := a1.toInt) (Y := 16) rfl (by decide) (by omega)) ?_
      refine xi_aload_n (pc' := 146) (x := 0) kc_191_145 rfl rfl ?_
      refine xi_getfield (pc' := 149) (v := .ref 94) kc_191_146 rfl rfl rfl (F 0 _ hl_0) rfl ?_
      refine xi_iload_n (pc' := 150) (x := a1) kc_191_149 rfl rfl ?_
      refine xi_bipush (pc' := 152) (v := 10) kc_191_150 rfl rfl ?_
      obtain ⟨v13, ev13⟩ : ∃ q : Int32, a1 - 10 = q := ⟨_, rfl⟩
      have zv13 : v13.toInt = (a1.toInt + (-10)) := by rw [← ev13]; exact (xz_sub (X := a1.toInt) (Y := 10) rfl (by decide) (by omega) (by omega)).trans (by omega)
      refine xi_isub (pc' := 153) (v := v13) kc_191_152 rfl ev13 ?_
      refine xi_iaload (pc' := 154) (v := 0) kc_191_153 rfl (F 94 _ hl_94) (by decide) rfl (xi_in (by rw [zv13]; omega) (by rw [zv13]; simp only [List.length_replicate]; omega)) (xa_rep (by rw [zv13]; omega) (by rw [zv13]; omega)) ?_
      refine xi_goto (pc' := 159) kc_191_154 rfl ?_
      refine xi_ireturn kc_191_159 mr_191 rfl ?_
      show xw J ov 100 196 (1513, [(4, .int 0), (3, .ref 167), (2, .ref 115), (1, .ref 0), (0, .ref 1000000)], [.int 0], h0) _
      refine xi_aload_n (pc' := 1514) (x := 115) kc_196_1513 rfl rfl ?_
      refine xi_aload_n (pc' := 1515) (x := 1000000) kc_196_1514 rfl rfl ?_
      refine xi_iload (pc' := 1517) (x := 0) kc_196_1515 rfl rfl ?_
      refine xi_iconst (pc' := 1518) (v := 1) kc_196_1517 rfl rfl ?_
      refine xi_iadd (pc' := 1519) (v := 1) kc_196_1518 rfl rfl ?_
      refine xi_ialoadO (pc' := 1520) (v := a1) kc_196_1519 rfl (by decide) hov0 (xi_in (n := 6) (by decide) (by decide)) rfl ?_
      refine xi_virtual (mj := 76) (as := [.int a1]) (st1 := [.int 0]) (lv0 := [(0, .ref 115), (1, .int a1)]) kc_196_1520 rfl rfl rfl rfl rfl (F 115 _ hl_115) (Nat.le_of_ble_eq_true rfl) (hJ _ _ _ _ (by decide)) (xm_le ml_76 rfl) rfl ?_
      refine xi_aload_n (pc' := 1) (x := 115) kc_76_0 rfl rfl ?_
      refine xi_iconst (pc' := 2) (v := 0) kc_76_1 rfl rfl ?_
      refine xi_putfield (pc' := 5) (fs' := [.int 0, .int 0, .ref 116, .ref 117, .ref 118, .ref 119, .ref 120, .ref 121, .ref 122, .ref 123, .ref 124, .ref 125, .ref 126, .ref 127, .ref 128, .ref 129, .int 4, .ref 130, .int 0, .ref 131, .ref 132, .ref 133, .ref 134, .int 0, .ref 135, .ref 136, .ref 137, .ref 138, .ref 139, .ref 140, .ref 141, .ref 142, .int 0, .int 0, .int 0, .ref 143, .ref 144, .ref 145, .ref 146, .ref 147, .ref 148, .int 0, .ref 149, .ref 150, .ref 151, .int 0, .ref 152, .ref 153, .ref 154, .ref 155, .ref 156, .ref 157, .ref 158, .ref 159, .int 0, .ref 160, .int 0, .ref 161, .ref 162, .ref 163, .ref 164, .int 0, .ref 165, .ref 166]) kc_76_2 rfl rfl rfl (F 115 _ hl_115) rfl rfl rfl (Nat.le_of_ble_eq_true rfl) rfl (fun hh1 eh1 => ?_)
      refine xi_iconst (pc' := 6) (v := 0) kc_76_5 rfl rfl ?_
      refine xi_istore_n (pc' := 7) (lv' := [(2, .int 0), (0, .ref 115), (1, .int a1)]) kc_76_6 rfl rfl (xm_lt ml_76 rfl) ?_
      refine xi_iload_n (pc' := 8) (x := a1) kc_76_7 rfl rfl ?_
      refine xi_tsd (pc' := 206) kc_76_8 rfl (by omega) ?_
      refine xi_iload_n (pc' := 207) (x := a1) kc_76_206 rfl rfl ?_
      refine xi_bipush (pc' := 209) (v := 11) kc_76_207 rfl rfl ?_
      refine xi_bipush (pc' := 211) (v := 16) kc_76_209 rfl rfl ?_
      refine xi_static (mj := 12) (as := [.int a1, .int 11, .int 16]) (st1 := []) (lv0 := [(0, .int a1), (1, .int 11), (2, .int 16)]) kc_76_211 rfl rfl (Nat.le_of_ble_eq_true rfl) rfl rfl (Nat.le_of_ble_eq_true rfl) (hJ _ _ _ _ (by decide)) (xm_le ml_12 rfl) rfl ?_
      refine xi_iload_n (pc' := 1) (x := a1) kc_12_0 rfl rfl ?_
      refine xi_iload_n (pc' := 2) (x := 11) kc_12_1 rfl rfl ?_
      refine xi_cmf (pc' := 5) kc_12_2 rfl (xc_lt_f (X := a1.toInt) (Y := 11) rfl (by decide) (by omega)) ?_
      refine xi_iload_n (pc' := 6) (x := a1) kc_12_5 rfl rfl ?_
      refine xi_iload_n (pc' := 7) (x := 16) kc_12_6 rfl rfl ?_
      refine xi_cmf (pc' := 10) kc_12_7 rfl (xc_gt_f (X := a1.toInt) (Y := 16) rfl (by decide) (by omega)) ?_
      refine xi_iconst (pc' := 11) (v := 1) kc_12_10 rfl rfl ?_
      refine xi_goto (pc' := 15) kc_12_11 rfl ?_
      refine xi_ireturn kc_12_15 mr_12 rfl ?_
      show xw J ov 99 76 (214, [(2, .int 0), (0, .ref 115), (1, .int a1)], [.int 1], hh1) _
      refine xi_iff (pc' := 217) kc_76_214 rfl rfl ?_
      refine xi_aload_n (pc' := 218) (x := 115) kc_76_217 rfl rfl ?_
      refine xi_getfield (pc' := 221) (v := .ref 140) kc_76_218 rfl rfl rfl eh1.1 rfl ?_
      refine xi_iload_n (pc' := 222) (x := a1) kc_76_221 rfl rfl ?_
      refine xi_bipush (pc' := 224) (v := 10) kc_76_222 rfl rfl ?_
      obtain ⟨v14, ev14⟩ : ∃ q : Int32, a1 - 10 = q := ⟨_, rfl⟩
      have zv14 : v14.toInt = (a1.toInt + (-10)) := by rw [← ev14]; exact (xz_sub (X := a1.toInt) (Y := 10) rfl (by decide) (by omega) (by omega)).trans (by omega)
      refine xi_isub (pc' := 225) (v := v14) kc_76_224 rfl ev14 ?_
      refine xi_iaload (pc' := 226) (v := 0) kc_76_225 rfl ((eh1.2.1 140 (by decide)).trans (F 140 _ hl_140)) (by decide) rfl (xi_in (by rw [zv14]; omega) (by rw [zv14]; simp only [List.length_replicate]; omega)) (xa_rep (by rw [zv14]; omega) (by rw [zv14]; omega)) ?_
      refine xi_goto (pc' := 231) kc_76_226 rfl ?_
      refine xi_ireturn kc_76_231 mr_76 rfl ?_
      show xw J ov 100 196 (1523, [(4, .int 0), (3, .ref 167), (2, .ref 115), (1, .ref 0), (0, .ref 1000000)], [.int 0, .int 0], hh1) _
      refine xi_cmt (pc' := 1528) kc_196_1523 rfl rfl ?_
      refine xi_iinc (pc' := 1531) (x := 0) (v := 6) (lv' := [(4, .int 6), (3, .ref 167), (2, .ref 115), (1, .ref 0), (0, .ref 1000000)]) kc_196_1528 rfl rfl rfl rfl (xm_lt ml_196 rfl) ?_
      refine xi_goto (pc' := 23) kc_196_1531 rfl ?_
      refine xi_iload (pc' := 25) (x := 6) kc_196_23 rfl rfl ?_
      refine xi_aload_n (pc' := 26) (x := 1000000) kc_196_25 rfl rfl ?_
      refine xi_arraylength (pc' := 27) (n := 6) (v := 6) kc_196_26 rfl (xl_lenO (by decide) hov0 rfl) rfl ?_
      refine xi_bipush (pc' := 29) (v := 6) kc_196_27 rfl rfl ?_
      refine xi_isub (pc' := 30) (v := 0) kc_196_29 rfl rfl ?_
      refine xi_cmt (pc' := 1534) kc_196_30 rfl rfl ?_
      refine xi_iconst (pc' := 1535) (v := 1) kc_196_1534 rfl rfl ?_
      refine xi_ireturn kc_196_1535 mr_196 rfl ?_
      refine ⟨rfl, ?_, ?_⟩
      · rw [eh1.2.2.1]; exact hn0
      · rw [eh1.2.2.2]; exact hz0
