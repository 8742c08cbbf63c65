set_option maxHeartbeats 8000000 in
theorem lc_29 {J : xe_J} {ov : List (List Int32)} (hJ : ∀ d mj as h, mj ≠ xe_loff → J d mj as h = none) {a0 a1 a2 a3 a4 a5 : Int32} (hov0 : ov[0]? = some [a0, a1, a2, a3, a4, a5]) (hov1 : ov[1]? = some [10, 0, 0, 0, 0, 0]) (hov2 : ov[2]? = some [99, 30, 50, 50, 1, 99999]) {h0 : xe_H} (F : xf_fr h0) (hn0 : h0.length ≤ 600002) (hz0 : xe_sz h0 ≤ 7302232) : xw J ov 100 196 (1319, [(4, .int 0), (3, .ref 167), (2, .ref 115), (1, .ref 0), (0, .ref 1000000)], [], h0) xf_Q := by
  have rr1 := xc_rng a1
  have rr2 := xc_rng a2
  have rr3 := xc_rng a3
  have rr4 := xc_rng a4
  have rr5 := xc_rng a5
  refine xi_aload_n (pc' := 1320) (x := 0) kc_196_1319 rfl rfl ?_
  refine xi_aload_n (pc' := 1321) (x := 1000000) kc_196_1320 rfl rfl ?_
  refine xi_iload (pc' := 1323) (x := 0) kc_196_1321 rfl rfl ?_
  refine xi_iconst (pc' := 1324) (v := 1) kc_196_1323 rfl rfl ?_
  refine xi_iadd (pc' := 1325) (v := 1) kc_196_1324 rfl rfl ?_
  refine xi_ialoadO (pc' := 1326) (v := a1) kc_196_1325 rfl (by decide) hov0 (xi_in (n := 6) (by decide) (by decide)) rfl ?_
  by_cases c1 : a1.toInt = 0
  · refine xi_ift (pc' := 1333) kc_196_1326 rfl (xc_eq_t (X := a1.toInt) (Y := 0) rfl (by decide) (by omega)) ?_
    refine xi_iconst (pc' := 1334) (v := 0) kc_196_1333 rfl rfl ?_
    refine xi_virtual (mj := 180) (as := [.int 0]) (st1 := []) (lv0 := [(0, .ref 0), (1, .int 0)]) kc_196_1334 rfl rfl rfl rfl rfl (F 0 _ hl_0) (Nat.le_of_ble_eq_true rfl) (hJ _ _ _ _ (by decide)) (xm_le ml_180 rfl) rfl ?_
    refine xi_aload_n (pc' := 1) (x := 0) kc_180_0 rfl rfl ?_
    refine xi_getfield (pc' := 4) (v := .ref 85) kc_180_1 rfl rfl rfl (F 0 _ hl_0) rfl ?_
    refine xi_getfield (pc' := 7) (v := .int 0) kc_180_4 rfl rfl rfl (F 85 _ hl_85) rfl ?_
    refine xi_iload_n (pc' := 8) (x := 0) kc_180_7 rfl rfl ?_
    refine xi_cmf (pc' := 11) kc_180_8 rfl rfl ?_
    refine xi_iconst (pc' := 12) (v := 0) kc_180_11 rfl rfl ?_
    refine xi_ireturn kc_180_12 mr_180 rfl ?_
    show xw J ov 100 196 (1337, [(4, .int 0), (3, .ref 167), (2, .ref 115), (1, .ref 0), (0, .ref 1000000)], [.int 0], h0) _
    refine xi_aload_n (pc' := 1338) (x := 115) kc_196_1337 rfl rfl ?_
    refine xi_aload_n (pc' := 1339) (x := 1000000) kc_196_1338 rfl rfl ?_
    refine xi_iload (pc' := 1341) (x := 0) kc_196_1339 rfl rfl ?_
    refine xi_iconst (pc' := 1342) (v := 1) kc_196_1341 rfl rfl ?_
    refine xi_iadd (pc' := 1343) (v := 1) kc_196_1342 rfl rfl ?_
    refine xi_ialoadO (pc' := 1344) (v := a1) kc_196_1343 rfl (by decide) hov0 (xi_in (n := 6) (by decide) (by decide)) rfl ?_
    refine xi_ift (pc' := 1351) kc_196_1344 rfl (xc_eq_t (X := a1.toInt) (Y := 0) rfl (by decide) (by omega)) ?_
    refine xi_iconst (pc' := 1352) (v := 0) kc_196_1351 rfl rfl ?_
    refine xi_virtual (mj := 72) (as := [.int 0]) (st1 := [.int 0]) (lv0 := [(0, .ref 115), (1, .int 0)]) kc_196_1352 rfl rfl rfl rfl rfl (F 115 _ hl_115) (Nat.le_of_ble_eq_true rfl) (hJ _ _ _ _ (by decide)) (xm_le ml_72 rfl) rfl ?_
    refine xi_aload_n (pc' := 1) (x := 115) kc_72_0 rfl rfl ?_
    refine xi_iconst (pc' := 2) (v := 0) kc_72_1 rfl rfl ?_
    refine xi_putfield (pc' := 5) (fs' := [.int 0, .int 0, .ref 116, .ref 117, .ref 118, .ref 119, .ref 120, .ref 121, .ref 122, .ref 123, .ref 124, .ref 125, .ref 126, .ref 127, .ref 128, .ref 129, .int 4, .ref 130, .int 0, .ref 131, .ref 132, .ref 133, .ref 134, .int 0, .ref 135, .ref 136, .ref 137, .ref 138, .ref 139, .ref 140, .ref 141, .ref 142, .int 0, .int 0, .int 0, .ref 143, .ref 144, .ref 145, .ref 146, .ref 147, .ref 148, .int 0, .ref 149, .ref 150, .ref 151, .int 0, .ref 152, .ref 153, .ref 154, .ref 155, .ref 156, .ref 157, .ref 158, .ref 159, .int 0, .ref 160, .int 0, .ref 161, .ref 162, .ref 163, .ref 164, .int 0, .ref 165, .ref 166]) kc_72_2 rfl rfl rfl (F 115 _ hl_115) rfl rfl rfl (Nat.le_of_ble_eq_true rfl) rfl (fun hh1 eh1 => ?_)
    refine xi_aload_n (pc' := 6) (x := 115) kc_72_5 rfl rfl ?_
    refine xi_getfield (pc' := 9) (v := .int 0) kc_72_6 rfl rfl rfl eh1.1 rfl ?_
    refine xi_istore_n (pc' := 10) (lv' := [(2, .int 0), (0, .ref 115), (1, .int 0)]) kc_72_9 rfl rfl (xm_lt ml_72 rfl) ?_
    refine xi_aload_n (pc' := 11) (x := 115) kc_72_10 rfl rfl ?_
    refine xi_iload_n (pc' := 12) (x := 0) kc_72_11 rfl rfl ?_
    refine xi_putfield (pc' := 15) (fs' := [.int 0, .int 0, .ref 116, .ref 117, .ref 118, .ref 119, .ref 120, .ref 121, .ref 122, .ref 123, .ref 124, .ref 125, .ref 126, .ref 127, .ref 128, .ref 129, .int 4, .ref 130, .int 0, .ref 131, .ref 132, .ref 133, .ref 134, .int 0, .ref 135, .ref 136, .ref 137, .ref 138, .ref 139, .ref 140, .ref 141, .ref 142, .int 0, .int 0, .int 0, .ref 143, .ref 144, .ref 145, .ref 146, .ref 147, .ref 148, .int 0, .ref 149, .ref 150, .ref 151, .int 0, .ref 152, .ref 153, .ref 154, .ref 155, .ref 156, .ref 157, .ref 158, .ref 159, .int 0, .ref 160, .int 0, .ref 161, .ref 162, .ref 163, .ref 164, .int 0, .ref 165, .ref 166]) kc_72_12 rfl rfl rfl eh1.1 rfl rfl rfl (Nat.le_of_ble_eq_true rfl) rfl (fun hh2 eh2 => ?_)
    refine xi_iload_n (pc' := 16) (x := 0) kc_72_15 rfl rfl ?_
    refine xi_iload_n (pc' := 17) (x := 0) kc_72_16 rfl rfl ?_
    refine xi_cmf (pc' := 20) kc_72_17 rfl rfl ?_
    refine xi_iconst (pc' := 21) (v := 0) kc_72_20 rfl rfl ?_
    refine xi_goto (pc' := 25) kc_72_21 rfl ?_
    refine xi_ireturn kc_72_25 mr_72 rfl ?_
    show xw J ov 100 196 (1355, [(4, .int 0), (3, .ref 167), (2, .ref 115), (1, .ref 0), (0, .ref 1000000)], [.int 0, .int 0], hh2) _
    refine xi_cmt (pc' := 1528) kc_196_1355 rfl rfl ?_
    refine xi_iinc (pc' := 1531) (x := 0) (v := 6) (lv' := [(4, .int 6), (3, .ref 167), (2, .ref 115), (1, .ref 0), (0, .ref 1000000)]) kc_196_1528 rfl rfl rfl rfl (xm_lt ml_196 rfl) ?_
    refine xi_goto (pc' := 23) kc_196_1531 rfl ?_
    refine xi_iload (pc' := 25) (x := 6) kc_196_23 rfl rfl ?_
    refine xi_aload_n (pc' := 26) (x := 1000000) kc_196_25 rfl rfl ?_
    refine xi_arraylength (pc' := 27) (n := 6) (v := 6) kc_196_26 rfl (xl_lenO (by decide) hov0 rfl) rfl ?_
    refine xi_bipush (pc' := 29) (v := 6) kc_196_27 rfl rfl ?_
    refine xi_isub (pc' := 30) (v := 0) kc_196_29 rfl rfl ?_
    refine xi_cmt (pc' := 1534) kc_196_30 rfl rfl ?_
    refine xi_iconst (pc' := 1535) (v := 1) kc_196_1534 rfl rfl ?_
    refine xi_ireturn kc_196_1535 mr_196 rfl ?_
    refine ⟨rfl, ?_, ?_⟩
    · rw [eh2.2.2.1, eh1.2.2.1]; exact hn0
    · rw [eh2.2.2.2, eh1.2.2.2]; exact hz0
  · refine xi_iff (pc' := 1329) kc_196_1326 rfl (xc_eq_f (X := a1.toInt) (Y := 0) rfl (by decide) (by omega)) ?_
    refine xi_iconst (pc' := 1330) (v := 1) kc_196_1329 rfl rfl ?_
    refine xi_goto (pc' := 1334) kc_196_1330 rfl ?_
    refine xi_virtual (mj := 180) (as := [.int 1]) (st1 := []) (lv0 := [(0, .ref 0), (1, .int 1)]) kc_196_1334 rfl rfl rfl rfl rfl (F 0 _ hl_0) (Nat.le_of_ble_eq_true rfl) (hJ _ _ _ _ (by decide)) (xm_le ml_180 rfl) rfl ?_
    refine xi_aload_n (pc' := 1) (x := 0) kc_180_0 rfl rfl ?_
    refine xi_getfield (pc' := 4) (v := .ref 85) kc_180_1 rfl rfl rfl (F 0 _ hl_0) rfl ?_
    refine xi_getfield (pc' := 7) (v := .int 0) kc_180_4 rfl rfl rfl (F 85 _ hl_85) rfl ?_
    refine xi_iload_n (pc' := 8) (x := 1) kc_180_7 rfl rfl ?_
    refine xi_cmt (pc' := 13) kc_180_8 rfl rfl ?_
    refine xi_aload_n (pc' := 14) (x := 0) kc_180_13 rfl rfl ?_
    refine xi_getfield (pc' := 17) (v := .ref 85) kc_180_14 rfl rfl rfl (F 0 _ hl_0) rfl ?_
    refine xi_iload_n (pc' := 18) (x := 1) kc_180_17 rfl rfl ?_
    refine xi_putfield (pc' := 21) (fs' := [.ref 86, .ref 87, .ref 88, .ref 89, .ref 90, .ref 91, .ref 92, .int 1, .int 0]) kc_180_18 rfl rfl rfl (F 85 _ hl_85) rfl rfl rfl (Nat.le_of_ble_eq_true rfl) rfl (fun hh1 eh1 => ?_)
    refine xi_iconst (pc' := 22) (v := 1) kc_180_21 rfl rfl ?_
    refine xi_ireturn kc_180_22 mr_180 rfl ?_
    show xw J ov 100 196 (1337, [(4, .int 0), (3, .ref 167), (2, .ref 115), (1, .ref 0), (0, .ref 1000000)], [.int 1], hh1) _
    refine xi_aload_n (pc' := 1338) (x := 115) kc_196_1337 rfl rfl ?_
    refine xi_aload_n (pc' := 1339) (x := 1000000) kc_196_1338 rfl rfl ?_
    refine xi_iload (pc' := 1341) (x := 0) kc_196_1339 rfl rfl ?_
    refine xi_iconst (pc' := 1342) (v := 1) kc_196_1341 rfl rfl ?_
    refine xi_iadd (pc' := 1343) (v := 1) kc_196_1342 rfl rfl ?_
    refine xi_ialoadO (pc' := 1344) (v := a1) kc_196_1343 rfl (by decide) hov0 (xi_in (n := 6) (by decide) (by decide)) rfl ?_
    refine xi_iff (pc' := 1347) kc_196_1344 rfl (xc_eq_f (X := a1.toInt) (Y := 0) rfl (by decide) (by omega)) ?_
    refine xi_iconst (pc' := 1348) (v := 1) kc_196_1347 rfl rfl ?_
    refine xi_goto (pc' := 1352) kc_196_1348 rfl ?_
    refine xi_virtual (mj := 72) (as := [.int 1]) (st1 := [.int 1]) (lv0 := [(0, .ref 115), (1, .int 1)]) kc_196_1352 rfl rfl rfl rfl rfl ((eh1.2.1 115 (by decide)).trans (F 115 _ hl_115)) (Nat.le_of_ble_eq_true rfl) (hJ _ _ _ _ (by decide)) (xm_le ml_72 rfl) rfl ?_
    refine xi_aload_n (pc' := 1) (x := 115) kc_72_0 rfl rfl ?_
    refine xi_iconst (pc' := 2) (v := 0) kc_72_1 rfl rfl ?_
    refine xi_putfield (pc' := 5) (fs' := [.int 0, .int 0, .ref 116, .ref 117, .ref 118, .ref 119, .ref 120, .ref 121, .ref 122, .ref 123, .ref 124, .ref 125, .ref 126, .ref 127, .ref 128, .ref 129, .int 4, .ref 130, .int 0, .ref 131, .ref 132, .ref 133, .ref 134, .int 0, .ref 135, .ref 136, .ref 137, .ref 138, .ref 139, .ref 140, .ref 141, .ref 142, .int 0, .int 0, .int 0, .ref 143, .ref 144, .ref 145, .ref 146, .ref 147, .ref 148, .int 0, .ref 149, .ref 150, .ref 151, .int 0, .ref 152, .ref 153, .ref 154, .ref 155, .ref 156, .ref 157, .ref 158, .ref 159, .int 0, .ref 160, .int 0, .ref 161, .ref 162, .ref 163, .ref 164, .int 0, .ref 165, .ref 166]) kc_72_2 rfl rfl rfl ((eh1.2.1 115 (by decide)).trans (F 115 _ hl_115)) rfl rfl rfl (Nat.le_of_ble_eq_true rfl) rfl (fun hh2 eh2 => ?_)
    refine xi_aload_n (pc' := 6) (x := 115) kc_72_5 rfl rfl ?_
    refine xi_getfield (pc' := 9) (v := .int 0) kc_72_6 rfl rfl rfl eh2.1 rfl ?_
    refine xi_istore_n (pc' := 10) (lv' := [(2, .int 0), (0, .ref 115), (1, .int 1)]) kc_72_9 rfl rfl (xm_lt ml_72 rfl) ?_
    refine xi_aload_n (pc' := 11) (x := 115) kc_72_10 rfl rfl ?_
    refine xi_iload_n (pc' := 12) (x := 1) kc_72_11 rfl rfl ?_
    refine xi_putfield (pc' := 15) (fs' := [.int 0, .int 0, .ref 116, .ref 117, .ref 118, .ref 119, .ref 120, .ref 121, .ref 122, .ref 123, .ref 124, .ref 125, .ref 126, .ref 127, .ref 128, .ref 129, .int 4, .ref 130, .int 0, .ref 131, .ref 132, .ref 133, .ref 134, .int 0, .ref 135, .ref 136, .ref 137, .ref 138, .ref 139, .ref 140, .ref 141, .ref 142, .int 0, .int 0, .int 0, .ref 143, .ref 144, .ref 145, .ref 146, .ref 147, .ref 148, .int 0, .ref 149, .ref 150, .ref 151, .int 0, .ref 152, .ref 153, .ref 154, .ref 155, .ref 156, .ref 157, .ref 158, .ref 159, .int 0, .ref 160, .int 0, .ref 161, .ref 162, .ref 163, .ref 164, .int 1, .ref 165, .ref 166]) kc_72_12 rfl rfl rfl eh2.1 rfl rfl rfl (Nat.le_of_ble_eq_true rfl) rfl (fun hh3 eh3 => ?_)
    refine xi_iload_n (pc' := 16) (x := 0) kc_72_15 rfl rfl ?_
    refine xi_iload_n (pc' := 17) (x := 1) kc_72_16 rfl rfl ?_
    refine xi_cmt (pc' := 24) kc_72_17 rfl rfl ?_
    refine xi_iconst (pc' := 25) (v := 1) kc_72_24 rfl rfl ?_
    refine xi_ireturn kc_72_25 mr_72 rfl ?_
    show xw J ov 100 196 (1355, [(4, .int 0), (3, .ref 167), (2, .ref 115), (1, .ref 0), (0, .ref 1000000)], [.int 1, .int 1], hh3) _
    refine xi_cmt (pc' := 1528) kc_196_1355 rfl rfl ?_
    refine xi_iinc (pc' := 1531) (x := 0) (v := 6) (lv' := [(4, .int 6), (3, .ref 167), (2, .ref 115), (1, .ref 0), (0, .ref 1000000)]) kc_196_1528 rfl rfl rfl rfl (xm_lt ml_196 rfl) ?_
    refine xi_goto (pc' := 23) kc_196_1531 rfl ?_
    refine xi_iload (pc' := 25) (x := 6) kc_196_23 rfl rfl ?_
    refine xi_aload_n (pc' := 26) (x := 1000000) kc_196_25 rfl rfl ?_
    refine xi_arraylength (pc' := 27) (n := 6) (v := 6) kc_196_26 rfl (xl_lenO (by decide) hov0 rfl) rfl ?_
    refine xi_bipush (pc' := 29) (v := 6) kc_196_27 rfl rfl ?_
    refine xi_isub (pc' := 30) (v := 0) kc_196_29 rfl rfl ?_
    refine xi_cmt (pc' := 1534) kc_196_30 rfl rfl ?_
    refine xi_iconst (pc' := 1535) (v := 1) kc_196_1534 rfl rfl ?_
    refine xi_ireturn kc_196_1535 mr_196 rfl ?_
    refine ⟨rfl, ?_, ?_⟩
    · rw [eh3.2.2.1, eh2.2.2.1, eh1.2.2.1]; exact hn0
    · rw [eh3.2.2.2, eh2.2.2.2, eh1.2.2.2]; exact hz0
