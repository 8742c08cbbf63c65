set_option maxHeartbeats 8000000 in
theorem lc_3 {J : xe_J} {ov : List (List Int32)} (hJ : ∀ d mj as h, mj ≠ xe_loff → J d mj as h = none) {a0 a1 a2 a3 a4 a5 : Int32} (hov0 : ov[0]? = some [a0, a1, a2, a3, a4, a5]) (hov1 : ov[1]? = some [10, 0, 0, 0, 0, 0]) (hov2 : ov[2]? = some [99, 30, 50, 50, 1, 99999]) {h0 : xe_H} (F : xf_fr h0) (hn0 : h0.length ≤ 600002) (hz0 : xe_sz h0 ≤ 7302232) : xw J ov 100 196 (339, [(4, .int 0), (3, .ref 167), (2, .ref 115), (1, .ref 0), (0, .ref 1000000)], [], h0) xf_Q := by
  have rr1 := xc_rng a1
  have rr2 := xc_rng a2
  have rr3 := xc_rng a3
  have rr4 := xc_rng a4
  have rr5 := xc_rng a5
  refine xi_aload_n (pc' := 340) (x := 0) kc_196_339 rfl rfl ?_
  refine xi_aload_n (pc' := 341) (x := 1000000) kc_196_340 rfl rfl ?_
  refine xi_iload (pc' := 343) (x := 0) kc_196_341 rfl rfl ?_
  refine xi_iconst (pc' := 344) (v := 1) kc_196_343 rfl rfl ?_
  refine xi_iadd (pc' := 345) (v := 1) kc_196_344 rfl rfl ?_
  refine xi_ialoadO (pc' := 346) (v := a1) kc_196_345 rfl (by decide) hov0 (xi_in (n := 6) (by decide) (by decide)) rfl ?_
  refine xi_aload_n (pc' := 347) (x := 1000000) kc_196_346 rfl rfl ?_
  refine xi_iload (pc' := 349) (x := 0) kc_196_347 rfl rfl ?_
  refine xi_iconst (pc' := 350) (v := 2) kc_196_349 rfl rfl ?_
  refine xi_iadd (pc' := 351) (v := 2) kc_196_350 rfl rfl ?_
  refine xi_ialoadO (pc' := 352) (v := a2) kc_196_351 rfl (by decide) hov0 (xi_in (n := 6) (by decide) (by decide)) rfl ?_
  refine xi_virtual (mj := 101) (as := [.int a1, .int a2]) (st1 := []) (lv0 := [(0, .ref 0), (1, .int a1), (2, .int a2)]) kc_196_352 rfl rfl rfl rfl rfl (F 0 _ hl_0) (Nat.le_of_ble_eq_true rfl) (hJ _ _ _ _ (by decide)) (xm_le ml_101 rfl) rfl ?_
  refine xi_iload_n (pc' := 1) (x := a2) kc_101_0 rfl rfl ?_
  by_cases c1 : a2.toInt = 0
  · refine xi_ift (pc' := 16) kc_101_1 rfl (xc_eq_t (X := a2.toInt) (Y := 0) rfl (by decide) (by omega)) ?_
    refine xi_iload_n (pc' := 17) (x := a1) kc_101_16 rfl rfl ?_
    by_cases c2 : 0 ≤ a1.toInt
    · refine xi_ift (pc' := 27) kc_101_17 rfl (xc_ge_t (X := a1.toInt) (Y := 0) rfl (by decide) (by omega)) ?_
      refine xi_iload_n (pc' := 28) (x := a1) kc_101_27 rfl rfl ?_
      refine xi_sipush (pc' := 31) (v := 600) kc_101_28 rfl rfl ?_
      by_cases c3 : a1.toInt < 600
      · refine xi_cmt (pc' := 41) kc_101_31 rfl (xc_lt_t (X := a1.toInt) (Y := 600) rfl (by decide) (by omega)) ?_
        refine xi_aload_n (pc' := 42) (x := 0) kc_101_41 rfl rfl ?_
        refine xi_getfield (pc' := 45) (v := .ref 1) kc_101_42 rfl rfl rfl (F 0 _ hl_0) rfl ?_
        refine xi_iload_n (pc' := 46) (x := a2) kc_101_45 rfl rfl ?_
        refine xi_virtual (mj := 98) (as := [.int a2]) (st1 := []) (lv0 := [(0, .ref 1), (1, .int a2)]) kc_101_46 rfl rfl rfl rfl rfl (F 1 _ hl_1) (Nat.le_of_ble_eq_true rfl) (hJ _ _ _ _ (by decide)) (xm_le ml_98 rfl) rfl ?_
        refine xi_iload_n (pc' := 1) (x := a2) kc_98_0 rfl rfl ?_
        refine xi_iff (pc' := 4) kc_98_1 rfl (xc_ne_f (X := a2.toInt) (Y := 0) rfl (by decide) (by omega)) ?_
        refine xi_aload_n (pc' := 5) (x := 1) kc_98_4 rfl rfl ?_
        refine xi_getfield (pc' := 8) (v := .ref 5) kc_98_5 rfl rfl rfl (F 1 _ hl_1) rfl ?_
        refine xi_goto (pc' := 15) kc_98_8 rfl ?_
        refine xi_areturn kc_98_15 (by rw [mr_98]; rfl) ?_
        show xw J ov 99 101 (49, [(0, .ref 0), (1, .int a1), (2, .int a2)], [.ref 5], h0) _
        refine xi_iload_n (pc' := 50) (x := a1) kc_101_49 rfl rfl ?_
        refine xi_virtual (mj := 100) (as := [.int a1]) (st1 := []) (lv0 := [(0, .ref 5), (1, .int a1)]) kc_101_50 rfl rfl rfl rfl rfl (F 5 _ hl_5) (Nat.le_of_ble_eq_true rfl) (hJ _ _ _ _ (by decide)) (xm_le ml_100 rfl) rfl ?_
        refine xi_iload_n (pc' := 1) (x := a1) kc_100_0 rfl rfl ?_
        refine xi_iff (pc' := 4) kc_100_1 rfl (xc_lt_f (X := a1.toInt) (Y := 0) rfl (by decide) (by omega)) ?_
        refine xi_iload_n (pc' := 5) (x := a1) kc_100_4 rfl rfl ?_
        refine xi_aload_n (pc' := 6) (x := 5) kc_100_5 rfl rfl ?_
        refine xi_getfield (pc' := 9) (v := .ref 7) kc_100_6 rfl rfl rfl (F 5 _ hl_5) rfl ?_
        refine xi_arraylength (pc' := 10) (n := 601) (v := 601) kc_100_9 rfl (xl_lenI (by decide) (by decide) (F 7 _ hl_7) (by simp only [List.length_replicate, List.length_cons, List.length_nil])) rfl ?_
        refine xi_cmt (pc' := 20) kc_100_10 rfl (xc_lt_t (X := a1.toInt) (Y := 601) rfl (by decide) (by omega)) ?_
        refine xi_aload_n (pc' := 21) (x := 5) kc_100_20 rfl rfl ?_
        refine xi_getfield (pc' := 24) (v := .ref 7) kc_100_21 rfl rfl rfl (F 5 _ hl_5) rfl ?_
        refine xi_iload_n (pc' := 25) (x := a1) kc_100_24 rfl rfl ?_
        refine xi_iaload (pc' := 26) (v := 5) kc_100_25 rfl (F 7 _ hl_7) (by decide) rfl (xi_in (by omega) (by simp only [List.length_replicate]; omega)) (xa_rep (by omega) (by omega)) ?_
        refine xi_ireturn kc_100_26 mr_100 rfl ?_
        show xw J ov 99 101 (53, [(0, .ref 0), (1, .int a1), (2, .int a2)], [.int 5], h0) _
        refine xi_ireturn kc_101_53 mr_101 rfl ?_
        show xw J ov 100 196 (355, [(4, .int 0), (3, .ref 167), (2, .ref 115), (1, .ref 0), (0, .ref 1000000)], [.int 5], h0) _
        refine xi_aload_n (pc' := 356) (x := 115) kc_196_355 rfl rfl ?_
        refine xi_aload_n (pc' := 357) (x := 1000000) kc_196_356 rfl rfl ?_
        refine xi_iload (pc' := 359) (x := 0) kc_196_357 rfl rfl ?_
        refine xi_iconst (pc' := 360) (v := 1) kc_196_359 rfl rfl ?_
        refine xi_iadd (pc' := 361) (v := 1) kc_196_360 rfl rfl ?_
        refine xi_ialoadO (pc' := 362) (v := a1) kc_196_361 rfl (by decide) hov0 (xi_in (n := 6) (by decide) (by decide)) rfl ?_
        refine xi_aload_n (pc' := 363) (x := 1000000) kc_196_362 rfl rfl ?_
        refine xi_iload (pc' := 365) (x := 0) kc_196_363 rfl rfl ?_
        refine xi_iconst (pc' := 366) (v := 2) kc_196_365 rfl rfl ?_
        refine xi_iadd (pc' := 367) (v := 2) kc_196_366 rfl rfl ?_
        refine xi_ialoadO (pc' := 368) (v := a2) kc_196_367 rfl (by decide) hov0 (xi_in (n := 6) (by decide) (by decide)) rfl ?_
        refine xi_virtual (mj := 19) (as := [.int a1, .int a2]) (st1 := [.int 5]) (lv0 := [(0, .ref 115), (1, .int a1), (2, .int a2)]) kc_196_368 rfl rfl rfl rfl rfl (F 115 _ hl_115) (Nat.le_of_ble_eq_true rfl) (hJ _ _ _ _ (by decide)) (xm_le ml_19 rfl) rfl ?_
        refine xi_aload_n (pc' := 1) (x := 115) kc_19_0 rfl rfl ?_
        refine xi_iconst (pc' := 2) (v := 0) kc_19_1 rfl rfl ?_
        refine xi_putfield (pc' := 5) (fs' := [.int 0, .int 0, .ref 116, .ref 117, .ref 118, .ref 119, .ref 120, .ref 121, .ref 122, .ref 123, .ref 124, .ref 125, .ref 126, .ref 127, .ref 128, .ref 129, .int 4, .ref 130, .int 0, .ref 131, .ref 132, .ref 133, .ref 134, .int 0, .ref 135, .ref 136, .ref 137, .ref 138, .ref 139, .ref 140, .ref 141, .ref 142, .int 0, .int 0, .int 0, .ref 143, .ref 144, .ref 145, .ref 146, .ref 147, .ref 148, .int 0, .ref 149, .ref 150, .ref 151, .int 0, .ref 152, .ref 153, .ref 154, .ref 155, .ref 156, .ref 157, .ref 158, .ref 159, .int 0, .ref 160, .int 0, .ref 161, .ref 162, .ref 163, .ref 164, .int 0, .ref 165, .ref 166]) kc_19_2 rfl rfl rfl (F 115 _ hl_115) rfl rfl rfl (Nat.le_of_ble_eq_true rfl) rfl (fun hh1 eh1 => ?_)
        refine xi_iload_n (pc' := 6) (x := a2) kc_19_5 rfl rfl ?_
        refine xi_iconst (pc' := 7) (v := 0) kc_19_6 rfl rfl ?_
        refine xi_iconst (pc' := 8) (v := 1) kc_19_7 rfl rfl ?_
        refine xi_static (mj := 12) (as := [.int a2, .int 0, .int 1]) (st1 := []) (lv0 := [(0, .int a2), (1, .int 0), (2, .int 1)]) kc_19_8 rfl rfl (Nat.le_of_ble_eq_true rfl) rfl rfl (Nat.le_of_ble_eq_true rfl) (hJ _ _ _ _ (by decide)) (xm_le ml_12 rfl) rfl ?_
        refine xi_iload_n (pc' := 1) (x := a2) kc_12_0 rfl rfl ?_
        refine xi_iload_n (pc' := 2) (x := 0) kc_12_1 rfl rfl ?_
        refine xi_cmf (pc' := 5) kc_12_2 rfl (xc_lt_f (X := a2.toInt) (Y := 0) rfl (by decide) (by omega)) ?_
        refine xi_iload_n (pc' := 6) (x := a2) kc_12_5 rfl rfl ?_
        refine xi_iload_n (pc' := 7) (x := 1) kc_12_6 rfl rfl ?_
        refine xi_cmf (pc' := 10) kc_12_7 rfl (xc_gt_f (X := a2.toInt) (Y := 1) rfl (by decide) (by omega)) ?_
        refine xi_iconst (pc' := 11) (v := 1) kc_12_10 rfl rfl ?_
        refine xi_goto (pc' := 15) kc_12_11 rfl ?_
        refine xi_ireturn kc_12_15 mr_12 rfl ?_
        show xw J ov 99 19 (11, [(0, .ref 115), (1, .int a1), (2, .int a2)], [.int 1], hh1) _
        refine xi_ift (pc' := 21) kc_19_11 rfl rfl ?_
        refine xi_iload_n (pc' := 22) (x := a1) kc_19_21 rfl rfl ?_
        refine xi_ift (pc' := 32) kc_19_22 rfl (xc_ge_t (X := a1.toInt) (Y := 0) rfl (by decide) (by omega)) ?_
        refine xi_iload_n (pc' := 33) (x := a1) kc_19_32 rfl rfl ?_
        refine xi_sipush (pc' := 36) (v := 599) kc_19_33 rfl rfl ?_
        refine xi_cmt (pc' := 46) kc_19_36 rfl (xc_le_t (X := a1.toInt) (Y := 599) rfl (by decide) (by omega)) ?_
        refine xi_iload_n (pc' := 47) (x := a2) kc_19_46 rfl rfl ?_
        refine xi_iff (pc' := 50) kc_19_47 rfl (xc_ne_f (X := a2.toInt) (Y := 0) rfl (by decide) (by omega)) ?_
        refine xi_aload_n (pc' := 51) (x := 115) kc_19_50 rfl rfl ?_
        refine xi_iload_n (pc' := 52) (x := a1) kc_19_51 rfl rfl ?_
        refine xi_virtual (mj := 20) (as := [.int a1]) (st1 := []) (lv0 := [(0, .ref 115), (1, .int a1)]) kc_19_52 rfl rfl rfl rfl rfl eh1.1 (Nat.le_of_ble_eq_true rfl) (hJ _ _ _ _ (by decide)) (xm_le ml_20 rfl) rfl ?_
        refine lw_cold (o := 115) (c := 123) eh1.1 rfl (by decide) ((eh1.2.1 123 (by decide)).trans (F 123 _ hl_123)) ?_
        show xw J ov 99 19 (55, [(0, .ref 115), (1, .int a1), (2, .int a2)], [.int 5], hh1) _
        refine xi_goto (pc' := 63) kc_19_55 rfl ?_
        refine xi_ireturn kc_19_63 mr_19 rfl ?_
        show xw J ov 100 196 (371, [(4, .int 0), (3, .ref 167), (2, .ref 115), (1, .ref 0), (0, .ref 1000000)], [.int 5, .int 5], hh1) _
        refine xi_cmt (pc' := 1528) kc_196_371 rfl rfl ?_
        refine xi_iinc (pc' := 1531) (x := 0) (v := 6) (lv' := [(4, .int 6), (3, .ref 167), (2, .ref 115), (1, .ref 0), (0, .ref 1000000)]) kc_196_1528 rfl rfl rfl rfl (xm_lt ml_196 rfl) ?_
        refine xi_goto (pc' := 23) kc_196_1531 rfl ?_
        refine xi_iload (pc' := 25) (x := 6) kc_196_23 rfl rfl ?_
        refine xi_aload_n (pc' := 26) (x := 1000000) kc_196_25 rfl rfl ?_
        refine xi_arraylength (pc' := 27) (n := 6) (v := 6) kc_196_26 rfl (xl_lenO (by decide) hov0 rfl) rfl ?_
        refine xi_bipush (pc' := 29) (v := 6) kc_196_27 rfl rfl ?_
        refine xi_isub (pc' := 30) (v := 0) kc_196_29 rfl rfl ?_
        refine xi_cmt (pc' := 1534) kc_196_30 rfl rfl ?_
        refine xi_iconst (pc' := 1535) (v := 1) kc_196_1534 rfl rfl ?_
        refine xi_ireturn kc_196_1535 mr_196 rfl ?_
        refine ⟨rfl, ?_, ?_⟩
        · rw [eh1.2.2.1]; exact hn0
        · rw [eh1.2.2.2]; exact hz0
      · refine xi_cmf (pc' := 34) kc_101_31 rfl (xc_lt_f (X := a1.toInt) (Y := 600) rfl (by decide) (by omega)) ?_
        refine xi_aload_n (pc' := 35) (x := 0) kc_101_34 rfl rfl ?_
        refine xi_bipush (pc' := 37) (v := (-6)) kc_101_35 rfl rfl ?_
        refine xi_virtual (mj := 97) (as := [.int (-6)]) (st1 := []) (lv0 := [(0, .ref 0), (1, .int (-6))]) kc_101_37 rfl rfl rfl rfl rfl (F 0 _ hl_0) (Nat.le_of_ble_eq_true rfl) (hJ _ _ _ _ (by decide)) (xm_le ml_97 rfl) rfl ?_
        refine xi_ldc_w (pc' := 3) (v := 1000000000) kc_97_0 rfl rfl ?_
        refine xi_aload_n (pc' := 4) (x := 0) kc_97_3 rfl rfl ?_
        refine xi_iload_n (pc' := 5) (x := (-6)) kc_97_4 rfl rfl ?_
        refine xi_virtual (mj := 91) (as := [.int (-6)]) (st1 := [.int 1000000000]) (lv0 := [(0, .ref 0), (1, .int (-6))]) kc_97_5 rfl rfl rfl rfl rfl (F 0 _ hl_0) (Nat.le_of_ble_eq_true rfl) (hJ _ _ _ _ (by decide)) (xm_le ml_91 rfl) rfl ?_
        refine xi_iload_n (pc' := 1) (x := (-6)) kc_91_0 rfl rfl ?_
        refine xi_ineg (pc' := 2) (v := 6) kc_91_1 rfl rfl ?_
        refine xi_istore_n (pc' := 3) (lv' := [(2, .int 6), (0, .ref 0), (1, .int (-6))]) kc_91_2 rfl rfl (xm_lt ml_91 rfl) ?_
        refine xi_iload_n (pc' := 4) (x := 6) kc_91_3 rfl rfl ?_
        refine xi_iff (pc' := 7) kc_91_4 rfl rfl ?_
        refine xi_iload_n (pc' := 8) (x := 6) kc_91_7 rfl rfl ?_
        refine xi_aload_n (pc' := 9) (x := 0) kc_91_8 rfl rfl ?_
        refine xi_getfield (pc' := 12) (v := .ref 94) kc_91_9 rfl rfl rfl (F 0 _ hl_0) rfl ?_
        refine xi_arraylength (pc' := 13) (n := 7) (v := 7) kc_91_12 rfl (xl_lenI (by decide) (by decide) (F 94 _ hl_94) (by simp only [List.length_replicate, List.length_cons, List.length_nil])) rfl ?_
        refine xi_cmf (pc' := 16) kc_91_13 rfl rfl ?_
        refine xi_aload_n (pc' := 17) (x := 0) kc_91_16 rfl rfl ?_
        refine xi_getfield (pc' := 20) (v := .ref 94) kc_91_17 rfl rfl rfl (F 0 _ hl_0) rfl ?_
        refine xi_iload_n (pc' := 21) (x := 6) kc_91_20 rfl rfl ?_
        refine xi_dup2 (pc' := 22) kc_91_21 rfl ⟨rfl, rfl⟩ ?_
        refine xi_iaload (pc' := 23) (v := 0) kc_91_22 rfl (F 94 _ hl_94) (by decide) rfl (xi_in (n := 7) (by decide) (by decide)) rfl ?_
        refine xi_iconst (pc' := 24) (v := 1) kc_91_23 rfl rfl ?_
        refine xi_iadd (pc' := 25) (v := 1) kc_91_24 rfl rfl ?_
        refine xi_iastore (pc' := 26) (x' := [0, 0, 0, 0, 0, 0, 1]) kc_91_25 rfl (F 94 _ hl_94) rfl (xi_in (n := 7) (by decide) (by decide)) rfl (fun hh1 eh1 => ?_)
        refine xi_iload_n (pc' := 27) (x := (-6)) kc_91_26 rfl rfl ?_
        refine xi_ireturn kc_91_27 mr_91 rfl ?_
        show xw J ov 98 97 (8, [(0, .ref 0), (1, .int (-6))], [.int (-6), .int 1000000000], hh1) _
        refine xi_isub (pc' := 9) (v := 1000000006) kc_97_8 rfl rfl ?_
        refine xi_ireturn kc_97_9 mr_97 rfl ?_
        show xw J ov 99 101 (40, [(0, .ref 0), (1, .int a1), (2, .int a2)], [.int 1000000006], hh1) _
        refine xi_ireturn kc_101_40 mr_101 rfl ?_
        show xw J ov 100 196 (355, [(4, .int 0), (3, .ref 167), (2, .ref 115), (1, .ref 0), (0, .ref 1000000)], [.int 1000000006], hh1) _
        refine xi_aload_n (pc' := 356) (x := 115) kc_196_355 rfl rfl ?_
        refine xi_aload_n (pc' := 357) (x := 1000000) kc_196_356 rfl rfl ?_
        refine xi_iload (pc' := 359) (x := 0) kc_196_357 rfl rfl ?_
        refine xi_iconst (pc' := 360) (v := 1) kc_196_359 rfl rfl ?_
        refine xi_iadd (pc' := 361) (v := 1) kc_196_360 rfl rfl ?_
        refine xi_ialoadO (pc' := 362) (v := a1) kc_196_361 rfl (by decide) hov0 (xi_in (n := 6) (by decide) (by decide)) rfl ?_
        refine xi_aload_n (pc' := 363) (x := 1000000) kc_196_362 rfl rfl ?_
        refine xi_iload (pc' := 365) (x := 0) kc_196_363 rfl rfl ?_
        refine xi_iconst (pc' := 366) (v := 2) kc_196_365 rfl rfl ?_
        refine xi_iadd (pc' := 367) (v := 2) kc_196_366 rfl rfl ?_
        refine xi_ialoadO (pc' := 368) (v := a2) kc_196_367 rfl (by decide) hov0 (xi_in (n := 6) (by decide) (by decide)) rfl ?_
        refine xi_virtual (mj := 19) (as := [.int a1, .int a2]) (st1 := [.int 1000000006]) (lv0 := [(0, .ref 115), (1, .int a1), (2, .int a2)]) kc_196_368 rfl rfl rfl rfl rfl ((eh1.2.1 115 (by decide)).trans (F 115 _ hl_115)) (Nat.le_of_ble_eq_true rfl) (hJ _ _ _ _ (by decide)) (xm_le ml_19 rfl) rfl ?_
        refine xi_aload_n (pc' := 1) (x := 115) kc_19_0 rfl rfl ?_
        refine xi_iconst (pc' := 2) (v := 0) kc_19_1 rfl rfl ?_
        refine xi_putfield (pc' := 5) (fs' := [.int 0, .int 0, .ref 116, .ref 117, .ref 118, .ref 119, .ref 120, .ref 121, .ref 122, .ref 123, .ref 124, .ref 125, .ref 126, .ref 127, .ref 128, .ref 129, .int 4, .ref 130, .int 0, .ref 131, .ref 132, .ref 133, .ref 134, .int 0, .ref 135, .ref 136, .ref 137, .ref 138, .ref 139, .ref 140, .ref 141, .ref 142, .int 0, .int 0, .int 0, .ref 143, .ref 144, .ref 145, .ref 146, .ref 147, .ref 148, .int 0, .ref 149, .ref 150, .ref 151, .int 0, .ref 152, .ref 153, .ref 154, .ref 155, .ref 156, .ref 157, .ref 158, .ref 159, .int 0, .ref 160, .int 0, .ref 161, .ref 162, .ref 163, .ref 164, .int 0, .ref 165, .ref 166]) kc_19_2 rfl rfl rfl ((eh1.2.1 115 (by decide)).trans (F 115 _ hl_115)) rfl rfl rfl (Nat.le_of_ble_eq_true rfl) rfl (fun hh2 eh2 => ?_)
        refine xi_iload_n (pc' := 6) (x := a2) kc_19_5 rfl rfl ?_
        refine xi_iconst (pc' := 7) (v := 0) kc_19_6 rfl rfl ?_
        refine xi_iconst (pc' := 8) (v := 1) kc_19_7 rfl rfl ?_
        refine xi_static (mj := 12) (as := [.int a2, .int 0, .int 1]) (st1 := []) (lv0 := [(0, .int a2), (1, .int 0), (2, .int 1)]) kc_19_8 rfl rfl (Nat.le_of_ble_eq_true rfl) rfl rfl (Nat.le_of_ble_eq_true rfl) (hJ _ _ _ _ (by decide)) (xm_le ml_12 rfl) rfl ?_
        refine xi_iload_n (pc' := 1) (x := a2) kc_12_0 rfl rfl ?_
        refine xi_iload_n (pc' := 2) (x := 0) kc_12_1 rfl rfl ?_
        refine xi_cmf (pc' := 5) kc_12_2 rfl (xc_lt_f (X := a2.toInt) (Y := 0) rfl (by decide) (by omega)) ?_
        refine xi_iload_n (pc' := 6) (x := a2) kc_12_5 rfl rfl ?_
        refine xi_iload_n (pc' := 7) (x := 1) kc_12_6 rfl rfl ?_
        refine xi_cmf (pc' := 10) kc_12_7 rfl (xc_gt_f (X := a2.toInt) (Y := 1) rfl (by decide) (by omega)) ?_
        refine xi_iconst (pc' := 11) (v := 1) kc_12_10 rfl rfl ?_
        refine xi_goto (pc' := 15) kc_12_11 rfl ?_
        refine xi_ireturn kc_12_15 mr_12 rfl ?_
        show xw J ov 99 19 (11, [(0, .ref 115), (1, .int a1), (2, .int a2)], [.int 1], hh2) _
        refine xi_ift (pc' := 21) kc_19_11 rfl rfl ?_
        refine xi_iload_n (pc' := 22) (x := a1) kc_19_21 rfl rfl ?_
        refine xi_ift (pc' := 32) kc_19_22 rfl (xc_ge_t (X := a1.toInt) (Y := 0) rfl (by decide) (by omega)) ?_
        refine xi_iload_n (pc' := 33) (x := a1) kc_19_32 rfl rfl ?_
        refine xi_sipush (pc' := 36) (v := 599) kc_19_33 rfl rfl ?_
        refine xi_cmf (pc' := 39) kc_19_36 rfl (xc_le_f (X := a1.toInt) (Y := 599) rfl (by decide) (by omega)) ?_
        refine xi_aload_n (pc' := 40) (x := 115) kc_19_39 rfl rfl ?_
        refine xi_bipush (pc' := 42) (v := (-6)) kc_19_40 rfl rfl ?_
        refine xi_virtual (mj := 18) (as := [.int (-6)]) (st1 := []) (lv0 := [(0, .ref 115), (1, .int (-6))]) kc_19_42 rfl rfl rfl rfl rfl eh2.1 (Nat.le_of_ble_eq_true rfl) (hJ _ _ _ _ (by decide)) (xm_le ml_18 rfl) rfl ?_
        refine xi_aload_n (pc' := 1) (x := 115) kc_18_0 rfl rfl ?_
        refine xi_getfield (pc' := 4) (v := .ref 140) kc_18_1 rfl rfl rfl eh2.1 rfl ?_
        refine xi_iload_n (pc' := 5) (x := (-6)) kc_18_4 rfl rfl ?_
        refine xi_ineg (pc' := 6) (v := 6) kc_18_5 rfl rfl ?_
        refine xi_dup2 (pc' := 7) kc_18_6 rfl ⟨rfl, rfl⟩ ?_
        refine xi_iaload (pc' := 8) (v := 0) kc_18_7 rfl ((eh2.2.1 140 (by decide)).trans ((eh1.2.1 140 (by decide)).trans (F 140 _ hl_140))) (by decide) rfl (xi_in (n := 7) (by decide) (by decide)) rfl ?_
        refine xi_iconst (pc' := 9) (v := 1) kc_18_8 rfl rfl ?_
        refine xi_iadd (pc' := 10) (v := 1) kc_18_9 rfl rfl ?_
        refine xi_iastore (pc' := 11) (x' := [0, 0, 0, 0, 0, 0, 1]) kc_18_10 rfl ((eh2.2.1 140 (by decide)).trans ((eh1.2.1 140 (by decide)).trans (F 140 _ hl_140))) rfl (xi_in (n := 7) (by decide) (by decide)) rfl (fun hh3 eh3 => ?_)
        refine xi_ldc (pc' := 13) (v := 1000000000) kc_18_11 rfl rfl ?_
        refine xi_iload_n (pc' := 14) (x := (-6)) kc_18_13 rfl rfl ?_
        refine xi_isub (pc' := 15) (v := 1000000006) kc_18_14 rfl rfl ?_
        refine xi_ireturn kc_18_15 mr_18 rfl ?_
        show xw J ov 99 19 (45, [(0, .ref 115), (1, .int a1), (2, .int a2)], [.int 1000000006], hh3) _
        refine xi_ireturn kc_19_45 mr_19 rfl ?_
        show xw J ov 100 196 (371, [(4, .int 0), (3, .ref 167), (2, .ref 115), (1, .ref 0), (0, .ref 1000000)], [.int 1000000006, .int 1000000006], hh3) _
        refine xi_cmt (pc' := 1528) kc_196_371 rfl rfl ?_
        refine xi_iinc (pc' := 1531) (x := 0) (v := 6) (lv' := [(4, .int 6), (3, .ref 167), (2, .ref 115), (1, .ref 0), (0, .ref 1000000)]) kc_196_1528 rfl rfl rfl rfl (xm_lt ml_196 rfl) ?_
        refine xi_goto (pc' := 23) kc_196_1531 rfl ?_
        refine xi_iload (pc' := 25) (x := 6) kc_196_23 rfl rfl ?_
        refine xi_aload_n (pc' := 26) (x := 1000000) kc_196_25 rfl rfl ?_
        refine xi_arraylength (pc' := 27) (n := 6) (v := 6) kc_196_26 rfl (xl_lenO (by decide) hov0 rfl) rfl ?_
        refine xi_bipush (pc' := 29) (v := 6) kc_196_27 rfl rfl ?_
        refine xi_isub (pc' := 30) (v := 0) kc_196_29 rfl rfl ?_
        refine xi_cmt (pc' := 1534) kc_196_30 rfl rfl ?_
        refine xi_iconst (pc' := 1535) (v := 1) kc_196_1534 rfl rfl ?_
        refine xi_ireturn kc_196_1535 mr_196 rfl ?_
        refine ⟨rfl, ?_, ?_⟩
        · rw [eh3.2.2.1, eh2.2.2.1, eh1.2.2.1]; exact hn0
        · rw [eh3.2.2.2, eh2.2.2.2, eh1.2.2.2]; exact hz0
    · refine xi_iff (pc' := 20) kc_101_17 rfl (xc_ge_f (X := a1.toInt) (Y := 0) rfl (by decide) (by omega)) ?_
      refine xi_aload_n (pc' := 21) (x := 0) kc_101_20 rfl rfl ?_
      refine xi_bipush (pc' := 23) (v := (-4)) kc_101_21 rfl rfl ?_
      refine xi_virtual (mj := 97) (as := [.int (-4)]) (st1 := []) (lv0 := [(0, .ref 0), (1, .int (-4))]) kc_101_23 rfl rfl rfl rfl rfl (F 0 _ hl_0) (Nat.le_of_ble_eq_true rfl) (hJ _ _ _ _ (by decide)) (xm_le ml_97 rfl) rfl ?_
      refine xi_ldc_w (pc' := 3) (v := 1000000000) kc_97_0 rfl rfl ?_
      refine xi_aload_n (pc' := 4) (x := 0) kc_97_3 rfl rfl ?_
      refine xi_iload_n (pc' := 5) (x := (-4)) kc_97_4 rfl rfl ?_
      refine xi_virtual (mj := 91) (as := [.int (-4)]) (st1 := [.int 1000000000]) (lv0 := [(0, .ref 0), (1, .int (-4))]) kc_97_5 rfl rfl rfl rfl rfl (F 0 _ hl_0) (Nat.le_of_ble_eq_true rfl) (hJ _ _ _ _ (by decide)) (xm_le ml_91 rfl) rfl ?_
      refine xi_iload_n (pc' := 1) (x := (-4)) kc_91_0 rfl rfl ?_
      refine xi_ineg (pc' := 2) (v := 4) kc_91_1 rfl rfl ?_
      refine xi_istore_n (pc' := 3) (lv' := [(2, .int 4), (0, .ref 0), (1, .int (-4))]) kc_91_2 rfl rfl (xm_lt ml_91 rfl) ?_
      refine xi_iload_n (pc' := 4) (x := 4) kc_91_3 rfl rfl ?_
      refine xi_iff (pc' := 7) kc_91_4 rfl rfl ?_
      refine xi_iload_n (pc' := 8) (x := 4) kc_91_7 rfl rfl ?_
      refine xi_aload_n (pc' := 9) (x := 0) kc_91_8 rfl rfl ?_
      refine xi_getfield (pc' := 12) (v := .ref 94) kc_91_9 rfl rfl rfl (F 0 _ hl_0) rfl ?_
      refine xi_arraylength (pc' := 13) (n := 7) (v := 7) kc_91_12 rfl (xl_lenI (by decide) (by decide) (F 94 _ hl_94) (by simp only [List.length_replicate, List.length_cons, List.length_nil])) rfl ?_
      refine xi_cmf (pc' := 16) kc_91_13 rfl rfl ?_
      refine xi_aload_n (pc' := 17) (x := 0) kc_91_16 rfl rfl ?_
      refine xi_getfield (pc' := 20) (v := .ref 94) kc_91_17 rfl rfl rfl (F 0 _ hl_0) rfl ?_
      refine xi_iload_n (pc' := 21) (x := 4) kc_91_20 rfl rfl ?_
      refine xi_dup2 (pc' := 22) kc_91_21 rfl ⟨rfl, rfl⟩ ?_
      refine xi_iaload (pc' := 23) (v := 0) kc_91_22 rfl (F 94 _ hl_94) (by decide) rfl (xi_in (n := 7) (by decide) (by decide)) rfl ?_
      refine xi_iconst (pc' := 24) (v := 1) kc_91_23 rfl rfl ?_
      refine xi_iadd (pc' := 25) (v := 1) kc_91_24 rfl rfl ?_
      refine xi_iastore (pc' := 26) (x' := [0, 0, 0, 0, 1, 0, 0]) kc_91_25 rfl (F 94 _ hl_94) rfl (xi_in (n := 7) (by decide) (by decide)) rfl (fun hh1 eh1 => ?_)
      refine xi_iload_n (pc' := 27) (x := (-4)) kc_91_26 rfl rfl ?_
      refine xi_ireturn kc_91_27 mr_91 rfl ?_
      show xw J ov 98 97 (8, [(0, .ref 0), (1, .int (-4))], [.int (-4), .int 1000000000], hh1) _
      refine xi_isub (pc' := 9) (v := 1000000004) kc_97_8 rfl rfl ?_
      refine xi_ireturn kc_97_9 mr_97 rfl ?_
      show xw J ov 99 101 (26, [(0, .ref 0), (1, .int a1), (2, .int a2)], [.int 1000000004], hh1) _
      refine xi_ireturn kc_101_26 mr_101 rfl ?_
      show xw J ov 100 196 (355, [(4, .int 0), (3, .ref 167), (2, .ref 115), (1, .ref 0), (0, .ref 1000000)], [.int 1000000004], hh1) _
      refine xi_aload_n (pc' := 356) (x := 115) kc_196_355 rfl rfl ?_
      refine xi_aload_n (pc' := 357) (x := 1000000) kc_196_356 rfl rfl ?_
      refine xi_iload (pc' := 359) (x := 0) kc_196_357 rfl rfl ?_
      refine xi_iconst (pc' := 360) (v := 1) kc_196_359 rfl rfl ?_
      refine xi_iadd (pc' := 361) (v := 1) kc_196_360 rfl rfl ?_
      refine xi_ialoadO (pc' := 362) (v := a1) kc_196_361 rfl (by decide) hov0 (xi_in (n := 6) (by decide) (by decide)) rfl ?_
      refine xi_aload_n (pc' := 363) (x := 1000000) kc_196_362 rfl rfl ?_
      refine xi_iload (pc' := 365) (x := 0) kc_196_363 rfl rfl ?_
      refine xi_iconst (pc' := 366) (v := 2) kc_196_365 rfl rfl ?_
      refine xi_iadd (pc' := 367) (v := 2) kc_196_366 rfl rfl ?_
      refine xi_ialoadO (pc' := 368) (v := a2) kc_196_367 rfl (by decide) hov0 (xi_in (n := 6) (by decide) (by decide)) rfl ?_
      refine xi_virtual (mj := 19) (as := [.int a1, .int a2]) (st1 := [.int 1000000004]) (lv0 := [(0, .ref 115), (1, .int a1), (2, .int a2)]) kc_196_368 rfl rfl rfl rfl rfl ((eh1.2.1 115 (by decide)).trans (F 115 _ hl_115)) (Nat.le_of_ble_eq_true rfl) (hJ _ _ _ _ (by decide)) (xm_le ml_19 rfl) rfl ?_
      refine xi_aload_n (pc' := 1) (x := 115) kc_19_0 rfl rfl ?_
      refine xi_iconst (pc' := 2) (v := 0) kc_19_1 rfl rfl ?_
      refine xi_putfield (pc' := 5) (fs' := [.int 0, .int 0, .ref 116, .ref 117, .ref 118, .ref 119, .ref 120, .ref 121, .ref 122, .ref 123, .ref 124, .ref 125, .ref 126, .ref 127, .ref 128, .ref 129, .int 4, .ref 130, .int 0, .ref 131, .ref 132, .ref 133, .ref 134, .int 0, .ref 135, .ref 136, .ref 137, .ref 138, .ref 139, .ref 140, .ref 141, .ref 142, .int 0, .int 0, .int 0, .ref 143, .ref 144, .ref 145, .ref 146, .ref 147, .ref 148, .int 0, .ref 149, .ref 150, .ref 151, .int 0, .ref 152, .ref 153, .ref 154, .ref 155, .ref 156, .ref 157, .ref 158, .ref 159, .int 0, .ref 160, .int 0, .ref 161, .ref 162, .ref 163, .ref 164, .int 0, .ref 165, .ref 166]) kc_19_2 rfl rfl rfl ((eh1.2.1 115 (by decide)).trans (F 115 _ hl_115)) rfl rfl rfl (Nat.le_of_ble_eq_true rfl) rfl (fun hh2 eh2 => ?_)
      refine xi_iload_n (pc' := 6) (x := a2) kc_19_5 rfl rfl ?_
      refine xi_iconst (pc' := 7) (v := 0) kc_19_6 rfl rfl ?_
      refine xi_iconst (pc' := 8) (v := 1) kc_19_7 rfl rfl ?_
      refine xi_static (mj := 12) (as := [.int a2, .int 0, .int 1]) (st1 := []) (lv0 := [(0, .int a2), (1, .int 0), (2, .int 1)]) kc_19_8 rfl rfl (Nat.le_of_ble_eq_true rfl) rfl rfl (Nat.le_of_ble_eq_true rfl) (hJ _ _ _ _ (by decide)) (xm_le ml_12 rfl) rfl ?_
      refine xi_iload_n (pc' := 1) (x := a2) kc_12_0 rfl rfl ?_
      refine xi_iload_n (pc' := 2) (x := 0) kc_12_1 rfl rfl ?_
      refine xi_cmf (pc' := 5) kc_12_2 rfl (xc_lt_f (X := a2.toInt) (Y := 0) rfl (by decide) (by omega)) ?_
      refine xi_iload_n (pc' := 6) (x := a2) kc_12_5 rfl rfl ?_
      refine xi_iload_n (pc' := 7) (x := 1) kc_12_6 rfl rfl ?_
      refine xi_cmf (pc' := 10) kc_12_7 rfl (xc_gt_f (X := a2.toInt) (Y := 1) rfl (by decide) (by omega)) ?_
      refine xi_iconst (pc' := 11) (v := 1) kc_12_10 rfl rfl ?_
      refine xi_goto (pc' := 15) kc_12_11 rfl ?_
      refine xi_ireturn kc_12_15 mr_12 rfl ?_
      show xw J ov 99 19 (11, [(0, .ref 115), (1, .int a1), (2, .int a2)], [.int 1], hh2) _
      refine xi_ift (pc' := 21) kc_19_11 rfl rfl ?_
      refine xi_iload_n (pc' := 22) (x := a1) kc_19_21 rfl rfl ?_
      refine xi_iff (pc' := 25) kc_19_22 rfl (xc_ge_f (X := a1.toInt) (Y := 0) rfl (by decide) (by omega)) ?_
      refine xi_aload_n (pc' := 26) (x := 115) kc_19_25 rfl rfl ?_
      refine xi_bipush (pc' := 28) (v := (-4)) kc_19_26 rfl rfl ?_
      refine xi_virtual (mj := 18) (as := [.int (-4)]) (st1 := []) (lv0 := [(0, .ref 115), (1, .int (-4))]) kc_19_28 rfl rfl rfl rfl rfl eh2.1 (Nat.le_of_ble_eq_true rfl) (hJ _ _ _ _ (by decide)) (xm_le ml_18 rfl) rfl ?_
      refine xi_aload_n (pc' := 1) (x := 115) kc_18_0 rfl rfl ?_
      refine xi_getfield (pc' := 4) (v := .ref 140) kc_18_1 rfl rfl rfl eh2.1 rfl ?_
      refine xi_iload_n (pc' := 5) (x := (-4)) kc_18_4 rfl rfl ?_
      refine xi_ineg (pc' := 6) (v := 4) kc_18_5 rfl rfl ?_
      refine xi_dup2 (pc' := 7) kc_18_6 rfl ⟨rfl, rfl⟩ ?_
      refine xi_iaload (pc' := 8) (v := 0) kc_18_7 rfl ((eh2.2.1 140 (by decide)).trans ((eh1.2.1 140 (by decide)).trans (F 140 _ hl_140))) (by decide) rfl (xi_in (n := 7) (by decide) (by decide)) rfl ?_
      refine xi_iconst (pc' := 9) (v := 1) kc_18_8 rfl rfl ?_
      refine xi_iadd (pc' := 10) (v := 1) kc_18_9 rfl rfl ?_
      refine xi_iastore (pc' := 11) (x' := [0, 0, 0, 0, 1, 0, 0]) kc_18_10 rfl ((eh2.2.1 140 (by decide)).trans ((eh1.2.1 140 (by decide)).trans (F 140 _ hl_140))) rfl (xi_in (n := 7) (by decide) (by decide)) rfl (fun hh3 eh3 => ?_)
      refine xi_ldc (pc' := 13) (v := 1000000000) kc_18_11 rfl rfl ?_
      refine xi_iload_n (pc' := 14) (x := (-4)) kc_18_13 rfl rfl ?_
      refine xi_isub (pc' := 15) (v := 1000000004) kc_18_14 rfl rfl ?_
      refine xi_ireturn kc_18_15 mr_18 rfl ?_
      show xw J ov 99 19 (31, [(0, .ref 115), (1, .int a1), (2, .int a2)], [.int 1000000004], hh3) _
      refine xi_ireturn kc_19_31 mr_19 rfl ?_
      show xw J ov 100 196 (371, [(4, .int 0), (3, .ref 167), (2, .ref 115), (1, .ref 0), (0, .ref 1000000)], [.int 1000000004, .int 1000000004], hh3) _
      refine xi_cmt (pc' := 1528) kc_196_371 rfl rfl ?_
      refine xi_iinc (pc' := 1531) (x := 0) (v := 6) (lv' := [(4, .int 6), (3, .ref 167), (2, .ref 115), (1, .ref 0), (0, .ref 1000000)]) kc_196_1528 rfl rfl rfl rfl (xm_lt ml_196 rfl) ?_
      refine xi_goto (pc' := 23) kc_196_1531 rfl ?_
      refine xi_iload (pc' := 25) (x := 6) kc_196_23 rfl rfl ?_
      refine xi_aload_n (pc' := 26) (x := 1000000) kc_196_25 rfl rfl ?_
      refine xi_arraylength (pc' := 27) (n := 6) (v := 6) kc_196_26 rfl (xl_lenO (by decide) hov0 rfl) rfl ?_
      refine xi_bipush (pc' := 29) (v := 6) kc_196_27 rfl rfl ?_
      refine xi_isub (pc' := 30) (v := 0) kc_196_29 rfl rfl ?_
      refine xi_cmt (pc' := 1534) kc_196_30 rfl rfl ?_
      refine xi_iconst (pc' := 1535) (v := 1) kc_196_1534 rfl rfl ?_
      refine xi_ireturn kc_196_1535 mr_196 rfl ?_
      refine ⟨rfl, ?_, ?_⟩
      · rw [eh3.2.2.1, eh2.2.2.1, eh1.2.2.1]; exact hn0
      · rw [eh3.2.2.2, eh2.2.2.2, eh1.2.2.2]; exact hz0
  · refine xi_iff (pc' := 4) kc_101_1 rfl (xc_eq_f (X := a2.toInt) (Y := 0) rfl (by decide) (by omega)) ?_
    refine xi_iload_n (pc' := 5) (x := a2) kc_101_4 rfl rfl ?_
    refine xi_iconst (pc' := 6) (v := 1) kc_101_5 rfl rfl ?_
    by_cases c4 : a2.toInt = 1
    · refine xi_cmt (pc' := 16) kc_101_6 rfl (xc_eq_t (X := a2.toInt) (Y := 1) rfl (by decide) (by omega)) ?_
      refine xi_iload_n (pc' := 17) (x := a1) kc_101_16 rfl rfl ?_
      by_cases c5 : 0 ≤ a1.toInt
      · refine xi_ift (pc' := 27) kc_101_17 rfl (xc_ge_t (X := a1.toInt) (Y := 0) rfl (by decide) (by omega)) ?_
        refine xi_iload_n (pc' := 28) (x := a1) kc_101_27 rfl rfl ?_
        refine xi_sipush (pc' := 31) (v := 600) kc_101_28 rfl rfl ?_
        by_cases c6 : a1.toInt < 600
        · refine xi_cmt (pc' := 41) kc_101_31 rfl (xc_lt_t (X := a1.toInt) (Y := 600) rfl (by decide) (by omega)) ?_
          refine xi_aload_n (pc' := 42) (x := 0) kc_101_41 rfl rfl ?_
          refine xi_getfield (pc' := 45) (v := .ref 1) kc_101_42 rfl rfl rfl (F 0 _ hl_0) rfl ?_
          refine xi_iload_n (pc' := 46) (x := a2) kc_101_45 rfl rfl ?_
          refine xi_virtual (mj := 98) (as := [.int a2]) (st1 := []) (lv0 := [(0, .ref 1), (1, .int a2)]) kc_101_46 rfl rfl rfl rfl rfl (F 1 _ hl_1) (Nat.le_of_ble_eq_true rfl) (hJ _ _ _ _ (by decide)) (xm_le ml_98 rfl) rfl ?_
          refine xi_iload_n (pc' := 1) (x := a2) kc_98_0 rfl rfl ?_
          refine xi_ift (pc' := 11) kc_98_1 rfl (xc_ne_t (X := a2.toInt) (Y := 0) rfl (by decide) (by omega)) ?_
          refine xi_aload_n (pc' := 12) (x := 1) kc_98_11 rfl rfl ?_
          refine xi_getfield (pc' := 15) (v := .ref 8) kc_98_12 rfl rfl rfl (F 1 _ hl_1) rfl ?_
          refine xi_areturn kc_98_15 (by rw [mr_98]; rfl) ?_
          show xw J ov 99 101 (49, [(0, .ref 0), (1, .int a1), (2, .int a2)], [.ref 8], h0) _
          refine xi_iload_n (pc' := 50) (x := a1) kc_101_49 rfl rfl ?_
          refine xi_virtual (mj := 100) (as := [.int a1]) (st1 := []) (lv0 := [(0, .ref 8), (1, .int a1)]) kc_101_50 rfl rfl rfl rfl rfl (F 8 _ hl_8) (Nat.le_of_ble_eq_true rfl) (hJ _ _ _ _ (by decide)) (xm_le ml_100 rfl) rfl ?_
          refine xi_iload_n (pc' := 1) (x := a1) kc_100_0 rfl rfl ?_
          refine xi_iff (pc' := 4) kc_100_1 rfl (xc_lt_f (X := a1.toInt) (Y := 0) rfl (by decide) (by omega)) ?_
          refine xi_iload_n (pc' := 5) (x := a1) kc_100_4 rfl rfl ?_
          refine xi_aload_n (pc' := 6) (x := 8) kc_100_5 rfl rfl ?_
          refine xi_getfield (pc' := 9) (v := .ref 10) kc_100_6 rfl rfl rfl (F 8 _ hl_8) rfl ?_
          refine xi_arraylength (pc' := 10) (n := 601) (v := 601) kc_100_9 rfl (xl_lenI (by decide) (by decide) (F 10 _ hl_10) (by simp only [List.length_replicate, List.length_cons, List.length_nil])) rfl ?_
          refine xi_cmt (pc' := 20) kc_100_10 rfl (xc_lt_t (X := a1.toInt) (Y := 601) rfl (by decide) (by omega)) ?_
          refine xi_aload_n (pc' := 21) (x := 8) kc_100_20 rfl rfl ?_
          refine xi_getfield (pc' := 24) (v := .ref 10) kc_100_21 rfl rfl rfl (F 8 _ hl_8) rfl ?_
          refine xi_iload_n (pc' := 25) (x := a1) kc_100_24 rfl rfl ?_
          refine xi_iaload (pc' := 26) (v := 0) kc_100_25 rfl (F 10 _ hl_10) (by decide) rfl (xi_in (by omega) (by simp only [List.length_replicate]; omega)) (xa_rep (by omega) (by omega)) ?_
          refine xi_ireturn kc_100_26 mr_100 rfl ?_
          show xw J ov 99 101 (53, [(0, .ref 0), (1, .int a1), (2, .int a2)], [.int 0], h0) _
          refine xi_ireturn kc_101_53 mr_101 rfl ?_
          show xw J ov 100 196 (355, [(4, .int 0), (3, .ref 167), (2, .ref 115), (1, .ref 0), (0, .ref 1000000)], [.int 0], h0) _
          refine xi_aload_n (pc' := 356) (x := 115) kc_196_355 rfl rfl ?_
          refine xi_aload_n (pc' := 357) (x := 1000000) kc_196_356 rfl rfl ?_
          refine xi_iload (pc' := 359) (x := 0) kc_196_357 rfl rfl ?_
          refine xi_iconst (pc' := 360) (v := 1) kc_196_359 rfl rfl ?_
          refine xi_iadd (pc' := 361) (v := 1) kc_196_360 rfl rfl ?_
          refine xi_ialoadO (pc' := 362) (v := a1) kc_196_361 rfl (by decide) hov0 (xi_in (n := 6) (by decide) (by decide)) rfl ?_
          refine xi_aload_n (pc' := 363) (x := 1000000) kc_196_362 rfl rfl ?_
          refine xi_iload (pc' := 365) (x := 0) kc_196_363 rfl rfl ?_
          refine xi_iconst (pc' := 366) (v := 2) kc_196_365 rfl rfl ?_
          refine xi_iadd (pc' := 367) (v := 2) kc_196_366 rfl rfl ?_
          refine xi_ialoadO (pc' := 368) (v := a2) kc_196_367 rfl (by decide) hov0 (xi_in (n := 6) (by decide) (by decide)) rfl ?_
          refine xi_virtual (mj := 19) (as := [.int a1, .int a2]) (st1 := [.int 0]) (lv0 := [(0, .ref 115), (1, .int a1), (2, .int a2)]) kc_196_368 rfl rfl rfl rfl rfl (F 115 _ hl_115) (Nat.le_of_ble_eq_true rfl) (hJ _ _ _ _ (by decide)) (xm_le ml_19 rfl) rfl ?_
          refine xi_aload_n (pc' := 1) (x := 115) kc_19_0 rfl rfl ?_
          refine xi_iconst (pc' := 2) (v := 0) kc_19_1 rfl rfl ?_
          refine xi_putfield (pc' := 5) (fs' := [.int 0, .int 0, .ref 116, .ref 117, .ref 118, .ref 119, .ref 120, .ref 121, .ref 122, .ref 123, .ref 124, .ref 125, .ref 126, .ref 127, .ref 128, .ref 129, .int 4, .ref 130, .int 0, .ref 131, .ref 132, .ref 133, .ref 134, .int 0, .ref 135, .ref 136, .ref 137, .ref 138, .ref 139, .ref 140, .ref 141, .ref 142, .int 0, .int 0, .int 0, .ref 143, .ref 144, .ref 145, .ref 146, .ref 147, .ref 148, .int 0, .ref 149, .ref 150, .ref 151, .int 0, .ref 152, .ref 153, .ref 154, .ref 155, .ref 156, .ref 157, .ref 158, .ref 159, .int 0, .ref 160, .int 0, .ref 161, .ref 162, .ref 163, .ref 164, .int 0, .ref 165, .ref 166]) kc_19_2 rfl rfl rfl (F 115 _ hl_115) rfl rfl rfl (Nat.le_of_ble_eq_true rfl) rfl (fun hh1 eh1 => ?_)
          refine xi_iload_n (pc' := 6) (x := a2) kc_19_5 rfl rfl ?_
          refine xi_iconst (pc' := 7) (v := 0) kc_19_6 rfl rfl ?_
          refine xi_iconst (pc' := 8) (v := 1) kc_19_7 rfl rfl ?_
          refine xi_static (mj := 12) (as := [.int a2, .int 0, .int 1]) (st1 := []) (lv0 := [(0, .int a2), (1, .int 0), (2, .int 1)]) kc_19_8 rfl rfl (Nat.le_of_ble_eq_true rfl) rfl rfl (Nat.le_of_ble_eq_true rfl) (hJ _ _ _ _ (by decide)) (xm_le ml_12 rfl) rfl ?_
          refine xi_iload_n (pc' := 1) (x := a2) kc_12_0 rfl rfl ?_
          refine xi_iload_n (pc' := 2) (x := 0) kc_12_1 rfl rfl ?_
          refine xi_cmf (pc' := 5) kc_12_2 rfl (xc_lt_f (X := a2.toInt) (Y := 0) rfl (by decide) (by omega)) ?_
          refine xi_iload_n (pc' := 6) (x := a2) kc_12_5 rfl rfl ?_
          refine xi_iload_n (pc' := 7) (x := 1) kc_12_6 rfl rfl ?_
          refine xi_cmf (pc' := 10) kc_12_7 rfl (xc_gt_f (X := a2.toInt) (Y := 1) rfl (by decide) (by omega)) ?_
          refine xi_iconst (pc' := 11) (v := 1) kc_12_10 rfl rfl ?_
          refine xi_goto (pc' := 15) kc_12_11 rfl ?_
          refine xi_ireturn kc_12_15 mr_12 rfl ?_
          show xw J ov 99 19 (11, [(0, .ref 115), (1, .int a1), (2, .int a2)], [.int 1], hh1) _
          refine xi_ift (pc' := 21) kc_19_11 rfl rfl ?_
          refine xi_iload_n (pc' := 22) (x := a1) kc_19_21 rfl rfl ?_
          refine xi_ift (pc' := 32) kc_19_22 rfl (xc_ge_t (X := a1.toInt) (Y := 0) rfl (by decide) (by omega)) ?_
          refine xi_iload_n (pc' := 33) (x := a1) kc_19_32 rfl rfl ?_
          refine xi_sipush (pc' := 36) (v := 599) kc_19_33 rfl rfl ?_
          refine xi_cmt (pc' := 46) kc_19_36 rfl (xc_le_t (X := a1.toInt) (Y := 599) rfl (by decide) (by omega)) ?_
          refine xi_iload_n (pc' := 47) (x := a2) kc_19_46 rfl rfl ?_
          refine xi_ift (pc' := 58) kc_19_47 rfl (xc_ne_t (X := a2.toInt) (Y := 0) rfl (by decide) (by omega)) ?_
          refine xi_aload_n (pc' := 59) (x := 115) kc_19_58 rfl rfl ?_
          refine xi_iload_n (pc' := 60) (x := a1) kc_19_59 rfl rfl ?_
          refine xi_virtual (mj := 21) (as := [.int a1]) (st1 := []) (lv0 := [(0, .ref 115), (1, .int a1)]) kc_19_60 rfl rfl rfl rfl rfl eh1.1 (Nat.le_of_ble_eq_true rfl) (hJ _ _ _ _ (by decide)) (xm_le ml_21 rfl) rfl ?_
          refine lw_rain (o := 115) (c := 124) eh1.1 rfl (by decide) ((eh1.2.1 124 (by decide)).trans (F 124 _ hl_124)) ?_
          show xw J ov 99 19 (63, [(0, .ref 115), (1, .int a1), (2, .int a2)], [.int 0], hh1) _
          refine xi_ireturn kc_19_63 mr_19 rfl ?_
          show xw J ov 100 196 (371, [(4, .int 0), (3, .ref 167), (2, .ref 115), (1, .ref 0), (0, .ref 1000000)], [.int 0, .int 0], hh1) _
          refine xi_cmt (pc' := 1528) kc_196_371 rfl rfl ?_
          refine xi_iinc (pc' := 1531) (x := 0) (v := 6) (lv' := [(4, .int 6), (3, .ref 167), (2, .ref 115), (1, .ref 0), (0, .ref 1000000)]) kc_196_1528 rfl rfl rfl rfl (xm_lt ml_196 rfl) ?_
          refine xi_goto (pc' := 23) kc_196_1531 rfl ?_
          refine xi_iload (pc' := 25) (x := 6) kc_196_23 rfl rfl ?_
          refine xi_aload_n (pc' := 26) (x := 1000000) kc_196_25 rfl rfl ?_
          refine xi_arraylength (pc' := 27) (n := 6) (v := 6) kc_196_26 rfl (xl_lenO (by decide) hov0 rfl) rfl ?_
          refine xi_bipush (pc' := 29) (v := 6) kc_196_27 rfl rfl ?_
          refine xi_isub (pc' := 30) (v := 0) kc_196_29 rfl rfl ?_
          refine xi_cmt (pc' := 1534) kc_196_30 rfl rfl ?_
          refine xi_iconst (pc' := 1535) (v := 1) kc_196_1534 rfl rfl ?_
          refine xi_ireturn kc_196_1535 mr_196 rfl ?_
          refine ⟨rfl, ?_, ?_⟩
          · rw [eh1.2.2.1]; exact hn0
          · rw [eh1.2.2.2]; exact hz0
        · refine xi_cmf (pc' := 34) kc_101_31 rfl (xc_lt_f (X := a1.toInt) (Y := 600) rfl (by decide) (by omega)) ?_
          refine xi_aload_n (pc' := 35) (x := 0) kc_101_34 rfl rfl ?_
          refine xi_bipush (pc' := 37) (v := (-6)) kc_101_35 rfl rfl ?_
          refine xi_virtual (mj := 97) (as := [.int (-6)]) (st1 := []) (lv0 := [(0, .ref 0), (1, .int (-6))]) kc_101_37 rfl rfl rfl rfl rfl (F 0 _ hl_0) (Nat.le_of_ble_eq_true rfl) (hJ _ _ _ _ (by decide)) (xm_le ml_97 rfl) rfl ?_
          refine xi_ldc_w (pc' := 3) (v := 1000000000) kc_97_0 rfl rfl ?_
          refine xi_aload_n (pc' := 4) (x := 0) kc_97_3 rfl rfl ?_
          refine xi_iload_n (pc' := 5) (x := (-6)) kc_97_4 rfl rfl ?_
          refine xi_virtual (mj := 91) (as := [.int (-6)]) (st1 := [.int 1000000000]) (lv0 := [(0, .ref 0), (1, .int (-6))]) kc_97_5 rfl rfl rfl rfl rfl (F 0 _ hl_0) (Nat.le_of_ble_eq_true rfl) (hJ _ _ _ _ (by decide)) (xm_le ml_91 rfl) rfl ?_
          refine xi_iload_n (pc' := 1) (x := (-6)) kc_91_0 rfl rfl ?_
          refine xi_ineg (pc' := 2) (v := 6) kc_91_1 rfl rfl ?_
          refine xi_istore_n (pc' := 3) (lv' := [(2, .int 6), (0, .ref 0), (1, .int (-6))]) kc_91_2 rfl rfl (xm_lt ml_91 rfl) ?_
          refine xi_iload_n (pc' := 4) (x := 6) kc_91_3 rfl rfl ?_
          refine xi_iff (pc' := 7) kc_91_4 rfl rfl ?_
          refine xi_iload_n (pc' := 8) (x := 6) kc_91_7 rfl rfl ?_
          refine xi_aload_n (pc' := 9) (x := 0) kc_91_8 rfl rfl ?_
          refine xi_getfield (pc' := 12) (v := .ref 94) kc_91_9 rfl rfl rfl (F 0 _ hl_0) rfl ?_
          refine xi_arraylength (pc' := 13) (n := 7) (v := 7) kc_91_12 rfl (xl_lenI (by decide) (by decide) (F 94 _ hl_94) (by simp only [List.length_replicate, List.length_cons, List.length_nil])) rfl ?_
          refine xi_cmf (pc' := 16) kc_91_13 rfl rfl ?_
          refine xi_aload_n (pc' := 17) (x := 0) kc_91_16 rfl rfl ?_
          refine xi_getfield (pc' := 20) (v := .ref 94) kc_91_17 rfl rfl rfl (F 0 _ hl_0) rfl ?_
          refine xi_iload_n (pc' := 21) (x := 6) kc_91_20 rfl rfl ?_
          refine xi_dup2 (pc' := 22) kc_91_21 rfl ⟨rfl, rfl⟩ ?_
          refine xi_iaload (pc' := 23) (v := 0) kc_91_22 rfl (F 94 _ hl_94) (by decide) rfl (xi_in (n := 7) (by decide) (by decide)) rfl ?_
          refine xi_iconst (pc' := 24) (v := 1) kc_91_23 rfl rfl ?_
          refine xi_iadd (pc' := 25) (v := 1) kc_91_24 rfl rfl ?_
          refine xi_iastore (pc' := 26) (x' := [0, 0, 0, 0, 0, 0, 1]) kc_91_25 rfl (F 94 _ hl_94) rfl (xi_in (n := 7) (by decide) (by decide)) rfl (fun hh1 eh1 => ?_)
          refine xi_iload_n (pc' := 27) (x := (-6)) kc_91_26 rfl rfl ?_
          refine xi_ireturn kc_91_27 mr_91 rfl ?_
          show xw J ov 98 97 (8, [(0, .ref 0), (1, .int (-6))], [.int (-6), .int 1000000000], hh1) _
          refine xi_isub (pc' := 9) (v := 1000000006) kc_97_8 rfl rfl ?_
          refine xi_ireturn kc_97_9 mr_97 rfl ?_
          show xw J ov 99 101 (40, [(0, .ref 0), (1, .int a1), (2, .int a2)], [.int 1000000006], hh1) _
          refine xi_ireturn kc_101_40 mr_101 rfl ?_
          show xw J ov 100 196 (355, [(4, .int 0), (3, .ref 167), (2, .ref 115), (1, .ref 0), (0, .ref 1000000)], [.int 1000000006], hh1) _
          refine xi_aload_n (pc' := 356) (x := 115) kc_196_355 rfl rfl ?_
          refine xi_aload_n (pc' := 357) (x := 1000000) kc_196_356 rfl rfl ?_
          refine xi_iload (pc' := 359) (x := 0) kc_196_357 rfl rfl ?_
          refine xi_iconst (pc' := 360) (v := 1) kc_196_359 rfl rfl ?_
          refine xi_iadd (pc' := 361) (v := 1) kc_196_360 rfl rfl ?_
          refine xi_ialoadO (pc' := 362) (v := a1) kc_196_361 rfl (by decide) hov0 (xi_in (n := 6) (by decide) (by decide)) rfl ?_
          refine xi_aload_n (pc' := 363) (x := 1000000) kc_196_362 rfl rfl ?_
          refine xi_iload (pc' := 365) (x := 0) kc_196_363 rfl rfl ?_
          refine xi_iconst (pc' := 366) (v := 2) kc_196_365 rfl rfl ?_
          refine xi_iadd (pc' := 367) (v := 2) kc_196_366 rfl rfl ?_
          refine xi_ialoadO (pc' := 368) (v := a2) kc_196_367 rfl (by decide) hov0 (xi_in (n := 6) (by decide) (by decide)) rfl ?_
          refine xi_virtual (mj := 19) (as := [.int a1, .int a2]) (st1 := [.int 1000000006]) (lv0 := [(0, .ref 115), (1, .int a1), (2, .int a2)]) kc_196_368 rfl rfl rfl rfl rfl ((eh1.2.1 115 (by decide)).trans (F 115 _ hl_115)) (Nat.le_of_ble_eq_true rfl) (hJ _ _ _ _ (by decide)) (xm_le ml_19 rfl) rfl ?_
          refine xi_aload_n (pc' := 1) (x := 115) kc_19_0 rfl rfl ?_
          refine xi_iconst (pc' := 2) (v := 0) kc_19_1 rfl rfl ?_
          refine xi_putfield (pc' := 5) (fs' := [.int 0, .int 0, .ref 116, .ref 117, .ref 118, .ref 119, .ref 120, .ref 121, .ref 122, .ref 123, .ref 124, .ref 125, .ref 126, .ref 127, .ref 128, .ref 129, .int 4, .ref 130, .int 0, .ref 131, .ref 132, .ref 133, .ref 134, .int 0, .ref 135, .ref 136, .ref 137, .ref 138, .ref 139, .ref 140, .ref 141, .ref 142, .int 0, .int 0, .int 0, .ref 143, .ref 144, .ref 145, .ref 146, .ref 147, .ref 148, .int 0, .ref 149, .ref 150, .ref 151, .int 0, .ref 152, .ref 153, .ref 154, .ref 155, .ref 156, .ref 157, .ref 158, .ref 159, .int 0, .ref 160, .int 0, .ref 161, .ref 162, .ref 163, .ref 164, .int 0, .ref 165, .ref 166]) kc_19_2 rfl rfl rfl ((eh1.2.1 115 (by decide)).trans (F 115 _ hl_115)) rfl rfl rfl (Nat.le_of_ble_eq_true rfl) rfl (fun hh2 eh2 => ?_)
          refine xi_iload_n (pc' := 6) (x := a2) kc_19_5 rfl rfl ?_
          refine xi_iconst (pc' := 7) (v := 0) kc_19_6 rfl rfl ?_
          refine xi_iconst (pc' := 8) (v := 1) kc_19_7 rfl rfl ?_
          refine xi_static (mj := 12) (as := [.int a2, .int 0, .int 1]) (st1 := []) (lv0 := [(0, .int a2), (1, .int 0), (2, .int 1)]) kc_19_8 rfl rfl (Nat.le_of_ble_eq_true rfl) rfl rfl (Nat.le_of_ble_eq_true rfl) (hJ _ _ _ _ (by decide)) (xm_le ml_12 rfl) rfl ?_
          refine xi_iload_n (pc' := 1) (x := a2) kc_12_0 rfl rfl ?_
          refine xi_iload_n (pc' := 2) (x := 0) kc_12_1 rfl rfl ?_
          refine xi_cmf (pc' := 5) kc_12_2 rfl (xc_lt_f (X := a2.toInt) (Y := 0) rfl (by decide) (by omega)) ?_
          refine xi_iload_n (pc' := 6) (x := a2) kc_12_5 rfl rfl ?_
          refine xi_iload_n (pc' := 7) (x := 1) kc_12_6 rfl rfl ?_
          refine xi_cmf (pc' := 10) kc_12_7 rfl (xc_gt_f (X := a2.toInt) (Y := 1) rfl (by decide) (by omega)) ?_
          refine xi_iconst (pc' := 11) (v := 1) kc_12_10 rfl rfl ?_
          refine xi_goto (pc' := 15) kc_12_11 rfl ?_
          refine xi_ireturn kc_12_15 mr_12 rfl ?_
          show xw J ov 99 19 (11, [(0, .ref 115), (1, .int a1), (2, .int a2)], [.int 1], hh2) _
          refine xi_ift (pc' := 21) kc_19_11 rfl rfl ?_
          refine xi_iload_n (pc' := 22) (x := a1) kc_19_21 rfl rfl ?_
          refine xi_ift (pc' := 32) kc_19_22 rfl (xc_ge_t (X := a1.toInt) (Y := 0) rfl (by decide) (by omega)) ?_
          refine xi_iload_n (pc' := 33) (x := a1) kc_19_32 rfl rfl ?_
          refine xi_sipush (pc' := 36) (v := 599) kc_19_33 rfl rfl ?_
          refine xi_cmf (pc' := 39) kc_19_36 rfl (xc_le_f (X := a1.toInt) (Y := 599) rfl (by decide) (by omega)) ?_
          refine xi_aload_n (pc' := 40) (x := 115) kc_19_39 rfl rfl ?_
          refine xi_bipush (pc' := 42) (v := (-6)) kc_19_40 rfl rfl ?_
          refine xi_virtual (mj := 18) (as := [.int (-6)]) (st1 := []) (lv0 := [(0, .ref 115), (1, .int (-6))]) kc_19_42 rfl rfl rfl rfl rfl eh2.1 (Nat.le_of_ble_eq_true rfl) (hJ _ _ _ _ (by decide)) (xm_le ml_18 rfl) rfl ?_
          refine xi_aload_n (pc' := 1) (x := 115) kc_18_0 rfl rfl ?_
          refine xi_getfield (pc' := 4) (v := .ref 140) kc_18_1 rfl rfl rfl eh2.1 rfl ?_
          refine xi_iload_n (pc' := 5) (x := (-6)) kc_18_4 rfl rfl ?_
          refine xi_ineg (pc' := 6) (v := 6) kc_18_5 rfl rfl ?_
          refine xi_dup2 (pc' := 7) kc_18_6 rfl ⟨rfl, rfl⟩ ?_
          refine xi_iaload (pc' := 8) (v := 0) kc_18_7 rfl ((eh2.2.1 140 (by decide)).trans ((eh1.2.1 140 (by decide)).trans (F 140 _ hl_140))) (by decide) rfl (xi_in (n := 7) (by decide) (by decide)) rfl ?_
          refine xi_iconst (pc' := 9) (v := 1) kc_18_8 rfl rfl ?_
          refine xi_iadd (pc' := 10) (v := 1) kc_18_9 rfl rfl ?_
          refine xi_iastore (pc' := 11) (x' := [0, 0, 0, 0, 0, 0, 1]) kc_18_10 rfl ((eh2.2.1 140 (by decide)).trans ((eh1.2.1 140 (by decide)).trans (F 140 _ hl_140))) rfl (xi_in (n := 7) (by decide) (by decide)) rfl (fun hh3 eh3 => ?_)
          refine xi_ldc (pc' := 13) (v := 1000000000) kc_18_11 rfl rfl ?_
          refine xi_iload_n (pc' := 14) (x := (-6)) kc_18_13 rfl rfl ?_
          refine xi_isub (pc' := 15) (v := 1000000006) kc_18_14 rfl rfl ?_
          refine xi_ireturn kc_18_15 mr_18 rfl ?_
          show xw J ov 99 19 (45, [(0, .ref 115), (1, .int a1), (2, .int a2)], [.int 1000000006], hh3) _
          refine xi_ireturn kc_19_45 mr_19 rfl ?_
          show xw J ov 100 196 (371, [(4, .int 0), (3, .ref 167), (2, .ref 115), (1, .ref 0), (0, .ref 1000000)], [.int 1000000006, .int 1000000006], hh3) _
          refine xi_cmt (pc' := 1528) kc_196_371 rfl rfl ?_
          refine xi_iinc (pc' := 1531) (x := 0) (v := 6) (lv' := [(4, .int 6), (3, .ref 167), (2, .ref 115), (1, .ref 0), (0, .ref 1000000)]) kc_196_1528 rfl rfl rfl rfl (xm_lt ml_196 rfl) ?_
          refine xi_goto (pc' := 23) kc_196_1531 rfl ?_
          refine xi_iload (pc' := 25) (x := 6) kc_196_23 rfl rfl ?_
          refine xi_aload_n (pc' := 26) (x := 1000000) kc_196_25 rfl rfl ?_
          refine xi_arraylength (pc' := 27) (n := 6) (v := 6) kc_196_26 rfl (xl_lenO (by decide) hov0 rfl) rfl ?_
          refine xi_bipush (pc' := 29) (v := 6) kc_196_27 rfl rfl ?_
          refine xi_isub (pc' := 30) (v := 0) kc_196_29 rfl rfl ?_
          refine xi_cmt (pc' := 1534) kc_196_30 rfl rfl ?_
          refine xi_iconst (pc' := 1535) (v := 1) kc_196_1534 rfl rfl ?_
          refine xi_ireturn kc_196_1535 mr_196 rfl ?_
          refine ⟨rfl, ?_, ?_⟩
          · rw [eh3.2.2.1, eh2.2.2.1, eh1.2.2.1]; exact hn0
          · rw [eh3.2.2.2, eh2.2.2.2, eh1.2.2.2]; exact hz0
      · refine xi_iff (pc' := 20) kc_101_17 rfl (xc_ge_f (X := a1.toInt) (Y := 0) rfl (by decide) (by omega)) ?_
        refine xi_aload_n (pc' := 21) (x := 0) kc_101_20 rfl rfl ?_
        refine xi_bipush (pc' := 23) (v := (-4)) kc_101_21 rfl rfl ?_
        refine xi_virtual (mj := 97) (as := [.int (-4)]) (st1 := []) (lv0 := [(0, .ref 0), (1, .int (-4))]) kc_101_23 rfl rfl rfl rfl rfl (F 0 _ hl_0) (Nat.le_of_ble_eq_true rfl) (hJ _ _ _ _ (by decide)) (xm_le ml_97 rfl) rfl ?_
        refine xi_ldc_w (pc' := 3) (v := 1000000000) kc_97_0 rfl rfl ?_
        refine xi_aload_n (pc' := 4) (x := 0) kc_97_3 rfl rfl ?_
        refine xi_iload_n (pc' := 5) (x := (-4)) kc_97_4 rfl rfl ?_
        refine xi_virtual (mj := 91) (as := [.int (-4)]) (st1 := [.int 1000000000]) (lv0 := [(0, .ref 0), (1, .int (-4))]) kc_97_5 rfl rfl rfl rfl rfl (F 0 _ hl_0) (Nat.le_of_ble_eq_true rfl) (hJ _ _ _ _ (by decide)) (xm_le ml_91 rfl) rfl ?_
        refine xi_iload_n (pc' := 1) (x := (-4)) kc_91_0 rfl rfl ?_
        refine xi_ineg (pc' := 2) (v := 4) kc_91_1 rfl rfl ?_
        refine xi_istore_n (pc' := 3) (lv' := [(2, .int 4), (0, .ref 0), (1, .int (-4))]) kc_91_2 rfl rfl (xm_lt ml_91 rfl) ?_
        refine xi_iload_n (pc' := 4) (x := 4) kc_91_3 rfl rfl ?_
        refine xi_iff (pc' := 7) kc_91_4 rfl rfl ?_
        refine xi_iload_n (pc' := 8) (x := 4) kc_91_7 rfl rfl ?_
        refine xi_aload_n (pc' := 9) (x := 0) kc_91_8 rfl rfl ?_
        refine xi_getfield (pc' := 12) (v := .ref 94) kc_91_9 rfl rfl rfl (F 0 _ hl_0) rfl ?_
        refine xi_arraylength (pc' := 13) (n := 7) (v := 7) kc_91_12 rfl (xl_lenI (by decide) (by decide) (F 94 _ hl_94) (by simp only [List.length_replicate, List.length_cons, List.length_nil])) rfl ?_
        refine xi_cmf (pc' := 16) kc_91_13 rfl rfl ?_
        refine xi_aload_n (pc' := 17) (x := 0) kc_91_16 rfl rfl ?_
        refine xi_getfield (pc' := 20) (v := .ref 94) kc_91_17 rfl rfl rfl (F 0 _ hl_0) rfl ?_
        refine xi_iload_n (pc' := 21) (x := 4) kc_91_20 rfl rfl ?_
        refine xi_dup2 (pc' := 22) kc_91_21 rfl ⟨rfl, rfl⟩ ?_
        refine xi_iaload (pc' := 23) (v := 0) kc_91_22 rfl (F 94 _ hl_94) (by decide) rfl (xi_in (n := 7) (by decide) (by decide)) rfl ?_
        refine xi_iconst (pc' := 24) (v := 1) kc_91_23 rfl rfl ?_
        refine xi_iadd (pc' := 25) (v := 1) kc_91_24 rfl rfl ?_
        refine xi_iastore (pc' := 26) (x' := [0, 0, 0, 0, 1, 0, 0]) kc_91_25 rfl (F 94 _ hl_94) rfl (xi_in (n := 7) (by decide) (by decide)) rfl (fun hh1 eh1 => ?_)
        refine xi_iload_n (pc' := 27) (x := (-4)) kc_91_26 rfl rfl ?_
        refine xi_ireturn kc_91_27 mr_91 rfl ?_
        show xw J ov 98 97 (8, [(0, .ref 0), (1, .int (-4))], [.int (-4), .int 1000000000], hh1) _
        refine xi_isub (pc' := 9) (v := 1000000004) kc_97_8 rfl rfl ?_
        refine xi_ireturn kc_97_9 mr_97 rfl ?_
        show xw J ov 99 101 (26, [(0, .ref 0), (1, .int a1), (2, .int a2)], [.int 1000000004], hh1) _
        refine xi_ireturn kc_101_26 mr_101 rfl ?_
        show xw J ov 100 196 (355, [(4, .int 0), (3, .ref 167), (2, .ref 115), (1, .ref 0), (0, .ref 1000000)], [.int 1000000004], hh1) _
        refine xi_aload_n (pc' := 356) (x := 115) kc_196_355 rfl rfl ?_
        refine xi_aload_n (pc' := 357) (x := 1000000) kc_196_356 rfl rfl ?_
        refine xi_iload (pc' := 359) (x := 0) kc_196_357 rfl rfl ?_
        refine xi_iconst (pc' := 360) (v := 1) kc_196_359 rfl rfl ?_
        refine xi_iadd (pc' := 361) (v := 1) kc_196_360 rfl rfl ?_
        refine xi_ialoadO (pc' := 362) (v := a1) kc_196_361 rfl (by decide) hov0 (xi_in (n := 6) (by decide) (by decide)) rfl ?_
        refine xi_aload_n (pc' := 363) (x := 1000000) kc_196_362 rfl rfl ?_
        refine xi_iload (pc' := 365) (x := 0) kc_196_363 rfl rfl ?_
        refine xi_iconst (pc' := 366) (v := 2) kc_196_365 rfl rfl ?_
        refine xi_iadd (pc' := 367) (v := 2) kc_196_366 rfl rfl ?_
        refine xi_ialoadO (pc' := 368) (v := a2) kc_196_367 rfl (by decide) hov0 (xi_in (n := 6) (by decide) (by decide)) rfl ?_
        refine xi_virtual (mj := 19) (as := [.int a1, .int a2]) (st1 := [.int 1000000004]) (lv0 := [(0, .ref 115), (1, .int a1), (2, .int a2)]) kc_196_368 rfl rfl rfl rfl rfl ((eh1.2.1 115 (by decide)).trans (F 115 _ hl_115)) (Nat.le_of_ble_eq_true rfl) (hJ _ _ _ _ (by decide)) (xm_le ml_19 rfl) rfl ?_
        refine xi_aload_n (pc' := 1) (x := 115) kc_19_0 rfl rfl ?_
        refine xi_iconst (pc' := 2) (v := 0) kc_19_1 rfl rfl ?_
        refine xi_putfield (pc' := 5) (fs' := [.int 0, .int 0, .ref 116, .ref 117, .ref 118, .ref 119, .ref 120, .ref 121, .ref 122, .ref 123, .ref 124, .ref 125, .ref 126, .ref 127, .ref 128, .ref 129, .int 4, .ref 130, .int 0, .ref 131, .ref 132, .ref 133, .ref 134, .int 0, .ref 135, .ref 136, .ref 137, .ref 138, .ref 139, .ref 140, .ref 141, .ref 142, .int 0, .int 0, .int 0, .ref 143, .ref 144, .ref 145, .ref 146, .ref 147, .ref 148, .int 0, .ref 149, .ref 150, .ref 151, .int 0, .ref 152, .ref 153, .ref 154, .ref 155, .ref 156, .ref 157, .ref 158, .ref 159, .int 0, .ref 160, .int 0, .ref 161, .ref 162, .ref 163, .ref 164, .int 0, .ref 165, .ref 166]) kc_19_2 rfl rfl rfl ((eh1.2.1 115 (by decide)).trans (F 115 _ hl_115)) rfl rfl rfl (Nat.le_of_ble_eq_true rfl) rfl (fun hh2 eh2 => ?_)
        refine xi_iload_n (pc' := 6) (x := a2) kc_19_5 rfl rfl ?_
        refine xi_iconst (pc' := 7) (v := 0) kc_19_6 rfl rfl ?_
        refine xi_iconst (pc' := 8) (v := 1) kc_19_7 rfl rfl ?_
        refine xi_static (mj := 12) (as := [.int a2, .int 0, .int 1]) (st1 := []) (lv0 := [(0, .int a2), (1, .int 0), (2, .int 1)]) kc_19_8 rfl rfl (Nat.le_of_ble_eq_true rfl) rfl rfl (Nat.le_of_ble_eq_true rfl) (hJ _ _ _ _ (by decide)) (xm_le ml_12 rfl) rfl ?_
        refine xi_iload_n (pc' := 1) (x := a2) kc_12_0 rfl rfl ?_
        refine xi_iload_n (pc' := 2) (x := 0) kc_12_1 rfl rfl ?_
        refine xi_cmf (pc' := 5) kc_12_2 rfl (xc_lt_f (X := a2.toInt) (Y := 0) rfl (by decide) (by omega)) ?_
        refine xi_iload_n (pc' := 6) (x := a2) kc_12_5 rfl rfl ?_
        refine xi_iload_n (pc' := 7) (x := 1) kc_12_6 rfl rfl ?_
        refine xi_cmf (pc' := 10) kc_12_7 rfl (xc_gt_f (X := a2.toInt) (Y := 1) rfl (by decide) (by omega)) ?_
        refine xi_iconst (pc' := 11) (v := 1) kc_12_10 rfl rfl ?_
        refine xi_goto (pc' := 15) kc_12_11 rfl ?_
        refine xi_ireturn kc_12_15 mr_12 rfl ?_
        show xw J ov 99 19 (11, [(0, .ref 115), (1, .int a1), (2, .int a2)], [.int 1], hh2) _
        refine xi_ift (pc' := 21) kc_19_11 rfl rfl ?_
        refine xi_iload_n (pc' := 22) (x := a1) kc_19_21 rfl rfl ?_
        refine xi_iff (pc' := 25) kc_19_22 rfl (xc_ge_f (X := a1.toInt) (Y := 0) rfl (by decide) (by omega)) ?_
        refine xi_aload_n (pc' := 26) (x := 115) kc_19_25 rfl rfl ?_
        refine xi_bipush (pc' := 28) (v := (-4)) kc_19_26 rfl rfl ?_
        refine xi_virtual (mj := 18) (as := [.int (-4)]) (st1 := []) (lv0 := [(0, .ref 115), (1, .int (-4))]) kc_19_28 rfl rfl rfl rfl rfl eh2.1 (Nat.le_of_ble_eq_true rfl) (hJ _ _ _ _ (by decide)) (xm_le ml_18 rfl) rfl ?_
        refine xi_aload_n (pc' := 1) (x := 115) kc_18_0 rfl rfl ?_
        refine xi_getfield (pc' := 4) (v := .ref 140) kc_18_1 rfl rfl rfl eh2.1 rfl ?_
        refine xi_iload_n (pc' := 5) (x := (-4)) kc_18_4 rfl rfl ?_
        refine xi_ineg (pc' := 6) (v := 4) kc_18_5 rfl rfl ?_
        refine xi_dup2 (pc' := 7) kc_18_6 rfl ⟨rfl, rfl⟩ ?_
        refine xi_iaload (pc' := 8) (v := 0) kc_18_7 rfl ((eh2.2.1 140 (by decide)).trans ((eh1.2.1 140 (by decide)).trans (F 140 _ hl_140))) (by decide) rfl (xi_in (n := 7) (by decide) (by decide)) rfl ?_
        refine xi_iconst (pc' := 9) (v := 1) kc_18_8 rfl rfl ?_
        refine xi_iadd (pc' := 10) (v := 1) kc_18_9 rfl rfl ?_
        refine xi_iastore (pc' := 11) (x' := [0, 0, 0, 0, 1, 0, 0]) kc_18_10 rfl ((eh2.2.1 140 (by decide)).trans ((eh1.2.1 140 (by decide)).trans (F 140 _ hl_140))) rfl (xi_in (n := 7) (by decide) (by decide)) rfl (fun hh3 eh3 => ?_)
        refine xi_ldc (pc' := 13) (v := 1000000000) kc_18_11 rfl rfl ?_
        refine xi_iload_n (pc' := 14) (x := (-4)) kc_18_13 rfl rfl ?_
        refine xi_isub (pc' := 15) (v := 1000000004) kc_18_14 rfl rfl ?_
        refine xi_ireturn kc_18_15 mr_18 rfl ?_
        show xw J ov 99 19 (31, [(0, .ref 115), (1, .int a1), (2, .int a2)], [.int 1000000004], hh3) _
        refine xi_ireturn kc_19_31 mr_19 rfl ?_
        show xw J ov 100 196 (371, [(4, .int 0), (3, .ref 167), (2, .ref 115), (1, .ref 0), (0, .ref 1000000)], [.int 1000000004, .int 1000000004], hh3) _
        refine xi_cmt (pc' := 1528) kc_196_371 rfl rfl ?_
        refine xi_iinc (pc' := 1531) (x := 0) (v := 6) (lv' := [(4, .int 6), (3, .ref 167), (2, .ref 115), (1, .ref 0), (0, .ref 1000000)]) kc_196_1528 rfl rfl rfl rfl (xm_lt ml_196 rfl) ?_
        refine xi_goto (pc' := 23) kc_196_1531 rfl ?_
        refine xi_iload (pc' := 25) (x := 6) kc_196_23 rfl rfl ?_
        refine xi_aload_n (pc' := 26) (x := 1000000) kc_196_25 rfl rfl ?_
        refine xi_arraylength (pc' := 27) (n := 6) (v := 6) kc_196_26 rfl (xl_lenO (by decide) hov0 rfl) rfl ?_
        refine xi_bipush (pc' := 29) (v := 6) kc_196_27 rfl rfl ?_
        refine xi_isub (pc' := 30) (v := 0) kc_196_29 rfl rfl ?_
        refine xi_cmt (pc' := 1534) kc_196_30 rfl rfl ?_
        refine xi_iconst (pc' := 1535) (v := 1) kc_196_1534 rfl rfl ?_
        refine xi_ireturn kc_196_1535 mr_196 rfl ?_
        refine ⟨rfl, ?_, ?_⟩
        · rw [eh3.2.2.1, eh2.2.2.1, eh1.2.2.1]; exact hn0
        · rw [eh3.2.2.2, eh2.2.2.2, eh1.2.2.2]; exact hz0
    · refine xi_cmf (pc' := 9) kc_101_6 rfl (xc_eq_f (X := a2.toInt) (Y := 1) rfl (by decide) (by omega)) ?_
      refine xi_aload_n (pc' := 10) (x := 0) kc_101_9 rfl rfl ?_
      refine xi_bipush (pc' := 12) (v := (-2)) kc_101_10 rfl rfl ?_
      refine xi_virtual (mj := 97) (as := [.int (-2)]) (st1 := []) (lv0 := [(0, .ref 0), (1, .int (-2))]) kc_101_12 rfl rfl rfl rfl rfl (F 0 _ hl_0) (Nat.le_of_ble_eq_true rfl) (hJ _ _ _ _ (by decide)) (xm_le ml_97 rfl) rfl ?_
      refine xi_ldc_w (pc' := 3) (v := 1000000000) kc_97_0 rfl rfl ?_
      refine xi_aload_n (pc' := 4) (x := 0) kc_97_3 rfl rfl ?_
      refine xi_iload_n (pc' := 5) (x := (-2)) kc_97_4 rfl rfl ?_
      refine xi_virtual (mj := 91) (as := [.int (-2)]) (st1 := [.int 1000000000]) (lv0 := [(0, .ref 0), (1, .int (-2))]) kc_97_5 rfl rfl rfl rfl rfl (F 0 _ hl_0) (Nat.le_of_ble_eq_true rfl) (hJ _ _ _ _ (by decide)) (xm_le ml_91 rfl) rfl ?_
      refine xi_iload_n (pc' := 1) (x := (-2)) kc_91_0 rfl rfl ?_
      refine xi_ineg (pc' := 2) (v := 2) kc_91_1 rfl rfl ?_
      refine xi_istore_n (pc' := 3) (lv' := [(2, .int 2), (0, .ref 0), (1, .int (-2))]) kc_91_2 rfl rfl (xm_lt ml_91 rfl) ?_
      refine xi_iload_n (pc' := 4) (x := 2) kc_91_3 rfl rfl ?_
      refine xi_iff (pc' := 7) kc_91_4 rfl rfl ?_
      refine xi_iload_n (pc' := 8) (x := 2) kc_91_7 rfl rfl ?_
      refine xi_aload_n (pc' := 9) (x := 0) kc_91_8 rfl rfl ?_
      refine xi_getfield (pc' := 12) (v := .ref 94) kc_91_9 rfl rfl rfl (F 0 _ hl_0) rfl ?_
      refine xi_arraylength (pc' := 13) (n := 7) (v := 7) kc_91_12 rfl (xl_lenI (by decide) (by decide) (F 94 _ hl_94) (by simp only [List.length_replicate, List.length_cons, List.length_nil])) rfl ?_
      refine xi_cmf (pc' := 16) kc_91_13 rfl rfl ?_
      refine xi_aload_n (pc' := 17) (x := 0) kc_91_16 rfl rfl ?_
      refine xi_getfield (pc' := 20) (v := .ref 94) kc_91_17 rfl rfl rfl (F 0 _ hl_0) rfl ?_
      refine xi_iload_n (pc' := 21) (x := 2) kc_91_20 rfl rfl ?_
      refine xi_dup2 (pc' := 22) kc_91_21 rfl ⟨rfl, rfl⟩ ?_
      refine xi_iaload (pc' := 23) (v := 0) kc_91_22 rfl (F 94 _ hl_94) (by decide) rfl (xi_in (n := 7) (by decide) (by decide)) rfl ?_
      refine xi_iconst (pc' := 24) (v := 1) kc_91_23 rfl rfl ?_
      refine xi_iadd (pc' := 25) (v := 1) kc_91_24 rfl rfl ?_
      refine xi_iastore (pc' := 26) (x' := [0, 0, 1, 0, 0, 0, 0]) kc_91_25 rfl (F 94 _ hl_94) rfl (xi_in (n := 7) (by decide) (by decide)) rfl (fun hh1 eh1 => ?_)
      refine xi_iload_n (pc' := 27) (x := (-2)) kc_91_26 rfl rfl ?_
      refine xi_ireturn kc_91_27 mr_91 rfl ?_
      show xw J ov 98 97 (8, [(0, .ref 0), (1, .int (-2))], [.int (-2), .int 1000000000], hh1) _
      refine xi_isub (pc' := 9) (v := 1000000002) kc_97_8 rfl rfl ?_
      refine xi_ireturn kc_97_9 mr_97 rfl ?_
      show xw J ov 99 101 (15, [(0, .ref 0), (1, .int a1), (2, .int a2)], [.int 1000000002], hh1) _
      refine xi_ireturn kc_101_15 mr_101 rfl ?_
      show xw J ov 100 196 (355, [(4, .int 0), (3, .ref 167), (2, .ref 115), (1, .ref 0), (0, .ref 1000000)], [.int 1000000002], hh1) _
      refine xi_aload_n (pc' := 356) (x := 115) kc_196_355 rfl rfl ?_
      refine xi_aload_n (pc' := 357) (x := 1000000) kc_196_356 rfl rfl ?_
      refine xi_iload (pc' := 359) (x := 0) kc_196_357 rfl rfl ?_
      refine xi_iconst (pc' := 360) (v := 1) kc_196_359 rfl rfl ?_
      refine xi_iadd (pc' := 361) (v := 1) kc_196_360 rfl rfl ?_
      refine xi_ialoadO (pc' := 362) (v := a1) kc_196_361 rfl (by decide) hov0 (xi_in (n := 6) (by decide) (by decide)) rfl ?_
      refine xi_aload_n (pc' := 363) (x := 1000000) kc_196_362 rfl rfl ?_
      refine xi_iload (pc' := 365) (x := 0) kc_196_363 rfl rfl ?_
      refine xi_iconst (pc' := 366) (v := 2) kc_196_365 rfl rfl ?_
      refine xi_iadd (pc' := 367) (v := 2) kc_196_366 rfl rfl ?_
      refine xi_ialoadO (pc' := 368) (v := a2) kc_196_367 rfl (by decide) hov0 (xi_in (n := 6) (by decide) (by decide)) rfl ?_
      refine xi_virtual (mj := 19) (as := [.int a1, .int a2]) (st1 := [.int 1000000002]) (lv0 := [(0, .ref 115), (1, .int a1), (2, .int a2)]) kc_196_368 rfl rfl rfl rfl rfl ((eh1.2.1 115 (by decide)).trans (F 115 _ hl_115)) (Nat.le_of_ble_eq_true rfl) (hJ _ _ _ _ (by decide)) (xm_le ml_19 rfl) rfl ?_
      refine xi_aload_n (pc' := 1) (x := 115) kc_19_0 rfl rfl ?_
      refine xi_iconst (pc' := 2) (v := 0) kc_19_1 rfl rfl ?_
      refine xi_putfield (pc' := 5) (fs' := [.int 0, .int 0, .ref 116, .ref 117, .ref 118, .ref 119, .ref 120, .ref 121, .ref 122, .ref 123, .ref 124, .ref 125, .ref 126, .ref 127, .ref 128, .ref 129, .int 4, .ref 130, .int 0, .ref 131, .ref 132, .ref 133, .ref 134, .int 0, .ref 135, .ref 136, .ref 137, .ref 138, .ref 139, .ref 140, .ref 141, .ref 142, .int 0, .int 0, .int 0, .ref 143, .ref 144, .ref 145, .ref 146, .ref 147, .ref 148, .int 0, .ref 149, .ref 150, .ref 151, .int 0, .ref 152, .ref 153, .ref 154, .ref 155, .ref 156, .ref 157, .ref 158, .ref 159, .int 0, .ref 160, .int 0, .ref 161, .ref 162, .ref 163, .ref 164, .int 0, .ref 165, .ref 166]) kc_19_2 rfl rfl rfl ((eh1.2.1 115 (by decide)).trans (F 115 _ hl_115)) rfl rfl rfl (Nat.le_of_ble_eq_true rfl) rfl (fun hh2 eh2 => ?_)
      refine xi_iload_n (pc' := 6) (x := a2) kc_19_5 rfl rfl ?_
      refine xi_iconst (pc' := 7) (v := 0) kc_19_6 rfl rfl ?_
      refine xi_iconst (pc' := 8) (v := 1) kc_19_7 rfl rfl ?_
      refine xi_static (mj := 12) (as := [.int a2, .int 0, .int 1]) (st1 := []) (lv0 := [(0, .int a2), (1, .int 0), (2, .int 1)]) kc_19_8 rfl rfl (Nat.le_of_ble_eq_true rfl) rfl rfl (Nat.le_of_ble_eq_true rfl) (hJ _ _ _ _ (by decide)) (xm_le ml_12 rfl) rfl ?_
      refine xi_iload_n (pc' := 1) (x := a2) kc_12_0 rfl rfl ?_
      refine xi_iload_n (pc' := 2) (x := 0) kc_12_1 rfl rfl ?_
      by_cases c7 : a2.toInt < 0
      · refine xi_cmt (pc' := 14) kc_12_2 rfl (xc_lt_t (X := a2.toInt) (Y := 0) rfl (by decide) (by omega)) ?_
        refine xi_iconst (pc' := 15) (v := 0) kc_12_14 rfl rfl ?_
        refine xi_ireturn kc_12_15 mr_12 rfl ?_
        show xw J ov 99 19 (11, [(0, .ref 115), (1, .int a1), (2, .int a2)], [.int 0], hh2) _
        refine xi_iff (pc' := 14) kc_19_11 rfl rfl ?_
        refine xi_aload_n (pc' := 15) (x := 115) kc_19_14 rfl rfl ?_
        refine xi_bipush (pc' := 17) (v := (-2)) kc_19_15 rfl rfl ?_
        refine xi_virtual (mj := 18) (as := [.int (-2)]) (st1 := []) (lv0 := [(0, .ref 115), (1, .int (-2))]) kc_19_17 rfl rfl rfl rfl rfl eh2.1 (Nat.le_of_ble_eq_true rfl) (hJ _ _ _ _ (by decide)) (xm_le ml_18 rfl) rfl ?_
        refine xi_aload_n (pc' := 1) (x := 115) kc_18_0 rfl rfl ?_
        refine xi_getfield (pc' := 4) (v := .ref 140) kc_18_1 rfl rfl rfl eh2.1 rfl ?_
        refine xi_iload_n (pc' := 5) (x := (-2)) kc_18_4 rfl rfl ?_
        refine xi_ineg (pc' := 6) (v := 2) kc_18_5 rfl rfl ?_
        refine xi_dup2 (pc' := 7) kc_18_6 rfl ⟨rfl, rfl⟩ ?_
        refine xi_iaload (pc' := 8) (v := 0) kc_18_7 rfl ((eh2.2.1 140 (by decide)).trans ((eh1.2.1 140 (by decide)).trans (F 140 _ hl_140))) (by decide) rfl (xi_in (n := 7) (by decide) (by decide)) rfl ?_
        refine xi_iconst (pc' := 9) (v := 1) kc_18_8 rfl rfl ?_
        refine xi_iadd (pc' := 10) (v := 1) kc_18_9 rfl rfl ?_
        refine xi_iastore (pc' := 11) (x' := [0, 0, 1, 0, 0, 0, 0]) kc_18_10 rfl ((eh2.2.1 140 (by decide)).trans ((eh1.2.1 140 (by decide)).trans (F 140 _ hl_140))) rfl (xi_in (n := 7) (by decide) (by decide)) rfl (fun hh3 eh3 => ?_)
        refine xi_ldc (pc' := 13) (v := 1000000000) kc_18_11 rfl rfl ?_
        refine xi_iload_n (pc' := 14) (x := (-2)) kc_18_13 rfl rfl ?_
        refine xi_isub (pc' := 15) (v := 1000000002) kc_18_14 rfl rfl ?_
        refine xi_ireturn kc_18_15 mr_18 rfl ?_
        show xw J ov 99 19 (20, [(0, .ref 115), (1, .int a1), (2, .int a2)], [.int 1000000002], hh3) _
        refine xi_ireturn kc_19_20 mr_19 rfl ?_
        show xw J ov 100 196 (371, [(4, .int 0), (3, .ref 167), (2, .ref 115), (1, .ref 0), (0, .ref 1000000)], [.int 1000000002, .int 1000000002], hh3) _
        refine xi_cmt (pc' := 1528) kc_196_371 rfl rfl ?_
        refine xi_iinc (pc' := 1531) (x := 0) (v := 6) (lv' := [(4, .int 6), (3, .ref 167), (2, .ref 115), (1, .ref 0), (0, .ref 1000000)]) kc_196_1528 rfl rfl rfl rfl (xm_lt ml_196 rfl) ?_
        refine xi_goto (pc' := 23) kc_196_1531 rfl ?_
        refine xi_iload (pc' := 25) (x := 6) kc_196_23 rfl rfl ?_
        refine xi_aload_n (pc' := 26) (x := 1000000) kc_196_25 rfl rfl ?_
        refine xi_arraylength (pc' := 27) (n := 6) (v := 6) kc_196_26 rfl (xl_lenO (by decide) hov0 rfl) rfl ?_
        refine xi_bipush (pc' := 29) (v := 6) kc_196_27 rfl rfl ?_
        refine xi_isub (pc' := 30) (v := 0) kc_196_29 rfl rfl ?_
        refine xi_cmt (pc' := 1534) kc_196_30 rfl rfl ?_
        refine xi_iconst (pc' := 1535) (v := 1) kc_196_1534 rfl rfl ?_
        refine xi_ireturn kc_196_1535 mr_196 rfl ?_
        refine ⟨rfl, ?_, ?_⟩
        · rw [eh3.2.2.1, eh2.2.2.1, eh1.2.2.1]; exact hn0
        · rw [eh3.2.2.2, eh2.2.2.2, eh1.2.2.2]; exact hz0
      · refine xi_cmf (pc' := 5) kc_12_2 rfl (xc_lt_f (X := a2.toInt) (Y := 0) rfl (by decide) (by omega)) ?_
        refine xi_iload_n (pc' := 6) (x := a2) kc_12_5 rfl rfl ?_
        refine xi_iload_n (pc' := 7) (x := 1) kc_12_6 rfl rfl ?_
        refine xi_cmt (pc' := 14) kc_12_7 rfl (xc_gt_t (X := a2.toInt) (Y := 1) rfl (by decide) (by omega)) ?_
        refine xi_iconst (pc' := 15) (v := 0) kc_12_14 rfl rfl ?_
        refine xi_ireturn kc_12_15 mr_12 rfl ?_
        show xw J ov 99 19 (11, [(0, .ref 115), (1, .int a1), (2, .int a2)], [.int 0], hh2) _
        refine xi_iff (pc' := 14) kc_19_11 rfl rfl ?_
        refine xi_aload_n (pc' := 15) (x := 115) kc_19_14 rfl rfl ?_
        refine xi_bipush (pc' := 17) (v := (-2)) kc_19_15 rfl rfl ?_
        refine xi_virtual (mj := 18) (as := [.int (-2)]) (st1 := []) (lv0 := [(0, .ref 115), (1, .int (-2))]) kc_19_17 rfl rfl rfl rfl rfl eh2.1 (Nat.le_of_ble_eq_true rfl) (hJ _ _ _ _ (by decide)) (xm_le ml_18 rfl) rfl ?_
        refine xi_aload_n (pc' := 1) (x := 115) kc_18_0 rfl rfl ?_
        refine xi_getfield (pc' := 4) (v := .ref 140) kc_18_1 rfl rfl rfl eh2.1 rfl ?_
        refine xi_iload_n (pc' := 5) (x := (-2)) kc_18_4 rfl rfl ?_
        refine xi_ineg (pc' := 6) (v := 2) kc_18_5 rfl rfl ?_
        refine xi_dup2 (pc' := 7) kc_18_6 rfl ⟨rfl, rfl⟩ ?_
        refine xi_iaload (pc' := 8) (v := 0) kc_18_7 rfl ((eh2.2.1 140 (by decide)).trans ((eh1.2.1 140 (by decide)).trans (F 140 _ hl_140))) (by decide) rfl (xi_in (n := 7) (by decide) (by decide)) rfl ?_
        refine xi_iconst (pc' := 9) (v := 1) kc_18_8 rfl rfl ?_
        refine xi_iadd (pc' := 10) (v := 1) kc_18_9 rfl rfl ?_
        refine xi_iastore (pc' := 11) (x' := [0, 0, 1, 0, 0, 0, 0]) kc_18_10 rfl ((eh2.2.1 140 (by decide)).trans ((eh1.2.1 140 (by decide)).trans (F 140 _ hl_140))) rfl (xi_in (n := 7) (by decide) (by decide)) rfl (fun hh3 eh3 => ?_)
        refine xi_ldc (pc' := 13) (v := 1000000000) kc_18_11 rfl rfl ?_
        refine xi_iload_n (pc' := 14) (x := (-2)) kc_18_13 rfl rfl ?_
        refine xi_isub (pc' := 15) (v := 1000000002) kc_18_14 rfl rfl ?_
        refine xi_ireturn kc_18_15 mr_18 rfl ?_
        show xw J ov 99 19 (20, [(0, .ref 115), (1, .int a1), (2, .int a2)], [.int 1000000002], hh3) _
        refine xi_ireturn kc_19_20 mr_19 rfl ?_
        show xw J ov 100 196 (371, [(4, .int 0), (3, .ref 167), (2, .ref 115), (1, .ref 0), (0, .ref 1000000)], [.int 1000000002, .int 1000000002], hh3) _
        refine xi_cmt (pc' := 1528) kc_196_371 rfl rfl ?_
        refine xi_iinc (pc' := 1531) (x := 0) (v := 6) (lv' := [(4, .int 6), (3, .ref 167), (2, .ref 115), (1, .ref 0), (0, .ref 1000000)]) kc_196_1528 rfl rfl rfl rfl (xm_lt ml_196 rfl) ?_
        refine xi_goto (pc' := 23) kc_196_1531 rfl ?_
        refine xi_iload (pc' := 25) (x := 6) kc_196_23 rfl rfl ?_
        refine xi_aload_n (pc' := 26) (x := 1000000) kc_196_25 rfl rfl ?_
        refine xi_arraylength (pc' := 27) (n := 6) (v := 6) kc_196_26 rfl (xl_lenO (by decide) hov0 rfl) rfl ?_
        refine xi_bipush (pc' := 29) (v := 6) kc_196_27 rfl rfl ?_
        refine xi_isub (pc' := 30) (v := 0) kc_196_29 rfl rfl ?_
        refine xi_cmt (pc' := 1534) kc_196_30 rfl rfl ?_
        refine xi_iconst (pc' := 1535) (v := 1) kc_196_1534 rfl rfl ?_
        refine xi_ireturn kc_196_1535 mr_196 rfl ?_
        refine ⟨rfl, ?_, ?_⟩
        · rw [eh3.2.2.1, eh2.2.2.1, eh1.2.2.1]; exact hn0
        · rw [eh3.2.2.2, eh2.2.2.2, eh1.2.2.2]; exact hz0
