set_option maxHeartbeats 8000000 in
theorem lc_6 {J : xe_J} {ov : List (List Int32)} (hJ : ∀ d mj as h, mj ≠ xe_loff → J d mj as h = none) {a0 a1 a2 a3 a4 a5 : Int32} (hov0 : ov[0]? = some [a0, a1, a2, a3, a4, a5]) (hov1 : ov[1]? = some [10, 0, 0, 0, 0, 0]) (hov2 : ov[2]? = some [99, 30, 50, 50, 1, 99999]) {h0 : xe_H} (F : xf_fr h0) (hn0 : h0.length ≤ 600002) (hz0 : xe_sz h0 ≤ 7302232) : xw J ov 100 196 (478, [(4, .int 0), (3, .ref 167), (2, .ref 115), (1, .ref 0), (0, .ref 1000000)], [], h0) xf_Q := by
  have rr1 := xc_rng a1
  have rr2 := xc_rng a2
  have rr3 := xc_rng a3
  have rr4 := xc_rng a4
  have rr5 := xc_rng a5
  refine xi_aload_n (pc' := 479) (x := 0) kc_196_478 rfl rfl ?_
  refine xi_aload_n (pc' := 480) (x := 1000000) kc_196_479 rfl rfl ?_
  refine xi_iload (pc' := 482) (x := 0) kc_196_480 rfl rfl ?_
  refine xi_iconst (pc' := 483) (v := 1) kc_196_482 rfl rfl ?_
  refine xi_iadd (pc' := 484) (v := 1) kc_196_483 rfl rfl ?_
  refine xi_ialoadO (pc' := 485) (v := a1) kc_196_484 rfl (by decide) hov0 (xi_in (n := 6) (by decide) (by decide)) rfl ?_
  refine xi_aload_n (pc' := 486) (x := 1000000) kc_196_485 rfl rfl ?_
  refine xi_iload (pc' := 488) (x := 0) kc_196_486 rfl rfl ?_
  refine xi_iconst (pc' := 489) (v := 2) kc_196_488 rfl rfl ?_
  refine xi_iadd (pc' := 490) (v := 2) kc_196_489 rfl rfl ?_
  refine xi_ialoadO (pc' := 491) (v := a2) kc_196_490 rfl (by decide) hov0 (xi_in (n := 6) (by decide) (by decide)) rfl ?_
  refine xi_virtual (mj := 107) (as := [.int a1, .int a2]) (st1 := []) (lv0 := [(0, .ref 0), (1, .int a1), (2, .int a2)]) kc_196_491 rfl rfl rfl rfl rfl (F 0 _ hl_0) (Nat.le_of_ble_eq_true rfl) (hJ _ _ _ _ (by decide)) (xm_le ml_107 rfl) rfl ?_
  refine xi_iload_n (pc' := 1) (x := a1) kc_107_0 rfl rfl ?_
  refine xi_static (mj := 105) (as := [.int a1]) (st1 := []) (lv0 := [(0, .int a1)]) kc_107_1 rfl rfl (Nat.le_of_ble_eq_true rfl) rfl rfl (Nat.le_of_ble_eq_true rfl) (hJ _ _ _ _ (by decide)) (xm_le ml_105 rfl) rfl ?_
  refine xi_iload_n (pc' := 1) (x := a1) kc_105_0 rfl rfl ?_
  by_cases c1 : a1.toInt < 0
  · refine xi_ift (pc' := 14) kc_105_1 rfl (xc_lt_t (X := a1.toInt) (Y := 0) rfl (by decide) (by omega)) ?_
    refine xi_iconst (pc' := 15) (v := 0) kc_105_14 rfl rfl ?_
    refine xi_ireturn kc_105_15 mr_105 rfl ?_
    show xw J ov 99 107 (4, [(0, .ref 0), (1, .int a1), (2, .int a2)], [.int 0], h0) _
    refine xi_iff (pc' := 7) kc_107_4 rfl rfl ?_
    refine xi_aload_n (pc' := 8) (x := 0) kc_107_7 rfl rfl ?_
    refine xi_iconst (pc' := 9) (v := (-1)) kc_107_8 rfl rfl ?_
    refine xi_virtual (mj := 91) (as := [.int (-1)]) (st1 := []) (lv0 := [(0, .ref 0), (1, .int (-1))]) kc_107_9 rfl rfl rfl rfl rfl (F 0 _ hl_0) (Nat.le_of_ble_eq_true rfl) (hJ _ _ _ _ (by decide)) (xm_le ml_91 rfl) rfl ?_
    refine xi_iload_n (pc' := 1) (x := (-1)) kc_91_0 rfl rfl ?_
    refine xi_ineg (pc' := 2) (v := 1) kc_91_1 rfl rfl ?_
    refine xi_istore_n (pc' := 3) (lv' := [(2, .int 1), (0, .ref 0), (1, .int (-1))]) kc_91_2 rfl rfl (xm_lt ml_91 rfl) ?_
    refine xi_iload_n (pc' := 4) (x := 1) kc_91_3 rfl rfl ?_
    refine xi_iff (pc' := 7) kc_91_4 rfl rfl ?_
    refine xi_iload_n (pc' := 8) (x := 1) kc_91_7 rfl rfl ?_
    refine xi_aload_n (pc' := 9) (x := 0) kc_91_8 rfl rfl ?_
    refine xi_getfield (pc' := 12) (v := .ref 94) kc_91_9 rfl rfl rfl (F 0 _ hl_0) rfl ?_
    refine xi_arraylength (pc' := 13) (n := 7) (v := 7) kc_91_12 rfl (xl_lenI (by decide) (by decide) (F 94 _ hl_94) (by simp only [List.length_replicate, List.length_cons, List.length_nil])) rfl ?_
    refine xi_cmf (pc' := 16) kc_91_13 rfl rfl ?_
    refine xi_aload_n (pc' := 17) (x := 0) kc_91_16 rfl rfl ?_
    refine xi_getfield (pc' := 20) (v := .ref 94) kc_91_17 rfl rfl rfl (F 0 _ hl_0) rfl ?_
    refine xi_iload_n (pc' := 21) (x := 1) kc_91_20 rfl rfl ?_
    refine xi_dup2 (pc' := 22) kc_91_21 rfl ⟨rfl, rfl⟩ ?_
    refine xi_iaload (pc' := 23) (v := 0) kc_91_22 rfl (F 94 _ hl_94) (by decide) rfl (xi_in (n := 7) (by decide) (by decide)) rfl ?_
    refine xi_iconst (pc' := 24) (v := 1) kc_91_23 rfl rfl ?_
    refine xi_iadd (pc' := 25) (v := 1) kc_91_24 rfl rfl ?_
    refine xi_iastore (pc' := 26) (x' := [0, 1, 0, 0, 0, 0, 0]) kc_91_25 rfl (F 94 _ hl_94) rfl (xi_in (n := 7) (by decide) (by decide)) rfl (fun hh1 eh1 => ?_)
    refine xi_iload_n (pc' := 27) (x := (-1)) kc_91_26 rfl rfl ?_
    refine xi_ireturn kc_91_27 mr_91 rfl ?_
    show xw J ov 99 107 (12, [(0, .ref 0), (1, .int a1), (2, .int a2)], [.int (-1)], hh1) _
    refine xi_ireturn kc_107_12 mr_107 rfl ?_
    show xw J ov 100 196 (494, [(4, .int 0), (3, .ref 167), (2, .ref 115), (1, .ref 0), (0, .ref 1000000)], [.int (-1)], hh1) _
    refine xi_aload_n (pc' := 495) (x := 115) kc_196_494 rfl rfl ?_
    refine xi_aload_n (pc' := 496) (x := 1000000) kc_196_495 rfl rfl ?_
    refine xi_iload (pc' := 498) (x := 0) kc_196_496 rfl rfl ?_
    refine xi_iconst (pc' := 499) (v := 1) kc_196_498 rfl rfl ?_
    refine xi_iadd (pc' := 500) (v := 1) kc_196_499 rfl rfl ?_
    refine xi_ialoadO (pc' := 501) (v := a1) kc_196_500 rfl (by decide) hov0 (xi_in (n := 6) (by decide) (by decide)) rfl ?_
    refine xi_aload_n (pc' := 502) (x := 1000000) kc_196_501 rfl rfl ?_
    refine xi_iload (pc' := 504) (x := 0) kc_196_502 rfl rfl ?_
    refine xi_iconst (pc' := 505) (v := 2) kc_196_504 rfl rfl ?_
    refine xi_iadd (pc' := 506) (v := 2) kc_196_505 rfl rfl ?_
    refine xi_ialoadO (pc' := 507) (v := a2) kc_196_506 rfl (by decide) hov0 (xi_in (n := 6) (by decide) (by decide)) rfl ?_
    refine xi_virtual (mj := 26) (as := [.int a1, .int a2]) (st1 := [.int (-1)]) (lv0 := [(0, .ref 115), (1, .int a1), (2, .int a2)]) kc_196_507 rfl rfl rfl rfl rfl ((eh1.2.1 115 (by decide)).trans (F 115 _ hl_115)) (Nat.le_of_ble_eq_true rfl) (hJ _ _ _ _ (by decide)) (xm_le ml_26 rfl) rfl ?_
    refine xi_aload_n (pc' := 1) (x := 115) kc_26_0 rfl rfl ?_
    refine xi_iconst (pc' := 2) (v := 0) kc_26_1 rfl rfl ?_
    refine xi_putfield (pc' := 5) (fs' := [.int 0, .int 0, .ref 116, .ref 117, .ref 118, .ref 119, .ref 120, .ref 121, .ref 122, .ref 123, .ref 124, .ref 125, .ref 126, .ref 127, .ref 128, .ref 129, .int 4, .ref 130, .int 0, .ref 131, .ref 132, .ref 133, .ref 134, .int 0, .ref 135, .ref 136, .ref 137, .ref 138, .ref 139, .ref 140, .ref 141, .ref 142, .int 0, .int 0, .int 0, .ref 143, .ref 144, .ref 145, .ref 146, .ref 147, .ref 148, .int 0, .ref 149, .ref 150, .ref 151, .int 0, .ref 152, .ref 153, .ref 154, .ref 155, .ref 156, .ref 157, .ref 158, .ref 159, .int 0, .ref 160, .int 0, .ref 161, .ref 162, .ref 163, .ref 164, .int 0, .ref 165, .ref 166]) kc_26_2 rfl rfl rfl ((eh1.2.1 115 (by decide)).trans (F 115 _ hl_115)) rfl rfl rfl (Nat.le_of_ble_eq_true rfl) rfl (fun hh2 eh2 => ?_)
    refine xi_iload_n (pc' := 6) (x := a1) kc_26_5 rfl rfl ?_
    refine xi_static (mj := 25) (as := [.int a1]) (st1 := []) (lv0 := [(0, .int a1)]) kc_26_6 rfl rfl (Nat.le_of_ble_eq_true rfl) rfl rfl (Nat.le_of_ble_eq_true rfl) (hJ _ _ _ _ (by decide)) (xm_le ml_25 rfl) rfl ?_
    refine xi_iload_n (pc' := 1) (x := a1) kc_25_0 rfl rfl ?_
    refine xi_iconst (pc' := 2) (v := 0) kc_25_1 rfl rfl ?_
    refine xi_bipush (pc' := 4) (v := 11) kc_25_2 rfl rfl ?_
    refine xi_static (mj := 12) (as := [.int a1, .int 0, .int 11]) (st1 := []) (lv0 := [(0, .int a1), (1, .int 0), (2, .int 11)]) kc_25_4 rfl rfl (Nat.le_of_ble_eq_true rfl) rfl rfl (Nat.le_of_ble_eq_true rfl) (hJ _ _ _ _ (by decide)) (xm_le ml_12 rfl) rfl ?_
    refine xi_iload_n (pc' := 1) (x := a1) kc_12_0 rfl rfl ?_
    refine xi_iload_n (pc' := 2) (x := 0) kc_12_1 rfl rfl ?_
    refine xi_cmt (pc' := 14) kc_12_2 rfl (xc_lt_t (X := a1.toInt) (Y := 0) rfl (by decide) (by omega)) ?_
    refine xi_iconst (pc' := 15) (v := 0) kc_12_14 rfl rfl ?_
    refine xi_ireturn kc_12_15 mr_12 rfl ?_
    show xw J ov 98 25 (7, [(0, .int a1)], [.int 0], hh2) _
    refine xi_ireturn kc_25_7 mr_25 rfl ?_
    show xw J ov 99 26 (9, [(0, .ref 115), (1, .int a1), (2, .int a2)], [.int 0], hh2) _
    refine xi_iff (pc' := 12) kc_26_9 rfl rfl ?_
    refine xi_aload_n (pc' := 13) (x := 115) kc_26_12 rfl rfl ?_
    refine xi_iconst (pc' := 14) (v := (-1)) kc_26_13 rfl rfl ?_
    refine xi_virtual (mj := 13) (as := [.int (-1)]) (st1 := []) (lv0 := [(0, .ref 115), (1, .int (-1))]) kc_26_14 rfl rfl rfl rfl rfl eh2.1 (Nat.le_of_ble_eq_true rfl) (hJ _ _ _ _ (by decide)) (xm_le ml_13 rfl) rfl ?_
    refine xi_aload_n (pc' := 1) (x := 115) kc_13_0 rfl rfl ?_
    refine xi_getfield (pc' := 4) (v := .ref 140) kc_13_1 rfl rfl rfl eh2.1 rfl ?_
    refine xi_iload_n (pc' := 5) (x := (-1)) kc_13_4 rfl rfl ?_
    refine xi_ineg (pc' := 6) (v := 1) kc_13_5 rfl rfl ?_
    refine xi_dup2 (pc' := 7) kc_13_6 rfl ⟨rfl, rfl⟩ ?_
    refine xi_iaload (pc' := 8) (v := 0) kc_13_7 rfl ((eh2.2.1 140 (by decide)).trans ((eh1.2.1 140 (by decide)).trans (F 140 _ hl_140))) (by decide) rfl (xi_in (n := 7) (by decide) (by decide)) rfl ?_
    refine xi_iconst (pc' := 9) (v := 1) kc_13_8 rfl rfl ?_
    refine xi_iadd (pc' := 10) (v := 1) kc_13_9 rfl rfl ?_
    refine xi_iastore (pc' := 11) (x' := [0, 1, 0, 0, 0, 0, 0]) kc_13_10 rfl ((eh2.2.1 140 (by decide)).trans ((eh1.2.1 140 (by decide)).trans (F 140 _ hl_140))) rfl (xi_in (n := 7) (by decide) (by decide)) rfl (fun hh3 eh3 => ?_)
    refine xi_iload_n (pc' := 12) (x := (-1)) kc_13_11 rfl rfl ?_
    refine xi_ireturn kc_13_12 mr_13 rfl ?_
    show xw J ov 99 26 (17, [(0, .ref 115), (1, .int a1), (2, .int a2)], [.int (-1)], hh3) _
    refine xi_ireturn kc_26_17 mr_26 rfl ?_
    show xw J ov 100 196 (510, [(4, .int 0), (3, .ref 167), (2, .ref 115), (1, .ref 0), (0, .ref 1000000)], [.int (-1), .int (-1)], hh3) _
    refine xi_cmt (pc' := 1528) kc_196_510 rfl rfl ?_
    refine xi_iinc (pc' := 1531) (x := 0) (v := 6) (lv' := [(4, .int 6), (3, .ref 167), (2, .ref 115), (1, .ref 0), (0, .ref 1000000)]) kc_196_1528 rfl rfl rfl rfl (xm_lt ml_196 rfl) ?_
    refine xi_goto (pc' := 23) kc_196_1531 rfl ?_
    refine xi_iload (pc' := 25) (x := 6) kc_196_23 rfl rfl ?_
    refine xi_aload_n (pc' := 26) (x := 1000000) kc_196_25 rfl rfl ?_
    refine xi_arraylength (pc' := 27) (n := 6) (v := 6) kc_196_26 rfl (xl_lenO (by decide) hov0 rfl) rfl ?_
    refine xi_bipush (pc' := 29) (v := 6) kc_196_27 rfl rfl ?_
    refine xi_isub (pc' := 30) (v := 0) kc_196_29 rfl rfl ?_
    refine xi_cmt (pc' := 1534) kc_196_30 rfl rfl ?_
    refine xi_iconst (pc' := 1535) (v := 1) kc_196_1534 rfl rfl ?_
    refine xi_ireturn kc_196_1535 mr_196 rfl ?_
    refine ⟨rfl, ?_, ?_⟩
    · rw [eh3.2.2.1, eh2.2.2.1, eh1.2.2.1]; exact hn0
    · rw [eh3.2.2.2, eh2.2.2.2, eh1.2.2.2]; exact hz0
  · refine xi_iff (pc' := 4) kc_105_1 rfl (xc_lt_f (X := a1.toInt) (Y := 0) rfl (by decide) (by omega)) ?_
    refine xi_iload_n (pc' := 5) (x := a1) kc_105_4 rfl rfl ?_
    refine xi_bipush (pc' := 7) (v := 12) kc_105_5 rfl rfl ?_
    by_cases c2 : 12 ≤ a1.toInt
    · refine xi_cmt (pc' := 14) kc_105_7 rfl (xc_ge_t (X := a1.toInt) (Y := 12) rfl (by decide) (by omega)) ?_
      refine xi_iconst (pc' := 15) (v := 0) kc_105_14 rfl rfl ?_
      refine xi_ireturn kc_105_15 mr_105 rfl ?_
      show xw J ov 99 107 (4, [(0, .ref 0), (1, .int a1), (2, .int a2)], [.int 0], h0) _
      refine xi_iff (pc' := 7) kc_107_4 rfl rfl ?_
      refine xi_aload_n (pc' := 8) (x := 0) kc_107_7 rfl rfl ?_
      refine xi_iconst (pc' := 9) (v := (-1)) kc_107_8 rfl rfl ?_
      refine xi_virtual (mj := 91) (as := [.int (-1)]) (st1 := []) (lv0 := [(0, .ref 0), (1, .int (-1))]) kc_107_9 rfl rfl rfl rfl rfl (F 0 _ hl_0) (Nat.le_of_ble_eq_true rfl) (hJ _ _ _ _ (by decide)) (xm_le ml_91 rfl) rfl ?_
      refine xi_iload_n (pc' := 1) (x := (-1)) kc_91_0 rfl rfl ?_
      refine xi_ineg (pc' := 2) (v := 1) kc_91_1 rfl rfl ?_
      refine xi_istore_n (pc' := 3) (lv' := [(2, .int 1), (0, .ref 0), (1, .int (-1))]) kc_91_2 rfl rfl (xm_lt ml_91 rfl) ?_
      refine xi_iload_n (pc' := 4) (x := 1) kc_91_3 rfl rfl ?_
      refine xi_iff (pc' := 7) kc_91_4 rfl rfl ?_
      refine xi_iload_n (pc' := 8) (x := 1) kc_91_7 rfl rfl ?_
      refine xi_aload_n (pc' := 9) (x := 0) kc_91_8 rfl rfl ?_
      refine xi_getfield (pc' := 12) (v := .ref 94) kc_91_9 rfl rfl rfl (F 0 _ hl_0) rfl ?_
      refine xi_arraylength (pc' := 13) (n := 7) (v := 7) kc_91_12 rfl (xl_lenI (by decide) (by decide) (F 94 _ hl_94) (by simp only [List.length_replicate, List.length_cons, List.length_nil])) rfl ?_
      refine xi_cmf (pc' := 16) kc_91_13 rfl rfl ?_
      refine xi_aload_n (pc' := 17) (x := 0) kc_91_16 rfl rfl ?_
      refine xi_getfield (pc' := 20) (v := .ref 94) kc_91_17 rfl rfl rfl (F 0 _ hl_0) rfl ?_
      refine xi_iload_n (pc' := 21) (x := 1) kc_91_20 rfl rfl ?_
      refine xi_dup2 (pc' := 22) kc_91_21 rfl ⟨rfl, rfl⟩ ?_
      refine xi_iaload (pc' := 23) (v := 0) kc_91_22 rfl (F 94 _ hl_94) (by decide) rfl (xi_in (n := 7) (by decide) (by decide)) rfl ?_
      refine xi_iconst (pc' := 24) (v := 1) kc_91_23 rfl rfl ?_
      refine xi_iadd (pc' := 25) (v := 1) kc_91_24 rfl rfl ?_
      refine xi_iastore (pc' := 26) (x' := [0, 1, 0, 0, 0, 0, 0]) kc_91_25 rfl (F 94 _ hl_94) rfl (xi_in (n := 7) (by decide) (by decide)) rfl (fun hh1 eh1 => ?_)
      refine xi_iload_n (pc' := 27) (x := (-1)) kc_91_26 rfl rfl ?_
      refine xi_ireturn kc_91_27 mr_91 rfl ?_
      show xw J ov 99 107 (12, [(0, .ref 0), (1, .int a1), (2, .int a2)], [.int (-1)], hh1) _
      refine xi_ireturn kc_107_12 mr_107 rfl ?_
      show xw J ov 100 196 (494, [(4, .int 0), (3, .ref 167), (2, .ref 115), (1, .ref 0), (0, .ref 1000000)], [.int (-1)], hh1) _
      refine xi_aload_n (pc' := 495) (x := 115) kc_196_494 rfl rfl ?_
      refine xi_aload_n (pc' := 496) (x := 1000000) kc_196_495 rfl rfl ?_
      refine xi_iload (pc' := 498) (x := 0) kc_196_496 rfl rfl ?_
      refine xi_iconst (pc' := 499) (v := 1) kc_196_498 rfl rfl ?_
      refine xi_iadd (pc' := 500) (v := 1) kc_196_499 rfl rfl ?_
      refine xi_ialoadO (pc' := 501) (v := a1) kc_196_500 rfl (by decide) hov0 (xi_in (n := 6) (by decide) (by decide)) rfl ?_
      refine xi_aload_n (pc' := 502) (x := 1000000) kc_196_501 rfl rfl ?_
      refine xi_iload (pc' := 504) (x := 0) kc_196_502 rfl rfl ?_
      refine xi_iconst (pc' := 505) (v := 2) kc_196_504 rfl rfl ?_
      refine xi_iadd (pc' := 506) (v := 2) kc_196_505 rfl rfl ?_
      refine xi_ialoadO (pc' := 507) (v := a2) kc_196_506 rfl (by decide) hov0 (xi_in (n := 6) (by decide) (by decide)) rfl ?_
      refine xi_virtual (mj := 26) (as := [.int a1, .int a2]) (st1 := [.int (-1)]) (lv0 := [(0, .ref 115), (1, .int a1), (2, .int a2)]) kc_196_507 rfl rfl rfl rfl rfl ((eh1.2.1 115 (by decide)).trans (F 115 _ hl_115)) (Nat.le_of_ble_eq_true rfl) (hJ _ _ _ _ (by decide)) (xm_le ml_26 rfl) rfl ?_
      refine xi_aload_n (pc' := 1) (x := 115) kc_26_0 rfl rfl ?_
      refine xi_iconst (pc' := 2) (v := 0) kc_26_1 rfl rfl ?_
      refine xi_putfield (pc' := 5) (fs' := [.int 0, .int 0, .ref 116, .ref 117, .ref 118, .ref 119, .ref 120, .ref 121, .ref 122, .ref 123, .ref 124, .ref 125, .ref 126, .ref 127, .ref 128, .ref 129, .int 4, .ref 130, .int 0, .ref 131, .ref 132, .ref 133, .ref 134, .int 0, .ref 135, .ref 136, .ref 137, .ref 138, .ref 139, .ref 140, .ref 141, .ref 142, .int 0, .int 0, .int 0, .ref 143, .ref 144, .ref 145, .ref 146, .ref 147, .ref 148, .int 0, .ref 149, .ref 150, .ref 151, .int 0, .ref 152, .ref 153, .ref 154, .ref 155, .ref 156, .ref 157, .ref 158, .ref 159, .int 0, .ref 160, .int 0, .ref 161, .ref 162, .ref 163, .ref 164, .int 0, .ref 165, .ref 166]) kc_26_2 rfl rfl rfl ((eh1.2.1 115 (by decide)).trans (F 115 _ hl_115)) rfl rfl rfl (Nat.le_of_ble_eq_true rfl) rfl (fun hh2 eh2 => ?_)
      refine xi_iload_n (pc' := 6) (x := a1) kc_26_5 rfl rfl ?_
      refine xi_static (mj := 25) (as := [.int a1]) (st1 := []) (lv0 := [(0, .int a1)]) kc_26_6 rfl rfl (Nat.le_of_ble_eq_true rfl) rfl rfl (Nat.le_of_ble_eq_true rfl) (hJ _ _ _ _ (by decide)) (xm_le ml_25 rfl) rfl ?_
      refine xi_iload_n (pc' := 1) (x := a1) kc_25_0 rfl rfl ?_
      refine xi_iconst (pc' := 2) (v := 0) kc_25_1 rfl rfl ?_
      refine xi_bipush (pc' := 4) (v := 11) kc_25_2 rfl rfl ?_
      refine xi_static (mj := 12) (as := [.int a1, .int 0, .int 11]) (st1 := []) (lv0 := [(0, .int a1), (1, .int 0), (2, .int 11)]) kc_25_4 rfl rfl (Nat.le_of_ble_eq_true rfl) rfl rfl (Nat.le_of_ble_eq_true rfl) (hJ _ _ _ _ (by decide)) (xm_le ml_12 rfl) rfl ?_
      refine xi_iload_n (pc' := 1) (x := a1) kc_12_0 rfl rfl ?_
      refine xi_iload_n (pc' := 2) (x := 0) kc_12_1 rfl rfl ?_
      refine xi_cmf (pc' := 5) kc_12_2 rfl (xc_lt_f (X := a1.toInt) (Y := 0) rfl (by decide) (by omega)) ?_
      refine xi_iload_n (pc' := 6) (x := a1) kc_12_5 rfl rfl ?_
      refine xi_iload_n (pc' := 7) (x := 11) kc_12_6 rfl rfl ?_
      refine xi_cmt (pc' := 14) kc_12_7 rfl (xc_gt_t (X := a1.toInt) (Y := 11) rfl (by decide) (by omega)) ?_
      refine xi_iconst (pc' := 15) (v := 0) kc_12_14 rfl rfl ?_
      refine xi_ireturn kc_12_15 mr_12 rfl ?_
      show xw J ov 98 25 (7, [(0, .int a1)], [.int 0], hh2) _
      refine xi_ireturn kc_25_7 mr_25 rfl ?_
      show xw J ov 99 26 (9, [(0, .ref 115), (1, .int a1), (2, .int a2)], [.int 0], hh2) _
      refine xi_iff (pc' := 12) kc_26_9 rfl rfl ?_
      refine xi_aload_n (pc' := 13) (x := 115) kc_26_12 rfl rfl ?_
      refine xi_iconst (pc' := 14) (v := (-1)) kc_26_13 rfl rfl ?_
      refine xi_virtual (mj := 13) (as := [.int (-1)]) (st1 := []) (lv0 := [(0, .ref 115), (1, .int (-1))]) kc_26_14 rfl rfl rfl rfl rfl eh2.1 (Nat.le_of_ble_eq_true rfl) (hJ _ _ _ _ (by decide)) (xm_le ml_13 rfl) rfl ?_
      refine xi_aload_n (pc' := 1) (x := 115) kc_13_0 rfl rfl ?_
      refine xi_getfield (pc' := 4) (v := .ref 140) kc_13_1 rfl rfl rfl eh2.1 rfl ?_
      refine xi_iload_n (pc' := 5) (x := (-1)) kc_13_4 rfl rfl ?_
      refine xi_ineg (pc' := 6) (v := 1) kc_13_5 rfl rfl ?_
      refine xi_dup2 (pc' := 7) kc_13_6 rfl ⟨rfl, rfl⟩ ?_
      refine xi_iaload (pc' := 8) (v := 0) kc_13_7 rfl ((eh2.2.1 140 (by decide)).trans ((eh1.2.1 140 (by decide)).trans (F 140 _ hl_140))) (by decide) rfl (xi_in (n := 7) (by decide) (by decide)) rfl ?_
      refine xi_iconst (pc' := 9) (v := 1) kc_13_8 rfl rfl ?_
      refine xi_iadd (pc' := 10) (v := 1) kc_13_9 rfl rfl ?_
      refine xi_iastore (pc' := 11) (x' := [0, 1, 0, 0, 0, 0, 0]) kc_13_10 rfl ((eh2.2.1 140 (by decide)).trans ((eh1.2.1 140 (by decide)).trans (F 140 _ hl_140))) rfl (xi_in (n := 7) (by decide) (by decide)) rfl (fun hh3 eh3 => ?_)
      refine xi_iload_n (pc' := 12) (x := (-1)) kc_13_11 rfl rfl ?_
      refine xi_ireturn kc_13_12 mr_13 rfl ?_
      show xw J ov 99 26 (17, [(0, .ref 115), (1, .int a1), (2, .int a2)], [.int (-1)], hh3) _
      refine xi_ireturn kc_26_17 mr_26 rfl ?_
      show xw J ov 100 196 (510, [(4, .int 0), (3, .ref 167), (2, .ref 115), (1, .ref 0), (0, .ref 1000000)], [.int (-1), .int (-1)], hh3) _
      refine xi_cmt (pc' := 1528) kc_196_510 rfl rfl ?_
      refine xi_iinc (pc' := 1531) (x := 0) (v := 6) (lv' := [(4, .int 6), (3, .ref 167), (2, .ref 115), (1, .ref 0), (0, .ref 1000000)]) kc_196_1528 rfl rfl rfl rfl (xm_lt ml_196 rfl) ?_
      refine xi_goto (pc' := 23) kc_196_1531 rfl ?_
      refine xi_iload (pc' := 25) (x := 6) kc_196_23 rfl rfl ?_
      refine xi_aload_n (pc' := 26) (x := 1000000) kc_196_25 rfl rfl ?_
      refine xi_arraylength (pc' := 27) (n := 6) (v := 6) kc_196_26 rfl (xl_lenO (by decide) hov0 rfl) rfl ?_
      refine xi_bipush (pc' := 29) (v := 6) kc_196_27 rfl rfl ?_
      refine xi_isub (pc' := 30) (v := 0) kc_196_29 rfl rfl ?_
      refine xi_cmt (pc' := 1534) kc_196_30 rfl rfl ?_
      refine xi_iconst (pc' := 1535) (v := 1) kc_196_1534 rfl rfl ?_
      refine xi_ireturn kc_196_1535 mr_196 rfl ?_
      refine ⟨rfl, ?_, ?_⟩
      · rw [eh3.2.2.1, eh2.2.2.1, eh1.2.2.1]; exact hn0
      · rw [eh3.2.2.2, eh2.2.2.2, eh1.2.2.2]; exact hz0
    · refine xi_cmf (pc' := 10) kc_105_7 rfl (xc_ge_f (X := a1.toInt) (Y := 12) rfl (by decide) (by omega)) ?_
      refine xi_iconst (pc' := 11) (v := 1) kc_105_10 rfl rfl ?_
      refine xi_goto (pc' := 15) kc_105_11 rfl ?_
      refine xi_ireturn kc_105_15 mr_105 rfl ?_
      show xw J ov 99 107 (4, [(0, .ref 0), (1, .int a1), (2, .int a2)], [.int 1], h0) _
      refine xi_ift (pc' := 13) kc_107_4 rfl rfl ?_
      refine xi_aload_n (pc' := 14) (x := 0) kc_107_13 rfl rfl ?_
      refine xi_getfield (pc' := 17) (v := .ref 1) kc_107_14 rfl rfl rfl (F 0 _ hl_0) rfl ?_
      refine xi_getfield (pc' := 20) (v := .ref 3) kc_107_17 rfl rfl rfl (F 1 _ hl_1) rfl ?_
      refine xi_iload_n (pc' := 21) (x := a1) kc_107_20 rfl rfl ?_
      by_cases c3 : a1.toInt = 0
      · have qa1 : a1 = 0 := xc_of (Eq.trans (by omega) (show (0 : Int) = (0 : Int32).toInt by decide))
        subst qa1
        refine xi_aaload (pc' := 22) (b := 29) kc_107_21 rfl (F 3 _ hl_3) rfl (xi_in (n := 12) (by decide) (by decide)) rfl ?_
        refine xi_astore_n (pc' := 23) (lv' := [(3, .ref 29), (0, .ref 0), (1, .int 0), (2, .int a2)]) kc_107_22 rfl rfl (xm_lt ml_107 rfl) ?_
        refine xi_iload_n (pc' := 24) (x := a2) kc_107_23 rfl rfl ?_
        by_cases c4 : a2.toInt = 0
        · refine xi_tsi (pc' := 64) (z := 0) kc_107_24 (by omega) rfl (by decide) ?_
          refine xi_aload_n (pc' := 65) (x := 29) kc_107_64 rfl rfl ?_
          refine xi_getfield (pc' := 68) (v := .int (-9)) kc_107_65 rfl rfl rfl (F 29 _ hl_29) rfl ?_
          refine xi_ireturn kc_107_68 mr_107 rfl ?_
          show xw J ov 100 196 (494, [(4, .int 0), (3, .ref 167), (2, .ref 115), (1, .ref 0), (0, .ref 1000000)], [.int (-9)], h0) _
          refine xi_aload_n (pc' := 495) (x := 115) kc_196_494 rfl rfl ?_
          refine xi_aload_n (pc' := 496) (x := 1000000) kc_196_495 rfl rfl ?_
          refine xi_iload (pc' := 498) (x := 0) kc_196_496 rfl rfl ?_
          refine xi_iconst (pc' := 499) (v := 1) kc_196_498 rfl rfl ?_
          refine xi_iadd (pc' := 500) (v := 1) kc_196_499 rfl rfl ?_
          refine xi_ialoadO (pc' := 501) (v := 0) kc_196_500 rfl (by decide) hov0 (xi_in (n := 6) (by decide) (by decide)) rfl ?_
          refine xi_aload_n (pc' := 502) (x := 1000000) kc_196_501 rfl rfl ?_
          refine xi_iload (pc' := 504) (x := 0) kc_196_502 rfl rfl ?_
          refine xi_iconst (pc' := 505) (v := 2) kc_196_504 rfl rfl ?_
          refine xi_iadd (pc' := 506) (v := 2) kc_196_505 rfl rfl ?_
          refine xi_ialoadO (pc' := 507) (v := a2) kc_196_506 rfl (by decide) hov0 (xi_in (n := 6) (by decide) (by decide)) rfl ?_
          refine xi_virtual (mj := 26) (as := [.int 0, .int a2]) (st1 := [.int (-9)]) (lv0 := [(0, .ref 115), (1, .int 0), (2, .int a2)]) kc_196_507 rfl rfl rfl rfl rfl (F 115 _ hl_115) (Nat.le_of_ble_eq_true rfl) (hJ _ _ _ _ (by decide)) (xm_le ml_26 rfl) rfl ?_
          refine xi_aload_n (pc' := 1) (x := 115) kc_26_0 rfl rfl ?_
          refine xi_iconst (pc' := 2) (v := 0) kc_26_1 rfl rfl ?_
          refine xi_putfield (pc' := 5) (fs' := [.int 0, .int 0, .ref 116, .ref 117, .ref 118, .ref 119, .ref 120, .ref 121, .ref 122, .ref 123, .ref 124, .ref 125, .ref 126, .ref 127, .ref 128, .ref 129, .int 4, .ref 130, .int 0, .ref 131, .ref 132, .ref 133, .ref 134, .int 0, .ref 135, .ref 136, .ref 137, .ref 138, .ref 139, .ref 140, .ref 141, .ref 142, .int 0, .int 0, .int 0, .ref 143, .ref 144, .ref 145, .ref 146, .ref 147, .ref 148, .int 0, .ref 149, .ref 150, .ref 151, .int 0, .ref 152, .ref 153, .ref 154, .ref 155, .ref 156, .ref 157, .ref 158, .ref 159, .int 0, .ref 160, .int 0, .ref 161, .ref 162, .ref 163, .ref 164, .int 0, .ref 165, .ref 166]) kc_26_2 rfl rfl rfl (F 115 _ hl_115) rfl rfl rfl (Nat.le_of_ble_eq_true rfl) rfl (fun hh1 eh1 => ?_)
          refine xi_iload_n (pc' := 6) (x := 0) kc_26_5 rfl rfl ?_
          refine xi_static (mj := 25) (as := [.int 0]) (st1 := []) (lv0 := [(0, .int 0)]) kc_26_6 rfl rfl (Nat.le_of_ble_eq_true rfl) rfl rfl (Nat.le_of_ble_eq_true rfl) (hJ _ _ _ _ (by decide)) (xm_le ml_25 rfl) rfl ?_
          refine xi_iload_n (pc' := 1) (x := 0) kc_25_0 rfl rfl ?_
          refine xi_iconst (pc' := 2) (v := 0) kc_25_1 rfl rfl ?_
          refine xi_bipush (pc' := 4) (v := 11) kc_25_2 rfl rfl ?_
          refine xi_static (mj := 12) (as := [.int 0, .int 0, .int 11]) (st1 := []) (lv0 := [(0, .int 0), (1, .int 0), (2, .int 11)]) kc_25_4 rfl rfl (Nat.le_of_ble_eq_true rfl) rfl rfl (Nat.le_of_ble_eq_true rfl) (hJ _ _ _ _ (by decide)) (xm_le ml_12 rfl) rfl ?_
          refine xi_iload_n (pc' := 1) (x := 0) kc_12_0 rfl rfl ?_
          refine xi_iload_n (pc' := 2) (x := 0) kc_12_1 rfl rfl ?_
          refine xi_cmf (pc' := 5) kc_12_2 rfl rfl ?_
          refine xi_iload_n (pc' := 6) (x := 0) kc_12_5 rfl rfl ?_
          refine xi_iload_n (pc' := 7) (x := 11) kc_12_6 rfl rfl ?_
          refine xi_cmf (pc' := 10) kc_12_7 rfl rfl ?_
          refine xi_iconst (pc' := 11) (v := 1) kc_12_10 rfl rfl ?_
          refine xi_goto (pc' := 15) kc_12_11 rfl ?_
          refine xi_ireturn kc_12_15 mr_12 rfl ?_
          show xw J ov 98 25 (7, [(0, .int 0)], [.int 1], hh1) _
          refine xi_ireturn kc_25_7 mr_25 rfl ?_
          show xw J ov 99 26 (9, [(0, .ref 115), (1, .int 0), (2, .int a2)], [.int 1], hh1) _
          refine xi_ift (pc' := 18) kc_26_9 rfl rfl ?_
          refine xi_iload_n (pc' := 19) (x := a2) kc_26_18 rfl rfl ?_
          refine xi_iconst (pc' := 20) (v := 0) kc_26_19 rfl rfl ?_
          refine xi_iconst (pc' := 21) (v := 5) kc_26_20 rfl rfl ?_
          refine xi_static (mj := 12) (as := [.int a2, .int 0, .int 5]) (st1 := []) (lv0 := [(0, .int a2), (1, .int 0), (2, .int 5)]) kc_26_21 rfl rfl (Nat.le_of_ble_eq_true rfl) rfl rfl (Nat.le_of_ble_eq_true rfl) (hJ _ _ _ _ (by decide)) (xm_le ml_12 rfl) rfl ?_
          refine xi_iload_n (pc' := 1) (x := a2) kc_12_0 rfl rfl ?_
          refine xi_iload_n (pc' := 2) (x := 0) kc_12_1 rfl rfl ?_
          refine xi_cmf (pc' := 5) kc_12_2 rfl (xc_lt_f (X := a2.toInt) (Y := 0) rfl (by decide) (by omega)) ?_
          refine xi_iload_n (pc' := 6) (x := a2) kc_12_5 rfl rfl ?_
          refine xi_iload_n (pc' := 7) (x := 5) kc_12_6 rfl rfl ?_
          refine xi_cmf (pc' := 10) kc_12_7 rfl (xc_gt_f (X := a2.toInt) (Y := 5) rfl (by decide) (by omega)) ?_
          refine xi_iconst (pc' := 11) (v := 1) kc_12_10 rfl rfl ?_
          refine xi_goto (pc' := 15) kc_12_11 rfl ?_
          refine xi_ireturn kc_12_15 mr_12 rfl ?_
          show xw J ov 99 26 (24, [(0, .ref 115), (1, .int 0), (2, .int a2)], [.int 1], hh1) _
          refine xi_ift (pc' := 34) kc_26_24 rfl rfl ?_
          refine xi_iload_n (pc' := 35) (x := a2) kc_26_34 rfl rfl ?_
          refine xi_tsi (pc' := 68) (z := 0) kc_26_35 (by omega) rfl (by decide) ?_
          refine xi_aload_n (pc' := 69) (x := 115) kc_26_68 rfl rfl ?_
          refine xi_getfield (pc' := 72) (v := .ref 125) kc_26_69 rfl rfl rfl eh1.1 rfl ?_
          refine xi_iload_n (pc' := 73) (x := 0) kc_26_72 rfl rfl ?_
          refine xi_iaload (pc' := 74) (v := (-9)) kc_26_73 rfl ((eh1.2.1 125 (by decide)).trans (F 125 _ hl_125)) (by decide) rfl (xi_in (n := 12) (by decide) (by decide)) rfl ?_
          refine xi_ireturn kc_26_74 mr_26 rfl ?_
          show xw J ov 100 196 (510, [(4, .int 0), (3, .ref 167), (2, .ref 115), (1, .ref 0), (0, .ref 1000000)], [.int (-9), .int (-9)], hh1) _
          refine xi_cmt (pc' := 1528) kc_196_510 rfl rfl ?_
          refine xi_iinc (pc' := 1531) (x := 0) (v := 6) (lv' := [(4, .int 6), (3, .ref 167), (2, .ref 115), (1, .ref 0), (0, .ref 1000000)]) kc_196_1528 rfl rfl rfl rfl (xm_lt ml_196 rfl) ?_
          refine xi_goto (pc' := 23) kc_196_1531 rfl ?_
          refine xi_iload (pc' := 25) (x := 6) kc_196_23 rfl rfl ?_
          refine xi_aload_n (pc' := 26) (x := 1000000) kc_196_25 rfl rfl ?_
          refine xi_arraylength (pc' := 27) (n := 6) (v := 6) kc_196_26 rfl (xl_lenO (by decide) hov0 rfl) rfl ?_
          refine xi_bipush (pc' := 29) (v := 6) kc_196_27 rfl rfl ?_
          refine xi_isub (pc' := 30) (v := 0) kc_196_29 rfl rfl ?_
          refine xi_cmt (pc' := 1534) kc_196_30 rfl rfl ?_
          refine xi_iconst (pc' := 1535) (v := 1) kc_196_1534 rfl rfl ?_
          refine xi_ireturn kc_196_1535 mr_196 rfl ?_
          refine ⟨rfl, ?_, ?_⟩
          · rw [eh1.2.2.1]; exact hn0
          · rw [eh1.2.2.2]; exact hz0
        by_cases c5 : a2.toInt = 1
        · refine xi_tsi (pc' := 69) (z := 1) kc_107_24 (by omega) rfl (by decide) ?_
          refine xi_aload_n (pc' := 70) (x := 29) kc_107_69 rfl rfl ?_
          refine xi_getfield (pc' := 73) (v := .int 0) kc_107_70 rfl rfl rfl (F 29 _ hl_29) rfl ?_
          refine xi_ireturn kc_107_73 mr_107 rfl ?_
          show xw J ov 100 196 (494, [(4, .int 0), (3, .ref 167), (2, .ref 115), (1, .ref 0), (0, .ref 1000000)], [.int 0], h0) _
          refine xi_aload_n (pc' := 495) (x := 115) kc_196_494 rfl rfl ?_
          refine xi_aload_n (pc' := 496) (x := 1000000) kc_196_495 rfl rfl ?_
          refine xi_iload (pc' := 498) (x := 0) kc_196_496 rfl rfl ?_
          refine xi_iconst (pc' := 499) (v := 1) kc_196_498 rfl rfl ?_
          refine xi_iadd (pc' := 500) (v := 1) kc_196_499 rfl rfl ?_
          refine xi_ialoadO (pc' := 501) (v := 0) kc_196_500 rfl (by decide) hov0 (xi_in (n := 6) (by decide) (by decide)) rfl ?_
          refine xi_aload_n (pc' := 502) (x := 1000000) kc_196_501 rfl rfl ?_
          refine xi_iload (pc' := 504) (x := 0) kc_196_502 rfl rfl ?_
          refine xi_iconst (pc' := 505) (v := 2) kc_196_504 rfl rfl ?_
          refine xi_iadd (pc' := 506) (v := 2) kc_196_505 rfl rfl ?_
          refine xi_ialoadO (pc' := 507) (v := a2) kc_196_506 rfl (by decide) hov0 (xi_in (n := 6) (by decide) (by decide)) rfl ?_
          refine xi_virtual (mj := 26) (as := [.int 0, .int a2]) (st1 := [.int 0]) (lv0 := [(0, .ref 115), (1, .int 0), (2, .int a2)]) kc_196_507 rfl rfl rfl rfl rfl (F 115 _ hl_115) (Nat.le_of_ble_eq_true rfl) (hJ _ _ _ _ (by decide)) (xm_le ml_26 rfl) rfl ?_
          refine xi_aload_n (pc' := 1) (x := 115) kc_26_0 rfl rfl ?_
          refine xi_iconst (pc' := 2) (v := 0) kc_26_1 rfl rfl ?_
          refine xi_putfield (pc' := 5) (fs' := [.int 0, .int 0, .ref 116, .ref 117, .ref 118, .ref 119, .ref 120, .ref 121, .ref 122, .ref 123, .ref 124, .ref 125, .ref 126, .ref 127, .ref 128, .ref 129, .int 4, .ref 130, .int 0, .ref 131, .ref 132, .ref 133, .ref 134, .int 0, .ref 135, .ref 136, .ref 137, .ref 138, .ref 139, .ref 140, .ref 141, .ref 142, .int 0, .int 0, .int 0, .ref 143, .ref 144, .ref 145, .ref 146, .ref 147, .ref 148, .int 0, .ref 149, .ref 150, .ref 151, .int 0, .ref 152, .ref 153, .ref 154, .ref 155, .ref 156, .ref 157, .ref 158, .ref 159, .int 0, .ref 160, .int 0, .ref 161, .ref 162, .ref 163, .ref 164, .int 0, .ref 165, .ref 166]) kc_26_2 rfl rfl rfl (F 115 _ hl_115) rfl rfl rfl (Nat.le_of_ble_eq_true rfl) rfl (fun hh1 eh1 => ?_)
          refine xi_iload_n (pc' := 6) (x := 0) kc_26_5 rfl rfl ?_
          refine xi_static (mj := 25) (as := [.int 0]) (st1 := []) (lv0 := [(0, .int 0)]) kc_26_6 rfl rfl (Nat.le_of_ble_eq_true rfl) rfl rfl (Nat.le_of_ble_eq_true rfl) (hJ _ _ _ _ (by decide)) (xm_le ml_25 rfl) rfl ?_
          refine xi_iload_n (pc' := 1) (x := 0) kc_25_0 rfl rfl ?_
          refine xi_iconst (pc' := 2) (v := 0) kc_25_1 rfl rfl ?_
          refine xi_bipush (pc' := 4) (v := 11) kc_25_2 rfl rfl ?_
          refine xi_static (mj := 12) (as := [.int 0, .int 0, .int 11]) (st1 := []) (lv0 := [(0, .int 0), (1, .int 0), (2, .int 11)]) kc_25_4 rfl rfl (Nat.le_of_ble_eq_true rfl) rfl rfl (Nat.le_of_ble_eq_true rfl) (hJ _ _ _ _ (by decide)) (xm_le ml_12 rfl) rfl ?_
          refine xi_iload_n (pc' := 1) (x := 0) kc_12_0 rfl rfl ?_
          refine xi_iload_n (pc' := 2) (x := 0) kc_12_1 rfl rfl ?_
          refine xi_cmf (pc' := 5) kc_12_2 rfl rfl ?_
          refine xi_iload_n (pc' := 6) (x := 0) kc_12_5 rfl rfl ?_
          refine xi_iload_n (pc' := 7) (x := 11) kc_12_6 rfl rfl ?_
          refine xi_cmf (pc' := 10) kc_12_7 rfl rfl ?_
          refine xi_iconst (pc' := 11) (v := 1) kc_12_10 rfl rfl ?_
          refine xi_goto (pc' := 15) kc_12_11 rfl ?_
          refine xi_ireturn kc_12_15 mr_12 rfl ?_
          show xw J ov 98 25 (7, [(0, .int 0)], [.int 1], hh1) _
          refine xi_ireturn kc_25_7 mr_25 rfl ?_
          show xw J ov 99 26 (9, [(0, .ref 115), (1, .int 0), (2, .int a2)], [.int 1], hh1) _
          refine xi_ift (pc' := 18) kc_26_9 rfl rfl ?_
          refine xi_iload_n (pc' := 19) (x := a2) kc_26_18 rfl rfl ?_
          refine xi_iconst (pc' := 20) (v := 0) kc_26_19 rfl rfl ?_
          refine xi_iconst (pc' := 21) (v := 5) kc_26_20 rfl rfl ?_
          refine xi_static (mj := 12) (as := [.int a2, .int 0, .int 5]) (st1 := []) (lv0 := [(0, .int a2), (1, .int 0), (2, .int 5)]) kc_26_21 rfl rfl (Nat.le_of_ble_eq_true rfl) rfl rfl (Nat.le_of_ble_eq_true rfl) (hJ _ _ _ _ (by decide)) (xm_le ml_12 rfl) rfl ?_
          refine xi_iload_n (pc' := 1) (x := a2) kc_12_0 rfl rfl ?_
          refine xi_iload_n (pc' := 2) (x := 0) kc_12_1 rfl rfl ?_
          refine xi_cmf (pc' := 5) kc_12_2 rfl (xc_lt_f (X := a2.toInt) (Y := 0) rfl (by decide) (by omega)) ?_
          refine xi_iload_n (pc' := 6) (x := a2) kc_12_5 rfl rfl ?_
          refine xi_iload_n (pc' := 7) (x := 5) kc_12_6 rfl rfl ?_
          refine xi_cmf (pc' := 10) kc_12_7 rfl (xc_gt_f (X := a2.toInt) (Y := 5) rfl (by decide) (by omega)) ?_
          refine xi_iconst (pc' := 11) (v := 1) kc_12_10 rfl rfl ?_
          refine xi_goto (pc' := 15) kc_12_11 rfl ?_
          refine xi_ireturn kc_12_15 mr_12 rfl ?_
          show xw J ov 99 26 (24, [(0, .ref 115), (1, .int 0), (2, .int a2)], [.int 1], hh1) _
          refine xi_ift (pc' := 34) kc_26_24 rfl rfl ?_
          refine xi_iload_n (pc' := 35) (x := a2) kc_26_34 rfl rfl ?_
          refine xi_tsi (pc' := 75) (z := 1) kc_26_35 (by omega) rfl (by decide) ?_
          refine xi_aload_n (pc' := 76) (x := 115) kc_26_75 rfl rfl ?_
          refine xi_getfield (pc' := 79) (v := .ref 126) kc_26_76 rfl rfl rfl eh1.1 rfl ?_
          refine xi_iload_n (pc' := 80) (x := 0) kc_26_79 rfl rfl ?_
          refine xi_iaload (pc' := 81) (v := 0) kc_26_80 rfl ((eh1.2.1 126 (by decide)).trans (F 126 _ hl_126)) (by decide) rfl (xi_in (n := 12) (by decide) (by decide)) rfl ?_
          refine xi_ireturn kc_26_81 mr_26 rfl ?_
          show xw J ov 100 196 (510, [(4, .int 0), (3, .ref 167), (2, .ref 115), (1, .ref 0), (0, .ref 1000000)], [.int 0, .int 0], hh1) _
          refine xi_cmt (pc' := 1528) kc_196_510 rfl rfl ?_
          refine xi_iinc (pc' := 1531) (x := 0) (v := 6) (lv' := [(4, .int 6), (3, .ref 167), (2, .ref 115), (1, .ref 0), (0, .ref 1000000)]) kc_196_1528 rfl rfl rfl rfl (xm_lt ml_196 rfl) ?_
          refine xi_goto (pc' := 23) kc_196_1531 rfl ?_
          refine xi_iload (pc' := 25) (x := 6) kc_196_23 rfl rfl ?_
          refine xi_aload_n (pc' := 26) (x := 1000000) kc_196_25 rfl rfl ?_
          refine xi_arraylength (pc' := 27) (n := 6) (v := 6) kc_196_26 rfl (xl_lenO (by decide) hov0 rfl) rfl ?_
          refine xi_bipush (pc' := 29) (v := 6) kc_196_27 rfl rfl ?_
          refine xi_isub (pc' := 30) (v := 0) kc_196_29 rfl rfl ?_
          refine xi_cmt (pc' := 1534) kc_196_30 rfl rfl ?_
          refine xi_iconst (pc' := 1535) (v := 1) kc_196_1534 rfl rfl ?_
          refine xi_ireturn kc_196_1535 mr_196 rfl ?_
          refine ⟨rfl, ?_, ?_⟩
          · rw [eh1.2.2.1]; exact hn0
          · rw [eh1.2.2.2]; exact hz0
        by_cases c6 : a2.toInt = 2
        · refine xi_tsi (pc' := 74) (z := 2) kc_107_24 (by omega) rfl (by decide) ?_
          refine xi_aload_n (pc' := 75) (x := 29) kc_107_74 rfl rfl ?_
          refine xi_getfield (pc' := 78) (v := .int 0) kc_107_75 rfl rfl rfl (F 29 _ hl_29) rfl ?_
          refine xi_ift (pc' := 85) kc_107_78 rfl rfl ?_
          refine xi_iconst (pc' := 86) (v := 0) kc_107_85 rfl rfl ?_
          refine xi_ireturn kc_107_86 mr_107 rfl ?_
          show xw J ov 100 196 (494, [(4, .int 0), (3, .ref 167), (2, .ref 115), (1, .ref 0), (0, .ref 1000000)], [.int 0], h0) _
          refine xi_aload_n (pc' := 495) (x := 115) kc_196_494 rfl rfl ?_
          refine xi_aload_n (pc' := 496) (x := 1000000) kc_196_495 rfl rfl ?_
          refine xi_iload (pc' := 498) (x := 0) kc_196_496 rfl rfl ?_
          refine xi_iconst (pc' := 499) (v := 1) kc_196_498 rfl rfl ?_
          refine xi_iadd (pc' := 500) (v := 1) kc_196_499 rfl rfl ?_
          refine xi_ialoadO (pc' := 501) (v := 0) kc_196_500 rfl (by decide) hov0 (xi_in (n := 6) (by decide) (by decide)) rfl ?_
          refine xi_aload_n (pc' := 502) (x := 1000000) kc_196_501 rfl rfl ?_
          refine xi_iload (pc' := 504) (x := 0) kc_196_502 rfl rfl ?_
          refine xi_iconst (pc' := 505) (v := 2) kc_196_504 rfl rfl ?_
          refine xi_iadd (pc' := 506) (v := 2) kc_196_505 rfl rfl ?_
          refine xi_ialoadO (pc' := 507) (v := a2) kc_196_506 rfl (by decide) hov0 (xi_in (n := 6) (by decide) (by decide)) rfl ?_
          refine xi_virtual (mj := 26) (as := [.int 0, .int a2]) (st1 := [.int 0]) (lv0 := [(0, .ref 115), (1, .int 0), (2, .int a2)]) kc_196_507 rfl rfl rfl rfl rfl (F 115 _ hl_115) (Nat.le_of_ble_eq_true rfl) (hJ _ _ _ _ (by decide)) (xm_le ml_26 rfl) rfl ?_
          refine xi_aload_n (pc' := 1) (x := 115) kc_26_0 rfl rfl ?_
          refine xi_iconst (pc' := 2) (v := 0) kc_26_1 rfl rfl ?_
          refine xi_putfield (pc' := 5) (fs' := [.int 0, .int 0, .ref 116, .ref 117, .ref 118, .ref 119, .ref 120, .ref 121, .ref 122, .ref 123, .ref 124, .ref 125, .ref 126, .ref 127, .ref 128, .ref 129, .int 4, .ref 130, .int 0, .ref 131, .ref 132, .ref 133, .ref 134, .int 0, .ref 135, .ref 136, .ref 137, .ref 138, .ref 139, .ref 140, .ref 141, .ref 142, .int 0, .int 0, .int 0, .ref 143, .ref 144, .ref 145, .ref 146, .ref 147, .ref 148, .int 0, .ref 149, .ref 150, .ref 151, .int 0, .ref 152, .ref 153, .ref 154, .ref 155, .ref 156, .ref 157, .ref 158, .ref 159, .int 0, .ref 160, .int 0, .ref 161, .ref 162, .ref 163, .ref 164, .int 0, .ref 165, .ref 166]) kc_26_2 rfl rfl rfl (F 115 _ hl_115) rfl rfl rfl (Nat.le_of_ble_eq_true rfl) rfl (fun hh1 eh1 => ?_)
          refine xi_iload_n (pc' := 6) (x := 0) kc_26_5 rfl rfl ?_
          refine xi_static (mj := 25) (as := [.int 0]) (st1 := []) (lv0 := [(0, .int 0)]) kc_26_6 rfl rfl (Nat.le_of_ble_eq_true rfl) rfl rfl (Nat.le_of_ble_eq_true rfl) (hJ _ _ _ _ (by decide)) (xm_le ml_25 rfl) rfl ?_
          refine xi_iload_n (pc' := 1) (x := 0) kc_25_0 rfl rfl ?_
          refine xi_iconst (pc' := 2) (v := 0) kc_25_1 rfl rfl ?_
          refine xi_bipush (pc' := 4) (v := 11) kc_25_2 rfl rfl ?_
          refine xi_static (mj := 12) (as := [.int 0, .int 0, .int 11]) (st1 := []) (lv0 := [(0, .int 0), (1, .int 0), (2, .int 11)]) kc_25_4 rfl rfl (Nat.le_of_ble_eq_true rfl) rfl rfl (Nat.le_of_ble_eq_true rfl) (hJ _ _ _ _ (by decide)) (xm_le ml_12 rfl) rfl ?_
          refine xi_iload_n (pc' := 1) (x := 0) kc_12_0 rfl rfl ?_
          refine xi_iload_n (pc' := 2) (x := 0) kc_12_1 rfl rfl ?_
          refine xi_cmf (pc' := 5) kc_12_2 rfl rfl ?_
          refine xi_iload_n (pc' := 6) (x := 0) kc_12_5 rfl rfl ?_
          refine xi_iload_n (pc' := 7) (x := 11) kc_12_6 rfl rfl ?_
          refine xi_cmf (pc' := 10) kc_12_7 rfl rfl ?_
          refine xi_iconst (pc' := 11) (v := 1) kc_12_10 rfl rfl ?_
          refine xi_goto (pc' := 15) kc_12_11 rfl ?_
          refine xi_ireturn kc_12_15 mr_12 rfl ?_
          show xw J ov 98 25 (7, [(0, .int 0)], [.int 1], hh1) _
          refine xi_ireturn kc_25_7 mr_25 rfl ?_
          show xw J ov 99 26 (9, [(0, .ref 115), (1, .int 0), (2, .int a2)], [.int 1], hh1) _
          refine xi_ift (pc' := 18) kc_26_9 rfl rfl ?_
          refine xi_iload_n (pc' := 19) (x := a2) kc_26_18 rfl rfl ?_
          refine xi_iconst (pc' := 20) (v := 0) kc_26_19 rfl rfl ?_
          refine xi_iconst (pc' := 21) (v := 5) kc_26_20 rfl rfl ?_
          refine xi_static (mj := 12) (as := [.int a2, .int 0, .int 5]) (st1 := []) (lv0 := [(0, .int a2), (1, .int 0), (2, .int 5)]) kc_26_21 rfl rfl (Nat.le_of_ble_eq_true rfl) rfl rfl (Nat.le_of_ble_eq_true rfl) (hJ _ _ _ _ (by decide)) (xm_le ml_12 rfl) rfl ?_
          refine xi_iload_n (pc' := 1) (x := a2) kc_12_0 rfl rfl ?_
          refine xi_iload_n (pc' := 2) (x := 0) kc_12_1 rfl rfl ?_
          refine xi_cmf (pc' := 5) kc_12_2 rfl (xc_lt_f (X := a2.toInt) (Y := 0) rfl (by decide) (by omega)) ?_
          refine xi_iload_n (pc' := 6) (x := a2) kc_12_5 rfl rfl ?_
          refine xi_iload_n (pc' := 7) (x := 5) kc_12_6 rfl rfl ?_
          refine xi_cmf (pc' := 10) kc_12_7 rfl (xc_gt_f (X := a2.toInt) (Y := 5) rfl (by decide) (by omega)) ?_
          refine xi_iconst (pc' := 11) (v := 1) kc_12_10 rfl rfl ?_
          refine xi_goto (pc' := 15) kc_12_11 rfl ?_
          refine xi_ireturn kc_12_15 mr_12 rfl ?_
          show xw J ov 99 26 (24, [(0, .ref 115), (1, .int 0), (2, .int a2)], [.int 1], hh1) _
          refine xi_ift (pc' := 34) kc_26_24 rfl rfl ?_
          refine xi_iload_n (pc' := 35) (x := a2) kc_26_34 rfl rfl ?_
          refine xi_tsi (pc' := 82) (z := 2) kc_26_35 (by omega) rfl (by decide) ?_
          refine xi_aload_n (pc' := 83) (x := 115) kc_26_82 rfl rfl ?_
          refine xi_getfield (pc' := 86) (v := .ref 127) kc_26_83 rfl rfl rfl eh1.1 rfl ?_
          refine xi_iload_n (pc' := 87) (x := 0) kc_26_86 rfl rfl ?_
          refine xi_baload (pc' := 88) (v := 0) kc_26_87 rfl ((eh1.2.1 127 (by decide)).trans (F 127 _ hl_127)) rfl (xi_in (n := 12) (by decide) (by decide)) rfl ?_
          refine xi_ift (pc' := 95) kc_26_88 rfl rfl ?_
          refine xi_iconst (pc' := 96) (v := 0) kc_26_95 rfl rfl ?_
          refine xi_ireturn kc_26_96 mr_26 rfl ?_
          show xw J ov 100 196 (510, [(4, .int 0), (3, .ref 167), (2, .ref 115), (1, .ref 0), (0, .ref 1000000)], [.int 0, .int 0], hh1) _
          refine xi_cmt (pc' := 1528) kc_196_510 rfl rfl ?_
          refine xi_iinc (pc' := 1531) (x := 0) (v := 6) (lv' := [(4, .int 6), (3, .ref 167), (2, .ref 115), (1, .ref 0), (0, .ref 1000000)]) kc_196_1528 rfl rfl rfl rfl (xm_lt ml_196 rfl) ?_
          refine xi_goto (pc' := 23) kc_196_1531 rfl ?_
          refine xi_iload (pc' := 25) (x := 6) kc_196_23 rfl rfl ?_
          refine xi_aload_n (pc' := 26) (x := 1000000) kc_196_25 rfl rfl ?_
          refine xi_arraylength (pc' := 27) (n := 6) (v := 6) kc_196_26 rfl (xl_lenO (by decide) hov0 rfl) rfl ?_
          refine xi_bipush (pc' := 29) (v := 6) kc_196_27 rfl rfl ?_
          refine xi_isub (pc' := 30) (v := 0) kc_196_29 rfl rfl ?_
          refine xi_cmt (pc' := 1534) kc_196_30 rfl rfl ?_
          refine xi_iconst (pc' := 1535) (v := 1) kc_196_1534 rfl rfl ?_
          refine xi_ireturn kc_196_1535 mr_196 rfl ?_
          refine ⟨rfl, ?_, ?_⟩
          · rw [eh1.2.2.1]; exact hn0
          · rw [eh1.2.2.2]; exact hz0
        by_cases c7 : a2.toInt = 3
        · refine xi_tsi (pc' := 87) (z := 3) kc_107_24 (by omega) rfl (by decide) ?_
          refine xi_aload_n (pc' := 88) (x := 0) kc_107_87 rfl rfl ?_
          refine xi_getfield (pc' := 91) (v := .ref 63) kc_107_88 rfl rfl rfl (F 0 _ hl_0) rfl ?_
          refine xi_getfield (pc' := 94) (v := .ref 65) kc_107_91 rfl rfl rfl (F 63 _ hl_63) rfl ?_
          refine xi_iload_n (pc' := 95) (x := 0) kc_107_94 rfl rfl ?_
          refine xi_iaload (pc' := 96) (v := 0) kc_107_95 rfl (F 65 _ hl_65) (by decide) rfl (xi_in (n := 12) (by decide) (by decide)) rfl ?_
          refine xi_ireturn kc_107_96 mr_107 rfl ?_
          show xw J ov 100 196 (494, [(4, .int 0), (3, .ref 167), (2, .ref 115), (1, .ref 0), (0, .ref 1000000)], [.int 0], h0) _
          refine xi_aload_n (pc' := 495) (x := 115) kc_196_494 rfl rfl ?_
          refine xi_aload_n (pc' := 496) (x := 1000000) kc_196_495 rfl rfl ?_
          refine xi_iload (pc' := 498) (x := 0) kc_196_496 rfl rfl ?_
          refine xi_iconst (pc' := 499) (v := 1) kc_196_498 rfl rfl ?_
          refine xi_iadd (pc' := 500) (v := 1) kc_196_499 rfl rfl ?_
          refine xi_ialoadO (pc' := 501) (v := 0) kc_196_500 rfl (by decide) hov0 (xi_in (n := 6) (by decide) (by decide)) rfl ?_
          refine xi_aload_n (pc' := 502) (x := 1000000) kc_196_501 rfl rfl ?_
          refine xi_iload (pc' := 504) (x := 0) kc_196_502 rfl rfl ?_
          refine xi_iconst (pc' := 505) (v := 2) kc_196_504 rfl rfl ?_
          refine xi_iadd (pc' := 506) (v := 2) kc_196_505 rfl rfl ?_
          refine xi_ialoadO (pc' := 507) (v := a2) kc_196_506 rfl (by decide) hov0 (xi_in (n := 6) (by decide) (by decide)) rfl ?_
          refine xi_virtual (mj := 26) (as := [.int 0, .int a2]) (st1 := [.int 0]) (lv0 := [(0, .ref 115), (1, .int 0), (2, .int a2)]) kc_196_507 rfl rfl rfl rfl rfl (F 115 _ hl_115) (Nat.le_of_ble_eq_true rfl) (hJ _ _ _ _ (by decide)) (xm_le ml_26 rfl) rfl ?_
          refine xi_aload_n (pc' := 1) (x := 115) kc_26_0 rfl rfl ?_
          refine xi_iconst (pc' := 2) (v := 0) kc_26_1 rfl rfl ?_
          refine xi_putfield (pc' := 5) (fs' := [.int 0, .int 0, .ref 116, .ref 117, .ref 118, .ref 119, .ref 120, .ref 121, .ref 122, .ref 123, .ref 124, .ref 125, .ref 126, .ref 127, .ref 128, .ref 129, .int 4, .ref 130, .int 0, .ref 131, .ref 132, .ref 133, .ref 134, .int 0, .ref 135, .ref 136, .ref 137, .ref 138, .ref 139, .ref 140, .ref 141, .ref 142, .int 0, .int 0, .int 0, .ref 143, .ref 144, .ref 145, .ref 146, .ref 147, .ref 148, .int 0, .ref 149, .ref 150, .ref 151, .int 0, .ref 152, .ref 153, .ref 154, .ref 155, .ref 156, .ref 157, .ref 158, .ref 159, .int 0, .ref 160, .int 0, .ref 161, .ref 162, .ref 163, .ref 164, .int 0, .ref 165, .ref 166]) kc_26_2 rfl rfl rfl (F 115 _ hl_115) rfl rfl rfl (Nat.le_of_ble_eq_true rfl) rfl (fun hh1 eh1 => ?_)
          refine xi_iload_n (pc' := 6) (x := 0) kc_26_5 rfl rfl ?_
          refine xi_static (mj := 25) (as := [.int 0]) (st1 := []) (lv0 := [(0, .int 0)]) kc_26_6 rfl rfl (Nat.le_of_ble_eq_true rfl) rfl rfl (Nat.le_of_ble_eq_true rfl) (hJ _ _ _ _ (by decide)) (xm_le ml_25 rfl) rfl ?_
          refine xi_iload_n (pc' := 1) (x := 0) kc_25_0 rfl rfl ?_
          refine xi_iconst (pc' := 2) (v := 0) kc_25_1 rfl rfl ?_
          refine xi_bipush (pc' := 4) (v := 11) kc_25_2 rfl rfl ?_
          refine xi_static (mj := 12) (as := [.int 0, .int 0, .int 11]) (st1 := []) (lv0 := [(0, .int 0), (1, .int 0), (2, .int 11)]) kc_25_4 rfl rfl (Nat.le_of_ble_eq_true rfl) rfl rfl (Nat.le_of_ble_eq_true rfl) (hJ _ _ _ _ (by decide)) (xm_le ml_12 rfl) rfl ?_
          refine xi_iload_n (pc' := 1) (x := 0) kc_12_0 rfl rfl ?_
          refine xi_iload_n (pc' := 2) (x := 0) kc_12_1 rfl rfl ?_
          refine xi_cmf (pc' := 5) kc_12_2 rfl rfl ?_
          refine xi_iload_n (pc' := 6) (x := 0) kc_12_5 rfl rfl ?_
          refine xi_iload_n (pc' := 7) (x := 11) kc_12_6 rfl rfl ?_
          refine xi_cmf (pc' := 10) kc_12_7 rfl rfl ?_
          refine xi_iconst (pc' := 11) (v := 1) kc_12_10 rfl rfl ?_
          refine xi_goto (pc' := 15) kc_12_11 rfl ?_
          refine xi_ireturn kc_12_15 mr_12 rfl ?_
          show xw J ov 98 25 (7, [(0, .int 0)], [.int 1], hh1) _
          refine xi_ireturn kc_25_7 mr_25 rfl ?_
          show xw J ov 99 26 (9, [(0, .ref 115), (1, .int 0), (2, .int a2)], [.int 1], hh1) _
          refine xi_ift (pc' := 18) kc_26_9 rfl rfl ?_
          refine xi_iload_n (pc' := 19) (x := a2) kc_26_18 rfl rfl ?_
          refine xi_iconst (pc' := 20) (v := 0) kc_26_19 rfl rfl ?_
          refine xi_iconst (pc' := 21) (v := 5) kc_26_20 rfl rfl ?_
          refine xi_static (mj := 12) (as := [.int a2, .int 0, .int 5]) (st1 := []) (lv0 := [(0, .int a2), (1, .int 0), (2, .int 5)]) kc_26_21 rfl rfl (Nat.le_of_ble_eq_true rfl) rfl rfl (Nat.le_of_ble_eq_true rfl) (hJ _ _ _ _ (by decide)) (xm_le ml_12 rfl) rfl ?_
          refine xi_iload_n (pc' := 1) (x := a2) kc_12_0 rfl rfl ?_
          refine xi_iload_n (pc' := 2) (x := 0) kc_12_1 rfl rfl ?_
          refine xi_cmf (pc' := 5) kc_12_2 rfl (xc_lt_f (X := a2.toInt) (Y := 0) rfl (by decide) (by omega)) ?_
          refine xi_iload_n (pc' := 6) (x := a2) kc_12_5 rfl rfl ?_
          refine xi_iload_n (pc' := 7) (x := 5) kc_12_6 rfl rfl ?_
          refine xi_cmf (pc' := 10) kc_12_7 rfl (xc_gt_f (X := a2.toInt) (Y := 5) rfl (by decide) (by omega)) ?_
          refine xi_iconst (pc' := 11) (v := 1) kc_12_10 rfl rfl ?_
          refine xi_goto (pc' := 15) kc_12_11 rfl ?_
          refine xi_ireturn kc_12_15 mr_12 rfl ?_
          show xw J ov 99 26 (24, [(0, .ref 115), (1, .int 0), (2, .int a2)], [.int 1], hh1) _
          refine xi_ift (pc' := 34) kc_26_24 rfl rfl ?_
          refine xi_iload_n (pc' := 35) (x := a2) kc_26_34 rfl rfl ?_
          refine xi_tsi (pc' := 97) (z := 3) kc_26_35 (by omega) rfl (by decide) ?_
          refine xi_aload_n (pc' := 98) (x := 115) kc_26_97 rfl rfl ?_
          refine xi_getfield (pc' := 101) (v := .ref 128) kc_26_98 rfl rfl rfl eh1.1 rfl ?_
          refine xi_iload_n (pc' := 102) (x := 0) kc_26_101 rfl rfl ?_
          refine xi_iaload (pc' := 103) (v := 0) kc_26_102 rfl ((eh1.2.1 128 (by decide)).trans (F 128 _ hl_128)) (by decide) rfl (xi_in (n := 12) (by decide) (by decide)) rfl ?_
          refine xi_ireturn kc_26_103 mr_26 rfl ?_
          show xw J ov 100 196 (510, [(4, .int 0), (3, .ref 167), (2, .ref 115), (1, .ref 0), (0, .ref 1000000)], [.int 0, .int 0], hh1) _
          refine xi_cmt (pc' := 1528) kc_196_510 rfl rfl ?_
          refine xi_iinc (pc' := 1531) (x := 0) (v := 6) (lv' := [(4, .int 6), (3, .ref 167), (2, .ref 115), (1, .ref 0), (0, .ref 1000000)]) kc_196_1528 rfl rfl rfl rfl (xm_lt ml_196 rfl) ?_
          refine xi_goto (pc' := 23) kc_196_1531 rfl ?_
          refine xi_iload (pc' := 25) (x := 6) kc_196_23 rfl rfl ?_
          refine xi_aload_n (pc' := 26) (x := 1000000) kc_196_25 rfl rfl ?_
          refine xi_arraylength (pc' := 27) (n := 6) (v := 6) kc_196_26 rfl (xl_lenO (by decide) hov0 rfl) rfl ?_
          refine xi_bipush (pc' := 29) (v := 6) kc_196_27 rfl rfl ?_
          refine xi_isub (pc' := 30) (v := 0) kc_196_29 rfl rfl ?_
          refine xi_cmt (pc' := 1534) kc_196_30 rfl rfl ?_
          refine xi_iconst (pc' := 1535) (v := 1) kc_196_1534 rfl rfl ?_
          refine xi_ireturn kc_196_1535 mr_196 rfl ?_
          refine ⟨rfl, ?_, ?_⟩
          · rw [eh1.2.2.1]; exact hn0
          · rw [eh1.2.2.2]; exact hz0
        by_cases c8 : a2.toInt = 4
        · refine xi_tsi (pc' := 97) (z := 4) kc_107_24 (by omega) rfl (by decide) ?_
          refine xi_aload_n (pc' := 98) (x := 29) kc_107_97 rfl rfl ?_
          refine xi_getfield (pc' := 101) (v := .int 0) kc_107_98 rfl rfl rfl (F 29 _ hl_29) rfl ?_
          refine xi_ireturn kc_107_101 mr_107 rfl ?_
          show xw J ov 100 196 (494, [(4, .int 0), (3, .ref 167), (2, .ref 115), (1, .ref 0), (0, .ref 1000000)], [.int 0], h0) _
          refine xi_aload_n (pc' := 495) (x := 115) kc_196_494 rfl rfl ?_
          refine xi_aload_n (pc' := 496) (x := 1000000) kc_196_495 rfl rfl ?_
          refine xi_iload (pc' := 498) (x := 0) kc_196_496 rfl rfl ?_
          refine xi_iconst (pc' := 499) (v := 1) kc_196_498 rfl rfl ?_
          refine xi_iadd (pc' := 500) (v := 1) kc_196_499 rfl rfl ?_
          refine xi_ialoadO (pc' := 501) (v := 0) kc_196_500 rfl (by decide) hov0 (xi_in (n := 6) (by decide) (by decide)) rfl ?_
          refine xi_aload_n (pc' := 502) (x := 1000000) kc_196_501 rfl rfl ?_
          refine xi_iload (pc' := 504) (x := 0) kc_196_502 rfl rfl ?_
          refine xi_iconst (pc' := 505) (v := 2) kc_196_504 rfl rfl ?_
          refine xi_iadd (pc' := 506) (v := 2) kc_196_505 rfl rfl ?_
          refine xi_ialoadO (pc' := 507) (v := a2) kc_196_506 rfl (by decide) hov0 (xi_in (n := 6) (by decide) (by decide)) rfl ?_
          refine xi_virtual (mj := 26) (as := [.int 0, .int a2]) (st1 := [.int 0]) (lv0 := [(0, .ref 115), (1, .int 0), (2, .int a2)]) kc_196_507 rfl rfl rfl rfl rfl (F 115 _ hl_115) (Nat.le_of_ble_eq_true rfl) (hJ _ _ _ _ (by decide)) (xm_le ml_26 rfl) rfl ?_
          refine xi_aload_n (pc' := 1) (x := 115) kc_26_0 rfl rfl ?_
          refine xi_iconst (pc' := 2) (v := 0) kc_26_1 rfl rfl ?_
          refine xi_putfield (pc' := 5) (fs' := [.int 0, .int 0, .ref 116, .ref 117, .ref 118, .ref 119, .ref 120, .ref 121, .ref 122, .ref 123, .ref 124, .ref 125, .ref 126, .ref 127, .ref 128, .ref 129, .int 4, .ref 130, .int 0, .ref 131, .ref 132, .ref 133, .ref 134, .int 0, .ref 135, .ref 136, .ref 137, .ref 138, .ref 139, .ref 140, .ref 141, .ref 142, .int 0, .int 0, .int 0, .ref 143, .ref 144, .ref 145, .ref 146, .ref 147, .ref 148, .int 0, .ref 149, .ref 150, .ref 151, .int 0, .ref 152, .ref 153, .ref 154, .ref 155, .ref 156, .ref 157, .ref 158, .ref 159, .int 0, .ref 160, .int 0, .ref 161, .ref 162, .ref 163, .ref 164, .int 0, .ref 165, .ref 166]) kc_26_2 rfl rfl rfl (F 115 _ hl_115) rfl rfl rfl (Nat.le_of_ble_eq_true rfl) rfl (fun hh1 eh1 => ?_)
          refine xi_iload_n (pc' := 6) (x := 0) kc_26_5 rfl rfl ?_
          refine xi_static (mj := 25) (as := [.int 0]) (st1 := []) (lv0 := [(0, .int 0)]) kc_26_6 rfl rfl (Nat.le_of_ble_eq_true rfl) rfl rfl (Nat.le_of_ble_eq_true rfl) (hJ _ _ _ _ (by decide)) (xm_le ml_25 rfl) rfl ?_
          refine xi_iload_n (pc' := 1) (x := 0) kc_25_0 rfl rfl ?_
          refine xi_iconst (pc' := 2) (v := 0) kc_25_1 rfl rfl ?_
          refine xi_bipush (pc' := 4) (v := 11) kc_25_2 rfl rfl ?_
          refine xi_static (mj := 12) (as := [.int 0, .int 0, .int 11]) (st1 := []) (lv0 := [(0, .int 0), (1, .int 0), (2, .int 11)]) kc_25_4 rfl rfl (Nat.le_of_ble_eq_true rfl) rfl rfl (Nat.le_of_ble_eq_true rfl) (hJ _ _ _ _ (by decide)) (xm_le ml_12 rfl) rfl ?_
          refine xi_iload_n (pc' := 1) (x := 0) kc_12_0 rfl rfl ?_
          refine xi_iload_n (pc' := 2) (x := 0) kc_12_1 rfl rfl ?_
          refine xi_cmf (pc' := 5) kc_12_2 rfl rfl ?_
          refine xi_iload_n (pc' := 6) (x := 0) kc_12_5 rfl rfl ?_
          refine xi_iload_n (pc' := 7) (x := 11) kc_12_6 rfl rfl ?_
          refine xi_cmf (pc' := 10) kc_12_7 rfl rfl ?_
          refine xi_iconst (pc' := 11) (v := 1) kc_12_10 rfl rfl ?_
          refine xi_goto (pc' := 15) kc_12_11 rfl ?_
          refine xi_ireturn kc_12_15 mr_12 rfl ?_
          show xw J ov 98 25 (7, [(0, .int 0)], [.int 1], hh1) _
          refine xi_ireturn kc_25_7 mr_25 rfl ?_
          show xw J ov 99 26 (9, [(0, .ref 115), (1, .int 0), (2, .int a2)], [.int 1], hh1) _
          refine xi_ift (pc' := 18) kc_26_9 rfl rfl ?_
          refine xi_iload_n (pc' := 19) (x := a2) kc_26_18 rfl rfl ?_
          refine xi_iconst (pc' := 20) (v := 0) kc_26_19 rfl rfl ?_
          refine xi_iconst (pc' := 21) (v := 5) kc_26_20 rfl rfl ?_
          refine xi_static (mj := 12) (as := [.int a2, .int 0, .int 5]) (st1 := []) (lv0 := [(0, .int a2), (1, .int 0), (2, .int 5)]) kc_26_21 rfl rfl (Nat.le_of_ble_eq_true rfl) rfl rfl (Nat.le_of_ble_eq_true rfl) (hJ _ _ _ _ (by decide)) (xm_le ml_12 rfl) rfl ?_
          refine xi_iload_n (pc' := 1) (x := a2) kc_12_0 rfl rfl ?_
          refine xi_iload_n (pc' := 2) (x := 0) kc_12_1 rfl rfl ?_
          refine xi_cmf (pc' := 5) kc_12_2 rfl (xc_lt_f (X := a2.toInt) (Y := 0) rfl (by decide) (by omega)) ?_
          refine xi_iload_n (pc' := 6) (x := a2) kc_12_5 rfl rfl ?_
          refine xi_iload_n (pc' := 7) (x := 5) kc_12_6 rfl rfl ?_
          refine xi_cmf (pc' := 10) kc_12_7 rfl (xc_gt_f (X := a2.toInt) (Y := 5) rfl (by decide) (by omega)) ?_
          refine xi_iconst (pc' := 11) (v := 1) kc_12_10 rfl rfl ?_
          refine xi_goto (pc' := 15) kc_12_11 rfl ?_
          refine xi_ireturn kc_12_15 mr_12 rfl ?_
          show xw J ov 99 26 (24, [(0, .ref 115), (1, .int 0), (2, .int a2)], [.int 1], hh1) _
          refine xi_ift (pc' := 34) kc_26_24 rfl rfl ?_
          refine xi_iload_n (pc' := 35) (x := a2) kc_26_34 rfl rfl ?_
          refine xi_tsi (pc' := 104) (z := 4) kc_26_35 (by omega) rfl (by decide) ?_
          refine xi_aload_n (pc' := 105) (x := 115) kc_26_104 rfl rfl ?_
          refine xi_getfield (pc' := 108) (v := .ref 129) kc_26_105 rfl rfl rfl eh1.1 rfl ?_
          refine xi_iload_n (pc' := 109) (x := 0) kc_26_108 rfl rfl ?_
          refine xi_iaload (pc' := 110) (v := 0) kc_26_109 rfl ((eh1.2.1 129 (by decide)).trans (F 129 _ hl_129)) (by decide) rfl (xi_in (n := 12) (by decide) (by decide)) rfl ?_
          refine xi_ireturn kc_26_110 mr_26 rfl ?_
          show xw J ov 100 196 (510, [(4, .int 0), (3, .ref 167), (2, .ref 115), (1, .ref 0), (0, .ref 1000000)], [.int 0, .int 0], hh1) _
          refine xi_cmt (pc' := 1528) kc_196_510 rfl rfl ?_
          refine xi_iinc (pc' := 1531) (x := 0) (v := 6) (lv' := [(4, .int 6), (3, .ref 167), (2, .ref 115), (1, .ref 0), (0, .ref 1000000)]) kc_196_1528 rfl rfl rfl rfl (xm_lt ml_196 rfl) ?_
          refine xi_goto (pc' := 23) kc_196_1531 rfl ?_
          refine xi_iload (pc' := 25) (x := 6) kc_196_23 rfl rfl ?_
          refine xi_aload_n (pc' := 26) (x := 1000000) kc_196_25 rfl rfl ?_
          refine xi_arraylength (pc' := 27) (n := 6) (v := 6) kc_196_26 rfl (xl_lenO (by decide) hov0 rfl) rfl ?_
          refine xi_bipush (pc' := 29) (v := 6) kc_196_27 rfl rfl ?_
          refine xi_isub (pc' := 30) (v := 0) kc_196_29 rfl rfl ?_
          refine xi_cmt (pc' := 1534) kc_196_30 rfl rfl ?_
          refine xi_iconst (pc' := 1535) (v := 1) kc_196_1534 rfl rfl ?_
          refine xi_ireturn kc_196_1535 mr_196 rfl ?_
          refine ⟨rfl, ?_, ?_⟩
          · rw [eh1.2.2.1]; exact hn0
          · rw [eh1.2.2.2]; exact hz0
        by_cases c9 : a2.toInt = 5
        · refine xi_tsi (pc' := 102) (z := 5) kc_107_24 (by omega) rfl (by decide) ?_
          refine xi_aload_n (pc' := 103) (x := 0) kc_107_102 rfl rfl ?_
          refine xi_getfield (pc' := 106) (v := .ref 1) kc_107_103 rfl rfl rfl (F 0 _ hl_0) rfl ?_
          refine xi_iload_n (pc' := 107) (x := 0) kc_107_106 rfl rfl ?_
          refine xi_aload_n (pc' := 108) (x := 0) kc_107_107 rfl rfl ?_
          refine xi_getfield (pc' := 111) (v := .int 0) kc_107_108 rfl rfl rfl (F 0 _ hl_0) rfl ?_
          refine xi_virtual (mj := 108) (as := [.int 0, .int 0]) (st1 := []) (lv0 := [(0, .ref 1), (1, .int 0), (2, .int 0)]) kc_107_111 rfl rfl rfl rfl rfl (F 1 _ hl_1) (Nat.le_of_ble_eq_true rfl) (hJ _ _ _ _ (by decide)) (xm_le ml_108 rfl) rfl ?_
          refine xi_aload_n (pc' := 1) (x := 1) kc_108_0 rfl rfl ?_
          refine xi_iload_n (pc' := 2) (x := 0) kc_108_1 rfl rfl ?_
          refine xi_virtual (mj := 109) (as := [.int 0]) (st1 := []) (lv0 := [(0, .ref 1), (1, .int 0)]) kc_108_2 rfl rfl rfl rfl rfl (F 1 _ hl_1) (Nat.le_of_ble_eq_true rfl) (hJ _ _ _ _ (by decide)) (xm_le ml_109 rfl) rfl ?_
          refine xi_iload_n (pc' := 1) (x := 0) kc_109_0 rfl rfl ?_
          refine xi_static (mj := 105) (as := [.int 0]) (st1 := []) (lv0 := [(0, .int 0)]) kc_109_1 rfl rfl (Nat.le_of_ble_eq_true rfl) rfl rfl (Nat.le_of_ble_eq_true rfl) (hJ _ _ _ _ (by decide)) (xm_le ml_105 rfl) rfl ?_
          refine xi_iload_n (pc' := 1) (x := 0) kc_105_0 rfl rfl ?_
          refine xi_iff (pc' := 4) kc_105_1 rfl rfl ?_
          refine xi_iload_n (pc' := 5) (x := 0) kc_105_4 rfl rfl ?_
          refine xi_bipush (pc' := 7) (v := 12) kc_105_5 rfl rfl ?_
          refine xi_cmf (pc' := 10) kc_105_7 rfl rfl ?_
          refine xi_iconst (pc' := 11) (v := 1) kc_105_10 rfl rfl ?_
          refine xi_goto (pc' := 15) kc_105_11 rfl ?_
          refine xi_ireturn kc_105_15 mr_105 rfl ?_
          show xw J ov 97 109 (4, [(0, .ref 1), (1, .int 0)], [.int 1], h0) _
          refine xi_iff (pc' := 7) kc_109_4 rfl rfl ?_
          refine xi_aload_n (pc' := 8) (x := 1) kc_109_7 rfl rfl ?_
          refine xi_getfield (pc' := 11) (v := .ref 3) kc_109_8 rfl rfl rfl (F 1 _ hl_1) rfl ?_
          refine xi_iload_n (pc' := 12) (x := 0) kc_109_11 rfl rfl ?_
          refine xi_aaload (pc' := 13) (b := 29) kc_109_12 rfl (F 3 _ hl_3) rfl (xi_in (n := 12) (by decide) (by decide)) rfl ?_
          refine xi_virtual (mj := 106) (as := []) (st1 := []) (lv0 := [(0, .ref 29)]) kc_109_13 rfl rfl rfl rfl rfl (F 29 _ hl_29) (Nat.le_of_ble_eq_true rfl) (hJ _ _ _ _ (by decide)) (xm_le ml_106 rfl) rfl ?_
          refine xi_aload_n (pc' := 1) (x := 29) kc_106_0 rfl rfl ?_
          refine xi_getfield (pc' := 4) (v := .int (-9)) kc_106_1 rfl rfl rfl (F 29 _ hl_29) rfl ?_
          refine xi_static (mj := 90) (as := [.int (-9)]) (st1 := []) (lv0 := [(0, .int (-9))]) kc_106_4 rfl rfl (Nat.le_of_ble_eq_true rfl) rfl rfl (Nat.le_of_ble_eq_true rfl) (hJ _ _ _ _ (by decide)) (xm_le ml_90 rfl) rfl ?_
          refine xi_iload_n (pc' := 1) (x := (-9)) kc_90_0 rfl rfl ?_
          refine xi_ift (pc' := 14) kc_90_1 rfl rfl ?_
          refine xi_iconst (pc' := 15) (v := 0) kc_90_14 rfl rfl ?_
          refine xi_ireturn kc_90_15 mr_90 rfl ?_
          show xw J ov 96 106 (7, [(0, .ref 29)], [.int 0], h0) _
          refine xi_ireturn kc_106_7 mr_106 rfl ?_
          show xw J ov 97 109 (16, [(0, .ref 1), (1, .int 0)], [.int 0], h0) _
          refine xi_ift (pc' := 23) kc_109_16 rfl rfl ?_
          refine xi_iconst (pc' := 24) (v := 0) kc_109_23 rfl rfl ?_
          refine xi_ireturn kc_109_24 mr_109 rfl ?_
          show xw J ov 98 108 (5, [(0, .ref 1), (1, .int 0), (2, .int 0)], [.int 0], h0) _
          refine xi_iff (pc' := 8) kc_108_5 rfl rfl ?_
          refine xi_iconst (pc' := 9) (v := 0) kc_108_8 rfl rfl ?_
          refine xi_ireturn kc_108_9 mr_108 rfl ?_
          show xw J ov 99 107 (114, [(3, .ref 29), (0, .ref 0), (1, .int 0), (2, .int a2)], [.int 0], h0) _
          refine xi_ireturn kc_107_114 mr_107 rfl ?_
          show xw J ov 100 196 (494, [(4, .int 0), (3, .ref 167), (2, .ref 115), (1, .ref 0), (0, .ref 1000000)], [.int 0], h0) _
          refine xi_aload_n (pc' := 495) (x := 115) kc_196_494 rfl rfl ?_
          refine xi_aload_n (pc' := 496) (x := 1000000) kc_196_495 rfl rfl ?_
          refine xi_iload (pc' := 498) (x := 0) kc_196_496 rfl rfl ?_
          refine xi_iconst (pc' := 499) (v := 1) kc_196_498 rfl rfl ?_
          refine xi_iadd (pc' := 500) (v := 1) kc_196_499 rfl rfl ?_
          refine xi_ialoadO (pc' := 501) (v := 0) kc_196_500 rfl (by decide) hov0 (xi_in (n := 6) (by decide) (by decide)) rfl ?_
          refine xi_aload_n (pc' := 502) (x := 1000000) kc_196_501 rfl rfl ?_
          refine xi_iload (pc' := 504) (x := 0) kc_196_502 rfl rfl ?_
          refine xi_iconst (pc' := 505) (v := 2) kc_196_504 rfl rfl ?_
          refine xi_iadd (pc' := 506) (v := 2) kc_196_505 rfl rfl ?_
          refine xi_ialoadO (pc' := 507) (v := a2) kc_196_506 rfl (by decide) hov0 (xi_in (n := 6) (by decide) (by decide)) rfl ?_
          refine xi_virtual (mj := 26) (as := [.int 0, .int a2]) (st1 := [.int 0]) (lv0 := [(0, .ref 115), (1, .int 0), (2, .int a2)]) kc_196_507 rfl rfl rfl rfl rfl (F 115 _ hl_115) (Nat.le_of_ble_eq_true rfl) (hJ _ _ _ _ (by decide)) (xm_le ml_26 rfl) rfl ?_
          refine xi_aload_n (pc' := 1) (x := 115) kc_26_0 rfl rfl ?_
          refine xi_iconst (pc' := 2) (v := 0) kc_26_1 rfl rfl ?_
          refine xi_putfield (pc' := 5) (fs' := [.int 0, .int 0, .ref 116, .ref 117, .ref 118, .ref 119, .ref 120, .ref 121, .ref 122, .ref 123, .ref 124, .ref 125, .ref 126, .ref 127, .ref 128, .ref 129, .int 4, .ref 130, .int 0, .ref 131, .ref 132, .ref 133, .ref 134, .int 0, .ref 135, .ref 136, .ref 137, .ref 138, .ref 139, .ref 140, .ref 141, .ref 142, .int 0, .int 0, .int 0, .ref 143, .ref 144, .ref 145, .ref 146, .ref 147, .ref 148, .int 0, .ref 149, .ref 150, .ref 151, .int 0, .ref 152, .ref 153, .ref 154, .ref 155, .ref 156, .ref 157, .ref 158, .ref 159, .int 0, .ref 160, .int 0, .ref 161, .ref 162, .ref 163, .ref 164, .int 0, .ref 165, .ref 166]) kc_26_2 rfl rfl rfl (F 115 _ hl_115) rfl rfl rfl (Nat.le_of_ble_eq_true rfl) rfl (fun hh1 eh1 => ?_)
          refine xi_iload_n (pc' := 6) (x := 0) kc_26_5 rfl rfl ?_
          refine xi_static (mj := 25) (as := [.int 0]) (st1 := []) (lv0 := [(0, .int 0)]) kc_26_6 rfl rfl (Nat.le_of_ble_eq_true rfl) rfl rfl (Nat.le_of_ble_eq_true rfl) (hJ _ _ _ _ (by decide)) (xm_le ml_25 rfl) rfl ?_
          refine xi_iload_n (pc' := 1) (x := 0) kc_25_0 rfl rfl ?_
          refine xi_iconst (pc' := 2) (v := 0) kc_25_1 rfl rfl ?_
          refine xi_bipush (pc' := 4) (v := 11) kc_25_2 rfl rfl ?_
          refine xi_static (mj := 12) (as := [.int 0, .int 0, .int 11]) (st1 := []) (lv0 := [(0, .int 0), (1, .int 0), (2, .int 11)]) kc_25_4 rfl rfl (Nat.le_of_ble_eq_true rfl) rfl rfl (Nat.le_of_ble_eq_true rfl) (hJ _ _ _ _ (by decide)) (xm_le ml_12 rfl) rfl ?_
          refine xi_iload_n (pc' := 1) (x := 0) kc_12_0 rfl rfl ?_
          refine xi_iload_n (pc' := 2) (x := 0) kc_12_1 rfl rfl ?_
          refine xi_cmf (pc' := 5) kc_12_2 rfl rfl ?_
          refine xi_iload_n (pc' := 6) (x := 0) kc_12_5 rfl rfl ?_
          refine xi_iload_n (pc' := 7) (x := 11) kc_12_6 rfl rfl ?_
          refine xi_cmf (pc' := 10) kc_12_7 rfl rfl ?_
          refine xi_iconst (pc' := 11) (v := 1) kc_12_10 rfl rfl ?_
          refine xi_goto (pc' := 15) kc_12_11 rfl ?_
          refine xi_ireturn kc_12_15 mr_12 rfl ?_
          show xw J ov 98 25 (7, [(0, .int 0)], [.int 1], hh1) _
          refine xi_ireturn kc_25_7 mr_25 rfl ?_
          show xw J ov 99 26 (9, [(0, .ref 115), (1, .int 0), (2, .int a2)], [.int 1], hh1) _
          refine xi_ift (pc' := 18) kc_26_9 rfl rfl ?_
          refine xi_iload_n (pc' := 19) (x := a2) kc_26_18 rfl rfl ?_
          refine xi_iconst (pc' := 20) (v := 0) kc_26_19 rfl rfl ?_
          refine xi_iconst (pc' := 21) (v := 5) kc_26_20 rfl rfl ?_
          refine xi_static (mj := 12) (as := [.int a2, .int 0, .int 5]) (st1 := []) (lv0 := [(0, .int a2), (1, .int 0), (2, .int 5)]) kc_26_21 rfl rfl (Nat.le_of_ble_eq_true rfl) rfl rfl (Nat.le_of_ble_eq_true rfl) (hJ _ _ _ _ (by decide)) (xm_le ml_12 rfl) rfl ?_
          refine xi_iload_n (pc' := 1) (x := a2) kc_12_0 rfl rfl ?_
          refine xi_iload_n (pc' := 2) (x := 0) kc_12_1 rfl rfl ?_
          refine xi_cmf (pc' := 5) kc_12_2 rfl (xc_lt_f (X := a2.toInt) (Y := 0) rfl (by decide) (by omega)) ?_
          refine xi_iload_n (pc' := 6) (x := a2) kc_12_5 rfl rfl ?_
          refine xi_iload_n (pc' := 7) (x := 5) kc_12_6 rfl rfl ?_
          refine xi_cmf (pc' := 10) kc_12_7 rfl (xc_gt_f (X := a2.toInt) (Y := 5) rfl (by decide) (by omega)) ?_
          refine xi_iconst (pc' := 11) (v := 1) kc_12_10 rfl rfl ?_
          refine xi_goto (pc' := 15) kc_12_11 rfl ?_
          refine xi_ireturn kc_12_15 mr_12 rfl ?_
          show xw J ov 99 26 (24, [(0, .ref 115), (1, .int 0), (2, .int a2)], [.int 1], hh1) _
          refine xi_ift (pc' := 34) kc_26_24 rfl rfl ?_
          refine xi_iload_n (pc' := 35) (x := a2) kc_26_34 rfl rfl ?_
          refine xi_tsd (pc' := 111) kc_26_35 rfl (by omega) ?_
          refine xi_aload_n (pc' := 112) (x := 115) kc_26_111 rfl rfl ?_
          refine xi_getfield (pc' := 115) (v := .ref 125) kc_26_112 rfl rfl rfl eh1.1 rfl ?_
          refine xi_iload_n (pc' := 116) (x := 0) kc_26_115 rfl rfl ?_
          refine xi_iaload (pc' := 117) (v := (-9)) kc_26_116 rfl ((eh1.2.1 125 (by decide)).trans (F 125 _ hl_125)) (by decide) rfl (xi_in (n := 12) (by decide) (by decide)) rfl ?_
          refine xi_iff (pc' := 120) kc_26_117 rfl rfl ?_
          refine xi_iconst (pc' := 121) (v := 0) kc_26_120 rfl rfl ?_
          refine xi_goto (pc' := 133) kc_26_121 rfl ?_
          refine xi_ireturn kc_26_133 mr_26 rfl ?_
          show xw J ov 100 196 (510, [(4, .int 0), (3, .ref 167), (2, .ref 115), (1, .ref 0), (0, .ref 1000000)], [.int 0, .int 0], hh1) _
          refine xi_cmt (pc' := 1528) kc_196_510 rfl rfl ?_
          refine xi_iinc (pc' := 1531) (x := 0) (v := 6) (lv' := [(4, .int 6), (3, .ref 167), (2, .ref 115), (1, .ref 0), (0, .ref 1000000)]) kc_196_1528 rfl rfl rfl rfl (xm_lt ml_196 rfl) ?_
          refine xi_goto (pc' := 23) kc_196_1531 rfl ?_
          refine xi_iload (pc' := 25) (x := 6) kc_196_23 rfl rfl ?_
          refine xi_aload_n (pc' := 26) (x := 1000000) kc_196_25 rfl rfl ?_
          refine xi_arraylength (pc' := 27) (n := 6) (v := 6) kc_196_26 rfl (xl_lenO (by decide) hov0 rfl) rfl ?_
          refine xi_bipush (pc' := 29) (v := 6) kc_196_27 rfl rfl ?_
          refine xi_isub (pc' := 30) (v := 0) kc_196_29 rfl rfl ?_
          refine xi_cmt (pc' := 1534) kc_196_30 rfl rfl ?_
          refine xi_iconst (pc' := 1535) (v := 1) kc_196_1534 rfl rfl ?_
          refine xi_ireturn kc_196_1535 mr_196 rfl ?_
          refine ⟨rfl, ?_, ?_⟩
          · rw [eh1.2.2.1]; exact hn0
          · rw [eh1.2.2.2]; exact hz0
        refine xi_tsd (pc' := 115) kc_107_24 rfl (by omega) ?_
        refine xi_aload_n (pc' := 116) (x := 0) kc_107_115 rfl rfl ?_
        refine xi_bipush (pc' := 118) (v := (-2)) kc_107_116 rfl rfl ?_
        refine xi_virtual (mj := 91) (as := [.int (-2)]) (st1 := []) (lv0 := [(0, .ref 0), (1, .int (-2))]) kc_107_118 rfl rfl rfl rfl rfl (F 0 _ hl_0) (Nat.le_of_ble_eq_true rfl) (hJ _ _ _ _ (by decide)) (xm_le ml_91 rfl) rfl ?_
        refine xi_iload_n (pc' := 1) (x := (-2)) kc_91_0 rfl rfl ?_
        refine xi_ineg (pc' := 2) (v := 2) kc_91_1 rfl rfl ?_
        refine xi_istore_n (pc' := 3) (lv' := [(2, .int 2), (0, .ref 0), (1, .int (-2))]) kc_91_2 rfl rfl (xm_lt ml_91 rfl) ?_
        refine xi_iload_n (pc' := 4) (x := 2) kc_91_3 rfl rfl ?_
        refine xi_iff (pc' := 7) kc_91_4 rfl rfl ?_
        refine xi_iload_n (pc' := 8) (x := 2) kc_91_7 rfl rfl ?_
        refine xi_aload_n (pc' := 9) (x := 0) kc_91_8 rfl rfl ?_
        refine xi_getfield (pc' := 12) (v := .ref 94) kc_91_9 rfl rfl rfl (F 0 _ hl_0) rfl ?_
        refine xi_arraylength (pc' := 13) (n := 7) (v := 7) kc_91_12 rfl (xl_lenI (by decide) (by decide) (F 94 _ hl_94) (by simp only [List.length_replicate, List.length_cons, List.length_nil])) rfl ?_
        refine xi_cmf (pc' := 16) kc_91_13 rfl rfl ?_
        refine xi_aload_n (pc' := 17) (x := 0) kc_91_16 rfl rfl ?_
        refine xi_getfield (pc' := 20) (v := .ref 94) kc_91_17 rfl rfl rfl (F 0 _ hl_0) rfl ?_
        refine xi_iload_n (pc' := 21) (x := 2) kc_91_20 rfl rfl ?_
        refine xi_dup2 (pc' := 22) kc_91_21 rfl ⟨rfl, rfl⟩ ?_
        refine xi_iaload (pc' := 23) (v := 0) kc_91_22 rfl (F 94 _ hl_94) (by decide) rfl (xi_in (n := 7) (by decide) (by decide)) rfl ?_
        refine xi_iconst (pc' := 24) (v := 1) kc_91_23 rfl rfl ?_
        refine xi_iadd (pc' := 25) (v := 1) kc_91_24 rfl rfl ?_
        refine xi_iastore (pc' := 26) (x' := [0, 0, 1, 0, 0, 0, 0]) kc_91_25 rfl (F 94 _ hl_94) rfl (xi_in (n := 7) (by decide) (by decide)) rfl (fun hh1 eh1 => ?_)
        refine xi_iload_n (pc' := 27) (x := (-2)) kc_91_26 rfl rfl ?_
        refine xi_ireturn kc_91_27 mr_91 rfl ?_
        show xw J ov 99 107 (121, [(3, .ref 29), (0, .ref 0), (1, .int 0), (2, .int a2)], [.int (-2)], hh1) _
        refine xi_ireturn kc_107_121 mr_107 rfl ?_
        show xw J ov 100 196 (494, [(4, .int 0), (3, .ref 167), (2, .ref 115), (1, .ref 0), (0, .ref 1000000)], [.int (-2)], hh1) _
        refine xi_aload_n (pc' := 495) (x := 115) kc_196_494 rfl rfl ?_
        refine xi_aload_n (pc' := 496) (x := 1000000) kc_196_495 rfl rfl ?_
        refine xi_iload (pc' := 498) (x := 0) kc_196_496 rfl rfl ?_
        refine xi_iconst (pc' := 499) (v := 1) kc_196_498 rfl rfl ?_
        refine xi_iadd (pc' := 500) (v := 1) kc_196_499 rfl rfl ?_
        refine xi_ialoadO (pc' := 501) (v := 0) kc_196_500 rfl (by decide) hov0 (xi_in (n := 6) (by decide) (by decide)) rfl ?_
        refine xi_aload_n (pc' := 502) (x := 1000000) kc_196_501 rfl rfl ?_
        refine xi_iload (pc' := 504) (x := 0) kc_196_502 rfl rfl ?_
        refine xi_iconst (pc' := 505) (v := 2) kc_196_504 rfl rfl ?_
        refine xi_iadd (pc' := 506) (v := 2) kc_196_505 rfl rfl ?_
        refine xi_ialoadO (pc' := 507) (v := a2) kc_196_506 rfl (by decide) hov0 (xi_in (n := 6) (by decide) (by decide)) rfl ?_
        refine xi_virtual (mj := 26) (as := [.int 0, .int a2]) (st1 := [.int (-2)]) (lv0 := [(0, .ref 115), (1, .int 0), (2, .int a2)]) kc_196_507 rfl rfl rfl rfl rfl ((eh1.2.1 115 (by decide)).trans (F 115 _ hl_115)) (Nat.le_of_ble_eq_true rfl) (hJ _ _ _ _ (by decide)) (xm_le ml_26 rfl) rfl ?_
        refine xi_aload_n (pc' := 1) (x := 115) kc_26_0 rfl rfl ?_
        refine xi_iconst (pc' := 2) (v := 0) kc_26_1 rfl rfl ?_
        refine xi_putfield (pc' := 5) (fs' := [.int 0, .int 0, .ref 116, .ref 117, .ref 118, .ref 119, .ref 120, .ref 121, .ref 122, .ref 123, .ref 124, .ref 125, .ref 126, .ref 127, .ref 128, .ref 129, .int 4, .ref 130, .int 0, .ref 131, .ref 132, .ref 133, .ref 134, .int 0, .ref 135, .ref 136, .ref 137, .ref 138, .ref 139, .ref 140, .ref 141, .ref 142, .int 0, .int 0, .int 0, .ref 143, .ref 144, .ref 145, .ref 146, .ref 147, .ref 148, .int 0, .ref 149, .ref 150, .ref 151, .int 0, .ref 152, .ref 153, .ref 154, .ref 155, .ref 156, .ref 157, .ref 158, .ref 159, .int 0, .ref 160, .int 0, .ref 161, .ref 162, .ref 163, .ref 164, .int 0, .ref 165, .ref 166]) kc_26_2 rfl rfl rfl ((eh1.2.1 115 (by decide)).trans (F 115 _ hl_115)) rfl rfl rfl (Nat.le_of_ble_eq_true rfl) rfl (fun hh2 eh2 => ?_)
        refine xi_iload_n (pc' := 6) (x := 0) kc_26_5 rfl rfl ?_
        refine xi_static (mj := 25) (as := [.int 0]) (st1 := []) (lv0 := [(0, .int 0)]) kc_26_6 rfl rfl (Nat.le_of_ble_eq_true rfl) rfl rfl (Nat.le_of_ble_eq_true rfl) (hJ _ _ _ _ (by decide)) (xm_le ml_25 rfl) rfl ?_
        refine xi_iload_n (pc' := 1) (x := 0) kc_25_0 rfl rfl ?_
        refine xi_iconst (pc' := 2) (v := 0) kc_25_1 rfl rfl ?_
        refine xi_bipush (pc' := 4) (v := 11) kc_25_2 rfl rfl ?_
        refine xi_static (mj := 12) (as := [.int 0, .int 0, .int 11]) (st1 := []) (lv0 := [(0, .int 0), (1, .int 0), (2, .int 11)]) kc_25_4 rfl rfl (Nat.le_of_ble_eq_true rfl) rfl rfl (Nat.le_of_ble_eq_true rfl) (hJ _ _ _ _ (by decide)) (xm_le ml_12 rfl) rfl ?_
        refine xi_iload_n (pc' := 1) (x := 0) kc_12_0 rfl rfl ?_
        refine xi_iload_n (pc' := 2) (x := 0) kc_12_1 rfl rfl ?_
        refine xi_cmf (pc' := 5) kc_12_2 rfl rfl ?_
        refine xi_iload_n (pc' := 6) (x := 0) kc_12_5 rfl rfl ?_
        refine xi_iload_n (pc' := 7) (x := 11) kc_12_6 rfl rfl ?_
        refine xi_cmf (pc' := 10) kc_12_7 rfl rfl ?_
        refine xi_iconst (pc' := 11) (v := 1) kc_12_10 rfl rfl ?_
        refine xi_goto (pc' := 15) kc_12_11 rfl ?_
        refine xi_ireturn kc_12_15 mr_12 rfl ?_
        show xw J ov 98 25 (7, [(0, .int 0)], [.int 1], hh2) _
        refine xi_ireturn kc_25_7 mr_25 rfl ?_
        show xw J ov 99 26 (9, [(0, .ref 115), (1, .int 0), (2, .int a2)], [.int 1], hh2) _
        refine xi_ift (pc' := 18) kc_26_9 rfl rfl ?_
        refine xi_iload_n (pc' := 19) (x := a2) kc_26_18 rfl rfl ?_
        refine xi_iconst (pc' := 20) (v := 0) kc_26_19 rfl rfl ?_
        refine xi_iconst (pc' := 21) (v := 5) kc_26_20 rfl rfl ?_
        refine xi_static (mj := 12) (as := [.int a2, .int 0, .int 5]) (st1 := []) (lv0 := [(0, .int a2), (1, .int 0), (2, .int 5)]) kc_26_21 rfl rfl (Nat.le_of_ble_eq_true rfl) rfl rfl (Nat.le_of_ble_eq_true rfl) (hJ _ _ _ _ (by decide)) (xm_le ml_12 rfl) rfl ?_
        refine xi_iload_n (pc' := 1) (x := a2) kc_12_0 rfl rfl ?_
        refine xi_iload_n (pc' := 2) (x := 0) kc_12_1 rfl rfl ?_
        by_cases c10 : a2.toInt < 0
        · refine xi_cmt (pc' := 14) kc_12_2 rfl (xc_lt_t (X := a2.toInt) (Y := 0) rfl (by decide) (by omega)) ?_
          refine xi_iconst (pc' := 15) (v := 0) kc_12_14 rfl rfl ?_
          refine xi_ireturn kc_12_15 mr_12 rfl ?_
          show xw J ov 99 26 (24, [(0, .ref 115), (1, .int 0), (2, .int a2)], [.int 0], hh2) _
          refine xi_iff (pc' := 27) kc_26_24 rfl rfl ?_
          refine xi_aload_n (pc' := 28) (x := 115) kc_26_27 rfl rfl ?_
          refine xi_bipush (pc' := 30) (v := (-2)) kc_26_28 rfl rfl ?_
          refine xi_virtual (mj := 13) (as := [.int (-2)]) (st1 := []) (lv0 := [(0, .ref 115), (1, .int (-2))]) kc_26_30 rfl rfl rfl rfl rfl eh2.1 (Nat.le_of_ble_eq_true rfl) (hJ _ _ _ _ (by decide)) (xm_le ml_13 rfl) rfl ?_
          refine xi_aload_n (pc' := 1) (x := 115) kc_13_0 rfl rfl ?_
          refine xi_getfield (pc' := 4) (v := .ref 140) kc_13_1 rfl rfl rfl eh2.1 rfl ?_
          refine xi_iload_n (pc' := 5) (x := (-2)) kc_13_4 rfl rfl ?_
          refine xi_ineg (pc' := 6) (v := 2) kc_13_5 rfl rfl ?_
          refine xi_dup2 (pc' := 7) kc_13_6 rfl ⟨rfl, rfl⟩ ?_
          refine xi_iaload (pc' := 8) (v := 0) kc_13_7 rfl ((eh2.2.1 140 (by decide)).trans ((eh1.2.1 140 (by decide)).trans (F 140 _ hl_140))) (by decide) rfl (xi_in (n := 7) (by decide) (by decide)) rfl ?_
          refine xi_iconst (pc' := 9) (v := 1) kc_13_8 rfl rfl ?_
          refine xi_iadd (pc' := 10) (v := 1) kc_13_9 rfl rfl ?_
          refine xi_iastore (pc' := 11) (x' := [0, 0, 1, 0, 0, 0, 0]) kc_13_10 rfl ((eh2.2.1 140 (by decide)).trans ((eh1.2.1 140 (by decide)).trans (F 140 _ hl_140))) rfl (xi_in (n := 7) (by decide) (by decide)) rfl (fun hh3 eh3 => ?_)
          refine xi_iload_n (pc' := 12) (x := (-2)) kc_13_11 rfl rfl ?_
          refine xi_ireturn kc_13_12 mr_13 rfl ?_
          show xw J ov 99 26 (33, [(0, .ref 115), (1, .int 0), (2, .int a2)], [.int (-2)], hh3) _
          refine xi_ireturn kc_26_33 mr_26 rfl ?_
          show xw J ov 100 196 (510, [(4, .int 0), (3, .ref 167), (2, .ref 115), (1, .ref 0), (0, .ref 1000000)], [.int (-2), .int (-2)], hh3) _
          refine xi_cmt (pc' := 1528) kc_196_510 rfl rfl ?_
          refine xi_iinc (pc' := 1531) (x := 0) (v := 6) (lv' := [(4, .int 6), (3, .ref 167), (2, .ref 115), (1, .ref 0), (0, .ref 1000000)]) kc_196_1528 rfl rfl rfl rfl (xm_lt ml_196 rfl) ?_
          refine xi_goto (pc' := 23) kc_196_1531 rfl ?_
          refine xi_iload (pc' := 25) (x := 6) kc_196_23 rfl rfl ?_
          refine xi_aload_n (pc' := 26) (x := 1000000) kc_196_25 rfl rfl ?_
          refine xi_arraylength (pc' := 27) (n := 6) (v := 6) kc_196_26 rfl (xl_lenO (by decide) hov0 rfl) rfl ?_
          refine xi_bipush (pc' := 29) (v := 6) kc_196_27 rfl rfl ?_
          refine xi_isub (pc' := 30) (v := 0) kc_196_29 rfl rfl ?_
          refine xi_cmt (pc' := 1534) kc_196_30 rfl rfl ?_
          refine xi_iconst (pc' := 1535) (v := 1) kc_196_1534 rfl rfl ?_
          refine xi_ireturn kc_196_1535 mr_196 rfl ?_
          refine ⟨rfl, ?_, ?_⟩
          · rw [eh3.2.2.1, eh2.2.2.1, eh1.2.2.1]; exact hn0
          · rw [eh3.2.2.2, eh2.2.2.2, eh1.2.2.2]; exact hz0
        · refine xi_cmf (pc' := 5) kc_12_2 rfl (xc_lt_f (X := a2.toInt) (Y := 0) rfl (by decide) (by omega)) ?_
          refine xi_iload_n (pc' := 6) (x := a2) kc_12_5 rfl rfl ?_
          refine xi_iload_n (pc' := 7) (x := 5) kc_12_6 rfl rfl ?_
          refine xi_cmt (pc' := 14) kc_12_7 rfl (xc_gt_t (X := a2.toInt) (Y := 5) rfl (by decide) (by omega)) ?_
          refine xi_iconst (pc' := 15) (v := 0) kc_12_14 rfl rfl ?_
          refine xi_ireturn kc_12_15 mr_12 rfl ?_
          show xw J ov 99 26 (24, [(0, .ref 115), (1, .int 0), (2, .int a2)], [.int 0], hh2) _
          refine xi_iff (pc' := 27) kc_26_24 rfl rfl ?_
          refine xi_aload_n (pc' := 28) (x := 115) kc_26_27 rfl rfl ?_
          refine xi_bipush (pc' := 30) (v := (-2)) kc_26_28 rfl rfl ?_
          refine xi_virtual (mj := 13) (as := [.int (-2)]) (st1 := []) (lv0 := [(0, .ref 115), (1, .int (-2))]) kc_26_30 rfl rfl rfl rfl rfl eh2.1 (Nat.le_of_ble_eq_true rfl) (hJ _ _ _ _ (by decide)) (xm_le ml_13 rfl) rfl ?_
          refine xi_aload_n (pc' := 1) (x := 115) kc_13_0 rfl rfl ?_
          refine xi_getfield (pc' := 4) (v := .ref 140) kc_13_1 rfl rfl rfl eh2.1 rfl ?_
          refine xi_iload_n (pc' := 5) (x := (-2)) kc_13_4 rfl rfl ?_
          refine xi_ineg (pc' := 6) (v := 2) kc_13_5 rfl rfl ?_
          refine xi_dup2 (pc' := 7) kc_13_6 rfl ⟨rfl, rfl⟩ ?_
          refine xi_iaload (pc' := 8) (v := 0) kc_13_7 rfl ((eh2.2.1 140 (by decide)).trans ((eh1.2.1 140 (by decide)).trans (F 140 _ hl_140))) (by decide) rfl (xi_in (n := 7) (by decide) (by decide)) rfl ?_
          refine xi_iconst (pc' := 9) (v := 1) kc_13_8 rfl rfl ?_
          refine xi_iadd (pc' := 10) (v := 1) kc_13_9 rfl rfl ?_
          refine xi_iastore (pc' := 11) (x' := [0, 0, 1, 0, 0, 0, 0]) kc_13_10 rfl ((eh2.2.1 140 (by decide)).trans ((eh1.2.1 140 (by decide)).trans (F 140 _ hl_140))) rfl (xi_in (n := 7) (by decide) (by decide)) rfl (fun hh3 eh3 => ?_)
          refine xi_iload_n (pc' := 12) (x := (-2)) kc_13_11 rfl rfl ?_
          refine xi_ireturn kc_13_12 mr_13 rfl ?_
          show xw J ov 99 26 (33, [(0, .ref 115), (1, .int 0), (2, .int a2)], [.int (-2)], hh3) _
          refine xi_ireturn kc_26_33 mr_26 rfl ?_
          show xw J ov 100 196 (510, [(4, .int 0), (3, .ref 167), (2, .ref 115), (1, .ref 0), (0, .ref 1000000)], [.int (-2), .int (-2)], hh3) _
          refine xi_cmt (pc' := 1528) kc_196_510 rfl rfl ?_
          refine xi_iinc (pc' := 1531) (x := 0) (v := 6) (lv' := [(4, .int 6), (3, .ref 167), (2, .ref 115), (1, .ref 0), (0, .ref 1000000)]) kc_196_1528 rfl rfl rfl rfl (xm_lt ml_196 rfl) ?_
          refine xi_goto (pc' := 23) kc_196_1531 rfl ?_
          refine xi_iload (pc' := 25) (x := 6) kc_196_23 rfl rfl ?_
          refine xi_aload_n (pc' := 26) (x := 1000000) kc_196_25 rfl rfl ?_
          refine xi_arraylength (pc' := 27) (n := 6) (v := 6) kc_196_26 rfl (xl_lenO (by decide) hov0 rfl) rfl ?_
          refine xi_bipush (pc' := 29) (v := 6) kc_196_27 rfl rfl ?_
          refine xi_isub (pc' := 30) (v := 0) kc_196_29 rfl rfl ?_
          refine xi_cmt (pc' := 1534) kc_196_30 rfl rfl ?_
          refine xi_iconst (pc' := 1535) (v := 1) kc_196_1534 rfl rfl ?_
          refine xi_ireturn kc_196_1535 mr_196 rfl ?_
          refine ⟨rfl, ?_, ?_⟩
          · rw [eh3.2.2.1, eh2.2.2.1, eh1.2.2.1]; exact hn0
          · rw [eh3.2.2.2, eh2.2.2.2, eh1.2.2.2]; exact hz0
      by_cases c11 : a1.toInt = 1
      · have qa1 : a1 = 1 := xc_of (Eq.trans (by omega) (show (1 : Int) = (1 : Int32).toInt by decide))
        subst qa1
        refine xi_aaload (pc' := 22) (b := 31) kc_107_21 rfl (F 3 _ hl_3) rfl (xi_in (n := 12) (by decide) (by decide)) rfl ?_
        refine xi_astore_n (pc' := 23) (lv' := [(3, .ref 31), (0, .ref 0), (1, .int 1), (2, .int a2)]) kc_107_22 rfl rfl (xm_lt ml_107 rfl) ?_
        refine xi_iload_n (pc' := 24) (x := a2) kc_107_23 rfl rfl ?_
        by_cases c12 : a2.toInt = 0
        · refine xi_tsi (pc' := 64) (z := 0) kc_107_24 (by omega) rfl (by decide) ?_
          refine xi_aload_n (pc' := 65) (x := 31) kc_107_64 rfl rfl ?_
          refine xi_getfield (pc' := 68) (v := .int (-9)) kc_107_65 rfl rfl rfl (F 31 _ hl_31) rfl ?_
          refine xi_ireturn kc_107_68 mr_107 rfl ?_
          show xw J ov 100 196 (494, [(4, .int 0), (3, .ref 167), (2, .ref 115), (1, .ref 0), (0, .ref 1000000)], [.int (-9)], h0) _
          refine xi_aload_n (pc' := 495) (x := 115) kc_196_494 rfl rfl ?_
          refine xi_aload_n (pc' := 496) (x := 1000000) kc_196_495 rfl rfl ?_
          refine xi_iload (pc' := 498) (x := 0) kc_196_496 rfl rfl ?_
          refine xi_iconst (pc' := 499) (v := 1) kc_196_498 rfl rfl ?_
          refine xi_iadd (pc' := 500) (v := 1) kc_196_499 rfl rfl ?_
          refine xi_ialoadO (pc' := 501) (v := 1) kc_196_500 rfl (by decide) hov0 (xi_in (n := 6) (by decide) (by decide)) rfl ?_
          refine xi_aload_n (pc' := 502) (x := 1000000) kc_196_501 rfl rfl ?_
          refine xi_iload (pc' := 504) (x := 0) kc_196_502 rfl rfl ?_
          refine xi_iconst (pc' := 505) (v := 2) kc_196_504 rfl rfl ?_
          refine xi_iadd (pc' := 506) (v := 2) kc_196_505 rfl rfl ?_
          refine xi_ialoadO (pc' := 507) (v := a2) kc_196_506 rfl (by decide) hov0 (xi_in (n := 6) (by decide) (by decide)) rfl ?_
          refine xi_virtual (mj := 26) (as := [.int 1, .int a2]) (st1 := [.int (-9)]) (lv0 := [(0, .ref 115), (1, .int 1), (2, .int a2)]) kc_196_507 rfl rfl rfl rfl rfl (F 115 _ hl_115) (Nat.le_of_ble_eq_true rfl) (hJ _ _ _ _ (by decide)) (xm_le ml_26 rfl) rfl ?_
          refine xi_aload_n (pc' := 1) (x := 115) kc_26_0 rfl rfl ?_
          refine xi_iconst (pc' := 2) (v := 0) kc_26_1 rfl rfl ?_
          refine xi_putfield (pc' := 5) (fs' := [.int 0, .int 0, .ref 116, .ref 117, .ref 118, .ref 119, .ref 120, .ref 121, .ref 122, .ref 123, .ref 124, .ref 125, .ref 126, .ref 127, .ref 128, .ref 129, .int 4, .ref 130, .int 0, .ref 131, .ref 132, .ref 133, .ref 134, .int 0, .ref 135, .ref 136, .ref 137, .ref 138, .ref 139, .ref 140, .ref 141, .ref 142, .int 0, .int 0, .int 0, .ref 143, .ref 144, .ref 145, .ref 146, .ref 147, .ref 148, .int 0, .ref 149, .ref 150, .ref 151, .int 0, .ref 152, .ref 153, .ref 154, .ref 155, .ref 156, .ref 157, .ref 158, .ref 159, .int 0, .ref 160, .int 0, .ref 161, .ref 162, .ref 163, .ref 164, .int 0, .ref 165, .ref 166]) kc_26_2 rfl rfl rfl (F 115 _ hl_115) rfl rfl rfl (Nat.le_of_ble_eq_true rfl) rfl (fun hh1 eh1 => ?_)
          refine xi_iload_n (pc' := 6) (x := 1) kc_26_5 rfl rfl ?_
          refine xi_static (mj := 25) (as := [.int 1]) (st1 := []) (lv0 := [(0, .int 1)]) kc_26_6 rfl rfl (Nat.le_of_ble_eq_true rfl) rfl rfl (Nat.le_of_ble_eq_true rfl) (hJ _ _ _ _ (by decide)) (xm_le ml_25 rfl) rfl ?_
          refine xi_iload_n (pc' := 1) (x := 1) kc_25_0 rfl rfl ?_
          refine xi_iconst (pc' := 2) (v := 0) kc_25_1 rfl rfl ?_
          refine xi_bipush (pc' := 4) (v := 11) kc_25_2 rfl rfl ?_
          refine xi_static (mj := 12) (as := [.int 1, .int 0, .int 11]) (st1 := []) (lv0 := [(0, .int 1), (1, .int 0), (2, .int 11)]) kc_25_4 rfl rfl (Nat.le_of_ble_eq_true rfl) rfl rfl (Nat.le_of_ble_eq_true rfl) (hJ _ _ _ _ (by decide)) (xm_le ml_12 rfl) rfl ?_
          refine xi_iload_n (pc' := 1) (x := 1) kc_12_0 rfl rfl ?_
          refine xi_iload_n (pc' := 2) (x := 0) kc_12_1 rfl rfl ?_
          refine xi_cmf (pc' := 5) kc_12_2 rfl rfl ?_
          refine xi_iload_n (pc' := 6) (x := 1) kc_12_5 rfl rfl ?_
          refine xi_iload_n (pc' := 7) (x := 11) kc_12_6 rfl rfl ?_
          refine xi_cmf (pc' := 10) kc_12_7 rfl rfl ?_
          refine xi_iconst (pc' := 11) (v := 1) kc_12_10 rfl rfl ?_
          refine xi_goto (pc' := 15) kc_12_11 rfl ?_
          refine xi_ireturn kc_12_15 mr_12 rfl ?_
          show xw J ov 98 25 (7, [(0, .int 1)], [.int 1], hh1) _
          refine xi_ireturn kc_25_7 mr_25 rfl ?_
          show xw J ov 99 26 (9, [(0, .ref 115), (1, .int 1), (2, .int a2)], [.int 1], hh1) _
          refine xi_ift (pc' := 18) kc_26_9 rfl rfl ?_
          refine xi_iload_n (pc' := 19) (x := a2) kc_26_18 rfl rfl ?_
          refine xi_iconst (pc' := 20) (v := 0) kc_26_19 rfl rfl ?_
          refine xi_iconst (pc' := 21) (v := 5) kc_26_20 rfl rfl ?_
          refine xi_static (mj := 12) (as := [.int a2, .int 0, .int 5]) (st1 := []) (lv0 := [(0, .int a2), (1, .int 0), (2, .int 5)]) kc_26_21 rfl rfl (Nat.le_of_ble_eq_true rfl) rfl rfl (Nat.le_of_ble_eq_true rfl) (hJ _ _ _ _ (by decide)) (xm_le ml_12 rfl) rfl ?_
          refine xi_iload_n (pc' := 1) (x := a2) kc_12_0 rfl rfl ?_
          refine xi_iload_n (pc' := 2) (x := 0) kc_12_1 rfl rfl ?_
          refine xi_cmf (pc' := 5) kc_12_2 rfl (xc_lt_f (X := a2.toInt) (Y := 0) rfl (by decide) (by omega)) ?_
          refine xi_iload_n (pc' := 6) (x := a2) kc_12_5 rfl rfl ?_
          refine xi_iload_n (pc' := 7) (x := 5) kc_12_6 rfl rfl ?_
          refine xi_cmf (pc' := 10) kc_12_7 rfl (xc_gt_f (X := a2.toInt) (Y := 5) rfl (by decide) (by omega)) ?_
          refine xi_iconst (pc' := 11) (v := 1) kc_12_10 rfl rfl ?_
          refine xi_goto (pc' := 15) kc_12_11 rfl ?_
          refine xi_ireturn kc_12_15 mr_12 rfl ?_
          show xw J ov 99 26 (24, [(0, .ref 115), (1, .int 1), (2, .int a2)], [.int 1], hh1) _
          refine xi_ift (pc' := 34) kc_26_24 rfl rfl ?_
          refine xi_iload_n (pc' := 35) (x := a2) kc_26_34 rfl rfl ?_
          refine xi_tsi (pc' := 68) (z := 0) kc_26_35 (by omega) rfl (by decide) ?_
          refine xi_aload_n (pc' := 69) (x := 115) kc_26_68 rfl rfl ?_
          refine xi_getfield (pc' := 72) (v := .ref 125) kc_26_69 rfl rfl rfl eh1.1 rfl ?_
          refine xi_iload_n (pc' := 73) (x := 1) kc_26_72 rfl rfl ?_
          refine xi_iaload (pc' := 74) (v := (-9)) kc_26_73 rfl ((eh1.2.1 125 (by decide)).trans (F 125 _ hl_125)) (by decide) rfl (xi_in (n := 12) (by decide) (by decide)) rfl ?_
          refine xi_ireturn kc_26_74 mr_26 rfl ?_
          show xw J ov 100 196 (510, [(4, .int 0), (3, .ref 167), (2, .ref 115), (1, .ref 0), (0, .ref 1000000)], [.int (-9), .int (-9)], hh1) _
          refine xi_cmt (pc' := 1528) kc_196_510 rfl rfl ?_
          refine xi_iinc (pc' := 1531) (x := 0) (v := 6) (lv' := [(4, .int 6), (3, .ref 167), (2, .ref 115), (1, .ref 0), (0, .ref 1000000)]) kc_196_1528 rfl rfl rfl rfl (xm_lt ml_196 rfl) ?_
          refine xi_goto (pc' := 23) kc_196_1531 rfl ?_
          refine xi_iload (pc' := 25) (x := 6) kc_196_23 rfl rfl ?_
          refine xi_aload_n (pc' := 26) (x := 1000000) kc_196_25 rfl rfl ?_
          refine xi_arraylength (pc' := 27) (n := 6) (v := 6) kc_196_26 rfl (xl_lenO (by decide) hov0 rfl) rfl ?_
          refine xi_bipush (pc' := 29) (v := 6) kc_196_27 rfl rfl ?_
          refine xi_isub (pc' := 30) (v := 0) kc_196_29 rfl rfl ?_
          refine xi_cmt (pc' := 1534) kc_196_30 rfl rfl ?_
          refine xi_iconst (pc' := 1535) (v := 1) kc_196_1534 rfl rfl ?_
          refine xi_ireturn kc_196_1535 mr_196 rfl ?_
          refine ⟨rfl, ?_, ?_⟩
          · rw [eh1.2.2.1]; exact hn0
          · rw [eh1.2.2.2]; exact hz0
        by_cases c13 : a2.toInt = 1
        · refine xi_tsi (pc' := 69) (z := 1) kc_107_24 (by omega) rfl (by decide) ?_
          refine xi_aload_n (pc' := 70) (x := 31) kc_107_69 rfl rfl ?_
          refine xi_getfield (pc' := 73) (v := .int 0) kc_107_70 rfl rfl rfl (F 31 _ hl_31) rfl ?_
          refine xi_ireturn kc_107_73 mr_107 rfl ?_
          show xw J ov 100 196 (494, [(4, .int 0), (3, .ref 167), (2, .ref 115), (1, .ref 0), (0, .ref 1000000)], [.int 0], h0) _
          refine xi_aload_n (pc' := 495) (x := 115) kc_196_494 rfl rfl ?_
          refine xi_aload_n (pc' := 496) (x := 1000000) kc_196_495 rfl rfl ?_
          refine xi_iload (pc' := 498) (x := 0) kc_196_496 rfl rfl ?_
          refine xi_iconst (pc' := 499) (v := 1) kc_196_498 rfl rfl ?_
          refine xi_iadd (pc' := 500) (v := 1) kc_196_499 rfl rfl ?_
          refine xi_ialoadO (pc' := 501) (v := 1) kc_196_500 rfl (by decide) hov0 (xi_in (n := 6) (by decide) (by decide)) rfl ?_
          refine xi_aload_n (pc' := 502) (x := 1000000) kc_196_501 rfl rfl ?_
          refine xi_iload (pc' := 504) (x := 0) kc_196_502 rfl rfl ?_
          refine xi_iconst (pc' := 505) (v := 2) kc_196_504 rfl rfl ?_
          refine xi_iadd (pc' := 506) (v := 2) kc_196_505 rfl rfl ?_
          refine xi_ialoadO (pc' := 507) (v := a2) kc_196_506 rfl (by decide) hov0 (xi_in (n := 6) (by decide) (by decide)) rfl ?_
          refine xi_virtual (mj := 26) (as := [.int 1, .int a2]) (st1 := [.int 0]) (lv0 := [(0, .ref 115), (1, .int 1), (2, .int a2)]) kc_196_507 rfl rfl rfl rfl rfl (F 115 _ hl_115) (Nat.le_of_ble_eq_true rfl) (hJ _ _ _ _ (by decide)) (xm_le ml_26 rfl) rfl ?_
          refine xi_aload_n (pc' := 1) (x := 115) kc_26_0 rfl rfl ?_
          refine xi_iconst (pc' := 2) (v := 0) kc_26_1 rfl rfl ?_
          refine xi_putfield (pc' := 5) (fs' := [.int 0, .int 0, .ref 116, .ref 117, .ref 118, .ref 119, .ref 120, .ref 121, .ref 122, .ref 123, .ref 124, .ref 125, .ref 126, .ref 127, .ref 128, .ref 129, .int 4, .ref 130, .int 0, .ref 131, .ref 132, .ref 133, .ref 134, .int 0, .ref 135, .ref 136, .ref 137, .ref 138, .ref 139, .ref 140, .ref 141, .ref 142, .int 0, .int 0, .int 0, .ref 143, .ref 144, .ref 145, .ref 146, .ref 147, .ref 148, .int 0, .ref 149, .ref 150, .ref 151, .int 0, .ref 152, .ref 153, .ref 154, .ref 155, .ref 156, .ref 157, .ref 158, .ref 159, .int 0, .ref 160, .int 0, .ref 161, .ref 162, .ref 163, .ref 164, .int 0, .ref 165, .ref 166]) kc_26_2 rfl rfl rfl (F 115 _ hl_115) rfl rfl rfl (Nat.le_of_ble_eq_true rfl) rfl (fun hh1 eh1 => ?_)
          refine xi_iload_n (pc' := 6) (x := 1) kc_26_5 rfl rfl ?_
          refine xi_static (mj := 25) (as := [.int 1]) (st1 := []) (lv0 := [(0, .int 1)]) kc_26_6 rfl rfl (Nat.le_of_ble_eq_true rfl) rfl rfl (Nat.le_of_ble_eq_true rfl) (hJ _ _ _ _ (by decide)) (xm_le ml_25 rfl) rfl ?_
          refine xi_iload_n (pc' := 1) (x := 1) kc_25_0 rfl rfl ?_
          refine xi_iconst (pc' := 2) (v := 0) kc_25_1 rfl rfl ?_
          refine xi_bipush (pc' := 4) (v := 11) kc_25_2 rfl rfl ?_
          refine xi_static (mj := 12) (as := [.int 1, .int 0, .int 11]) (st1 := []) (lv0 := [(0, .int 1), (1, .int 0), (2, .int 11)]) kc_25_4 rfl rfl (Nat.le_of_ble_eq_true rfl) rfl rfl (Nat.le_of_ble_eq_true rfl) (hJ _ _ _ _ (by decide)) (xm_le ml_12 rfl) rfl ?_
          refine xi_iload_n (pc' := 1) (x := 1) kc_12_0 rfl rfl ?_
          refine xi_iload_n (pc' := 2) (x := 0) kc_12_1 rfl rfl ?_
          refine xi_cmf (pc' := 5) kc_12_2 rfl rfl ?_
          refine xi_iload_n (pc' := 6) (x := 1) kc_12_5 rfl rfl ?_
          refine xi_iload_n (pc' := 7) (x := 11) kc_12_6 rfl rfl ?_
          refine xi_cmf (pc' := 10) kc_12_7 rfl rfl ?_
          refine xi_iconst (pc' := 11) (v := 1) kc_12_10 rfl rfl ?_
          refine xi_goto (pc' := 15) kc_12_11 rfl ?_
          refine xi_ireturn kc_12_15 mr_12 rfl ?_
          show xw J ov 98 25 (7, [(0, .int 1)], [.int 1], hh1) _
          refine xi_ireturn kc_25_7 mr_25 rfl ?_
          show xw J ov 99 26 (9, [(0, .ref 115), (1, .int 1), (2, .int a2)], [.int 1], hh1) _
          refine xi_ift (pc' := 18) kc_26_9 rfl rfl ?_
          refine xi_iload_n (pc' := 19) (x := a2) kc_26_18 rfl rfl ?_
          refine xi_iconst (pc' := 20) (v := 0) kc_26_19 rfl rfl ?_
          refine xi_iconst (pc' := 21) (v := 5) kc_26_20 rfl rfl ?_
          refine xi_static (mj := 12) (as := [.int a2, .int 0, .int 5]) (st1 := []) (lv0 := [(0, .int a2), (1, .int 0), (2, .int 5)]) kc_26_21 rfl rfl (Nat.le_of_ble_eq_true rfl) rfl rfl (Nat.le_of_ble_eq_true rfl) (hJ _ _ _ _ (by decide)) (xm_le ml_12 rfl) rfl ?_
          refine xi_iload_n (pc' := 1) (x := a2) kc_12_0 rfl rfl ?_
          refine xi_iload_n (pc' := 2) (x := 0) kc_12_1 rfl rfl ?_
          refine xi_cmf (pc' := 5) kc_12_2 rfl (xc_lt_f (X := a2.toInt) (Y := 0) rfl (by decide) (by omega)) ?_
          refine xi_iload_n (pc' := 6) (x := a2) kc_12_5 rfl rfl ?_
          refine xi_iload_n (pc' := 7) (x := 5) kc_12_6 rfl rfl ?_
          refine xi_cmf (pc' := 10) kc_12_7 rfl (xc_gt_f (X := a2.toInt) (Y := 5) rfl (by decide) (by omega)) ?_
          refine xi_iconst (pc' := 11) (v := 1) kc_12_10 rfl rfl ?_
          refine xi_goto (pc' := 15) kc_12_11 rfl ?_
          refine xi_ireturn kc_12_15 mr_12 rfl ?_
          show xw J ov 99 26 (24, [(0, .ref 115), (1, .int 1), (2, .int a2)], [.int 1], hh1) _
          refine xi_ift (pc' := 34) kc_26_24 rfl rfl ?_
          refine xi_iload_n (pc' := 35) (x := a2) kc_26_34 rfl rfl ?_
          refine xi_tsi (pc' := 75) (z := 1) kc_26_35 (by omega) rfl (by decide) ?_
          refine xi_aload_n (pc' := 76) (x := 115) kc_26_75 rfl rfl ?_
          refine xi_getfield (pc' := 79) (v := .ref 126) kc_26_76 rfl rfl rfl eh1.1 rfl ?_
          refine xi_iload_n (pc' := 80) (x := 1) kc_26_79 rfl rfl ?_
          refine xi_iaload (pc' := 81) (v := 0) kc_26_80 rfl ((eh1.2.1 126 (by decide)).trans (F 126 _ hl_126)) (by decide) rfl (xi_in (n := 12) (by decide) (by decide)) rfl ?_
          refine xi_ireturn kc_26_81 mr_26 rfl ?_
          show xw J ov 100 196 (510, [(4, .int 0), (3, .ref 167), (2, .ref 115), (1, .ref 0), (0, .ref 1000000)], [.int 0, .int 0], hh1) _
          refine xi_cmt (pc' := 1528) kc_196_510 rfl rfl ?_
          refine xi_iinc (pc' := 1531) (x := 0) (v := 6) (lv' := [(4, .int 6), (3, .ref 167), (2, .ref 115), (1, .ref 0), (0, .ref 1000000)]) kc_196_1528 rfl rfl rfl rfl (xm_lt ml_196 rfl) ?_
          refine xi_goto (pc' := 23) kc_196_1531 rfl ?_
          refine xi_iload (pc' := 25) (x := 6) kc_196_23 rfl rfl ?_
          refine xi_aload_n (pc' := 26) (x := 1000000) kc_196_25 rfl rfl ?_
          refine xi_arraylength (pc' := 27) (n := 6) (v := 6) kc_196_26 rfl (xl_lenO (by decide) hov0 rfl) rfl ?_
          refine xi_bipush (pc' := 29) (v := 6) kc_196_27 rfl rfl ?_
          refine xi_isub (pc' := 30) (v := 0) kc_196_29 rfl rfl ?_
          refine xi_cmt (pc' := 1534) kc_196_30 rfl rfl ?_
          refine xi_iconst (pc' := 1535) (v := 1) kc_196_1534 rfl rfl ?_
          refine xi_ireturn kc_196_1535 mr_196 rfl ?_
          refine ⟨rfl, ?_, ?_⟩
          · rw [eh1.2.2.1]; exact hn0
          · rw [eh1.2.2.2]; exact hz0
        by_cases c14 : a2.toInt = 2
        · refine xi_tsi (pc' := 74) (z := 2) kc_107_24 (by omega) rfl (by decide) ?_
          refine xi_aload_n (pc' := 75) (x := 31) kc_107_74 rfl rfl ?_
          refine xi_getfield (pc' := 78) (v := .int 0) kc_107_75 rfl rfl rfl (F 31 _ hl_31) rfl ?_
          refine xi_ift (pc' := 85) kc_107_78 rfl rfl ?_
          refine xi_iconst (pc' := 86) (v := 0) kc_107_85 rfl rfl ?_
          refine xi_ireturn kc_107_86 mr_107 rfl ?_
          show xw J ov 100 196 (494, [(4, .int 0), (3, .ref 167), (2, .ref 115), (1, .ref 0), (0, .ref 1000000)], [.int 0], h0) _
          refine xi_aload_n (pc' := 495) (x := 115) kc_196_494 rfl rfl ?_
          refine xi_aload_n (pc' := 496) (x := 1000000) kc_196_495 rfl rfl ?_
          refine xi_iload (pc' := 498) (x := 0) kc_196_496 rfl rfl ?_
          refine xi_iconst (pc' := 499) (v := 1) kc_196_498 rfl rfl ?_
          refine xi_iadd (pc' := 500) (v := 1) kc_196_499 rfl rfl ?_
          refine xi_ialoadO (pc' := 501) (v := 1) kc_196_500 rfl (by decide) hov0 (xi_in (n := 6) (by decide) (by decide)) rfl ?_
          refine xi_aload_n (pc' := 502) (x := 1000000) kc_196_501 rfl rfl ?_
          refine xi_iload (pc' := 504) (x := 0) kc_196_502 rfl rfl ?_
          refine xi_iconst (pc' := 505) (v := 2) kc_196_504 rfl rfl ?_
          refine xi_iadd (pc' := 506) (v := 2) kc_196_505 rfl rfl ?_
          refine xi_ialoadO (pc' := 507) (v := a2) kc_196_506 rfl (by decide) hov0 (xi_in (n := 6) (by decide) (by decide)) rfl ?_
          refine xi_virtual (mj := 26) (as := [.int 1, .int a2]) (st1 := [.int 0]) (lv0 := [(0, .ref 115), (1, .int 1), (2, .int a2)]) kc_196_507 rfl rfl rfl rfl rfl (F 115 _ hl_115) (Nat.le_of_ble_eq_true rfl) (hJ _ _ _ _ (by decide)) (xm_le ml_26 rfl) rfl ?_
          refine xi_aload_n (pc' := 1) (x := 115) kc_26_0 rfl rfl ?_
          refine xi_iconst (pc' := 2) (v := 0) kc_26_1 rfl rfl ?_
          refine xi_putfield (pc' := 5) (fs' := [.int 0, .int 0, .ref 116, .ref 117, .ref 118, .ref 119, .ref 120, .ref 121, .ref 122, .ref 123, .ref 124, .ref 125, .ref 126, .ref 127, .ref 128, .ref 129, .int 4, .ref 130, .int 0, .ref 131, .ref 132, .ref 133, .ref 134, .int 0, .ref 135, .ref 136, .ref 137, .ref 138, .ref 139, .ref 140, .ref 141, .ref 142, .int 0, .int 0, .int 0, .ref 143, .ref 144, .ref 145, .ref 146, .ref 147, .ref 148, .int 0, .ref 149, .ref 150, .ref 151, .int 0, .ref 152, .ref 153, .ref 154, .ref 155, .ref 156, .ref 157, .ref 158, .ref 159, .int 0, .ref 160, .int 0, .ref 161, .ref 162, .ref 163, .ref 164, .int 0, .ref 165, .ref 166]) kc_26_2 rfl rfl rfl (F 115 _ hl_115) rfl rfl rfl (Nat.le_of_ble_eq_true rfl) rfl (fun hh1 eh1 => ?_)
          refine xi_iload_n (pc' := 6) (x := 1) kc_26_5 rfl rfl ?_
          refine xi_static (mj := 25) (as := [.int 1]) (st1 := []) (lv0 := [(0, .int 1)]) kc_26_6 rfl rfl (Nat.le_of_ble_eq_true rfl) rfl rfl (Nat.le_of_ble_eq_true rfl) (hJ _ _ _ _ (by decide)) (xm_le ml_25 rfl) rfl ?_
          refine xi_iload_n (pc' := 1) (x := 1) kc_25_0 rfl rfl ?_
          refine xi_iconst (pc' := 2) (v := 0) kc_25_1 rfl rfl ?_
          refine xi_bipush (pc' := 4) (v := 11) kc_25_2 rfl rfl ?_
          refine xi_static (mj := 12) (as := [.int 1, .int 0, .int 11]) (st1 := []) (lv0 := [(0, .int 1), (1, .int 0), (2, .int 11)]) kc_25_4 rfl rfl (Nat.le_of_ble_eq_true rfl) rfl rfl (Nat.le_of_ble_eq_true rfl) (hJ _ _ _ _ (by decide)) (xm_le ml_12 rfl) rfl ?_
          refine xi_iload_n (pc' := 1) (x := 1) kc_12_0 rfl rfl ?_
          refine xi_iload_n (pc' := 2) (x := 0) kc_12_1 rfl rfl ?_
          refine xi_cmf (pc' := 5) kc_12_2 rfl rfl ?_
          refine xi_iload_n (pc' := 6) (x := 1) kc_12_5 rfl rfl ?_
          refine xi_iload_n (pc' := 7) (x := 11) kc_12_6 rfl rfl ?_
          refine xi_cmf (pc' := 10) kc_12_7 rfl rfl ?_
          refine xi_iconst (pc' := 11) (v := 1) kc_12_10 rfl rfl ?_
          refine xi_goto (pc' := 15) kc_12_11 rfl ?_
          refine xi_ireturn kc_12_15 mr_12 rfl ?_
          show xw J ov 98 25 (7, [(0, .int 1)], [.int 1], hh1) _
          refine xi_ireturn kc_25_7 mr_25 rfl ?_
          show xw J ov 99 26 (9, [(0, .ref 115), (1, .int 1), (2, .int a2)], [.int 1], hh1) _
          refine xi_ift (pc' := 18) kc_26_9 rfl rfl ?_
          refine xi_iload_n (pc' := 19) (x := a2) kc_26_18 rfl rfl ?_
          refine xi_iconst (pc' := 20) (v := 0) kc_26_19 rfl rfl ?_
          refine xi_iconst (pc' := 21) (v := 5) kc_26_20 rfl rfl ?_
          refine xi_static (mj := 12) (as := [.int a2, .int 0, .int 5]) (st1 := []) (lv0 := [(0, .int a2), (1, .int 0), (2, .int 5)]) kc_26_21 rfl rfl (Nat.le_of_ble_eq_true rfl) rfl rfl (Nat.le_of_ble_eq_true rfl) (hJ _ _ _ _ (by decide)) (xm_le ml_12 rfl) rfl ?_
          refine xi_iload_n (pc' := 1) (x := a2) kc_12_0 rfl rfl ?_
          refine xi_iload_n (pc' := 2) (x := 0) kc_12_1 rfl rfl ?_
          refine xi_cmf (pc' := 5) kc_12_2 rfl (xc_lt_f (X := a2.toInt) (Y := 0) rfl (by decide) (by omega)) ?_
          refine xi_iload_n (pc' := 6) (x := a2) kc_12_5 rfl rfl ?_
          refine xi_iload_n (pc' := 7) (x := 5) kc_12_6 rfl rfl ?_
          refine xi_cmf (pc' := 10) kc_12_7 rfl (xc_gt_f (X := a2.toInt) (Y := 5) rfl (by decide) (by omega)) ?_
          refine xi_iconst (pc' := 11) (v := 1) kc_12_10 rfl rfl ?_
          refine xi_goto (pc' := 15) kc_12_11 rfl ?_
          refine xi_ireturn kc_12_15 mr_12 rfl ?_
          show xw J ov 99 26 (24, [(0, .ref 115), (1, .int 1), (2, .int a2)], [.int 1], hh1) _
          refine xi_ift (pc' := 34) kc_26_24 rfl rfl ?_
          refine xi_iload_n (pc' := 35) (x := a2) kc_26_34 rfl rfl ?_
          refine xi_tsi (pc' := 82) (z := 2) kc_26_35 (by omega) rfl (by decide) ?_
          refine xi_aload_n (pc' := 83) (x := 115) kc_26_82 rfl rfl ?_
          refine xi_getfield (pc' := 86) (v := .ref 127) kc_26_83 rfl rfl rfl eh1.1 rfl ?_
          refine xi_iload_n (pc' := 87) (x := 1) kc_26_86 rfl rfl ?_
          refine xi_baload (pc' := 88) (v := 0) kc_26_87 rfl ((eh1.2.1 127 (by decide)).trans (F 127 _ hl_127)) rfl (xi_in (n := 12) (by decide) (by decide)) rfl ?_
          refine xi_ift (pc' := 95) kc_26_88 rfl rfl ?_
          refine xi_iconst (pc' := 96) (v := 0) kc_26_95 rfl rfl ?_
          refine xi_ireturn kc_26_96 mr_26 rfl ?_
          show xw J ov 100 196 (510, [(4, .int 0), (3, .ref 167), (2, .ref 115), (1, .ref 0), (0, .ref 1000000)], [.int 0, .int 0], hh1) _
          refine xi_cmt (pc' := 1528) kc_196_510 rfl rfl ?_
          refine xi_iinc (pc' := 1531) (x := 0) (v := 6) (lv' := [(4, .int 6), (3, .ref 167), (2, .ref 115), (1, .ref 0), (0, .ref 1000000)]) kc_196_1528 rfl rfl rfl rfl (xm_lt ml_196 rfl) ?_
          refine xi_goto (pc' := 23) kc_196_1531 rfl ?_
          refine xi_iload (pc' := 25) (x := 6) kc_196_23 rfl rfl ?_
          refine xi_aload_n (pc' := 26) (x := 1000000) kc_196_25 rfl rfl ?_
          refine xi_arraylength (pc' := 27) (n := 6) (v := 6) kc_196_26 rfl (xl_lenO (by decide) hov0 rfl) rfl ?_
          refine xi_bipush (pc' := 29) (v := 6) kc_196_27 rfl rfl ?_
          refine xi_isub (pc' := 30) (v := 0) kc_196_29 rfl rfl ?_
          refine xi_cmt (pc' := 1534) kc_196_30 rfl rfl ?_
          refine xi_iconst (pc' := 1535) (v := 1) kc_196_1534 rfl rfl ?_
          refine xi_ireturn kc_196_1535 mr_196 rfl ?_
          refine ⟨rfl, ?_, ?_⟩
          · rw [eh1.2.2.1]; exact hn0
          · rw [eh1.2.2.2]; exact hz0
        by_cases c15 : a2.toInt = 3
        · refine xi_tsi (pc' := 87) (z := 3) kc_107_24 (by omega) rfl (by decide) ?_
          refine xi_aload_n (pc' := 88) (x := 0) kc_107_87 rfl rfl ?_
          refine xi_getfield (pc' := 91) (v := .ref 63) kc_107_88 rfl rfl rfl (F 0 _ hl_0) rfl ?_
          refine xi_getfield (pc' := 94) (v := .ref 65) kc_107_91 rfl rfl rfl (F 63 _ hl_63) rfl ?_
          refine xi_iload_n (pc' := 95) (x := 1) kc_107_94 rfl rfl ?_
          refine xi_iaload (pc' := 96) (v := 0) kc_107_95 rfl (F 65 _ hl_65) (by decide) rfl (xi_in (n := 12) (by decide) (by decide)) rfl ?_
          refine xi_ireturn kc_107_96 mr_107 rfl ?_
          show xw J ov 100 196 (494, [(4, .int 0), (3, .ref 167), (2, .ref 115), (1, .ref 0), (0, .ref 1000000)], [.int 0], h0) _
          refine xi_aload_n (pc' := 495) (x := 115) kc_196_494 rfl rfl ?_
          refine xi_aload_n (pc' := 496) (x := 1000000) kc_196_495 rfl rfl ?_
          refine xi_iload (pc' := 498) (x := 0) kc_196_496 rfl rfl ?_
          refine xi_iconst (pc' := 499) (v := 1) kc_196_498 rfl rfl ?_
          refine xi_iadd (pc' := 500) (v := 1) kc_196_499 rfl rfl ?_
          refine xi_ialoadO (pc' := 501) (v := 1) kc_196_500 rfl (by decide) hov0 (xi_in (n := 6) (by decide) (by decide)) rfl ?_
          refine xi_aload_n (pc' := 502) (x := 1000000) kc_196_501 rfl rfl ?_
          refine xi_iload (pc' := 504) (x := 0) kc_196_502 rfl rfl ?_
          refine xi_iconst (pc' := 505) (v := 2) kc_196_504 rfl rfl ?_
          refine xi_iadd (pc' := 506) (v := 2) kc_196_505 rfl rfl ?_
          refine xi_ialoadO (pc' := 507) (v := a2) kc_196_506 rfl (by decide) hov0 (xi_in (n := 6) (by decide) (by decide)) rfl ?_
          refine xi_virtual (mj := 26) (as := [.int 1, .int a2]) (st1 := [.int 0]) (lv0 := [(0, .ref 115), (1, .int 1), (2, .int a2)]) kc_196_507 rfl rfl rfl rfl rfl (F 115 _ hl_115) (Nat.le_of_ble_eq_true rfl) (hJ _ _ _ _ (by decide)) (xm_le ml_26 rfl) rfl ?_
          refine xi_aload_n (pc' := 1) (x := 115) kc_26_0 rfl rfl ?_
          refine xi_iconst (pc' := 2) (v := 0) kc_26_1 rfl rfl ?_
          refine xi_putfield (pc' := 5) (fs' := [.int 0, .int 0, .ref 116, .ref 117, .ref 118, .ref 119, .ref 120, .ref 121, .ref 122, .ref 123, .ref 124, .ref 125, .ref 126, .ref 127, .ref 128, .ref 129, .int 4, .ref 130, .int 0, .ref 131, .ref 132, .ref 133, .ref 134, .int 0, .ref 135, .ref 136, .ref 137, .ref 138, .ref 139, .ref 140, .ref 141, .ref 142, .int 0, .int 0, .int 0, .ref 143, .ref 144, .ref 145, .ref 146, .ref 147, .ref 148, .int 0, .ref 149, .ref 150, .ref 151, .int 0, .ref 152, .ref 153, .ref 154, .ref 155, .ref 156, .ref 157, .ref 158, .ref 159, .int 0, .ref 160, .int 0, .ref 161, .ref 162, .ref 163, .ref 164, .int 0, .ref 165, .ref 166]) kc_26_2 rfl rfl rfl (F 115 _ hl_115) rfl rfl rfl (Nat.le_of_ble_eq_true rfl) rfl (fun hh1 eh1 => ?_)
          refine xi_iload_n (pc' := 6) (x := 1) kc_26_5 rfl rfl ?_
          refine xi_static (mj := 25) (as := [.int 1]) (st1 := []) (lv0 := [(0, .int 1)]) kc_26_6 rfl rfl (Nat.le_of_ble_eq_true rfl) rfl rfl (Nat.le_of_ble_eq_true rfl) (hJ _ _ _ _ (by decide)) (xm_le ml_25 rfl) rfl ?_
          refine xi_iload_n (pc' := 1) (x := 1) kc_25_0 rfl rfl ?_
          refine xi_iconst (pc' := 2) (v := 0) kc_25_1 rfl rfl ?_
          refine xi_bipush (pc' := 4) (v := 11) kc_25_2 rfl rfl ?_
          refine xi_static (mj := 12) (as := [.int 1, .int 0, .int 11]) (st1 := []) (lv0 := [(0, .int 1), (1, .int 0), (2, .int 11)]) kc_25_4 rfl rfl (Nat.le_of_ble_eq_true rfl) rfl rfl (Nat.le_of_ble_eq_true rfl) (hJ _ _ _ _ (by decide)) (xm_le ml_12 rfl) rfl ?_
          refine xi_iload_n (pc' := 1) (x := 1) kc_12_0 rfl rfl ?_
          refine xi_iload_n (pc' := 2) (x := 0) kc_12_1 rfl rfl ?_
          refine xi_cmf (pc' := 5) kc_12_2 rfl rfl ?_
          refine xi_iload_n (pc' := 6) (x := 1) kc_12_5 rfl rfl ?_
          refine xi_iload_n (pc' := 7) (x := 11) kc_12_6 rfl rfl ?_
          refine xi_cmf (pc' := 10) kc_12_7 rfl rfl ?_
          refine xi_iconst (pc' := 11) (v := 1) kc_12_10 rfl rfl ?_
          refine xi_goto (pc' := 15) kc_12_11 rfl ?_
          refine xi_ireturn kc_12_15 mr_12 rfl ?_
          show xw J ov 98 25 (7, [(0, .int 1)], [.int 1], hh1) _
          refine xi_ireturn kc_25_7 mr_25 rfl ?_
          show xw J ov 99 26 (9, [(0, .ref 115), (1, .int 1), (2, .int a2)], [.int 1], hh1) _
          refine xi_ift (pc' := 18) kc_26_9 rfl rfl ?_
          refine xi_iload_n (pc' := 19) (x := a2) kc_26_18 rfl rfl ?_
          refine xi_iconst (pc' := 20) (v := 0) kc_26_19 rfl rfl ?_
          refine xi_iconst (pc' := 21) (v := 5) kc_26_20 rfl rfl ?_
          refine xi_static (mj := 12) (as := [.int a2, .int 0, .int 5]) (st1 := []) (lv0 := [(0, .int a2), (1, .int 0), (2, .int 5)]) kc_26_21 rfl rfl (Nat.le_of_ble_eq_true rfl) rfl rfl (Nat.le_of_ble_eq_true rfl) (hJ _ _ _ _ (by decide)) (xm_le ml_12 rfl) rfl ?_
          refine xi_iload_n (pc' := 1) (x := a2) kc_12_0 rfl rfl ?_
          refine xi_iload_n (pc' := 2) (x := 0) kc_12_1 rfl rfl ?_
          refine xi_cmf (pc' := 5) kc_12_2 rfl (xc_lt_f (X := a2.toInt) (Y := 0) rfl (by decide) (by omega)) ?_
          refine xi_iload_n (pc' := 6) (x := a2) kc_12_5 rfl rfl ?_
          refine xi_iload_n (pc' := 7) (x := 5) kc_12_6 rfl rfl ?_
          refine xi_cmf (pc' := 10) kc_12_7 rfl (xc_gt_f (X := a2.toInt) (Y := 5) rfl (by decide) (by omega)) ?_
          refine xi_iconst (pc' := 11) (v := 1) kc_12_10 rfl rfl ?_
          refine xi_goto (pc' := 15) kc_12_11 rfl ?_
          refine xi_ireturn kc_12_15 mr_12 rfl ?_
          show xw J ov 99 26 (24, [(0, .ref 115), (1, .int 1), (2, .int a2)], [.int 1], hh1) _
          refine xi_ift (pc' := 34) kc_26_24 rfl rfl ?_
          refine xi_iload_n (pc' := 35) (x := a2) kc_26_34 rfl rfl ?_
          refine xi_tsi (pc' := 97) (z := 3) kc_26_35 (by omega) rfl (by decide) ?_
          refine xi_aload_n (pc' := 98) (x := 115) kc_26_97 rfl rfl ?_
          refine xi_getfield (pc' := 101) (v := .ref 128) kc_26_98 rfl rfl rfl eh1.1 rfl ?_
          refine xi_iload_n (pc' := 102) (x := 1) kc_26_101 rfl rfl ?_
          refine xi_iaload (pc' := 103) (v := 0) kc_26_102 rfl ((eh1.2.1 128 (by decide)).trans (F 128 _ hl_128)) (by decide) rfl (xi_in (n := 12) (by decide) (by decide)) rfl ?_
          refine xi_ireturn kc_26_103 mr_26 rfl ?_
          show xw J ov 100 196 (510, [(4, .int 0), (3, .ref 167), (2, .ref 115), (1, .ref 0), (0, .ref 1000000)], [.int 0, .int 0], hh1) _
          refine xi_cmt (pc' := 1528) kc_196_510 rfl rfl ?_
          refine xi_iinc (pc' := 1531) (x := 0) (v := 6) (lv' := [(4, .int 6), (3, .ref 167), (2, .ref 115), (1, .ref 0), (0, .ref 1000000)]) kc_196_1528 rfl rfl rfl rfl (xm_lt ml_196 rfl) ?_
          refine xi_goto (pc' := 23) kc_196_1531 rfl ?_
          refine xi_iload (pc' := 25) (x := 6) kc_196_23 rfl rfl ?_
          refine xi_aload_n (pc' := 26) (x := 1000000) kc_196_25 rfl rfl ?_
          refine xi_arraylength (pc' := 27) (n := 6) (v := 6) kc_196_26 rfl (xl_lenO (by decide) hov0 rfl) rfl ?_
          refine xi_bipush (pc' := 29) (v := 6) kc_196_27 rfl rfl ?_
          refine xi_isub (pc' := 30) (v := 0) kc_196_29 rfl rfl ?_
          refine xi_cmt (pc' := 1534) kc_196_30 rfl rfl ?_
          refine xi_iconst (pc' := 1535) (v := 1) kc_196_1534 rfl rfl ?_
          refine xi_ireturn kc_196_1535 mr_196 rfl ?_
          refine ⟨rfl, ?_, ?_⟩
          · rw [eh1.2.2.1]; exact hn0
          · rw [eh1.2.2.2]; exact hz0
        by_cases c16 : a2.toInt = 4
        · refine xi_tsi (pc' := 97) (z := 4) kc_107_24 (by omega) rfl (by decide) ?_
          refine xi_aload_n (pc' := 98) (x := 31) kc_107_97 rfl rfl ?_
          refine xi_getfield (pc' := 101) (v := .int 0) kc_107_98 rfl rfl rfl (F 31 _ hl_31) rfl ?_
          refine xi_ireturn kc_107_101 mr_107 rfl ?_
          show xw J ov 100 196 (494, [(4, .int 0), (3, .ref 167), (2, .ref 115), (1, .ref 0), (0, .ref 1000000)], [.int 0], h0) _
          refine xi_aload_n (pc' := 495) (x := 115) kc_196_494 rfl rfl ?_
          refine xi_aload_n (pc' := 496) (x := 1000000) kc_196_495 rfl rfl ?_
          refine xi_iload (pc' := 498) (x := 0) kc_196_496 rfl rfl ?_
          refine xi_iconst (pc' := 499) (v := 1) kc_196_498 rfl rfl ?_
          refine xi_iadd (pc' := 500) (v := 1) kc_196_499 rfl rfl ?_
          refine xi_ialoadO (pc' := 501) (v := 1) kc_196_500 rfl (by decide) hov0 (xi_in (n := 6) (by decide) (by decide)) rfl ?_
          refine xi_aload_n (pc' := 502) (x := 1000000) kc_196_501 rfl rfl ?_
          refine xi_iload (pc' := 504) (x := 0) kc_196_502 rfl rfl ?_
          refine xi_iconst (pc' := 505) (v := 2) kc_196_504 rfl rfl ?_
          refine xi_iadd (pc' := 506) (v := 2) kc_196_505 rfl rfl ?_
          refine xi_ialoadO (pc' := 507) (v := a2) kc_196_506 rfl (by decide) hov0 (xi_in (n := 6) (by decide) (by decide)) rfl ?_
          refine xi_virtual (mj := 26) (as := [.int 1, .int a2]) (st1 := [.int 0]) (lv0 := [(0, .ref 115), (1, .int 1), (2, .int a2)]) kc_196_507 rfl rfl rfl rfl rfl (F 115 _ hl_115) (Nat.le_of_ble_eq_true rfl) (hJ _ _ _ _ (by decide)) (xm_le ml_26 rfl) rfl ?_
          refine xi_aload_n (pc' := 1) (x := 115) kc_26_0 rfl rfl ?_
          refine xi_iconst (pc' := 2) (v := 0) kc_26_1 rfl rfl ?_
          refine xi_putfield (pc' := 5) (fs' := [.int 0, .int 0, .ref 116, .ref 117, .ref 118, .ref 119, .ref 120, .ref 121, .ref 122, .ref 123, .ref 124, .ref 125, .ref 126, .ref 127, .ref 128, .ref 129, .int 4, .ref 130, .int 0, .ref 131, .ref 132, .ref 133, .ref 134, .int 0, .ref 135, .ref 136, .ref 137, .ref 138, .ref 139, .ref 140, .ref 141, .ref 142, .int 0, .int 0, .int 0, .ref 143, .ref 144, .ref 145, .ref 146, .ref 147, .ref 148, .int 0, .ref 149, .ref 150, .ref 151, .int 0, .ref 152, .ref 153, .ref 154, .ref 155, .ref 156, .ref 157, .ref 158, .ref 159, .int 0, .ref 160, .int 0, .ref 161, .ref 162, .ref 163, .ref 164, .int 0, .ref 165, .ref 166]) kc_26_2 rfl rfl rfl (F 115 _ hl_115) rfl rfl rfl (Nat.le_of_ble_eq_true rfl) rfl (fun hh1 eh1 => ?_)
          refine xi_iload_n (pc' := 6) (x := 1) kc_26_5 rfl rfl ?_
          refine xi_static (mj := 25) (as := [.int 1]) (st1 := []) (lv0 := [(0, .int 1)]) kc_26_6 rfl rfl (Nat.le_of_ble_eq_true rfl) rfl rfl (Nat.le_of_ble_eq_true rfl) (hJ _ _ _ _ (by decide)) (xm_le ml_25 rfl) rfl ?_
          refine xi_iload_n (pc' := 1) (x := 1) kc_25_0 rfl rfl ?_
          refine xi_iconst (pc' := 2) (v := 0) kc_25_1 rfl rfl ?_
          refine xi_bipush (pc' := 4) (v := 11) kc_25_2 rfl rfl ?_
          refine xi_static (mj := 12) (as := [.int 1, .int 0, .int 11]) (st1 := []) (lv0 := [(0, .int 1), (1, .int 0), (2, .int 11)]) kc_25_4 rfl rfl (Nat.le_of_ble_eq_true rfl) rfl rfl (Nat.le_of_ble_eq_true rfl) (hJ _ _ _ _ (by decide)) (xm_le ml_12 rfl) rfl ?_
          refine xi_iload_n (pc' := 1) (x := 1) kc_12_0 rfl rfl ?_
          refine xi_iload_n (pc' := 2) (x := 0) kc_12_1 rfl rfl ?_
          refine xi_cmf (pc' := 5) kc_12_2 rfl rfl ?_
          refine xi_iload_n (pc' := 6) (x := 1) kc_12_5 rfl rfl ?_
          refine xi_iload_n (pc' := 7) (x := 11) kc_12_6 rfl rfl ?_
          refine xi_cmf (pc' := 10) kc_12_7 rfl rfl ?_
          refine xi_iconst (pc' := 11) (v := 1) kc_12_10 rfl rfl ?_
          refine xi_goto (pc' := 15) kc_12_11 rfl ?_
          refine xi_ireturn kc_12_15 mr_12 rfl ?_
          show xw J ov 98 25 (7, [(0, .int 1)], [.int 1], hh1) _
          refine xi_ireturn kc_25_7 mr_25 rfl ?_
          show xw J ov 99 26 (9, [(0, .ref 115), (1, .int 1), (2, .int a2)], [.int 1], hh1) _
          refine xi_ift (pc' := 18) kc_26_9 rfl rfl ?_
          refine xi_iload_n (pc' := 19) (x := a2) kc_26_18 rfl rfl ?_
          refine xi_iconst (pc' := 20) (v := 0) kc_26_19 rfl rfl ?_
          refine xi_iconst (pc' := 21) (v := 5) kc_26_20 rfl rfl ?_
          refine xi_static (mj := 12) (as := [.int a2, .int 0, .int 5]) (st1 := []) (lv0 := [(0, .int a2), (1, .int 0), (2, .int 5)]) kc_26_21 rfl rfl (Nat.le_of_ble_eq_true rfl) rfl rfl (Nat.le_of_ble_eq_true rfl) (hJ _ _ _ _ (by decide)) (xm_le ml_12 rfl) rfl ?_
          refine xi_iload_n (pc' := 1) (x := a2) kc_12_0 rfl rfl ?_
          refine xi_iload_n (pc' := 2) (x := 0) kc_12_1 rfl rfl ?_
          refine xi_cmf (pc' := 5) kc_12_2 rfl (xc_lt_f (X := a2.toInt) (Y := 0) rfl (by decide) (by omega)) ?_
          refine xi_iload_n (pc' := 6) (x := a2) kc_12_5 rfl rfl ?_
          refine xi_iload_n (pc' := 7) (x := 5) kc_12_6 rfl rfl ?_
          refine xi_cmf (pc' := 10) kc_12_7 rfl (xc_gt_f (X := a2.toInt) (Y := 5) rfl (by decide) (by omega)) ?_
          refine xi_iconst (pc' := 11) (v := 1) kc_12_10 rfl rfl ?_
          refine xi_goto (pc' := 15) kc_12_11 rfl ?_
          refine xi_ireturn kc_12_15 mr_12 rfl ?_
          show xw J ov 99 26 (24, [(0, .ref 115), (1, .int 1), (2, .int a2)], [.int 1], hh1) _
          refine xi_ift (pc' := 34) kc_26_24 rfl rfl ?_
          refine xi_iload_n (pc' := 35) (x := a2) kc_26_34 rfl rfl ?_
          refine xi_tsi (pc' := 104) (z := 4) kc_26_35 (by omega) rfl (by decide) ?_
          refine xi_aload_n (pc' := 105) (x := 115) kc_26_104 rfl rfl ?_
          refine xi_getfield (pc' := 108) (v := .ref 129) kc_26_105 rfl rfl rfl eh1.1 rfl ?_
          refine xi_iload_n (pc' := 109) (x := 1) kc_26_108 rfl rfl ?_
          refine xi_iaload (pc' := 110) (v := 0) kc_26_109 rfl ((eh1.2.1 129 (by decide)).trans (F 129 _ hl_129)) (by decide) rfl (xi_in (n := 12) (by decide) (by decide)) rfl ?_
          refine xi_ireturn kc_26_110 mr_26 rfl ?_
          show xw J ov 100 196 (510, [(4, .int 0), (3, .ref 167), (2, .ref 115), (1, .ref 0), (0, .ref 1000000)], [.int 0, .int 0], hh1) _
          refine xi_cmt (pc' := 1528) kc_196_510 rfl rfl ?_
          refine xi_iinc (pc' := 1531) (x := 0) (v := 6) (lv' := [(4, .int 6), (3, .ref 167), (2, .ref 115), (1, .ref 0), (0, .ref 1000000)]) kc_196_1528 rfl rfl rfl rfl (xm_lt ml_196 rfl) ?_
          refine xi_goto (pc' := 23) kc_196_1531 rfl ?_
          refine xi_iload (pc' := 25) (x := 6) kc_196_23 rfl rfl ?_
          refine xi_aload_n (pc' := 26) (x := 1000000) kc_196_25 rfl rfl ?_
          refine xi_arraylength (pc' := 27) (n := 6) (v := 6) kc_196_26 rfl (xl_lenO (by decide) hov0 rfl) rfl ?_
          refine xi_bipush (pc' := 29) (v := 6) kc_196_27 rfl rfl ?_
          refine xi_isub (pc' := 30) (v := 0) kc_196_29 rfl rfl ?_
          refine xi_cmt (pc' := 1534) kc_196_30 rfl rfl ?_
          refine xi_iconst (pc' := 1535) (v := 1) kc_196_1534 rfl rfl ?_
          refine xi_ireturn kc_196_1535 mr_196 rfl ?_
          refine ⟨rfl, ?_, ?_⟩
          · rw [eh1.2.2.1]; exact hn0
          · rw [eh1.2.2.2]; exact hz0
        by_cases c17 : a2.toInt = 5
        · refine xi_tsi (pc' := 102) (z := 5) kc_107_24 (by omega) rfl (by decide) ?_
          refine xi_aload_n (pc' := 103) (x := 0) kc_107_102 rfl rfl ?_
          refine xi_getfield (pc' := 106) (v := .ref 1) kc_107_103 rfl rfl rfl (F 0 _ hl_0) rfl ?_
          refine xi_iload_n (pc' := 107) (x := 1) kc_107_106 rfl rfl ?_
          refine xi_aload_n (pc' := 108) (x := 0) kc_107_107 rfl rfl ?_
          refine xi_getfield (pc' := 111) (v := .int 0) kc_107_108 rfl rfl rfl (F 0 _ hl_0) rfl ?_
          refine xi_virtual (mj := 108) (as := [.int 1, .int 0]) (st1 := []) (lv0 := [(0, .ref 1), (1, .int 1), (2, .int 0)]) kc_107_111 rfl rfl rfl rfl rfl (F 1 _ hl_1) (Nat.le_of_ble_eq_true rfl) (hJ _ _ _ _ (by decide)) (xm_le ml_108 rfl) rfl ?_
          refine xi_aload_n (pc' := 1) (x := 1) kc_108_0 rfl rfl ?_
          refine xi_iload_n (pc' := 2) (x := 1) kc_108_1 rfl rfl ?_
          refine xi_virtual (mj := 109) (as := [.int 1]) (st1 := []) (lv0 := [(0, .ref 1), (1, .int 1)]) kc_108_2 rfl rfl rfl rfl rfl (F 1 _ hl_1) (Nat.le_of_ble_eq_true rfl) (hJ _ _ _ _ (by decide)) (xm_le ml_109 rfl) rfl ?_
          refine xi_iload_n (pc' := 1) (x := 1) kc_109_0 rfl rfl ?_
          refine xi_static (mj := 105) (as := [.int 1]) (st1 := []) (lv0 := [(0, .int 1)]) kc_109_1 rfl rfl (Nat.le_of_ble_eq_true rfl) rfl rfl (Nat.le_of_ble_eq_true rfl) (hJ _ _ _ _ (by decide)) (xm_le ml_105 rfl) rfl ?_
          refine xi_iload_n (pc' := 1) (x := 1) kc_105_0 rfl rfl ?_
          refine xi_iff (pc' := 4) kc_105_1 rfl rfl ?_
          refine xi_iload_n (pc' := 5) (x := 1) kc_105_4 rfl rfl ?_
          refine xi_bipush (pc' := 7) (v := 12) kc_105_5 rfl rfl ?_
          refine xi_cmf (pc' := 10) kc_105_7 rfl rfl ?_
          refine xi_iconst (pc' := 11) (v := 1) kc_105_10 rfl rfl ?_
          refine xi_goto (pc' := 15) kc_105_11 rfl ?_
          refine xi_ireturn kc_105_15 mr_105 rfl ?_
          show xw J ov 97 109 (4, [(0, .ref 1), (1, .int 1)], [.int 1], h0) _
          refine xi_iff (pc' := 7) kc_109_4 rfl rfl ?_
          refine xi_aload_n (pc' := 8) (x := 1) kc_109_7 rfl rfl ?_
          refine xi_getfield (pc' := 11) (v := .ref 3) kc_109_8 rfl rfl rfl (F 1 _ hl_1) rfl ?_
          refine xi_iload_n (pc' := 12) (x := 1) kc_109_11 rfl rfl ?_
          refine xi_aaload (pc' := 13) (b := 31) kc_109_12 rfl (F 3 _ hl_3) rfl (xi_in (n := 12) (by decide) (by decide)) rfl ?_
          refine xi_virtual (mj := 106) (as := []) (st1 := []) (lv0 := [(0, .ref 31)]) kc_109_13 rfl rfl rfl rfl rfl (F 31 _ hl_31) (Nat.le_of_ble_eq_true rfl) (hJ _ _ _ _ (by decide)) (xm_le ml_106 rfl) rfl ?_
          refine xi_aload_n (pc' := 1) (x := 31) kc_106_0 rfl rfl ?_
          refine xi_getfield (pc' := 4) (v := .int (-9)) kc_106_1 rfl rfl rfl (F 31 _ hl_31) rfl ?_
          refine xi_static (mj := 90) (as := [.int (-9)]) (st1 := []) (lv0 := [(0, .int (-9))]) kc_106_4 rfl rfl (Nat.le_of_ble_eq_true rfl) rfl rfl (Nat.le_of_ble_eq_true rfl) (hJ _ _ _ _ (by decide)) (xm_le ml_90 rfl) rfl ?_
          refine xi_iload_n (pc' := 1) (x := (-9)) kc_90_0 rfl rfl ?_
          refine xi_ift (pc' := 14) kc_90_1 rfl rfl ?_
          refine xi_iconst (pc' := 15) (v := 0) kc_90_14 rfl rfl ?_
          refine xi_ireturn kc_90_15 mr_90 rfl ?_
          show xw J ov 96 106 (7, [(0, .ref 31)], [.int 0], h0) _
          refine xi_ireturn kc_106_7 mr_106 rfl ?_
          show xw J ov 97 109 (16, [(0, .ref 1), (1, .int 1)], [.int 0], h0) _
          refine xi_ift (pc' := 23) kc_109_16 rfl rfl ?_
          refine xi_iconst (pc' := 24) (v := 0) kc_109_23 rfl rfl ?_
          refine xi_ireturn kc_109_24 mr_109 rfl ?_
          show xw J ov 98 108 (5, [(0, .ref 1), (1, .int 1), (2, .int 0)], [.int 0], h0) _
          refine xi_iff (pc' := 8) kc_108_5 rfl rfl ?_
          refine xi_iconst (pc' := 9) (v := 0) kc_108_8 rfl rfl ?_
          refine xi_ireturn kc_108_9 mr_108 rfl ?_
          show xw J ov 99 107 (114, [(3, .ref 31), (0, .ref 0), (1, .int 1), (2, .int a2)], [.int 0], h0) _
          refine xi_ireturn kc_107_114 mr_107 rfl ?_
          show xw J ov 100 196 (494, [(4, .int 0), (3, .ref 167), (2, .ref 115), (1, .ref 0), (0, .ref 1000000)], [.int 0], h0) _
          refine xi_aload_n (pc' := 495) (x := 115) kc_196_494 rfl rfl ?_
          refine xi_aload_n (pc' := 496) (x := 1000000) kc_196_495 rfl rfl ?_
          refine xi_iload (pc' := 498) (x := 0) kc_196_496 rfl rfl ?_
          refine xi_iconst (pc' := 499) (v := 1) kc_196_498 rfl rfl ?_
          refine xi_iadd (pc' := 500) (v := 1) kc_196_499 rfl rfl ?_
          refine xi_ialoadO (pc' := 501) (v := 1) kc_196_500 rfl (by decide) hov0 (xi_in (n := 6) (by decide) (by decide)) rfl ?_
          refine xi_aload_n (pc' := 502) (x := 1000000) kc_196_501 rfl rfl ?_
          refine xi_iload (pc' := 504) (x := 0) kc_196_502 rfl rfl ?_
          refine xi_iconst (pc' := 505) (v := 2) kc_196_504 rfl rfl ?_
          refine xi_iadd (pc' := 506) (v := 2) kc_196_505 rfl rfl ?_
          refine xi_ialoadO (pc' := 507) (v := a2) kc_196_506 rfl (by decide) hov0 (xi_in (n := 6) (by decide) (by decide)) rfl ?_
          refine xi_virtual (mj := 26) (as := [.int 1, .int a2]) (st1 := [.int 0]) (lv0 := [(0, .ref 115), (1, .int 1), (2, .int a2)]) kc_196_507 rfl rfl rfl rfl rfl (F 115 _ hl_115) (Nat.le_of_ble_eq_true rfl) (hJ _ _ _ _ (by decide)) (xm_le ml_26 rfl) rfl ?_
          refine xi_aload_n (pc' := 1) (x := 115) kc_26_0 rfl rfl ?_
          refine xi_iconst (pc' := 2) (v := 0) kc_26_1 rfl rfl ?_
          refine xi_putfield (pc' := 5) (fs' := [.int 0, .int 0, .ref 116, .ref 117, .ref 118, .ref 119, .ref 120, .ref 121, .ref 122, .ref 123, .ref 124, .ref 125, .ref 126, .ref 127, .ref 128, .ref 129, .int 4, .ref 130, .int 0, .ref 131, .ref 132, .ref 133, .ref 134, .int 0, .ref 135, .ref 136, .ref 137, .ref 138, .ref 139, .ref 140, .ref 141, .ref 142, .int 0, .int 0, .int 0, .ref 143, .ref 144, .ref 145, .ref 146, .ref 147, .ref 148, .int 0, .ref 149, .ref 150, .ref 151, .int 0, .ref 152, .ref 153, .ref 154, .ref 155, .ref 156, .ref 157, .ref 158, .ref 159, .int 0, .ref 160, .int 0, .ref 161, .ref 162, .ref 163, .ref 164, .int 0, .ref 165, .ref 166]) kc_26_2 rfl rfl rfl (F 115 _ hl_115) rfl rfl rfl (Nat.le_of_ble_eq_true rfl) rfl (fun hh1 eh1 => ?_)
          refine xi_iload_n (pc' := 6) (x := 1) kc_26_5 rfl rfl ?_
          refine xi_static (mj := 25) (as := [.int 1]) (st1 := []) (lv0 := [(0, .int 1)]) kc_26_6 rfl rfl (Nat.le_of_ble_eq_true rfl) rfl rfl (Nat.le_of_ble_eq_true rfl) (hJ _ _ _ _ (by decide)) (xm_le ml_25 rfl) rfl ?_
          refine xi_iload_n (pc' := 1) (x := 1) kc_25_0 rfl rfl ?_
          refine xi_iconst (pc' := 2) (v := 0) kc_25_1 rfl rfl ?_
          refine xi_bipush (pc' := 4) (v := 11) kc_25_2 rfl rfl ?_
          refine xi_static (mj := 12) (as := [.int 1, .int 0, .int 11]) (st1 := []) (lv0 := [(0, .int 1), (1, .int 0), (2, .int 11)]) kc_25_4 rfl rfl (Nat.le_of_ble_eq_true rfl) rfl rfl (Nat.le_of_ble_eq_true rfl) (hJ _ _ _ _ (by decide)) (xm_le ml_12 rfl) rfl ?_
          refine xi_iload_n (pc' := 1) (x := 1) kc_12_0 rfl rfl ?_
          refine xi_iload_n (pc' := 2) (x := 0) kc_12_1 rfl rfl ?_
          refine xi_cmf (pc' := 5) kc_12_2 rfl rfl ?_
          refine xi_iload_n (pc' := 6) (x := 1) kc_12_5 rfl rfl ?_
          refine xi_iload_n (pc' := 7) (x := 11) kc_12_6 rfl rfl ?_
          refine xi_cmf (pc' := 10) kc_12_7 rfl rfl ?_
          refine xi_iconst (pc' := 11) (v := 1) kc_12_10 rfl rfl ?_
          refine xi_goto (pc' := 15) kc_12_11 rfl ?_
          refine xi_ireturn kc_12_15 mr_12 rfl ?_
          show xw J ov 98 25 (7, [(0, .int 1)], [.int 1], hh1) _
          refine xi_ireturn kc_25_7 mr_25 rfl ?_
          show xw J ov 99 26 (9, [(0, .ref 115), (1, .int 1), (2, .int a2)], [.int 1], hh1) _
          refine xi_ift (pc' := 18) kc_26_9 rfl rfl ?_
          refine xi_iload_n (pc' := 19) (x := a2) kc_26_18 rfl rfl ?_
          refine xi_iconst (pc' := 20) (v := 0) kc_26_19 rfl rfl ?_
          refine xi_iconst (pc' := 21) (v := 5) kc_26_20 rfl rfl ?_
          refine xi_static (mj := 12) (as := [.int a2, .int 0, .int 5]) (st1 := []) (lv0 := [(0, .int a2), (1, .int 0), (2, .int 5)]) kc_26_21 rfl rfl (Nat.le_of_ble_eq_true rfl) rfl rfl (Nat.le_of_ble_eq_true rfl) (hJ _ _ _ _ (by decide)) (xm_le ml_12 rfl) rfl ?_
          refine xi_iload_n (pc' := 1) (x := a2) kc_12_0 rfl rfl ?_
          refine xi_iload_n (pc' := 2) (x := 0) kc_12_1 rfl rfl ?_
          refine xi_cmf (pc' := 5) kc_12_2 rfl (xc_lt_f (X := a2.toInt) (Y := 0) rfl (by decide) (by omega)) ?_
          refine xi_iload_n (pc' := 6) (x := a2) kc_12_5 rfl rfl ?_
          refine xi_iload_n (pc' := 7) (x := 5) kc_12_6 rfl rfl ?_
          refine xi_cmf (pc' := 10) kc_12_7 rfl (xc_gt_f (X := a2.toInt) (Y := 5) rfl (by decide) (by omega)) ?_
          refine xi_iconst (pc' := 11) (v := 1) kc_12_10 rfl rfl ?_
          refine xi_goto (pc' := 15) kc_12_11 rfl ?_
          refine xi_ireturn kc_12_15 mr_12 rfl ?_
          show xw J ov 99 26 (24, [(0, .ref 115), (1, .int 1), (2, .int a2)], [.int 1], hh1) _
          refine xi_ift (pc' := 34) kc_26_24 rfl rfl ?_
          refine xi_iload_n (pc' := 35) (x := a2) kc_26_34 rfl rfl ?_
          refine xi_tsd (pc' := 111) kc_26_35 rfl (by omega) ?_
          refine xi_aload_n (pc' := 112) (x := 115) kc_26_111 rfl rfl ?_
          refine xi_getfield (pc' := 115) (v := .ref 125) kc_26_112 rfl rfl rfl eh1.1 rfl ?_
          refine xi_iload_n (pc' := 116) (x := 1) kc_26_115 rfl rfl ?_
          refine xi_iaload (pc' := 117) (v := (-9)) kc_26_116 rfl ((eh1.2.1 125 (by decide)).trans (F 125 _ hl_125)) (by decide) rfl (xi_in (n := 12) (by decide) (by decide)) rfl ?_
          refine xi_iff (pc' := 120) kc_26_117 rfl rfl ?_
          refine xi_iconst (pc' := 121) (v := 0) kc_26_120 rfl rfl ?_
          refine xi_goto (pc' := 133) kc_26_121 rfl ?_
          refine xi_ireturn kc_26_133 mr_26 rfl ?_
          show xw J ov 100 196 (510, [(4, .int 0), (3, .ref 167), (2, .ref 115), (1, .ref 0), (0, .ref 1000000)], [.int 0, .int 0], hh1) _
          refine xi_cmt (pc' := 1528) kc_196_510 rfl rfl ?_
          refine xi_iinc (pc' := 1531) (x := 0) (v := 6) (lv' := [(4, .int 6), (3, .ref 167), (2, .ref 115), (1, .ref 0), (0, .ref 1000000)]) kc_196_1528 rfl rfl rfl rfl (xm_lt ml_196 rfl) ?_
          refine xi_goto (pc' := 23) kc_196_1531 rfl ?_
          refine xi_iload (pc' := 25) (x := 6) kc_196_23 rfl rfl ?_
          refine xi_aload_n (pc' := 26) (x := 1000000) kc_196_25 rfl rfl ?_
          refine xi_arraylength (pc' := 27) (n := 6) (v := 6) kc_196_26 rfl (xl_lenO (by decide) hov0 rfl) rfl ?_
          refine xi_bipush (pc' := 29) (v := 6) kc_196_27 rfl rfl ?_
          refine xi_isub (pc' := 30) (v := 0) kc_196_29 rfl rfl ?_
          refine xi_cmt (pc' := 1534) kc_196_30 rfl rfl ?_
          refine xi_iconst (pc' := 1535) (v := 1) kc_196_1534 rfl rfl ?_
          refine xi_ireturn kc_196_1535 mr_196 rfl ?_
          refine ⟨rfl, ?_, ?_⟩
          · rw [eh1.2.2.1]; exact hn0
          · rw [eh1.2.2.2]; exact hz0
        refine xi_tsd (pc' := 115) kc_107_24 rfl (by omega) ?_
        refine xi_aload_n (pc' := 116) (x := 0) kc_107_115 rfl rfl ?_
        refine xi_bipush (pc' := 118) (v := (-2)) kc_107_116 rfl rfl ?_
        refine xi_virtual (mj := 91) (as := [.int (-2)]) (st1 := []) (lv0 := [(0, .ref 0), (1, .int (-2))]) kc_107_118 rfl rfl rfl rfl rfl (F 0 _ hl_0) (Nat.le_of_ble_eq_true rfl) (hJ _ _ _ _ (by decide)) (xm_le ml_91 rfl) rfl ?_
        refine xi_iload_n (pc' := 1) (x := (-2)) kc_91_0 rfl rfl ?_
        refine xi_ineg (pc' := 2) (v := 2) kc_91_1 rfl rfl ?_
        refine xi_istore_n (pc' := 3) (lv' := [(2, .int 2), (0, .ref 0), (1, .int (-2))]) kc_91_2 rfl rfl (xm_lt ml_91 rfl) ?_
        refine xi_iload_n (pc' := 4) (x := 2) kc_91_3 rfl rfl ?_
        refine xi_iff (pc' := 7) kc_91_4 rfl rfl ?_
        refine xi_iload_n (pc' := 8) (x := 2) kc_91_7 rfl rfl ?_
        refine xi_aload_n (pc' := 9) (x := 0) kc_91_8 rfl rfl ?_
        refine xi_getfield (pc' := 12) (v := .ref 94) kc_91_9 rfl rfl rfl (F 0 _ hl_0) rfl ?_
        refine xi_arraylength (pc' := 13) (n := 7) (v := 7) kc_91_12 rfl (xl_lenI (by decide) (by decide) (F 94 _ hl_94) (by simp only [List.length_replicate, List.length_cons, List.length_nil])) rfl ?_
        refine xi_cmf (pc' := 16) kc_91_13 rfl rfl ?_
        refine xi_aload_n (pc' := 17) (x := 0) kc_91_16 rfl rfl ?_
        refine xi_getfield (pc' := 20) (v := .ref 94) kc_91_17 rfl rfl rfl (F 0 _ hl_0) rfl ?_
        refine xi_iload_n (pc' := 21) (x := 2) kc_91_20 rfl rfl ?_
        refine xi_dup2 (pc' := 22) kc_91_21 rfl ⟨rfl, rfl⟩ ?_
        refine xi_iaload (pc' := 23) (v := 0) kc_91_22 rfl (F 94 _ hl_94) (by decide) rfl (xi_in (n := 7) (by decide) (by decide)) rfl ?_
        refine xi_iconst (pc' := 24) (v := 1) kc_91_23 rfl rfl ?_
        refine xi_iadd (pc' := 25) (v := 1) kc_91_24 rfl rfl ?_
        refine xi_iastore (pc' := 26) (x' := [0, 0, 1, 0, 0, 0, 0]) kc_91_25 rfl (F 94 _ hl_94) rfl (xi_in (n := 7) (by decide) (by decide)) rfl (fun hh1 eh1 => ?_)
        refine xi_iload_n (pc' := 27) (x := (-2)) kc_91_26 rfl rfl ?_
        refine xi_ireturn kc_91_27 mr_91 rfl ?_
        show xw J ov 99 107 (121, [(3, .ref 31), (0, .ref 0), (1, .int 1), (2, .int a2)], [.int (-2)], hh1) _
        refine xi_ireturn kc_107_121 mr_107 rfl ?_
        show xw J ov 100 196 (494, [(4, .int 0), (3, .ref 167), (2, .ref 115), (1, .ref 0), (0, .ref 1000000)], [.int (-2)], hh1) _
        refine xi_aload_n (pc' := 495) (x := 115) kc_196_494 rfl rfl ?_
        refine xi_aload_n (pc' := 496) (x := 1000000) kc_196_495 rfl rfl ?_
        refine xi_iload (pc' := 498) (x := 0) kc_196_496 rfl rfl ?_
        refine xi_iconst (pc' := 499) (v := 1) kc_196_498 rfl rfl ?_
        refine xi_iadd (pc' := 500) (v := 1) kc_196_499 rfl rfl ?_
        refine xi_ialoadO (pc' := 501) (v := 1) kc_196_500 rfl (by decide) hov0 (xi_in (n := 6) (by decide) (by decide)) rfl ?_
        refine xi_aload_n (pc' := 502) (x := 1000000) kc_196_501 rfl rfl ?_
        refine xi_iload (pc' := 504) (x := 0) kc_196_502 rfl rfl ?_
        refine xi_iconst (pc' := 505) (v := 2) kc_196_504 rfl rfl ?_
        refine xi_iadd (pc' := 506) (v := 2) kc_196_505 rfl rfl ?_
        refine xi_ialoadO (pc' := 507) (v := a2) kc_196_506 rfl (by decide) hov0 (xi_in (n := 6) (by decide) (by decide)) rfl ?_
        refine xi_virtual (mj := 26) (as := [.int 1, .int a2]) (st1 := [.int (-2)]) (lv0 := [(0, .ref 115), (1, .int 1), (2, .int a2)]) kc_196_507 rfl rfl rfl rfl rfl ((eh1.2.1 115 (by decide)).trans (F 115 _ hl_115)) (Nat.le_of_ble_eq_true rfl) (hJ _ _ _ _ (by decide)) (xm_le ml_26 rfl) rfl ?_
        refine xi_aload_n (pc' := 1) (x := 115) kc_26_0 rfl rfl ?_
        refine xi_iconst (pc' := 2) (v := 0) kc_26_1 rfl rfl ?_
        refine xi_putfield (pc' := 5) (fs' := [.int 0, .int 0, .ref 116, .ref 117, .ref 118, .ref 119, .ref 120, .ref 121, .ref 122, .ref 123, .ref 124, .ref 125, .ref 126, .ref 127, .ref 128, .ref 129, .int 4, .ref 130, .int 0, .ref 131, .ref 132, .ref 133, .ref 134, .int 0, .ref 135, .ref 136, .ref 137, .ref 138, .ref 139, .ref 140, .ref 141, .ref 142, .int 0, .int 0, .int 0, .ref 143, .ref 144, .ref 145, .ref 146, .ref 147, .ref 148, .int 0, .ref 149, .ref 150, .ref 151, .int 0, .ref 152, .ref 153, .ref 154, .ref 155, .ref 156, .ref 157, .ref 158, .ref 159, .int 0, .ref 160, .int 0, .ref 161, .ref 162, .ref 163, .ref 164, .int 0, .ref 165, .ref 166]) kc_26_2 rfl rfl rfl ((eh1.2.1 115 (by decide)).trans (F 115 _ hl_115)) rfl rfl rfl (Nat.le_of_ble_eq_true rfl) rfl (fun hh2 eh2 => ?_)
        refine xi_iload_n (pc' := 6) (x := 1) kc_26_5 rfl rfl ?_
        refine xi_static (mj := 25) (as := [.int 1]) (st1 := []) (lv0 := [(0, .int 1)]) kc_26_6 rfl rfl (Nat.le_of_ble_eq_true rfl) rfl rfl (Nat.le_of_ble_eq_true rfl) (hJ _ _ _ _ (by decide)) (xm_le ml_25 rfl) rfl ?_
        refine xi_iload_n (pc' := 1) (x := 1) kc_25_0 rfl rfl ?_
        refine xi_iconst (pc' := 2) (v := 0) kc_25_1 rfl rfl ?_
        refine xi_bipush (pc' := 4) (v := 11) kc_25_2 rfl rfl ?_
        refine xi_static (mj := 12) (as := [.int 1, .int 0, .int 11]) (st1 := []) (lv0 := [(0, .int 1), (1, .int 0), (2, .int 11)]) kc_25_4 rfl rfl (Nat.le_of_ble_eq_true rfl) rfl rfl (Nat.le_of_ble_eq_true rfl) (hJ _ _ _ _ (by decide)) (xm_le ml_12 rfl) rfl ?_
        refine xi_iload_n (pc' := 1) (x := 1) kc_12_0 rfl rfl ?_
        refine xi_iload_n (pc' := 2) (x := 0) kc_12_1 rfl rfl ?_
        refine xi_cmf (pc' := 5) kc_12_2 rfl rfl ?_
        refine xi_iload_n (pc' := 6) (x := 1) kc_12_5 rfl rfl ?_
        refine xi_iload_n (pc' := 7) (x := 11) kc_12_6 rfl rfl ?_
        refine xi_cmf (pc' := 10) kc_12_7 rfl rfl ?_
        refine xi_iconst (pc' := 11) (v := 1) kc_12_10 rfl rfl ?_
        refine xi_goto (pc' := 15) kc_12_11 rfl ?_
        refine xi_ireturn kc_12_15 mr_12 rfl ?_
        show xw J ov 98 25 (7, [(0, .int 1)], [.int 1], hh2) _
        refine xi_ireturn kc_25_7 mr_25 rfl ?_
        show xw J ov 99 26 (9, [(0, .ref 115), (1, .int 1), (2, .int a2)], [.int 1], hh2) _
        refine xi_ift (pc' := 18) kc_26_9 rfl rfl ?_
        refine xi_iload_n (pc' := 19) (x := a2) kc_26_18 rfl rfl ?_
        refine xi_iconst (pc' := 20) (v := 0) kc_26_19 rfl rfl ?_
        refine xi_iconst (pc' := 21) (v := 5) kc_26_20 rfl rfl ?_
        refine xi_static (mj := 12) (as := [.int a2, .int 0, .int 5]) (st1 := []) (lv0 := [(0, .int a2), (1, .int 0), (2, .int 5)]) kc_26_21 rfl rfl (Nat.le_of_ble_eq_true rfl) rfl rfl (Nat.le_of_ble_eq_true rfl) (hJ _ _ _ _ (by decide)) (xm_le ml_12 rfl) rfl ?_
        refine xi_iload_n (pc' := 1) (x := a2) kc_12_0 rfl rfl ?_
        refine xi_iload_n (pc' := 2) (x := 0) kc_12_1 rfl rfl ?_
        by_cases c18 : a2.toInt < 0
        · refine xi_cmt (pc' := 14) kc_12_2 rfl (xc_lt_t (X := a2.toInt) (Y := 0) rfl (by decide) (by omega)) ?_
          refine xi_iconst (pc' := 15) (v := 0) kc_12_14 rfl rfl ?_
          refine xi_ireturn kc_12_15 mr_12 rfl ?_
          show xw J ov 99 26 (24, [(0, .ref 115), (1, .int 1), (2, .int a2)], [.int 0], hh2) _
          refine xi_iff (pc' := 27) kc_26_24 rfl rfl ?_
          refine xi_aload_n (pc' := 28) (x := 115) kc_26_27 rfl rfl ?_
          refine xi_bipush (pc' := 30) (v := (-2)) kc_26_28 rfl rfl ?_
          refine xi_virtual (mj := 13) (as := [.int (-2)]) (st1 := []) (lv0 := [(0, .ref 115), (1, .int (-2))]) kc_26_30 rfl rfl rfl rfl rfl eh2.1 (Nat.le_of_ble_eq_true rfl) (hJ _ _ _ _ (by decide)) (xm_le ml_13 rfl) rfl ?_
          refine xi_aload_n (pc' := 1) (x := 115) kc_13_0 rfl rfl ?_
          refine xi_getfield (pc' := 4) (v := .ref 140) kc_13_1 rfl rfl rfl eh2.1 rfl ?_
          refine xi_iload_n (pc' := 5) (x := (-2)) kc_13_4 rfl rfl ?_
          refine xi_ineg (pc' := 6) (v := 2) kc_13_5 rfl rfl ?_
          refine xi_dup2 (pc' := 7) kc_13_6 rfl ⟨rfl, rfl⟩ ?_
          refine xi_iaload (pc' := 8) (v := 0) kc_13_7 rfl ((eh2.2.1 140 (by decide)).trans ((eh1.2.1 140 (by decide)).trans (F 140 _ hl_140))) (by decide) rfl (xi_in (n := 7) (by decide) (by decide)) rfl ?_
          refine xi_iconst (pc' := 9) (v := 1) kc_13_8 rfl rfl ?_
          refine xi_iadd (pc' := 10) (v := 1) kc_13_9 rfl rfl ?_
          refine xi_iastore (pc' := 11) (x' := [0, 0, 1, 0, 0, 0, 0]) kc_13_10 rfl ((eh2.2.1 140 (by decide)).trans ((eh1.2.1 140 (by decide)).trans (F 140 _ hl_140))) rfl (xi_in (n := 7) (by decide) (by decide)) rfl (fun hh3 eh3 => ?_)
          refine xi_iload_n (pc' := 12) (x := (-2)) kc_13_11 rfl rfl ?_
          refine xi_ireturn kc_13_12 mr_13 rfl ?_
          show xw J ov 99 26 (33, [(0, .ref 115), (1, .int 1), (2, .int a2)], [.int (-2)], hh3) _
          refine xi_ireturn kc_26_33 mr_26 rfl ?_
          show xw J ov 100 196 (510, [(4, .int 0), (3, .ref 167), (2, .ref 115), (1, .ref 0), (0, .ref 1000000)], [.int (-2), .int (-2)], hh3) _
          refine xi_cmt (pc' := 1528) kc_196_510 rfl rfl ?_
          refine xi_iinc (pc' := 1531) (x := 0) (v := 6) (lv' := [(4, .int 6), (3, .ref 167), (2, .ref 115), (1, .ref 0), (0, .ref 1000000)]) kc_196_1528 rfl rfl rfl rfl (xm_lt ml_196 rfl) ?_
          refine xi_goto (pc' := 23) kc_196_1531 rfl ?_
          refine xi_iload (pc' := 25) (x := 6) kc_196_23 rfl rfl ?_
          refine xi_aload_n (pc' := 26) (x := 1000000) kc_196_25 rfl rfl ?_
          refine xi_arraylength (pc' := 27) (n := 6) (v := 6) kc_196_26 rfl (xl_lenO (by decide) hov0 rfl) rfl ?_
          refine xi_bipush (pc' := 29) (v := 6) kc_196_27 rfl rfl ?_
          refine xi_isub (pc' := 30) (v := 0) kc_196_29 rfl rfl ?_
          refine xi_cmt (pc' := 1534) kc_196_30 rfl rfl ?_
          refine xi_iconst (pc' := 1535) (v := 1) kc_196_1534 rfl rfl ?_
          refine xi_ireturn kc_196_1535 mr_196 rfl ?_
          refine ⟨rfl, ?_, ?_⟩
          · rw [eh3.2.2.1, eh2.2.2.1, eh1.2.2.1]; exact hn0
          · rw [eh3.2.2.2, eh2.2.2.2, eh1.2.2.2]; exact hz0
        · refine xi_cmf (pc' := 5) kc_12_2 rfl (xc_lt_f (X := a2.toInt) (Y := 0) rfl (by decide) (by omega)) ?_
          refine xi_iload_n (pc' := 6) (x := a2) kc_12_5 rfl rfl ?_
          refine xi_iload_n (pc' := 7) (x := 5) kc_12_6 rfl rfl ?_
          refine xi_cmt (pc' := 14) kc_12_7 rfl (xc_gt_t (X := a2.toInt) (Y := 5) rfl (by decide) (by omega)) ?_
          refine xi_iconst (pc' := 15) (v := 0) kc_12_14 rfl rfl ?_
          refine xi_ireturn kc_12_15 mr_12 rfl ?_
          show xw J ov 99 26 (24, [(0, .ref 115), (1, .int 1), (2, .int a2)], [.int 0], hh2) _
          refine xi_iff (pc' := 27) kc_26_24 rfl rfl ?_
          refine xi_aload_n (pc' := 28) (x := 115) kc_26_27 rfl rfl ?_
          refine xi_bipush (pc' := 30) (v := (-2)) kc_26_28 rfl rfl ?_
          refine xi_virtual (mj := 13) (as := [.int (-2)]) (st1 := []) (lv0 := [(0, .ref 115), (1, .int (-2))]) kc_26_30 rfl rfl rfl rfl rfl eh2.1 (Nat.le_of_ble_eq_true rfl) (hJ _ _ _ _ (by decide)) (xm_le ml_13 rfl) rfl ?_
          refine xi_aload_n (pc' := 1) (x := 115) kc_13_0 rfl rfl ?_
          refine xi_getfield (pc' := 4) (v := .ref 140) kc_13_1 rfl rfl rfl eh2.1 rfl ?_
          refine xi_iload_n (pc' := 5) (x := (-2)) kc_13_4 rfl rfl ?_
          refine xi_ineg (pc' := 6) (v := 2) kc_13_5 rfl rfl ?_
          refine xi_dup2 (pc' := 7) kc_13_6 rfl ⟨rfl, rfl⟩ ?_
          refine xi_iaload (pc' := 8) (v := 0) kc_13_7 rfl ((eh2.2.1 140 (by decide)).trans ((eh1.2.1 140 (by decide)).trans (F 140 _ hl_140))) (by decide) rfl (xi_in (n := 7) (by decide) (by decide)) rfl ?_
          refine xi_iconst (pc' := 9) (v := 1) kc_13_8 rfl rfl ?_
          refine xi_iadd (pc' := 10) (v := 1) kc_13_9 rfl rfl ?_
          refine xi_iastore (pc' := 11) (x' := [0, 0, 1, 0, 0, 0, 0]) kc_13_10 rfl ((eh2.2.1 140 (by decide)).trans ((eh1.2.1 140 (by decide)).trans (F 140 _ hl_140))) rfl (xi_in (n := 7) (by decide) (by decide)) rfl (fun hh3 eh3 => ?_)
          refine xi_iload_n (pc' := 12) (x := (-2)) kc_13_11 rfl rfl ?_
          refine xi_ireturn kc_13_12 mr_13 rfl ?_
          show xw J ov 99 26 (33, [(0, .ref 115), (1, .int 1), (2, .int a2)], [.int (-2)], hh3) _
          refine xi_ireturn kc_26_33 mr_26 rfl ?_
          show xw J ov 100 196 (510, [(4, .int 0), (3, .ref 167), (2, .ref 115), (1, .ref 0), (0, .ref 1000000)], [.int (-2), .int (-2)], hh3) _
          refine xi_cmt (pc' := 1528) kc_196_510 rfl rfl ?_
          refine xi_iinc (pc' := 1531) (x := 0) (v := 6) (lv' := [(4, .int 6), (3, .ref 167), (2, .ref 115), (1, .ref 0), (0, .ref 1000000)]) kc_196_1528 rfl rfl rfl rfl (xm_lt ml_196 rfl) ?_
          refine xi_goto (pc' := 23) kc_196_1531 rfl ?_
          refine xi_iload (pc' := 25) (x := 6) kc_196_23 rfl rfl ?_
          refine xi_aload_n (pc' := 26) (x := 1000000) kc_196_25 rfl rfl ?_
          refine xi_arraylength (pc' := 27) (n := 6) (v := 6) kc_196_26 rfl (xl_lenO (by decide) hov0 rfl) rfl ?_
          refine xi_bipush (pc' := 29) (v := 6) kc_196_27 rfl rfl ?_
          refine xi_isub (pc' := 30) (v := 0) kc_196_29 rfl rfl ?_
          refine xi_cmt (pc' := 1534) kc_196_30 rfl rfl ?_
          refine xi_iconst (pc' := 1535) (v := 1) kc_196_1534 rfl rfl ?_
          refine xi_ireturn kc_196_1535 mr_196 rfl ?_
          refine ⟨rfl, ?_, ?_⟩
          · rw [eh3.2.2.1, eh2.2.2.1, eh1.2.2.1]; exact hn0
          · rw [eh3.2.2.2, eh2.2.2.2, eh1.2.2.2]; exact hz0
      by_cases c19 : a1.toInt = 2
      · have qa1 : a1 = 2 := xc_of (Eq.trans (by omega) (show (2 : Int) = (2 : Int32).toInt by decide))
        subst qa1
        refine xi_aaload (pc' := 22) (b := 33) kc_107_21 rfl (F 3 _ hl_3) rfl (xi_in (n := 12) (by decide) (by decide)) rfl ?_
        refine xi_astore_n (pc' := 23) (lv' := [(3, .ref 33), (0, .ref 0), (1, .int 2), (2, .int a2)]) kc_107_22 rfl rfl (xm_lt ml_107 rfl) ?_
        refine xi_iload_n (pc' := 24) (x := a2) kc_107_23 rfl rfl ?_
        by_cases c20 : a2.toInt = 0
        · refine xi_tsi (pc' := 64) (z := 0) kc_107_24 (by omega) rfl (by decide) ?_
          refine xi_aload_n (pc' := 65) (x := 33) kc_107_64 rfl rfl ?_
          refine xi_getfield (pc' := 68) (v := .int (-9)) kc_107_65 rfl rfl rfl (F 33 _ hl_33) rfl ?_
          refine xi_ireturn kc_107_68 mr_107 rfl ?_
          show xw J ov 100 196 (494, [(4, .int 0), (3, .ref 167), (2, .ref 115), (1, .ref 0), (0, .ref 1000000)], [.int (-9)], h0) _
          refine xi_aload_n (pc' := 495) (x := 115) kc_196_494 rfl rfl ?_
          refine xi_aload_n (pc' := 496) (x := 1000000) kc_196_495 rfl rfl ?_
          refine xi_iload (pc' := 498) (x := 0) kc_196_496 rfl rfl ?_
          refine xi_iconst (pc' := 499) (v := 1) kc_196_498 rfl rfl ?_
          refine xi_iadd (pc' := 500) (v := 1) kc_196_499 rfl rfl ?_
          refine xi_ialoadO (pc' := 501) (v := 2) kc_196_500 rfl (by decide) hov0 (xi_in (n := 6) (by decide) (by decide)) rfl ?_
          refine xi_aload_n (pc' := 502) (x := 1000000) kc_196_501 rfl rfl ?_
          refine xi_iload (pc' := 504) (x := 0) kc_196_502 rfl rfl ?_
          refine xi_iconst (pc' := 505) (v := 2) kc_196_504 rfl rfl ?_
          refine xi_iadd (pc' := 506) (v := 2) kc_196_505 rfl rfl ?_
          refine xi_ialoadO (pc' := 507) (v := a2) kc_196_506 rfl (by decide) hov0 (xi_in (n := 6) (by decide) (by decide)) rfl ?_
          refine xi_virtual (mj := 26) (as := [.int 2, .int a2]) (st1 := [.int (-9)]) (lv0 := [(0, .ref 115), (1, .int 2), (2, .int a2)]) kc_196_507 rfl rfl rfl rfl rfl (F 115 _ hl_115) (Nat.le_of_ble_eq_true rfl) (hJ _ _ _ _ (by decide)) (xm_le ml_26 rfl) rfl ?_
          refine xi_aload_n (pc' := 1) (x := 115) kc_26_0 rfl rfl ?_
          refine xi_iconst (pc' := 2) (v := 0) kc_26_1 rfl rfl ?_
          refine xi_putfield (pc' := 5) (fs' := [.int 0, .int 0, .ref 116, .ref 117, .ref 118, .ref 119, .ref 120, .ref 121, .ref 122, .ref 123, .ref 124, .ref 125, .ref 126, .ref 127, .ref 128, .ref 129, .int 4, .ref 130, .int 0, .ref 131, .ref 132, .ref 133, .ref 134, .int 0, .ref 135, .ref 136, .ref 137, .ref 138, .ref 139, .ref 140, .ref 141, .ref 142, .int 0, .int 0, .int 0, .ref 143, .ref 144, .ref 145, .ref 146, .ref 147, .ref 148, .int 0, .ref 149, .ref 150, .ref 151, .int 0, .ref 152, .ref 153, .ref 154, .ref 155, .ref 156, .ref 157, .ref 158, .ref 159, .int 0, .ref 160, .int 0, .ref 161, .ref 162, .ref 163, .ref 164, .int 0, .ref 165, .ref 166]) kc_26_2 rfl rfl rfl (F 115 _ hl_115) rfl rfl rfl (Nat.le_of_ble_eq_true rfl) rfl (fun hh1 eh1 => ?_)
          refine xi_iload_n (pc' := 6) (x := 2) kc_26_5 rfl rfl ?_
          refine xi_static (mj := 25) (as := [.int 2]) (st1 := []) (lv0 := [(0, .int 2)]) kc_26_6 rfl rfl (Nat.le_of_ble_eq_true rfl) rfl rfl (Nat.le_of_ble_eq_true rfl) (hJ _ _ _ _ (by decide)) (xm_le ml_25 rfl) rfl ?_
          refine xi_iload_n (pc' := 1) (x := 2) kc_25_0 rfl rfl ?_
          refine xi_iconst (pc' := 2) (v := 0) kc_25_1 rfl rfl ?_
          refine xi_bipush (pc' := 4) (v := 11) kc_25_2 rfl rfl ?_
          refine xi_static (mj := 12) (as := [.int 2, .int 0, .int 11]) (st1 := []) (lv0 := [(0, .int 2), (1, .int 0), (2, .int 11)]) kc_25_4 rfl rfl (Nat.le_of_ble_eq_true rfl) rfl rfl (Nat.le_of_ble_eq_true rfl) (hJ _ _ _ _ (by decide)) (xm_le ml_12 rfl) rfl ?_
          refine xi_iload_n (pc' := 1) (x := 2) kc_12_0 rfl rfl ?_
          refine xi_iload_n (pc' := 2) (x := 0) kc_12_1 rfl rfl ?_
          refine xi_cmf (pc' := 5) kc_12_2 rfl rfl ?_
          refine xi_iload_n (pc' := 6) (x := 2) kc_12_5 rfl rfl ?_
          refine xi_iload_n (pc' := 7) (x := 11) kc_12_6 rfl rfl ?_
          refine xi_cmf (pc' := 10) kc_12_7 rfl rfl ?_
          refine xi_iconst (pc' := 11) (v := 1) kc_12_10 rfl rfl ?_
          refine xi_goto (pc' := 15) kc_12_11 rfl ?_
          refine xi_ireturn kc_12_15 mr_12 rfl ?_
          show xw J ov 98 25 (7, [(0, .int 2)], [.int 1], hh1) _
          refine xi_ireturn kc_25_7 mr_25 rfl ?_
          show xw J ov 99 26 (9, [(0, .ref 115), (1, .int 2), (2, .int a2)], [.int 1], hh1) _
          refine xi_ift (pc' := 18) kc_26_9 rfl rfl ?_
          refine xi_iload_n (pc' := 19) (x := a2) kc_26_18 rfl rfl ?_
          refine xi_iconst (pc' := 20) (v := 0) kc_26_19 rfl rfl ?_
          refine xi_iconst (pc' := 21) (v := 5) kc_26_20 rfl rfl ?_
          refine xi_static (mj := 12) (as := [.int a2, .int 0, .int 5]) (st1 := []) (lv0 := [(0, .int a2), (1, .int 0), (2, .int 5)]) kc_26_21 rfl rfl (Nat.le_of_ble_eq_true rfl) rfl rfl (Nat.le_of_ble_eq_true rfl) (hJ _ _ _ _ (by decide)) (xm_le ml_12 rfl) rfl ?_
          refine xi_iload_n (pc' := 1) (x := a2) kc_12_0 rfl rfl ?_
          refine xi_iload_n (pc' := 2) (x := 0) kc_12_1 rfl rfl ?_
          refine xi_cmf (pc' := 5) kc_12_2 rfl (xc_lt_f (X := a2.toInt) (Y := 0) rfl (by decide) (by omega)) ?_
          refine xi_iload_n (pc' := 6) (x := a2) kc_12_5 rfl rfl ?_
          refine xi_iload_n (pc' := 7) (x := 5) kc_12_6 rfl rfl ?_
          refine xi_cmf (pc' := 10) kc_12_7 rfl (xc_gt_f (X := a2.toInt) (Y := 5) rfl (by decide) (by omega)) ?_
          refine xi_iconst (pc' := 11) (v := 1) kc_12_10 rfl rfl ?_
          refine xi_goto (pc' := 15) kc_12_11 rfl ?_
          refine xi_ireturn kc_12_15 mr_12 rfl ?_
          show xw J ov 99 26 (24, [(0, .ref 115), (1, .int 2), (2, .int a2)], [.int 1], hh1) _
          refine xi_ift (pc' := 34) kc_26_24 rfl rfl ?_
          refine xi_iload_n (pc' := 35) (x := a2) kc_26_34 rfl rfl ?_
          refine xi_tsi (pc' := 68) (z := 0) kc_26_35 (by omega) rfl (by decide) ?_
          refine xi_aload_n (pc' := 69) (x := 115) kc_26_68 rfl rfl ?_
          refine xi_getfield (pc' := 72) (v := .ref 125) kc_26_69 rfl rfl rfl eh1.1 rfl ?_
          refine xi_iload_n (pc' := 73) (x := 2) kc_26_72 rfl rfl ?_
          refine xi_iaload (pc' := 74) (v := (-9)) kc_26_73 rfl ((eh1.2.1 125 (by decide)).trans (F 125 _ hl_125)) (by decide) rfl (xi_in (n := 12) (by decide) (by decide)) rfl ?_
          refine xi_ireturn kc_26_74 mr_26 rfl ?_
          show xw J ov 100 196 (510, [(4, .int 0), (3, .ref 167), (2, .ref 115), (1, .ref 0), (0, .ref 1000000)], [.int (-9), .int (-9)], hh1) _
          refine xi_cmt (pc' := 1528) kc_196_510 rfl rfl ?_
          refine xi_iinc (pc' := 1531) (x := 0) (v := 6) (lv' := [(4, .int 6), (3, .ref 167), (2, .ref 115), (1, .ref 0), (0, .ref 1000000)]) kc_196_1528 rfl rfl rfl rfl (xm_lt ml_196 rfl) ?_
          refine xi_goto (pc' := 23) kc_196_1531 rfl ?_
          refine xi_iload (pc' := 25) (x := 6) kc_196_23 rfl rfl ?_
          refine xi_aload_n (pc' := 26) (x := 1000000) kc_196_25 rfl rfl ?_
          refine xi_arraylength (pc' := 27) (n := 6) (v := 6) kc_196_26 rfl (xl_lenO (by decide) hov0 rfl) rfl ?_
          refine xi_bipush (pc' := 29) (v := 6) kc_196_27 rfl rfl ?_
          refine xi_isub (pc' := 30) (v := 0) kc_196_29 rfl rfl ?_
          refine xi_cmt (pc' := 1534) kc_196_30 rfl rfl ?_
          refine xi_iconst (pc' := 1535) (v := 1) kc_196_1534 rfl rfl ?_
          refine xi_ireturn kc_196_1535 mr_196 rfl ?_
          refine ⟨rfl, ?_, ?_⟩
          · rw [eh1.2.2.1]; exact hn0
          · rw [eh1.2.2.2]; exact hz0
        by_cases c21 : a2.toInt = 1
        · refine xi_tsi (pc' := 69) (z := 1) kc_107_24 (by omega) rfl (by decide) ?_
          refine xi_aload_n (pc' := 70) (x := 33) kc_107_69 rfl rfl ?_
          refine xi_getfield (pc' := 73) (v := .int 0) kc_107_70 rfl rfl rfl (F 33 _ hl_33) rfl ?_
          refine xi_ireturn kc_107_73 mr_107 rfl ?_
          show xw J ov 100 196 (494, [(4, .int 0), (3, .ref 167), (2, .ref 115), (1, .ref 0), (0, .ref 1000000)], [.int 0], h0) _
          refine xi_aload_n (pc' := 495) (x := 115) kc_196_494 rfl rfl ?_
          refine xi_aload_n (pc' := 496) (x := 1000000) kc_196_495 rfl rfl ?_
          refine xi_iload (pc' := 498) (x := 0) kc_196_496 rfl rfl ?_
          refine xi_iconst (pc' := 499) (v := 1) kc_196_498 rfl rfl ?_
          refine xi_iadd (pc' := 500) (v := 1) kc_196_499 rfl rfl ?_
          refine xi_ialoadO (pc' := 501) (v := 2) kc_196_500 rfl (by decide) hov0 (xi_in (n := 6) (by decide) (by decide)) rfl ?_
          refine xi_aload_n (pc' := 502) (x := 1000000) kc_196_501 rfl rfl ?_
          refine xi_iload (pc' := 504) (x := 0) kc_196_502 rfl rfl ?_
          refine xi_iconst (pc' := 505) (v := 2) kc_196_504 rfl rfl ?_
          refine xi_iadd (pc' := 506) (v := 2) kc_196_505 rfl rfl ?_
          refine xi_ialoadO (pc' := 507) (v := a2) kc_196_506 rfl (by decide) hov0 (xi_in (n := 6) (by decide) (by decide)) rfl ?_
          refine xi_virtual (mj := 26) (as := [.int 2, .int a2]) (st1 := [.int 0]) (lv0 := [(0, .ref 115), (1, .int 2), (2, .int a2)]) kc_196_507 rfl rfl rfl rfl rfl (F 115 _ hl_115) (Nat.le_of_ble_eq_true rfl) (hJ _ _ _ _ (by decide)) (xm_le ml_26 rfl) rfl ?_
          refine xi_aload_n (pc' := 1) (x := 115) kc_26_0 rfl rfl ?_
          refine xi_iconst (pc' := 2) (v := 0) kc_26_1 rfl rfl ?_
          refine xi_putfield (pc' := 5) (fs' := [.int 0, .int 0, .ref 116, .ref 117, .ref 118, .ref 119, .ref 120, .ref 121, .ref 122, .ref 123, .ref 124, .ref 125, .ref 126, .ref 127, .ref 128, .ref 129, .int 4, .ref 130, .int 0, .ref 131, .ref 132, .ref 133, .ref 134, .int 0, .ref 135, .ref 136, .ref 137, .ref 138, .ref 139, .ref 140, .ref 141, .ref 142, .int 0, .int 0, .int 0, .ref 143, .ref 144, .ref 145, .ref 146, .ref 147, .ref 148, .int 0, .ref 149, .ref 150, .ref 151, .int 0, .ref 152, .ref 153, .ref 154, .ref 155, .ref 156, .ref 157, .ref 158, .ref 159, .int 0, .ref 160, .int 0, .ref 161, .ref 162, .ref 163, .ref 164, .int 0, .ref 165, .ref 166]) kc_26_2 rfl rfl rfl (F 115 _ hl_115) rfl rfl rfl (Nat.le_of_ble_eq_true rfl) rfl (fun hh1 eh1 => ?_)
          refine xi_iload_n (pc' := 6) (x := 2) kc_26_5 rfl rfl ?_
          refine xi_static (mj := 25) (as := [.int 2]) (st1 := []) (lv0 := [(0, .int 2)]) kc_26_6 rfl rfl (Nat.le_of_ble_eq_true rfl) rfl rfl (Nat.le_of_ble_eq_true rfl) (hJ _ _ _ _ (by decide)) (xm_le ml_25 rfl) rfl ?_
          refine xi_iload_n (pc' := 1) (x := 2) kc_25_0 rfl rfl ?_
          refine xi_iconst (pc' := 2) (v := 0) kc_25_1 rfl rfl ?_
          refine xi_bipush (pc' := 4) (v := 11) kc_25_2 rfl rfl ?_
          refine xi_static (mj := 12) (as := [.int 2, .int 0, .int 11]) (st1 := []) (lv0 := [(0, .int 2), (1, .int 0), (2, .int 11)]) kc_25_4 rfl rfl (Nat.le_of_ble_eq_true rfl) rfl rfl (Nat.le_of_ble_eq_true rfl) (hJ _ _ _ _ (by decide)) (xm_le ml_12 rfl) rfl ?_
          refine xi_iload_n (pc' := 1) (x := 2) kc_12_0 rfl rfl ?_
          refine xi_iload_n (pc' := 2) (x := 0) kc_12_1 rfl rfl ?_
          refine xi_cmf (pc' := 5) kc_12_2 rfl rfl ?_
          refine xi_iload_n (pc' := 6) (x := 2) kc_12_5 rfl rfl ?_
          refine xi_iload_n (pc' := 7) (x := 11) kc_12_6 rfl rfl ?_
          refine xi_cmf (pc' := 10) kc_12_7 rfl rfl ?_
          refine xi_iconst (pc' := 11) (v := 1) kc_12_10 rfl rfl ?_
          refine xi_goto (pc' := 15) kc_12_11 rfl ?_
          refine xi_ireturn kc_12_15 mr_12 rfl ?_
          show xw J ov 98 25 (7, [(0, .int 2)], [.int 1], hh1) _
          refine xi_ireturn kc_25_7 mr_25 rfl ?_
          show xw J ov 99 26 (9, [(0, .ref 115), (1, .int 2), (2, .int a2)], [.int 1], hh1) _
          refine xi_ift (pc' := 18) kc_26_9 rfl rfl ?_
          refine xi_iload_n (pc' := 19) (x := a2) kc_26_18 rfl rfl ?_
          refine xi_iconst (pc' := 20) (v := 0) kc_26_19 rfl rfl ?_
          refine xi_iconst (pc' := 21) (v := 5) kc_26_20 rfl rfl ?_
          refine xi_static (mj := 12) (as := [.int a2, .int 0, .int 5]) (st1 := []) (lv0 := [(0, .int a2), (1, .int 0), (2, .int 5)]) kc_26_21 rfl rfl (Nat.le_of_ble_eq_true rfl) rfl rfl (Nat.le_of_ble_eq_true rfl) (hJ _ _ _ _ (by decide)) (xm_le ml_12 rfl) rfl ?_
          refine xi_iload_n (pc' := 1) (x := a2) kc_12_0 rfl rfl ?_
          refine xi_iload_n (pc' := 2) (x := 0) kc_12_1 rfl rfl ?_
          refine xi_cmf (pc' := 5) kc_12_2 rfl (xc_lt_f (X := a2.toInt) (Y := 0) rfl (by decide) (by omega)) ?_
          refine xi_iload_n (pc' := 6) (x := a2) kc_12_5 rfl rfl ?_
          refine xi_iload_n (pc' := 7) (x := 5) kc_12_6 rfl rfl ?_
          refine xi_cmf (pc' := 10) kc_12_7 rfl (xc_gt_f (X := a2.toInt) (Y := 5) rfl (by decide) (by omega)) ?_
          refine xi_iconst (pc' := 11) (v := 1) kc_12_10 rfl rfl ?_
          refine xi_goto (pc' := 15) kc_12_11 rfl ?_
          refine xi_ireturn kc_12_15 mr_12 rfl ?_
          show xw J ov 99 26 (24, [(0, .ref 115), (1, .int 2), (2, .int a2)], [.int 1], hh1) _
          refine xi_ift (pc' := 34) kc_26_24 rfl rfl ?_
          refine xi_iload_n (pc' := 35) (x := a2) kc_26_34 rfl rfl ?_
          refine xi_tsi (pc' := 75) (z := 1) kc_26_35 (by omega) rfl (by decide) ?_
          refine xi_aload_n (pc' := 76) (x := 115) kc_26_75 rfl rfl ?_
          refine xi_getfield (pc' := 79) (v := .ref 126) kc_26_76 rfl rfl rfl eh1.1 rfl ?_
          refine xi_iload_n (pc' := 80) (x := 2) kc_26_79 rfl rfl ?_
          refine xi_iaload (pc' := 81) (v := 0) kc_26_80 rfl ((eh1.2.1 126 (by decide)).trans (F 126 _ hl_126)) (by decide) rfl (xi_in (n := 12) (by decide) (by decide)) rfl ?_
          refine xi_ireturn kc_26_81 mr_26 rfl ?_
          show xw J ov 100 196 (510, [(4, .int 0), (3, .ref 167), (2, .ref 115), (1, .ref 0), (0, .ref 1000000)], [.int 0, .int 0], hh1) _
          refine xi_cmt (pc' := 1528) kc_196_510 rfl rfl ?_
          refine xi_iinc (pc' := 1531) (x := 0) (v := 6) (lv' := [(4, .int 6), (3, .ref 167), (2, .ref 115), (1, .ref 0), (0, .ref 1000000)]) kc_196_1528 rfl rfl rfl rfl (xm_lt ml_196 rfl) ?_
          refine xi_goto (pc' := 23) kc_196_1531 rfl ?_
          refine xi_iload (pc' := 25) (x := 6) kc_196_23 rfl rfl ?_
          refine xi_aload_n (pc' := 26) (x := 1000000) kc_196_25 rfl rfl ?_
          refine xi_arraylength (pc' := 27) (n := 6) (v := 6) kc_196_26 rfl (xl_lenO (by decide) hov0 rfl) rfl ?_
          refine xi_bipush (pc' := 29) (v := 6) kc_196_27 rfl rfl ?_
          refine xi_isub (pc' := 30) (v := 0) kc_196_29 rfl rfl ?_
          refine xi_cmt (pc' := 1534) kc_196_30 rfl rfl ?_
          refine xi_iconst (pc' := 1535) (v := 1) kc_196_1534 rfl rfl ?_
          refine xi_ireturn kc_196_1535 mr_196 rfl ?_
          refine ⟨rfl, ?_, ?_⟩
          · rw [eh1.2.2.1]; exact hn0
          · rw [eh1.2.2.2]; exact hz0
        by_cases c22 : a2.toInt = 2
        · refine xi_tsi (pc' := 74) (z := 2) kc_107_24 (by omega) rfl (by decide) ?_
          refine xi_aload_n (pc' := 75) (x := 33) kc_107_74 rfl rfl ?_
          refine xi_getfield (pc' := 78) (v := .int 0) kc_107_75 rfl rfl rfl (F 33 _ hl_33) rfl ?_
          refine xi_ift (pc' := 85) kc_107_78 rfl rfl ?_
          refine xi_iconst (pc' := 86) (v := 0) kc_107_85 rfl rfl ?_
          refine xi_ireturn kc_107_86 mr_107 rfl ?_
          show xw J ov 100 196 (494, [(4, .int 0), (3, .ref 167), (2, .ref 115), (1, .ref 0), (0, .ref 1000000)], [.int 0], h0) _
          refine xi_aload_n (pc' := 495) (x := 115) kc_196_494 rfl rfl ?_
          refine xi_aload_n (pc' := 496) (x := 1000000) kc_196_495 rfl rfl ?_
          refine xi_iload (pc' := 498) (x := 0) kc_196_496 rfl rfl ?_
          refine xi_iconst (pc' := 499) (v := 1) kc_196_498 rfl rfl ?_
          refine xi_iadd (pc' := 500) (v := 1) kc_196_499 rfl rfl ?_
          refine xi_ialoadO (pc' := 501) (v := 2) kc_196_500 rfl (by decide) hov0 (xi_in (n := 6) (by decide) (by decide)) rfl ?_
          refine xi_aload_n (pc' := 502) (x := 1000000) kc_196_501 rfl rfl ?_
          refine xi_iload (pc' := 504) (x := 0) kc_196_502 rfl rfl ?_
          refine xi_iconst (pc' := 505) (v := 2) kc_196_504 rfl rfl ?_
          refine xi_iadd (pc' := 506) (v := 2) kc_196_505 rfl rfl ?_
          refine xi_ialoadO (pc' := 507) (v := a2) kc_196_506 rfl (by decide) hov0 (xi_in (n := 6) (by decide) (by decide)) rfl ?_
          refine xi_virtual (mj := 26) (as := [.int 2, .int a2]) (st1 := [.int 0]) (lv0 := [(0, .ref 115), (1, .int 2), (2, .int a2)]) kc_196_507 rfl rfl rfl rfl rfl (F 115 _ hl_115) (Nat.le_of_ble_eq_true rfl) (hJ _ _ _ _ (by decide)) (xm_le ml_26 rfl) rfl ?_
          refine xi_aload_n (pc' := 1) (x := 115) kc_26_0 rfl rfl ?_
          refine xi_iconst (pc' := 2) (v := 0) kc_26_1 rfl rfl ?_
          refine xi_putfield (pc' := 5) (fs' := [.int 0, .int 0, .ref 116, .ref 117, .ref 118, .ref 119, .ref 120, .ref 121, .ref 122, .ref 123, .ref 124, .ref 125, .ref 126, .ref 127, .ref 128, .ref 129, .int 4, .ref 130, .int 0, .ref 131, .ref 132, .ref 133, .ref 134, .int 0, .ref 135, .ref 136, .ref 137, .ref 138, .ref 139, .ref 140, .ref 141, .ref 142, .int 0, .int 0, .int 0, .ref 143, .ref 144, .ref 145, .ref 146, .ref 147, .ref 148, .int 0, .ref 149, .ref 150, .ref 151, .int 0, .ref 152, .ref 153, .ref 154, .ref 155, .ref 156, .ref 157, .ref 158, .ref 159, .int 0, .ref 160, .int 0, .ref 161, .ref 162, .ref 163, .ref 164, .int 0, .ref 165, .ref 166]) kc_26_2 rfl rfl rfl (F 115 _ hl_115) rfl rfl rfl (Nat.le_of_ble_eq_true rfl) rfl (fun hh1 eh1 => ?_)
          refine xi_iload_n (pc' := 6) (x := 2) kc_26_5 rfl rfl ?_
          refine xi_static (mj := 25) (as := [.int 2]) (st1 := []) (lv0 := [(0, .int 2)]) kc_26_6 rfl rfl (Nat.le_of_ble_eq_true rfl) rfl rfl (Nat.le_of_ble_eq_true rfl) (hJ _ _ _ _ (by decide)) (xm_le ml_25 rfl) rfl ?_
          refine xi_iload_n (pc' := 1) (x := 2) kc_25_0 rfl rfl ?_
          refine xi_iconst (pc' := 2) (v := 0) kc_25_1 rfl rfl ?_
          refine xi_bipush (pc' := 4) (v := 11) kc_25_2 rfl rfl ?_
          refine xi_static (mj := 12) (as := [.int 2, .int 0, .int 11]) (st1 := []) (lv0 := [(0, .int 2), (1, .int 0), (2, .int 11)]) kc_25_4 rfl rfl (Nat.le_of_ble_eq_true rfl) rfl rfl (Nat.le_of_ble_eq_true rfl) (hJ _ _ _ _ (by decide)) (xm_le ml_12 rfl) rfl ?_
          refine xi_iload_n (pc' := 1) (x := 2) kc_12_0 rfl rfl ?_
          refine xi_iload_n (pc' := 2) (x := 0) kc_12_1 rfl rfl ?_
          refine xi_cmf (pc' := 5) kc_12_2 rfl rfl ?_
          refine xi_iload_n (pc' := 6) (x := 2) kc_12_5 rfl rfl ?_
          refine xi_iload_n (pc' := 7) (x := 11) kc_12_6 rfl rfl ?_
          refine xi_cmf (pc' := 10) kc_12_7 rfl rfl ?_
          refine xi_iconst (pc' := 11) (v := 1) kc_12_10 rfl rfl ?_
          refine xi_goto (pc' := 15) kc_12_11 rfl ?_
          refine xi_ireturn kc_12_15 mr_12 rfl ?_
          show xw J ov 98 25 (7, [(0, .int 2)], [.int 1], hh1) _
          refine xi_ireturn kc_25_7 mr_25 rfl ?_
          show xw J ov 99 26 (9, [(0, .ref 115), (1, .int 2), (2, .int a2)], [.int 1], hh1) _
          refine xi_ift (pc' := 18) kc_26_9 rfl rfl ?_
          refine xi_iload_n (pc' := 19) (x := a2) kc_26_18 rfl rfl ?_
          refine xi_iconst (pc' := 20) (v := 0) kc_26_19 rfl rfl ?_
          refine xi_iconst (pc' := 21) (v := 5) kc_26_20 rfl rfl ?_
          refine xi_static (mj := 12) (as := [.int a2, .int 0, .int 5]) (st1 := []) (lv0 := [(0, .int a2), (1, .int 0), (2, .int 5)]) kc_26_21 rfl rfl (Nat.le_of_ble_eq_true rfl) rfl rfl (Nat.le_of_ble_eq_true rfl) (hJ _ _ _ _ (by decide)) (xm_le ml_12 rfl) rfl ?_
          refine xi_iload_n (pc' := 1) (x := a2) kc_12_0 rfl rfl ?_
          refine xi_iload_n (pc' := 2) (x := 0) kc_12_1 rfl rfl ?_
          refine xi_cmf (pc' := 5) kc_12_2 rfl (xc_lt_f (X := a2.toInt) (Y := 0) rfl (by decide) (by omega)) ?_
          refine xi_iload_n (pc' := 6) (x := a2) kc_12_5 rfl rfl ?_
          refine xi_iload_n (pc' := 7) (x := 5) kc_12_6 rfl rfl ?_
          refine xi_cmf (pc' := 10) kc_12_7 rfl (xc_gt_f (X := a2.toInt) (Y := 5) rfl (by decide) (by omega)) ?_
          refine xi_iconst (pc' := 11) (v := 1) kc_12_10 rfl rfl ?_
          refine xi_goto (pc' := 15) kc_12_11 rfl ?_
          refine xi_ireturn kc_12_15 mr_12 rfl ?_
          show xw J ov 99 26 (24, [(0, .ref 115), (1, .int 2), (2, .int a2)], [.int 1], hh1) _
          refine xi_ift (pc' := 34) kc_26_24 rfl rfl ?_
          refine xi_iload_n (pc' := 35) (x := a2) kc_26_34 rfl rfl ?_
          refine xi_tsi (pc' := 82) (z := 2) kc_26_35 (by omega) rfl (by decide) ?_
          refine xi_aload_n (pc' := 83) (x := 115) kc_26_82 rfl rfl ?_
          refine xi_getfield (pc' := 86) (v := .ref 127) kc_26_83 rfl rfl rfl eh1.1 rfl ?_
          refine xi_iload_n (pc' := 87) (x := 2) kc_26_86 rfl rfl ?_
          refine xi_baload (pc' := 88) (v := 0) kc_26_87 rfl ((eh1.2.1 127 (by decide)).trans (F 127 _ hl_127)) rfl (xi_in (n := 12) (by decide) (by decide)) rfl ?_
          refine xi_ift (pc' := 95) kc_26_88 rfl rfl ?_
          refine xi_iconst (pc' := 96) (v := 0) kc_26_95 rfl rfl ?_
          refine xi_ireturn kc_26_96 mr_26 rfl ?_
          show xw J ov 100 196 (510, [(4, .int 0), (3, .ref 167), (2, .ref 115), (1, .ref 0), (0, .ref 1000000)], [.int 0, .int 0], hh1) _
          refine xi_cmt (pc' := 1528) kc_196_510 rfl rfl ?_
          refine xi_iinc (pc' := 1531) (x := 0) (v := 6) (lv' := [(4, .int 6), (3, .ref 167), (2, .ref 115), (1, .ref 0), (0, .ref 1000000)]) kc_196_1528 rfl rfl rfl rfl (xm_lt ml_196 rfl) ?_
          refine xi_goto (pc' := 23) kc_196_1531 rfl ?_
          refine xi_iload (pc' := 25) (x := 6) kc_196_23 rfl rfl ?_
          refine xi_aload_n (pc' := 26) (x := 1000000) kc_196_25 rfl rfl ?_
          refine xi_arraylength (pc' := 27) (n := 6) (v := 6) kc_196_26 rfl (xl_lenO (by decide) hov0 rfl) rfl ?_
          refine xi_bipush (pc' := 29) (v := 6) kc_196_27 rfl rfl ?_
          refine xi_isub (pc' := 30) (v := 0) kc_196_29 rfl rfl ?_
          refine xi_cmt (pc' := 1534) kc_196_30 rfl rfl ?_
          refine xi_iconst (pc' := 1535) (v := 1) kc_196_1534 rfl rfl ?_
          refine xi_ireturn kc_196_1535 mr_196 rfl ?_
          refine ⟨rfl, ?_, ?_⟩
          · rw [eh1.2.2.1]; exact hn0
          · rw [eh1.2.2.2]; exact hz0
        by_cases c23 : a2.toInt = 3
        · refine xi_tsi (pc' := 87) (z := 3) kc_107_24 (by omega) rfl (by decide) ?_
          refine xi_aload_n (pc' := 88) (x := 0) kc_107_87 rfl rfl ?_
          refine xi_getfield (pc' := 91) (v := .ref 63) kc_107_88 rfl rfl rfl (F 0 _ hl_0) rfl ?_
          refine xi_getfield (pc' := 94) (v := .ref 65) kc_107_91 rfl rfl rfl (F 63 _ hl_63) rfl ?_
          refine xi_iload_n (pc' := 95) (x := 2) kc_107_94 rfl rfl ?_
          refine xi_iaload (pc' := 96) (v := 0) kc_107_95 rfl (F 65 _ hl_65) (by decide) rfl (xi_in (n := 12) (by decide) (by decide)) rfl ?_
          refine xi_ireturn kc_107_96 mr_107 rfl ?_
          show xw J ov 100 196 (494, [(4, .int 0), (3, .ref 167), (2, .ref 115), (1, .ref 0), (0, .ref 1000000)], [.int 0], h0) _
          refine xi_aload_n (pc' := 495) (x := 115) kc_196_494 rfl rfl ?_
          refine xi_aload_n (pc' := 496) (x := 1000000) kc_196_495 rfl rfl ?_
          refine xi_iload (pc' := 498) (x := 0) kc_196_496 rfl rfl ?_
          refine xi_iconst (pc' := 499) (v := 1) kc_196_498 rfl rfl ?_
          refine xi_iadd (pc' := 500) (v := 1) kc_196_499 rfl rfl ?_
          refine xi_ialoadO (pc' := 501) (v := 2) kc_196_500 rfl (by decide) hov0 (xi_in (n := 6) (by decide) (by decide)) rfl ?_
          refine xi_aload_n (pc' := 502) (x := 1000000) kc_196_501 rfl rfl ?_
          refine xi_iload (pc' := 504) (x := 0) kc_196_502 rfl rfl ?_
          refine xi_iconst (pc' := 505) (v := 2) kc_196_504 rfl rfl ?_
          refine xi_iadd (pc' := 506) (v := 2) kc_196_505 rfl rfl ?_
          refine xi_ialoadO (pc' := 507) (v := a2) kc_196_506 rfl (by decide) hov0 (xi_in (n := 6) (by decide) (by decide)) rfl ?_
          refine xi_virtual (mj := 26) (as := [.int 2, .int a2]) (st1 := [.int 0]) (lv0 := [(0, .ref 115), (1, .int 2), (2, .int a2)]) kc_196_507 rfl rfl rfl rfl rfl (F 115 _ hl_115) (Nat.le_of_ble_eq_true rfl) (hJ _ _ _ _ (by decide)) (xm_le ml_26 rfl) rfl ?_
          refine xi_aload_n (pc' := 1) (x := 115) kc_26_0 rfl rfl ?_
          refine xi_iconst (pc' := 2) (v := 0) kc_26_1 rfl rfl ?_
          refine xi_putfield (pc' := 5) (fs' := [.int 0, .int 0, .ref 116, .ref 117, .ref 118, .ref 119, .ref 120, .ref 121, .ref 122, .ref 123, .ref 124, .ref 125, .ref 126, .ref 127, .ref 128, .ref 129, .int 4, .ref 130, .int 0, .ref 131, .ref 132, .ref 133, .ref 134, .int 0, .ref 135, .ref 136, .ref 137, .ref 138, .ref 139, .ref 140, .ref 141, .ref 142, .int 0, .int 0, .int 0, .ref 143, .ref 144, .ref 145, .ref 146, .ref 147, .ref 148, .int 0, .ref 149, .ref 150, .ref 151, .int 0, .ref 152, .ref 153, .ref 154, .ref 155, .ref 156, .ref 157, .ref 158, .ref 159, .int 0, .ref 160, .int 0, .ref 161, .ref 162, .ref 163, .ref 164, .int 0, .ref 165, .ref 166]) kc_26_2 rfl rfl rfl (F 115 _ hl_115) rfl rfl rfl (Nat.le_of_ble_eq_true rfl) rfl (fun hh1 eh1 => ?_)
          refine xi_iload_n (pc' := 6) (x := 2) kc_26_5 rfl rfl ?_
          refine xi_static (mj := 25) (as := [.int 2]) (st1 := []) (lv0 := [(0, .int 2)]) kc_26_6 rfl rfl (Nat.le_of_ble_eq_true rfl) rfl rfl (Nat.le_of_ble_eq_true rfl) (hJ _ _ _ _ (by decide)) (xm_le ml_25 rfl) rfl ?_
          refine xi_iload_n (pc' := 1) (x := 2) kc_25_0 rfl rfl ?_
          refine xi_iconst (pc' := 2) (v := 0) kc_25_1 rfl rfl ?_
          refine xi_bipush (pc' := 4) (v := 11) kc_25_2 rfl rfl ?_
          refine xi_static (mj := 12) (as := [.int 2, .int 0, .int 11]) (st1 := []) (lv0 := [(0, .int 2), (1, .int 0), (2, .int 11)]) kc_25_4 rfl rfl (Nat.le_of_ble_eq_true rfl) rfl rfl (Nat.le_of_ble_eq_true rfl) (hJ _ _ _ _ (by decide)) (xm_le ml_12 rfl) rfl ?_
          refine xi_iload_n (pc' := 1) (x := 2) kc_12_0 rfl rfl ?_
          refine xi_iload_n (pc' := 2) (x := 0) kc_12_1 rfl rfl ?_
          refine xi_cmf (pc' := 5) kc_12_2 rfl rfl ?_
          refine xi_iload_n (pc' := 6) (x := 2) kc_12_5 rfl rfl ?_
          refine xi_iload_n (pc' := 7) (x := 11) kc_12_6 rfl rfl ?_
          refine xi_cmf (pc' := 10) kc_12_7 rfl rfl ?_
          refine xi_iconst (pc' := 11) (v := 1) kc_12_10 rfl rfl ?_
          refine xi_goto (pc' := 15) kc_12_11 rfl ?_
          refine xi_ireturn kc_12_15 mr_12 rfl ?_
          show xw J ov 98 25 (7, [(0, .int 2)], [.int 1], hh1) _
          refine xi_ireturn kc_25_7 mr_25 rfl ?_
          show xw J ov 99 26 (9, [(0, .ref 115), (1, .int 2), (2, .int a2)], [.int 1], hh1) _
          refine xi_ift (pc' := 18) kc_26_9 rfl rfl ?_
          refine xi_iload_n (pc' := 19) (x := a2) kc_26_18 rfl rfl ?_
          refine xi_iconst (pc' := 20) (v := 0) kc_26_19 rfl rfl ?_
          refine xi_iconst (pc' := 21) (v := 5) kc_26_20 rfl rfl ?_
          refine xi_static (mj := 12) (as := [.int a2, .int 0, .int 5]) (st1 := []) (lv0 := [(0, .int a2), (1, .int 0), (2, .int 5)]) kc_26_21 rfl rfl (Nat.le_of_ble_eq_true rfl) rfl rfl (Nat.le_of_ble_eq_true rfl) (hJ _ _ _ _ (by decide)) (xm_le ml_12 rfl) rfl ?_
          refine xi_iload_n (pc' := 1) (x := a2) kc_12_0 rfl rfl ?_
          refine xi_iload_n (pc' := 2) (x := 0) kc_12_1 rfl rfl ?_
          refine xi_cmf (pc' := 5) kc_12_2 rfl (xc_lt_f (X := a2.toInt) (Y := 0) rfl (by decide) (by omega)) ?_
          refine xi_iload_n (pc' := 6) (x := a2) kc_12_5 rfl rfl ?_
          refine xi_iload_n (pc' := 7) (x := 5) kc_12_6 rfl rfl ?_
          refine xi_cmf (pc' := 10) kc_12_7 rfl (xc_gt_f (X := a2.toInt) (Y := 5) rfl (by decide) (by omega)) ?_
          refine xi_iconst (pc' := 11) (v := 1) kc_12_10 rfl rfl ?_
          refine xi_goto (pc' := 15) kc_12_11 rfl ?_
          refine xi_ireturn kc_12_15 mr_12 rfl ?_
          show xw J ov 99 26 (24, [(0, .ref 115), (1, .int 2), (2, .int a2)], [.int 1], hh1) _
          refine xi_ift (pc' := 34) kc_26_24 rfl rfl ?_
          refine xi_iload_n (pc' := 35) (x := a2) kc_26_34 rfl rfl ?_
          refine xi_tsi (pc' := 97) (z := 3) kc_26_35 (by omega) rfl (by decide) ?_
          refine xi_aload_n (pc' := 98) (x := 115) kc_26_97 rfl rfl ?_
          refine xi_getfield (pc' := 101) (v := .ref 128) kc_26_98 rfl rfl rfl eh1.1 rfl ?_
          refine xi_iload_n (pc' := 102) (x := 2) kc_26_101 rfl rfl ?_
          refine xi_iaload (pc' := 103) (v := 0) kc_26_102 rfl ((eh1.2.1 128 (by decide)).trans (F 128 _ hl_128)) (by decide) rfl (xi_in (n := 12) (by decide) (by decide)) rfl ?_
          refine xi_ireturn kc_26_103 mr_26 rfl ?_
          show xw J ov 100 196 (510, [(4, .int 0), (3, .ref 167), (2, .ref 115), (1, .ref 0), (0, .ref 1000000)], [.int 0, .int 0], hh1) _
          refine xi_cmt (pc' := 1528) kc_196_510 rfl rfl ?_
          refine xi_iinc (pc' := 1531) (x := 0) (v := 6) (lv' := [(4, .int 6), (3, .ref 167), (2, .ref 115), (1, .ref 0), (0, .ref 1000000)]) kc_196_1528 rfl rfl rfl rfl (xm_lt ml_196 rfl) ?_
          refine xi_goto (pc' := 23) kc_196_1531 rfl ?_
          refine xi_iload (pc' := 25) (x := 6) kc_196_23 rfl rfl ?_
          refine xi_aload_n (pc' := 26) (x := 1000000) kc_196_25 rfl rfl ?_
          refine xi_arraylength (pc' := 27) (n := 6) (v := 6) kc_196_26 rfl (xl_lenO (by decide) hov0 rfl) rfl ?_
          refine xi_bipush (pc' := 29) (v := 6) kc_196_27 rfl rfl ?_
          refine xi_isub (pc' := 30) (v := 0) kc_196_29 rfl rfl ?_
          refine xi_cmt (pc' := 1534) kc_196_30 rfl rfl ?_
          refine xi_iconst (pc' := 1535) (v := 1) kc_196_1534 rfl rfl ?_
          refine xi_ireturn kc_196_1535 mr_196 rfl ?_
          refine ⟨rfl, ?_, ?_⟩
          · rw [eh1.2.2.1]; exact hn0
          · rw [eh1.2.2.2]; exact hz0
        by_cases c24 : a2.toInt = 4
        · refine xi_tsi (pc' := 97) (z := 4) kc_107_24 (by omega) rfl (by decide) ?_
          refine xi_aload_n (pc' := 98) (x := 33) kc_107_97 rfl rfl ?_
          refine xi_getfield (pc' := 101) (v := .int 0) kc_107_98 rfl rfl rfl (F 33 _ hl_33) rfl ?_
          refine xi_ireturn kc_107_101 mr_107 rfl ?_
          show xw J ov 100 196 (494, [(4, .int 0), (3, .ref 167), (2, .ref 115), (1, .ref 0), (0, .ref 1000000)], [.int 0], h0) _
          refine xi_aload_n (pc' := 495) (x := 115) kc_196_494 rfl rfl ?_
          refine xi_aload_n (pc' := 496) (x := 1000000) kc_196_495 rfl rfl ?_
          refine xi_iload (pc' := 498) (x := 0) kc_196_496 rfl rfl ?_
          refine xi_iconst (pc' := 499) (v := 1) kc_196_498 rfl rfl ?_
          refine xi_iadd (pc' := 500) (v := 1) kc_196_499 rfl rfl ?_
          refine xi_ialoadO (pc' := 501) (v := 2) kc_196_500 rfl (by decide) hov0 (xi_in (n := 6) (by decide) (by decide)) rfl ?_
          refine xi_aload_n (pc' := 502) (x := 1000000) kc_196_501 rfl rfl ?_
          refine xi_iload (pc' := 504) (x := 0) kc_196_502 rfl rfl ?_
          refine xi_iconst (pc' := 505) (v := 2) kc_196_504 rfl rfl ?_
          refine xi_iadd (pc' := 506) (v := 2) kc_196_505 rfl rfl ?_
          refine xi_ialoadO (pc' := 507) (v := a2) kc_196_506 rfl (by decide) hov0 (xi_in (n := 6) (by decide) (by decide)) rfl ?_
          refine xi_virtual (mj := 26) (as := [.int 2, .int a2]) (st1 := [.int 0]) (lv0 := [(0, .ref 115), (1, .int 2), (2, .int a2)]) kc_196_507 rfl rfl rfl rfl rfl (F 115 _ hl_115) (Nat.le_of_ble_eq_true rfl) (hJ _ _ _ _ (by decide)) (xm_le ml_26 rfl) rfl ?_
          refine xi_aload_n (pc' := 1) (x := 115) kc_26_0 rfl rfl ?_
          refine xi_iconst (pc' := 2) (v := 0) kc_26_1 rfl rfl ?_
          refine xi_putfield (pc' := 5) (fs' := [.int 0, .int 0, .ref 116, .ref 117, .ref 118, .ref 119, .ref 120, .ref 121, .ref 122, .ref 123, .ref 124, .ref 125, .ref 126, .ref 127, .ref 128, .ref 129, .int 4, .ref 130, .int 0, .ref 131, .ref 132, .ref 133, .ref 134, .int 0, .ref 135, .ref 136, .ref 137, .ref 138, .ref 139, .ref 140, .ref 141, .ref 142, .int 0, .int 0, .int 0, .ref 143, .ref 144, .ref 145, .ref 146, .ref 147, .ref 148, .int 0, .ref 149, .ref 150, .ref 151, .int 0, .ref 152, .ref 153, .ref 154, .ref 155, .ref 156, .ref 157, .ref 158, .ref 159, .int 0, .ref 160, .int 0, .ref 161, .ref 162, .ref 163, .ref 164, .int 0, .ref 165, .ref 166]) kc_26_2 rfl rfl rfl (F 115 _ hl_115) rfl rfl rfl (Nat.le_of_ble_eq_true rfl) rfl (fun hh1 eh1 => ?_)
          refine xi_iload_n (pc' := 6) (x := 2) kc_26_5 rfl rfl ?_
          refine xi_static (mj := 25) (as := [.int 2]) (st1 := []) (lv0 := [(0, .int 2)]) kc_26_6 rfl rfl (Nat.le_of_ble_eq_true rfl) rfl rfl (Nat.le_of_ble_eq_true rfl) (hJ _ _ _ _ (by decide)) (xm_le ml_25 rfl) rfl ?_
          refine xi_iload_n (pc' := 1) (x := 2) kc_25_0 rfl rfl ?_
          refine xi_iconst (pc' := 2) (v := 0) kc_25_1 rfl rfl ?_
          refine xi_bipush (pc' := 4) (v := 11) kc_25_2 rfl rfl ?_
          refine xi_static (mj := 12) (as := [.int 2, .int 0, .int 11]) (st1 := []) (lv0 := [(0, .int 2), (1, .int 0), (2, .int 11)]) kc_25_4 rfl rfl (Nat.le_of_ble_eq_true rfl) rfl rfl (Nat.le_of_ble_eq_true rfl) (hJ _ _ _ _ (by decide)) (xm_le ml_12 rfl) rfl ?_
          refine xi_iload_n (pc' := 1) (x := 2) kc_12_0 rfl rfl ?_
          refine xi_iload_n (pc' := 2) (x := 0) kc_12_1 rfl rfl ?_
          refine xi_cmf (pc' := 5) kc_12_2 rfl rfl ?_
          refine xi_iload_n (pc' := 6) (x := 2) kc_12_5 rfl rfl ?_
          refine xi_iload_n (pc' := 7) (x := 11) kc_12_6 rfl rfl ?_
          refine xi_cmf (pc' := 10) kc_12_7 rfl rfl ?_
          refine xi_iconst (pc' := 11) (v := 1) kc_12_10 rfl rfl ?_
          refine xi_goto (pc' := 15) kc_12_11 rfl ?_
          refine xi_ireturn kc_12_15 mr_12 rfl ?_
          show xw J ov 98 25 (7, [(0, .int 2)], [.int 1], hh1) _
          refine xi_ireturn kc_25_7 mr_25 rfl ?_
          show xw J ov 99 26 (9, [(0, .ref 115), (1, .int 2), (2, .int a2)], [.int 1], hh1) _
          refine xi_ift (pc' := 18) kc_26_9 rfl rfl ?_
          refine xi_iload_n (pc' := 19) (x := a2) kc_26_18 rfl rfl ?_
          refine xi_iconst (pc' := 20) (v := 0) kc_26_19 rfl rfl ?_
          refine xi_iconst (pc' := 21) (v := 5) kc_26_20 rfl rfl ?_
          refine xi_static (mj := 12) (as := [.int a2, .int 0, .int 5]) (st1 := []) (lv0 := [(0, .int a2), (1, .int 0), (2, .int 5)]) kc_26_21 rfl rfl (Nat.le_of_ble_eq_true rfl) rfl rfl (Nat.le_of_ble_eq_true rfl) (hJ _ _ _ _ (by decide)) (xm_le ml_12 rfl) rfl ?_
          refine xi_iload_n (pc' := 1) (x := a2) kc_12_0 rfl rfl ?_
          refine xi_iload_n (pc' := 2) (x := 0) kc_12_1 rfl rfl ?_
          refine xi_cmf (pc' := 5) kc_12_2 rfl (xc_lt_f (X := a2.toInt) (Y := 0) rfl (by decide) (by omega)) ?_
          refine xi_iload_n (pc' := 6) (x := a2) kc_12_5 rfl rfl ?_
          refine xi_iload_n (pc' := 7) (x := 5) kc_12_6 rfl rfl ?_
          refine xi_cmf (pc' := 10) kc_12_7 rfl (xc_gt_f (X := a2.toInt) (Y := 5) rfl (by decide) (by omega)) ?_
          refine xi_iconst (pc' := 11) (v := 1) kc_12_10 rfl rfl ?_
          refine xi_goto (pc' := 15) kc_12_11 rfl ?_
          refine xi_ireturn kc_12_15 mr_12 rfl ?_
          show xw J ov 99 26 (24, [(0, .ref 115), (1, .int 2), (2, .int a2)], [.int 1], hh1) _
          refine xi_ift (pc' := 34) kc_26_24 rfl rfl ?_
          refine xi_iload_n (pc' := 35) (x := a2) kc_26_34 rfl rfl ?_
          refine xi_tsi (pc' := 104) (z := 4) kc_26_35 (by omega) rfl (by decide) ?_
          refine xi_aload_n (pc' := 105) (x := 115) kc_26_104 rfl rfl ?_
          refine xi_getfield (pc' := 108) (v := .ref 129) kc_26_105 rfl rfl rfl eh1.1 rfl ?_
          refine xi_iload_n (pc' := 109) (x := 2) kc_26_108 rfl rfl ?_
          refine xi_iaload (pc' := 110) (v := 0) kc_26_109 rfl ((eh1.2.1 129 (by decide)).trans (F 129 _ hl_129)) (by decide) rfl (xi_in (n := 12) (by decide) (by decide)) rfl ?_
          refine xi_ireturn kc_26_110 mr_26 rfl ?_
          show xw J ov 100 196 (510, [(4, .int 0), (3, .ref 167), (2, .ref 115), (1, .ref 0), (0, .ref 1000000)], [.int 0, .int 0], hh1) _
          refine xi_cmt (pc' := 1528) kc_196_510 rfl rfl ?_
          refine xi_iinc (pc' := 1531) (x := 0) (v := 6) (lv' := [(4, .int 6), (3, .ref 167), (2, .ref 115), (1, .ref 0), (0, .ref 1000000)]) kc_196_1528 rfl rfl rfl rfl (xm_lt ml_196 rfl) ?_
          refine xi_goto (pc' := 23) kc_196_1531 rfl ?_
          refine xi_iload (pc' := 25) (x := 6) kc_196_23 rfl rfl ?_
          refine xi_aload_n (pc' := 26) (x := 1000000) kc_196_25 rfl rfl ?_
          refine xi_arraylength (pc' := 27) (n := 6) (v := 6) kc_196_26 rfl (xl_lenO (by decide) hov0 rfl) rfl ?_
          refine xi_bipush (pc' := 29) (v := 6) kc_196_27 rfl rfl ?_
          refine xi_isub (pc' := 30) (v := 0) kc_196_29 rfl rfl ?_
          refine xi_cmt (pc' := 1534) kc_196_30 rfl rfl ?_
          refine xi_iconst (pc' := 1535) (v := 1) kc_196_1534 rfl rfl ?_
          refine xi_ireturn kc_196_1535 mr_196 rfl ?_
          refine ⟨rfl, ?_, ?_⟩
          · rw [eh1.2.2.1]; exact hn0
          · rw [eh1.2.2.2]; exact hz0
        by_cases c25 : a2.toInt = 5
        · refine xi_tsi (pc' := 102) (z := 5) kc_107_24 (by omega) rfl (by decide) ?_
          refine xi_aload_n (pc' := 103) (x := 0) kc_107_102 rfl rfl ?_
          refine xi_getfield (pc' := 106) (v := .ref 1) kc_107_103 rfl rfl rfl (F 0 _ hl_0) rfl ?_
          refine xi_iload_n (pc' := 107) (x := 2) kc_107_106 rfl rfl ?_
          refine xi_aload_n (pc' := 108) (x := 0) kc_107_107 rfl rfl ?_
          refine xi_getfield (pc' := 111) (v := .int 0) kc_107_108 rfl rfl rfl (F 0 _ hl_0) rfl ?_
          refine xi_virtual (mj := 108) (as := [.int 2, .int 0]) (st1 := []) (lv0 := [(0, .ref 1), (1, .int 2), (2, .int 0)]) kc_107_111 rfl rfl rfl rfl rfl (F 1 _ hl_1) (Nat.le_of_ble_eq_true rfl) (hJ _ _ _ _ (by decide)) (xm_le ml_108 rfl) rfl ?_
          refine xi_aload_n (pc' := 1) (x := 1) kc_108_0 rfl rfl ?_
          refine xi_iload_n (pc' := 2) (x := 2) kc_108_1 rfl rfl ?_
          refine xi_virtual (mj := 109) (as := [.int 2]) (st1 := []) (lv0 := [(0, .ref 1), (1, .int 2)]) kc_108_2 rfl rfl rfl rfl rfl (F 1 _ hl_1) (Nat.le_of_ble_eq_true rfl) (hJ _ _ _ _ (by decide)) (xm_le ml_109 rfl) rfl ?_
          refine xi_iload_n (pc' := 1) (x := 2) kc_109_0 rfl rfl ?_
          refine xi_static (mj := 105) (as := [.int 2]) (st1 := []) (lv0 := [(0, .int 2)]) kc_109_1 rfl rfl (Nat.le_of_ble_eq_true rfl) rfl rfl (Nat.le_of_ble_eq_true rfl) (hJ _ _ _ _ (by decide)) (xm_le ml_105 rfl) rfl ?_
          refine xi_iload_n (pc' := 1) (x := 2) kc_105_0 rfl rfl ?_
          refine xi_iff (pc' := 4) kc_105_1 rfl rfl ?_
          refine xi_iload_n (pc' := 5) (x := 2) kc_105_4 rfl rfl ?_
          refine xi_bipush (pc' := 7) (v := 12) kc_105_5 rfl rfl ?_
          refine xi_cmf (pc' := 10) kc_105_7 rfl rfl ?_
          refine xi_iconst (pc' := 11) (v := 1) kc_105_10 rfl rfl ?_
          refine xi_goto (pc' := 15) kc_105_11 rfl ?_
          refine xi_ireturn kc_105_15 mr_105 rfl ?_
          show xw J ov 97 109 (4, [(0, .ref 1), (1, .int 2)], [.int 1], h0) _
          refine xi_iff (pc' := 7) kc_109_4 rfl rfl ?_
          refine xi_aload_n (pc' := 8) (x := 1) kc_109_7 rfl rfl ?_
          refine xi_getfield (pc' := 11) (v := .ref 3) kc_109_8 rfl rfl rfl (F 1 _ hl_1) rfl ?_
          refine xi_iload_n (pc' := 12) (x := 2) kc_109_11 rfl rfl ?_
          refine xi_aaload (pc' := 13) (b := 33) kc_109_12 rfl (F 3 _ hl_3) rfl (xi_in (n := 12) (by decide) (by decide)) rfl ?_
          refine xi_virtual (mj := 106) (as := []) (st1 := []) (lv0 := [(0, .ref 33)]) kc_109_13 rfl rfl rfl rfl rfl (F 33 _ hl_33) (Nat.le_of_ble_eq_true rfl) (hJ _ _ _ _ (by decide)) (xm_le ml_106 rfl) rfl ?_
          refine xi_aload_n (pc' := 1) (x := 33) kc_106_0 rfl rfl ?_
          refine xi_getfield (pc' := 4) (v := .int (-9)) kc_106_1 rfl rfl rfl (F 33 _ hl_33) rfl ?_
          refine xi_static (mj := 90) (as := [.int (-9)]) (st1 := []) (lv0 := [(0, .int (-9))]) kc_106_4 rfl rfl (Nat.le_of_ble_eq_true rfl) rfl rfl (Nat.le_of_ble_eq_true rfl) (hJ _ _ _ _ (by decide)) (xm_le ml_90 rfl) rfl ?_
          refine xi_iload_n (pc' := 1) (x := (-9)) kc_90_0 rfl rfl ?_
          refine xi_ift (pc' := 14) kc_90_1 rfl rfl ?_
          refine xi_iconst (pc' := 15) (v := 0) kc_90_14 rfl rfl ?_
          refine xi_ireturn kc_90_15 mr_90 rfl ?_
          show xw J ov 96 106 (7, [(0, .ref 33)], [.int 0], h0) _
          refine xi_ireturn kc_106_7 mr_106 rfl ?_
          show xw J ov 97 109 (16, [(0, .ref 1), (1, .int 2)], [.int 0], h0) _
          refine xi_ift (pc' := 23) kc_109_16 rfl rfl ?_
          refine xi_iconst (pc' := 24) (v := 0) kc_109_23 rfl rfl ?_
          refine xi_ireturn kc_109_24 mr_109 rfl ?_
          show xw J ov 98 108 (5, [(0, .ref 1), (1, .int 2), (2, .int 0)], [.int 0], h0) _
          refine xi_iff (pc' := 8) kc_108_5 rfl rfl ?_
          refine xi_iconst (pc' := 9) (v := 0) kc_108_8 rfl rfl ?_
          refine xi_ireturn kc_108_9 mr_108 rfl ?_
          show xw J ov 99 107 (114, [(3, .ref 33), (0, .ref 0), (1, .int 2), (2, .int a2)], [.int 0], h0) _
          refine xi_ireturn kc_107_114 mr_107 rfl ?_
          show xw J ov 100 196 (494, [(4, .int 0), (3, .ref 167), (2, .ref 115), (1, .ref 0), (0, .ref 1000000)], [.int 0], h0) _
          refine xi_aload_n (pc' := 495) (x := 115) kc_196_494 rfl rfl ?_
          refine xi_aload_n (pc' := 496) (x := 1000000) kc_196_495 rfl rfl ?_
          refine xi_iload (pc' := 498) (x := 0) kc_196_496 rfl rfl ?_
          refine xi_iconst (pc' := 499) (v := 1) kc_196_498 rfl rfl ?_
          refine xi_iadd (pc' := 500) (v := 1) kc_196_499 rfl rfl ?_
          refine xi_ialoadO (pc' := 501) (v := 2) kc_196_500 rfl (by decide) hov0 (xi_in (n := 6) (by decide) (by decide)) rfl ?_
          refine xi_aload_n (pc' := 502) (x := 1000000) kc_196_501 rfl rfl ?_
          refine xi_iload (pc' := 504) (x := 0) kc_196_502 rfl rfl ?_
          refine xi_iconst (pc' := 505) (v := 2) kc_196_504 rfl rfl ?_
          refine xi_iadd (pc' := 506) (v := 2) kc_196_505 rfl rfl ?_
          refine xi_ialoadO (pc' := 507) (v := a2) kc_196_506 rfl (by decide) hov0 (xi_in (n := 6) (by decide) (by decide)) rfl ?_
          refine xi_virtual (mj := 26) (as := [.int 2, .int a2]) (st1 := [.int 0]) (lv0 := [(0, .ref 115), (1, .int 2), (2, .int a2)]) kc_196_507 rfl rfl rfl rfl rfl (F 115 _ hl_115) (Nat.le_of_ble_eq_true rfl) (hJ _ _ _ _ (by decide)) (xm_le ml_26 rfl) rfl ?_
          refine xi_aload_n (pc' := 1) (x := 115) kc_26_0 rfl rfl ?_
          refine xi_iconst (pc' := 2) (v := 0) kc_26_1 rfl rfl ?_
          refine xi_putfield (pc' := 5) (fs' := [.int 0, .int 0, .ref 116, .ref 117, .ref 118, .ref 119, .ref 120, .ref 121, .ref 122, .ref 123, .ref 124, .ref 125, .ref 126, .ref 127, .ref 128, .ref 129, .int 4, .ref 130, .int 0, .ref 131, .ref 132, .ref 133, .ref 134, .int 0, .ref 135, .ref 136, .ref 137, .ref 138, .ref 139, .ref 140, .ref 141, .ref 142, .int 0, .int 0, .int 0, .ref 143, .ref 144, .ref 145, .ref 146, .ref 147, .ref 148, .int 0, .ref 149, .ref 150, .ref 151, .int 0, .ref 152, .ref 153, .ref 154, .ref 155, .ref 156, .ref 157, .ref 158, .ref 159, .int 0, .ref 160, .int 0, .ref 161, .ref 162, .ref 163, .ref 164, .int 0, .ref 165, .ref 166]) kc_26_2 rfl rfl rfl (F 115 _ hl_115) rfl rfl rfl (Nat.le_of_ble_eq_true rfl) rfl (fun hh1 eh1 => ?_)
          refine xi_iload_n (pc' := 6) (x := 2) kc_26_5 rfl rfl ?_
          refine xi_static (mj := 25) (as := [.int 2]) (st1 := []) (lv0 := [(0, .int 2)]) kc_26_6 rfl rfl (Nat.le_of_ble_eq_true rfl) rfl rfl (Nat.le_of_ble_eq_true rfl) (hJ _ _ _ _ (by decide)) (xm_le ml_25 rfl) rfl ?_
          refine xi_iload_n (pc' := 1) (x := 2) kc_25_0 rfl rfl ?_
          refine xi_iconst (pc' := 2) (v := 0) kc_25_1 rfl rfl ?_
          refine xi_bipush (pc' := 4) (v := 11) kc_25_2 rfl rfl ?_
          refine xi_static (mj := 12) (as := [.int 2, .int 0, .int 11]) (st1 := []) (lv0 := [(0, .int 2), (1, .int 0), (2, .int 11)]) kc_25_4 rfl rfl (Nat.le_of_ble_eq_true rfl) rfl rfl (Nat.le_of_ble_eq_true rfl) (hJ _ _ _ _ (by decide)) (xm_le ml_12 rfl) rfl ?_
          refine xi_iload_n (pc' := 1) (x := 2) kc_12_0 rfl rfl ?_
          refine xi_iload_n (pc' := 2) (x := 0) kc_12_1 rfl rfl ?_
          refine xi_cmf (pc' := 5) kc_12_2 rfl rfl ?_
          refine xi_iload_n (pc' := 6) (x := 2) kc_12_5 rfl rfl ?_
          refine xi_iload_n (pc' := 7) (x := 11) kc_12_6 rfl rfl ?_
          refine xi_cmf (pc' := 10) kc_12_7 rfl rfl ?_
          refine xi_iconst (pc' := 11) (v := 1) kc_12_10 rfl rfl ?_
          refine xi_goto (pc' := 15) kc_12_11 rfl ?_
          refine xi_ireturn kc_12_15 mr_12 rfl ?_
          show xw J ov 98 25 (7, [(0, .int 2)], [.int 1], hh1) _
          refine xi_ireturn kc_25_7 mr_25 rfl ?_
          show xw J ov 99 26 (9, [(0, .ref 115), (1, .int 2), (2, .int a2)], [.int 1], hh1) _
          refine xi_ift (pc' := 18) kc_26_9 rfl rfl ?_
          refine xi_iload_n (pc' := 19) (x := a2) kc_26_18 rfl rfl ?_
          refine xi_iconst (pc' := 20) (v := 0) kc_26_19 rfl rfl ?_
          refine xi_iconst (pc' := 21) (v := 5) kc_26_20 rfl rfl ?_
          refine xi_static (mj := 12) (as := [.int a2, .int 0, .int 5]) (st1 := []) (lv0 := [(0, .int a2), (1, .int 0), (2, .int 5)]) kc_26_21 rfl rfl (Nat.le_of_ble_eq_true rfl) rfl rfl (Nat.le_of_ble_eq_true rfl) (hJ _ _ _ _ (by decide)) (xm_le ml_12 rfl) rfl ?_
          refine xi_iload_n (pc' := 1) (x := a2) kc_12_0 rfl rfl ?_
          refine xi_iload_n (pc' := 2) (x := 0) kc_12_1 rfl rfl ?_
          refine xi_cmf (pc' := 5) kc_12_2 rfl (xc_lt_f (X := a2.toInt) (Y := 0) rfl (by decide) (by omega)) ?_
          refine xi_iload_n (pc' := 6) (x := a2) kc_12_5 rfl rfl ?_
          refine xi_iload_n (pc' := 7) (x := 5) kc_12_6 rfl rfl ?_
          refine xi_cmf (pc' := 10) kc_12_7 rfl (xc_gt_f (X := a2.toInt) (Y := 5) rfl (by decide) (by omega)) ?_
          refine xi_iconst (pc' := 11) (v := 1) kc_12_10 rfl rfl ?_
          refine xi_goto (pc' := 15) kc_12_11 rfl ?_
          refine xi_ireturn kc_12_15 mr_12 rfl ?_
          show xw J ov 99 26 (24, [(0, .ref 115), (1, .int 2), (2, .int a2)], [.int 1], hh1) _
          refine xi_ift (pc' := 34) kc_26_24 rfl rfl ?_
          refine xi_iload_n (pc' := 35) (x := a2) kc_26_34 rfl rfl ?_
          refine xi_tsd (pc' := 111) kc_26_35 rfl (by omega) ?_
          refine xi_aload_n (pc' := 112) (x := 115) kc_26_111 rfl rfl ?_
          refine xi_getfield (pc' := 115) (v := .ref 125) kc_26_112 rfl rfl rfl eh1.1 rfl ?_
          refine xi_iload_n (pc' := 116) (x := 2) kc_26_115 rfl rfl ?_
          refine xi_iaload (pc' := 117) (v := (-9)) kc_26_116 rfl ((eh1.2.1 125 (by decide)).trans (F 125 _ hl_125)) (by decide) rfl (xi_in (n := 12) (by decide) (by decide)) rfl ?_
          refine xi_iff (pc' := 120) kc_26_117 rfl rfl ?_
          refine xi_iconst (pc' := 121) (v := 0) kc_26_120 rfl rfl ?_
          refine xi_goto (pc' := 133) kc_26_121 rfl ?_
          refine xi_ireturn kc_26_133 mr_26 rfl ?_
          show xw J ov 100 196 (510, [(4, .int 0), (3, .ref 167), (2, .ref 115), (1, .ref 0), (0, .ref 1000000)], [.int 0, .int 0], hh1) _
          refine xi_cmt (pc' := 1528) kc_196_510 rfl rfl ?_
          refine xi_iinc (pc' := 1531) (x := 0) (v := 6) (lv' := [(4, .int 6), (3, .ref 167), (2, .ref 115), (1, .ref 0), (0, .ref 1000000)]) kc_196_1528 rfl rfl rfl rfl (xm_lt ml_196 rfl) ?_
          refine xi_goto (pc' := 23) kc_196_1531 rfl ?_
          refine xi_iload (pc' := 25) (x := 6) kc_196_23 rfl rfl ?_
          refine xi_aload_n (pc' := 26) (x := 1000000) kc_196_25 rfl rfl ?_
          refine xi_arraylength (pc' := 27) (n := 6) (v := 6) kc_196_26 rfl (xl_lenO (by decide) hov0 rfl) rfl ?_
          refine xi_bipush (pc' := 29) (v := 6) kc_196_27 rfl rfl ?_
          refine xi_isub (pc' := 30) (v := 0) kc_196_29 rfl rfl ?_
          refine xi_cmt (pc' := 1534) kc_196_30 rfl rfl ?_
          refine xi_iconst (pc' := 1535) (v := 1) kc_196_1534 rfl rfl ?_
          refine xi_ireturn kc_196_1535 mr_196 rfl ?_
          refine ⟨rfl, ?_, ?_⟩
          · rw [eh1.2.2.1]; exact hn0
          · rw [eh1.2.2.2]; exact hz0
        refine xi_tsd (pc' := 115) kc_107_24 rfl (by omega) ?_
        refine xi_aload_n (pc' := 116) (x := 0) kc_107_115 rfl rfl ?_
        refine xi_bipush (pc' := 118) (v := (-2)) kc_107_116 rfl rfl ?_
        refine xi_virtual (mj := 91) (as := [.int (-2)]) (st1 := []) (lv0 := [(0, .ref 0), (1, .int (-2))]) kc_107_118 rfl rfl rfl rfl rfl (F 0 _ hl_0) (Nat.le_of_ble_eq_true rfl) (hJ _ _ _ _ (by decide)) (xm_le ml_91 rfl) rfl ?_
        refine xi_iload_n (pc' := 1) (x := (-2)) kc_91_0 rfl rfl ?_
        refine xi_ineg (pc' := 2) (v := 2) kc_91_1 rfl rfl ?_
        refine xi_istore_n (pc' := 3) (lv' := [(2, .int 2), (0, .ref 0), (1, .int (-2))]) kc_91_2 rfl rfl (xm_lt ml_91 rfl) ?_
        refine xi_iload_n (pc' := 4) (x := 2) kc_91_3 rfl rfl ?_
        refine xi_iff (pc' := 7) kc_91_4 rfl rfl ?_
        refine xi_iload_n (pc' := 8) (x := 2) kc_91_7 rfl rfl ?_
        refine xi_aload_n (pc' := 9) (x := 0) kc_91_8 rfl rfl ?_
        refine xi_getfield (pc' := 12) (v := .ref 94) kc_91_9 rfl rfl rfl (F 0 _ hl_0) rfl ?_
        refine xi_arraylength (pc' := 13) (n := 7) (v := 7) kc_91_12 rfl (xl_lenI (by decide) (by decide) (F 94 _ hl_94) (by simp only [List.length_replicate, List.length_cons, List.length_nil])) rfl ?_
        refine xi_cmf (pc' := 16) kc_91_13 rfl rfl ?_
        refine xi_aload_n (pc' := 17) (x := 0) kc_91_16 rfl rfl ?_
        refine xi_getfield (pc' := 20) (v := .ref 94) kc_91_17 rfl rfl rfl (F 0 _ hl_0) rfl ?_
        refine xi_iload_n (pc' := 21) (x := 2) kc_91_20 rfl rfl ?_
        refine xi_dup2 (pc' := 22) kc_91_21 rfl ⟨rfl, rfl⟩ ?_
        refine xi_iaload (pc' := 23) (v := 0) kc_91_22 rfl (F 94 _ hl_94) (by decide) rfl (xi_in (n := 7) (by decide) (by decide)) rfl ?_
        refine xi_iconst (pc' := 24) (v := 1) kc_91_23 rfl rfl ?_
        refine xi_iadd (pc' := 25) (v := 1) kc_91_24 rfl rfl ?_
        refine xi_iastore (pc' := 26) (x' := [0, 0, 1, 0, 0, 0, 0]) kc_91_25 rfl (F 94 _ hl_94) rfl (xi_in (n := 7) (by decide) (by decide)) rfl (fun hh1 eh1 => ?_)
        refine xi_iload_n (pc' := 27) (x := (-2)) kc_91_26 rfl rfl ?_
        refine xi_ireturn kc_91_27 mr_91 rfl ?_
        show xw J ov 99 107 (121, [(3, .ref 33), (0, .ref 0), (1, .int 2), (2, .int a2)], [.int (-2)], hh1) _
        refine xi_ireturn kc_107_121 mr_107 rfl ?_
        show xw J ov 100 196 (494, [(4, .int 0), (3, .ref 167), (2, .ref 115), (1, .ref 0), (0, .ref 1000000)], [.int (-2)], hh1) _
        refine xi_aload_n (pc' := 495) (x := 115) kc_196_494 rfl rfl ?_
        refine xi_aload_n (pc' := 496) (x := 1000000) kc_196_495 rfl rfl ?_
        refine xi_iload (pc' := 498) (x := 0) kc_196_496 rfl rfl ?_
        refine xi_iconst (pc' := 499) (v := 1) kc_196_498 rfl rfl ?_
        refine xi_iadd (pc' := 500) (v := 1) kc_196_499 rfl rfl ?_
        refine xi_ialoadO (pc' := 501) (v := 2) kc_196_500 rfl (by decide) hov0 (xi_in (n := 6) (by decide) (by decide)) rfl ?_
        refine xi_aload_n (pc' := 502) (x := 1000000) kc_196_501 rfl rfl ?_
        refine xi_iload (pc' := 504) (x := 0) kc_196_502 rfl rfl ?_
        refine xi_iconst (pc' := 505) (v := 2) kc_196_504 rfl rfl ?_
        refine xi_iadd (pc' := 506) (v := 2) kc_196_505 rfl rfl ?_
        refine xi_ialoadO (pc' := 507) (v := a2) kc_196_506 rfl (by decide) hov0 (xi_in (n := 6) (by decide) (by decide)) rfl ?_
        refine xi_virtual (mj := 26) (as := [.int 2, .int a2]) (st1 := [.int (-2)]) (lv0 := [(0, .ref 115), (1, .int 2), (2, .int a2)]) kc_196_507 rfl rfl rfl rfl rfl ((eh1.2.1 115 (by decide)).trans (F 115 _ hl_115)) (Nat.le_of_ble_eq_true rfl) (hJ _ _ _ _ (by decide)) (xm_le ml_26 rfl) rfl ?_
        refine xi_aload_n (pc' := 1) (x := 115) kc_26_0 rfl rfl ?_
        refine xi_iconst (pc' := 2) (v := 0) kc_26_1 rfl rfl ?_
        refine xi_putfield (pc' := 5) (fs' := [.int 0, .int 0, .ref 116, .ref 117, .ref 118, .ref 119, .ref 120, .ref 121, .ref 122, .ref 123, .ref 124, .ref 125, .ref 126, .ref 127, .ref 128, .ref 129, .int 4, .ref 130, .int 0, .ref 131, .ref 132, .ref 133, .ref 134, .int 0, .ref 135, .ref 136, .ref 137, .ref 138, .ref 139, .ref 140, .ref 141, .ref 142, .int 0, .int 0, .int 0, .ref 143, .ref 144, .ref 145, .ref 146, .ref 147, .ref 148, .int 0, .ref 149, .ref 150, .ref 151, .int 0, .ref 152, .ref 153, .ref 154, .ref 155, .ref 156, .ref 157, .ref 158, .ref 159, .int 0, .ref 160, .int 0, .ref 161, .ref 162, .ref 163, .ref 164, .int 0, .ref 165, .ref 166]) kc_26_2 rfl rfl rfl ((eh1.2.1 115 (by decide)).trans (F 115 _ hl_115)) rfl rfl rfl (Nat.le_of_ble_eq_true rfl) rfl (fun hh2 eh2 => ?_)
        refine xi_iload_n (pc' := 6) (x := 2) kc_26_5 rfl rfl ?_
        refine xi_static (mj := 25) (as := [.int 2]) (st1 := []) (lv0 := [(0, .int 2)]) kc_26_6 rfl rfl (Nat.le_of_ble_eq_true rfl) rfl rfl (Nat.le_of_ble_eq_true rfl) (hJ _ _ _ _ (by decide)) (xm_le ml_25 rfl) rfl ?_
        refine xi_iload_n (pc' := 1) (x := 2) kc_25_0 rfl rfl ?_
        refine xi_iconst (pc' := 2) (v := 0) kc_25_1 rfl rfl ?_
        refine xi_bipush (pc' := 4) (v := 11) kc_25_2 rfl rfl ?_
        refine xi_static (mj := 12) (as := [.int 2, .int 0, .int 11]) (st1 := []) (lv0 := [(0, .int 2), (1, .int 0), (2, .int 11)]) kc_25_4 rfl rfl (Nat.le_of_ble_eq_true rfl) rfl rfl (Nat.le_of_ble_eq_true rfl) (hJ _ _ _ _ (by decide)) (xm_le ml_12 rfl) rfl ?_
        refine xi_iload_n (pc' := 1) (x := 2) kc_12_0 rfl rfl ?_
        refine xi_iload_n (pc' := 2) (x := 0) kc_12_1 rfl rfl ?_
        refine xi_cmf (pc' := 5) kc_12_2 rfl rfl ?_
        refine xi_iload_n (pc' := 6) (x := 2) kc_12_5 rfl rfl ?_
        refine xi_iload_n (pc' := 7) (x := 11) kc_12_6 rfl rfl ?_
        refine xi_cmf (pc' := 10) kc_12_7 rfl rfl ?_
        refine xi_iconst (pc' := 11) (v := 1) kc_12_10 rfl rfl ?_
        refine xi_goto (pc' := 15) kc_12_11 rfl ?_
        refine xi_ireturn kc_12_15 mr_12 rfl ?_
        show xw J ov 98 25 (7, [(0, .int 2)], [.int 1], hh2) _
        refine xi_ireturn kc_25_7 mr_25 rfl ?_
        show xw J ov 99 26 (9, [(0, .ref 115), (1, .int 2), (2, .int a2)], [.int 1], hh2) _
        refine xi_ift (pc' := 18) kc_26_9 rfl rfl ?_
        refine xi_iload_n (pc' := 19) (x := a2) kc_26_18 rfl rfl ?_
        refine xi_iconst (pc' := 20) (v := 0) kc_26_19 rfl rfl ?_
        refine xi_iconst (pc' := 21) (v := 5) kc_26_20 rfl rfl ?_
        refine xi_static (mj := 12) (as := [.int a2, .int 0, .int 5]) (st1 := []) (lv0 := [(0, .int a2), (1, .int 0), (2, .int 5)]) kc_26_21 rfl rfl (Nat.le_of_ble_eq_true rfl) rfl rfl (Nat.le_of_ble_eq_true rfl) (hJ _ _ _ _ (by decide)) (xm_le ml_12 rfl) rfl ?_
        refine xi_iload_n (pc' := 1) (x := a2) kc_12_0 rfl rfl ?_
        refine xi_iload_n (pc' := 2) (x := 0) kc_12_1 rfl rfl ?_
        by_cases c26 : a2.toInt < 0
        · refine xi_cmt (pc' := 14) kc_12_2 rfl (xc_lt_t (X := a2.toInt) (Y := 0) rfl (by decide) (by omega)) ?_
          refine xi_iconst (pc' := 15) (v := 0) kc_12_14 rfl rfl ?_
          refine xi_ireturn kc_12_15 mr_12 rfl ?_
          show xw J ov 99 26 (24, [(0, .ref 115), (1, .int 2), (2, .int a2)], [.int 0], hh2) _
          refine xi_iff (pc' := 27) kc_26_24 rfl rfl ?_
          refine xi_aload_n (pc' := 28) (x := 115) kc_26_27 rfl rfl ?_
          refine xi_bipush (pc' := 30) (v := (-2)) kc_26_28 rfl rfl ?_
          refine xi_virtual (mj := 13) (as := [.int (-2)]) (st1 := []) (lv0 := [(0, .ref 115), (1, .int (-2))]) kc_26_30 rfl rfl rfl rfl rfl eh2.1 (Nat.le_of_ble_eq_true rfl) (hJ _ _ _ _ (by decide)) (xm_le ml_13 rfl) rfl ?_
          refine xi_aload_n (pc' := 1) (x := 115) kc_13_0 rfl rfl ?_
          refine xi_getfield (pc' := 4) (v := .ref 140) kc_13_1 rfl rfl rfl eh2.1 rfl ?_
          refine xi_iload_n (pc' := 5) (x := (-2)) kc_13_4 rfl rfl ?_
          refine xi_ineg (pc' := 6) (v := 2) kc_13_5 rfl rfl ?_
          refine xi_dup2 (pc' := 7) kc_13_6 rfl ⟨rfl, rfl⟩ ?_
          refine xi_iaload (pc' := 8) (v := 0) kc_13_7 rfl ((eh2.2.1 140 (by decide)).trans ((eh1.2.1 140 (by decide)).trans (F 140 _ hl_140))) (by decide) rfl (xi_in (n := 7) (by decide) (by decide)) rfl ?_
          refine xi_iconst (pc' := 9) (v := 1) kc_13_8 rfl rfl ?_
          refine xi_iadd (pc' := 10) (v := 1) kc_13_9 rfl rfl ?_
          refine xi_iastore (pc' := 11) (x' := [0, 0, 1, 0, 0, 0, 0]) kc_13_10 rfl ((eh2.2.1 140 (by decide)).trans ((eh1.2.1 140 (by decide)).trans (F 140 _ hl_140))) rfl (xi_in (n := 7) (by decide) (by decide)) rfl (fun hh3 eh3 => ?_)
          refine xi_iload_n (pc' := 12) (x := (-2)) kc_13_11 rfl rfl ?_
          refine xi_ireturn kc_13_12 mr_13 rfl ?_
          show xw J ov 99 26 (33, [(0, .ref 115), (1, .int 2), (2, .int a2)], [.int (-2)], hh3) _
          refine xi_ireturn kc_26_33 mr_26 rfl ?_
          show xw J ov 100 196 (510, [(4, .int 0), (3, .ref 167), (2, .ref 115), (1, .ref 0), (0, .ref 1000000)], [.int (-2), .int (-2)], hh3) _
          refine xi_cmt (pc' := 1528) kc_196_510 rfl rfl ?_
          refine xi_iinc (pc' := 1531) (x := 0) (v := 6) (lv' := [(4, .int 6), (3, .ref 167), (2, .ref 115), (1, .ref 0), (0, .ref 1000000)]) kc_196_1528 rfl rfl rfl rfl (xm_lt ml_196 rfl) ?_
          refine xi_goto (pc' := 23) kc_196_1531 rfl ?_
          refine xi_iload (pc' := 25) (x := 6) kc_196_23 rfl rfl ?_
          refine xi_aload_n (pc' := 26) (x := 1000000) kc_196_25 rfl rfl ?_
          refine xi_arraylength (pc' := 27) (n := 6) (v := 6) kc_196_26 rfl (xl_lenO (by decide) hov0 rfl) rfl ?_
          refine xi_bipush (pc' := 29) (v := 6) kc_196_27 rfl rfl ?_
          refine xi_isub (pc' := 30) (v := 0) kc_196_29 rfl rfl ?_
          refine xi_cmt (pc' := 1534) kc_196_30 rfl rfl ?_
          refine xi_iconst (pc' := 1535) (v := 1) kc_196_1534 rfl rfl ?_
          refine xi_ireturn kc_196_1535 mr_196 rfl ?_
          refine ⟨rfl, ?_, ?_⟩
          · rw [eh3.2.2.1, eh2.2.2.1, eh1.2.2.1]; exact hn0
          · rw [eh3.2.2.2, eh2.2.2.2, eh1.2.2.2]; exact hz0
        · refine xi_cmf (pc' := 5) kc_12_2 rfl (xc_lt_f (X := a2.toInt) (Y := 0) rfl (by decide) (by omega)) ?_
          refine xi_iload_n (pc' := 6) (x := a2) kc_12_5 rfl rfl ?_
          refine xi_iload_n (pc' := 7) (x := 5) kc_12_6 rfl rfl ?_
          refine xi_cmt (pc' := 14) kc_12_7 rfl (xc_gt_t (X := a2.toInt) (Y := 5) rfl (by decide) (by omega)) ?_
          refine xi_iconst (pc' := 15) (v := 0) kc_12_14 rfl rfl ?_
          refine xi_ireturn kc_12_15 mr_12 rfl ?_
          show xw J ov 99 26 (24, [(0, .ref 115), (1, .int 2), (2, .int a2)], [.int 0], hh2) _
          refine xi_iff (pc' := 27) kc_26_24 rfl rfl ?_
          refine xi_aload_n (pc' := 28) (x := 115) kc_26_27 rfl rfl ?_
          refine xi_bipush (pc' := 30) (v := (-2)) kc_26_28 rfl rfl ?_
          refine xi_virtual (mj := 13) (as := [.int (-2)]) (st1 := []) (lv0 := [(0, .ref 115), (1, .int (-2))]) kc_26_30 rfl rfl rfl rfl rfl eh2.1 (Nat.le_of_ble_eq_true rfl) (hJ _ _ _ _ (by decide)) (xm_le ml_13 rfl) rfl ?_
          refine xi_aload_n (pc' := 1) (x := 115) kc_13_0 rfl rfl ?_
          refine xi_getfield (pc' := 4) (v := .ref 140) kc_13_1 rfl rfl rfl eh2.1 rfl ?_
          refine xi_iload_n (pc' := 5) (x := (-2)) kc_13_4 rfl rfl ?_
          refine xi_ineg (pc' := 6) (v := 2) kc_13_5 rfl rfl ?_
          refine xi_dup2 (pc' := 7) kc_13_6 rfl ⟨rfl, rfl⟩ ?_
          refine xi_iaload (pc' := 8) (v := 0) kc_13_7 rfl ((eh2.2.1 140 (by decide)).trans ((eh1.2.1 140 (by decide)).trans (F 140 _ hl_140))) (by decide) rfl (xi_in (n := 7) (by decide) (by decide)) rfl ?_
          refine xi_iconst (pc' := 9) (v := 1) kc_13_8 rfl rfl ?_
          refine xi_iadd (pc' := 10) (v := 1) kc_13_9 rfl rfl ?_
          refine xi_iastore (pc' := 11) (x' := [0, 0, 1, 0, 0, 0, 0]) kc_13_10 rfl ((eh2.2.1 140 (by decide)).trans ((eh1.2.1 140 (by decide)).trans (F 140 _ hl_140))) rfl (xi_in (n := 7) (by decide) (by decide)) rfl (fun hh3 eh3 => ?_)
          refine xi_iload_n (pc' := 12) (x := (-2)) kc_13_11 rfl rfl ?_
          refine xi_ireturn kc_13_12 mr_13 rfl ?_
          show xw J ov 99 26 (33, [(0, .ref 115), (1, .int 2), (2, .int a2)], [.int (-2)], hh3) _
          refine xi_ireturn kc_26_33 mr_26 rfl ?_
          show xw J ov 100 196 (510, [(4, .int 0), (3, .ref 167), (2, .ref 115), (1, .ref 0), (0, .ref 1000000)], [.int (-2), .int (-2)], hh3) _
          refine xi_cmt (pc' := 1528) kc_196_510 rfl rfl ?_
          refine xi_iinc (pc' := 1531) (x := 0) (v := 6) (lv' := [(4, .int 6), (3, .ref 167), (2, .ref 115), (1, .ref 0), (0, .ref 1000000)]) kc_196_1528 rfl rfl rfl rfl (xm_lt ml_196 rfl) ?_
          refine xi_goto (pc' := 23) kc_196_1531 rfl ?_
          refine xi_iload (pc' := 25) (x := 6) kc_196_23 rfl rfl ?_
          refine xi_aload_n (pc' := 26) (x := 1000000) kc_196_25 rfl rfl ?_
          refine xi_arraylength (pc' := 27) (n := 6) (v := 6) kc_196_26 rfl (xl_lenO (by decide) hov0 rfl) rfl ?_
          refine xi_bipush (pc' := 29) (v := 6) kc_196_27 rfl rfl ?_
          refine xi_isub (pc' := 30) (v := 0) kc_196_29 rfl rfl ?_
          refine xi_cmt (pc' := 1534) kc_196_30 rfl rfl ?_
          refine xi_iconst (pc' := 1535) (v := 1) kc_196_1534 rfl rfl ?_
          refine xi_ireturn kc_196_1535 mr_196 rfl ?_
          refine ⟨rfl, ?_, ?_⟩
          · rw [eh3.2.2.1, eh2.2.2.1, eh1.2.2.1]; exact hn0
          · rw [eh3.2.2.2, eh2.2.2.2, eh1.2.2.2]; exact hz0
      by_cases c27 : a1.toInt = 3
      · have qa1 : a1 = 3 := xc_of (Eq.trans (by omega) (show (3 : Int) = (3 : Int32).toInt by decide))
        subst qa1
        refine xi_aaload (pc' := 22) (b := 35) kc_107_21 rfl (F 3 _ hl_3) rfl (xi_in (n := 12) (by decide) (by decide)) rfl ?_
        refine xi_astore_n (pc' := 23) (lv' := [(3, .ref 35), (0, .ref 0), (1, .int 3), (2, .int a2)]) kc_107_22 rfl rfl (xm_lt ml_107 rfl) ?_
        refine xi_iload_n (pc' := 24) (x := a2) kc_107_23 rfl rfl ?_
        by_cases c28 : a2.toInt = 0
        · refine xi_tsi (pc' := 64) (z := 0) kc_107_24 (by omega) rfl (by decide) ?_
          refine xi_aload_n (pc' := 65) (x := 35) kc_107_64 rfl rfl ?_
          refine xi_getfield (pc' := 68) (v := .int (-9)) kc_107_65 rfl rfl rfl (F 35 _ hl_35) rfl ?_
          refine xi_ireturn kc_107_68 mr_107 rfl ?_
          show xw J ov 100 196 (494, [(4, .int 0), (3, .ref 167), (2, .ref 115), (1, .ref 0), (0, .ref 1000000)], [.int (-9)], h0) _
          refine xi_aload_n (pc' := 495) (x := 115) kc_196_494 rfl rfl ?_
          refine xi_aload_n (pc' := 496) (x := 1000000) kc_196_495 rfl rfl ?_
          refine xi_iload (pc' := 498) (x := 0) kc_196_496 rfl rfl ?_
          refine xi_iconst (pc' := 499) (v := 1) kc_196_498 rfl rfl ?_
          refine xi_iadd (pc' := 500) (v := 1) kc_196_499 rfl rfl ?_
          refine xi_ialoadO (pc' := 501) (v := 3) kc_196_500 rfl (by decide) hov0 (xi_in (n := 6) (by decide) (by decide)) rfl ?_
          refine xi_aload_n (pc' := 502) (x := 1000000) kc_196_501 rfl rfl ?_
          refine xi_iload (pc' := 504) (x := 0) kc_196_502 rfl rfl ?_
          refine xi_iconst (pc' := 505) (v := 2) kc_196_504 rfl rfl ?_
          refine xi_iadd (pc' := 506) (v := 2) kc_196_505 rfl rfl ?_
          refine xi_ialoadO (pc' := 507) (v := a2) kc_196_506 rfl (by decide) hov0 (xi_in (n := 6) (by decide) (by decide)) rfl ?_
          refine xi_virtual (mj := 26) (as := [.int 3, .int a2]) (st1 := [.int (-9)]) (lv0 := [(0, .ref 115), (1, .int 3), (2, .int a2)]) kc_196_507 rfl rfl rfl rfl rfl (F 115 _ hl_115) (Nat.le_of_ble_eq_true rfl) (hJ _ _ _ _ (by decide)) (xm_le ml_26 rfl) rfl ?_
          refine xi_aload_n (pc' := 1) (x := 115) kc_26_0 rfl rfl ?_
          refine xi_iconst (pc' := 2) (v := 0) kc_26_1 rfl rfl ?_
          refine xi_putfield (pc' := 5) (fs' := [.int 0, .int 0, .ref 116, .ref 117, .ref 118, .ref 119, .ref 120, .ref 121, .ref 122, .ref 123, .ref 124, .ref 125, .ref 126, .ref 127, .ref 128, .ref 129, .int 4, .ref 130, .int 0, .ref 131, .ref 132, .ref 133, .ref 134, .int 0, .ref 135, .ref 136, .ref 137, .ref 138, .ref 139, .ref 140, .ref 141, .ref 142, .int 0, .int 0, .int 0, .ref 143, .ref 144, .ref 145, .ref 146, .ref 147, .ref 148, .int 0, .ref 149, .ref 150, .ref 151, .int 0, .ref 152, .ref 153, .ref 154, .ref 155, .ref 156, .ref 157, .ref 158, .ref 159, .int 0, .ref 160, .int 0, .ref 161, .ref 162, .ref 163, .ref 164, .int 0, .ref 165, .ref 166]) kc_26_2 rfl rfl rfl (F 115 _ hl_115) rfl rfl rfl (Nat.le_of_ble_eq_true rfl) rfl (fun hh1 eh1 => ?_)
          refine xi_iload_n (pc' := 6) (x := 3) kc_26_5 rfl rfl ?_
          refine xi_static (mj := 25) (as := [.int 3]) (st1 := []) (lv0 := [(0, .int 3)]) kc_26_6 rfl rfl (Nat.le_of_ble_eq_true rfl) rfl rfl (Nat.le_of_ble_eq_true rfl) (hJ _ _ _ _ (by decide)) (xm_le ml_25 rfl) rfl ?_
          refine xi_iload_n (pc' := 1) (x := 3) kc_25_0 rfl rfl ?_
          refine xi_iconst (pc' := 2) (v := 0) kc_25_1 rfl rfl ?_
          refine xi_bipush (pc' := 4) (v := 11) kc_25_2 rfl rfl ?_
          refine xi_static (mj := 12) (as := [.int 3, .int 0, .int 11]) (st1 := []) (lv0 := [(0, .int 3), (1, .int 0), (2, .int 11)]) kc_25_4 rfl rfl (Nat.le_of_ble_eq_true rfl) rfl rfl (Nat.le_of_ble_eq_true rfl) (hJ _ _ _ _ (by decide)) (xm_le ml_12 rfl) rfl ?_
          refine xi_iload_n (pc' := 1) (x := 3) kc_12_0 rfl rfl ?_
          refine xi_iload_n (pc' := 2) (x := 0) kc_12_1 rfl rfl ?_
          refine xi_cmf (pc' := 5) kc_12_2 rfl rfl ?_
          refine xi_iload_n (pc' := 6) (x := 3) kc_12_5 rfl rfl ?_
          refine xi_iload_n (pc' := 7) (x := 11) kc_12_6 rfl rfl ?_
          refine xi_cmf (pc' := 10) kc_12_7 rfl rfl ?_
          refine xi_iconst (pc' := 11) (v := 1) kc_12_10 rfl rfl ?_
          refine xi_goto (pc' := 15) kc_12_11 rfl ?_
          refine xi_ireturn kc_12_15 mr_12 rfl ?_
          show xw J ov 98 25 (7, [(0, .int 3)], [.int 1], hh1) _
          refine xi_ireturn kc_25_7 mr_25 rfl ?_
          show xw J ov 99 26 (9, [(0, .ref 115), (1, .int 3), (2, .int a2)], [.int 1], hh1) _
          refine xi_ift (pc' := 18) kc_26_9 rfl rfl ?_
          refine xi_iload_n (pc' := 19) (x := a2) kc_26_18 rfl rfl ?_
          refine xi_iconst (pc' := 20) (v := 0) kc_26_19 rfl rfl ?_
          refine xi_iconst (pc' := 21) (v := 5) kc_26_20 rfl rfl ?_
          refine xi_static (mj := 12) (as := [.int a2, .int 0, .int 5]) (st1 := []) (lv0 := [(0, .int a2), (1, .int 0), (2, .int 5)]) kc_26_21 rfl rfl (Nat.le_of_ble_eq_true rfl) rfl rfl (Nat.le_of_ble_eq_true rfl) (hJ _ _ _ _ (by decide)) (xm_le ml_12 rfl) rfl ?_
          refine xi_iload_n (pc' := 1) (x := a2) kc_12_0 rfl rfl ?_
          refine xi_iload_n (pc' := 2) (x := 0) kc_12_1 rfl rfl ?_
          refine xi_cmf (pc' := 5) kc_12_2 rfl (xc_lt_f (X := a2.toInt) (Y := 0) rfl (by decide) (by omega)) ?_
          refine xi_iload_n (pc' := 6) (x := a2) kc_12_5 rfl rfl ?_
          refine xi_iload_n (pc' := 7) (x := 5) kc_12_6 rfl rfl ?_
          refine xi_cmf (pc' := 10) kc_12_7 rfl (xc_gt_f (X := a2.toInt) (Y := 5) rfl (by decide) (by omega)) ?_
          refine xi_iconst (pc' := 11) (v := 1) kc_12_10 rfl rfl ?_
          refine xi_goto (pc' := 15) kc_12_11 rfl ?_
          refine xi_ireturn kc_12_15 mr_12 rfl ?_
          show xw J ov 99 26 (24, [(0, .ref 115), (1, .int 3), (2, .int a2)], [.int 1], hh1) _
          refine xi_ift (pc' := 34) kc_26_24 rfl rfl ?_
          refine xi_iload_n (pc' := 35) (x := a2) kc_26_34 rfl rfl ?_
          refine xi_tsi (pc' := 68) (z := 0) kc_26_35 (by omega) rfl (by decide) ?_
          refine xi_aload_n (pc' := 69) (x := 115) kc_26_68 rfl rfl ?_
          refine xi_getfield (pc' := 72) (v := .ref 125) kc_26_69 rfl rfl rfl eh1.1 rfl ?_
          refine xi_iload_n (pc' := 73) (x := 3) kc_26_72 rfl rfl ?_
          refine xi_iaload (pc' := 74) (v := (-9)) kc_26_73 rfl ((eh1.2.1 125 (by decide)).trans (F 125 _ hl_125)) (by decide) rfl (xi_in (n := 12) (by decide) (by decide)) rfl ?_
          refine xi_ireturn kc_26_74 mr_26 rfl ?_
          show xw J ov 100 196 (510, [(4, .int 0), (3, .ref 167), (2, .ref 115), (1, .ref 0), (0, .ref 1000000)], [.int (-9), .int (-9)], hh1) _
          refine xi_cmt (pc' := 1528) kc_196_510 rfl rfl ?_
          refine xi_iinc (pc' := 1531) (x := 0) (v := 6) (lv' := [(4, .int 6), (3, .ref 167), (2, .ref 115), (1, .ref 0), (0, .ref 1000000)]) kc_196_1528 rfl rfl rfl rfl (xm_lt ml_196 rfl) ?_
          refine xi_goto (pc' := 23) kc_196_1531 rfl ?_
          refine xi_iload (pc' := 25) (x := 6) kc_196_23 rfl rfl ?_
          refine xi_aload_n (pc' := 26) (x := 1000000) kc_196_25 rfl rfl ?_
          refine xi_arraylength (pc' := 27) (n := 6) (v := 6) kc_196_26 rfl (xl_lenO (by decide) hov0 rfl) rfl ?_
          refine xi_bipush (pc' := 29) (v := 6) kc_196_27 rfl rfl ?_
          refine xi_isub (pc' := 30) (v := 0) kc_196_29 rfl rfl ?_
          refine xi_cmt (pc' := 1534) kc_196_30 rfl rfl ?_
          refine xi_iconst (pc' := 1535) (v := 1) kc_196_1534 rfl rfl ?_
          refine xi_ireturn kc_196_1535 mr_196 rfl ?_
          refine ⟨rfl, ?_, ?_⟩
          · rw [eh1.2.2.1]; exact hn0
          · rw [eh1.2.2.2]; exact hz0
        by_cases c29 : a2.toInt = 1
        · refine xi_tsi (pc' := 69) (z := 1) kc_107_24 (by omega) rfl (by decide) ?_
          refine xi_aload_n (pc' := 70) (x := 35) kc_107_69 rfl rfl ?_
          refine xi_getfield (pc' := 73) (v := .int 0) kc_107_70 rfl rfl rfl (F 35 _ hl_35) rfl ?_
          refine xi_ireturn kc_107_73 mr_107 rfl ?_
          show xw J ov 100 196 (494, [(4, .int 0), (3, .ref 167), (2, .ref 115), (1, .ref 0), (0, .ref 1000000)], [.int 0], h0) _
          refine xi_aload_n (pc' := 495) (x := 115) kc_196_494 rfl rfl ?_
          refine xi_aload_n (pc' := 496) (x := 1000000) kc_196_495 rfl rfl ?_
          refine xi_iload (pc' := 498) (x := 0) kc_196_496 rfl rfl ?_
          refine xi_iconst (pc' := 499) (v := 1) kc_196_498 rfl rfl ?_
          refine xi_iadd (pc' := 500) (v := 1) kc_196_499 rfl rfl ?_
          refine xi_ialoadO (pc' := 501) (v := 3) kc_196_500 rfl (by decide) hov0 (xi_in (n := 6) (by decide) (by decide)) rfl ?_
          refine xi_aload_n (pc' := 502) (x := 1000000) kc_196_501 rfl rfl ?_
          refine xi_iload (pc' := 504) (x := 0) kc_196_502 rfl rfl ?_
          refine xi_iconst (pc' := 505) (v := 2) kc_196_504 rfl rfl ?_
          refine xi_iadd (pc' := 506) (v := 2) kc_196_505 rfl rfl ?_
          refine xi_ialoadO (pc' := 507) (v := a2) kc_196_506 rfl (by decide) hov0 (xi_in (n := 6) (by decide) (by decide)) rfl ?_
          refine xi_virtual (mj := 26) (as := [.int 3, .int a2]) (st1 := [.int 0]) (lv0 := [(0, .ref 115), (1, .int 3), (2, .int a2)]) kc_196_507 rfl rfl rfl rfl rfl (F 115 _ hl_115) (Nat.le_of_ble_eq_true rfl) (hJ _ _ _ _ (by decide)) (xm_le ml_26 rfl) rfl ?_
          refine xi_aload_n (pc' := 1) (x := 115) kc_26_0 rfl rfl ?_
          refine xi_iconst (pc' := 2) (v := 0) kc_26_1 rfl rfl ?_
          refine xi_putfield (pc' := 5) (fs' := [.int 0, .int 0, .ref 116, .ref 117, .ref 118, .ref 119, .ref 120, .ref 121, .ref 122, .ref 123, .ref 124, .ref 125, .ref 126, .ref 127, .ref 128, .ref 129, .int 4, .ref 130, .int 0, .ref 131, .ref 132, .ref 133, .ref 134, .int 0, .ref 135, .ref 136, .ref 137, .ref 138, .ref 139, .ref 140, .ref 141, .ref 142, .int 0, .int 0, .int 0, .ref 143, .ref 144, .ref 145, .ref 146, .ref 147, .ref 148, .int 0, .ref 149, .ref 150, .ref 151, .int 0, .ref 152, .ref 153, .ref 154, .ref 155, .ref 156, .ref 157, .ref 158, .ref 159, .int 0, .ref 160, .int 0, .ref 161, .ref 162, .ref 163, .ref 164, .int 0, .ref 165, .ref 166]) kc_26_2 rfl rfl rfl (F 115 _ hl_115) rfl rfl rfl (Nat.le_of_ble_eq_true rfl) rfl (fun hh1 eh1 => ?_)
          refine xi_iload_n (pc' := 6) (x := 3) kc_26_5 rfl rfl ?_
          refine xi_static (mj := 25) (as := [.int 3]) (st1 := []) (lv0 := [(0, .int 3)]) kc_26_6 rfl rfl (Nat.le_of_ble_eq_true rfl) rfl rfl (Nat.le_of_ble_eq_true rfl) (hJ _ _ _ _ (by decide)) (xm_le ml_25 rfl) rfl ?_
          refine xi_iload_n (pc' := 1) (x := 3) kc_25_0 rfl rfl ?_
          refine xi_iconst (pc' := 2) (v := 0) kc_25_1 rfl rfl ?_
          refine xi_bipush (pc' := 4) (v := 11) kc_25_2 rfl rfl ?_
          refine xi_static (mj := 12) (as := [.int 3, .int 0, .int 11]) (st1 := []) (lv0 := [(0, .int 3), (1, .int 0), (2, .int 11)]) kc_25_4 rfl rfl (Nat.le_of_ble_eq_true rfl) rfl rfl (Nat.le_of_ble_eq_true rfl) (hJ _ _ _ _ (by decide)) (xm_le ml_12 rfl) rfl ?_
          refine xi_iload_n (pc' := 1) (x := 3) kc_12_0 rfl rfl ?_
          refine xi_iload_n (pc' := 2) (x := 0) kc_12_1 rfl rfl ?_
          refine xi_cmf (pc' := 5) kc_12_2 rfl rfl ?_
          refine xi_iload_n (pc' := 6) (x := 3) kc_12_5 rfl rfl ?_
          refine xi_iload_n (pc' := 7) (x := 11) kc_12_6 rfl rfl ?_
          refine xi_cmf (pc' := 10) kc_12_7 rfl rfl ?_
          refine xi_iconst (pc' := 11) (v := 1) kc_12_10 rfl rfl ?_
          refine xi_goto (pc' := 15) kc_12_11 rfl ?_
          refine xi_ireturn kc_12_15 mr_12 rfl ?_
          show xw J ov 98 25 (7, [(0, .int 3)], [.int 1], hh1) _
          refine xi_ireturn kc_25_7 mr_25 rfl ?_
          show xw J ov 99 26 (9, [(0, .ref 115), (1, .int 3), (2, .int a2)], [.int 1], hh1) _
          refine xi_ift (pc' := 18) kc_26_9 rfl rfl ?_
          refine xi_iload_n (pc' := 19) (x := a2) kc_26_18 rfl rfl ?_
          refine xi_iconst (pc' := 20) (v := 0) kc_26_19 rfl rfl ?_
          refine xi_iconst (pc' := 21) (v := 5) kc_26_20 rfl rfl ?_
          refine xi_static (mj := 12) (as := [.int a2, .int 0, .int 5]) (st1 := []) (lv0 := [(0, .int a2), (1, .int 0), (2, .int 5)]) kc_26_21 rfl rfl (Nat.le_of_ble_eq_true rfl) rfl rfl (Nat.le_of_ble_eq_true rfl) (hJ _ _ _ _ (by decide)) (xm_le ml_12 rfl) rfl ?_
          refine xi_iload_n (pc' := 1) (x := a2) kc_12_0 rfl rfl ?_
          refine xi_iload_n (pc' := 2) (x := 0) kc_12_1 rfl rfl ?_
          refine xi_cmf (pc' := 5) kc_12_2 rfl (xc_lt_f (X := a2.toInt) (Y := 0) rfl (by decide) (by omega)) ?_
          refine xi_iload_n (pc' := 6) (x := a2) kc_12_5 rfl rfl ?_
          refine xi_iload_n (pc' := 7) (x := 5) kc_12_6 rfl rfl ?_
          refine xi_cmf (pc' := 10) kc_12_7 rfl (xc_gt_f (X := a2.toInt) (Y := 5) rfl (by decide) (by omega)) ?_
          refine xi_iconst (pc' := 11) (v := 1) kc_12_10 rfl rfl ?_
          refine xi_goto (pc' := 15) kc_12_11 rfl ?_
          refine xi_ireturn kc_12_15 mr_12 rfl ?_
          show xw J ov 99 26 (24, [(0, .ref 115), (1, .int 3), (2, .int a2)], [.int 1], hh1) _
          refine xi_ift (pc' := 34) kc_26_24 rfl rfl ?_
          refine xi_iload_n (pc' := 35) (x := a2) kc_26_34 rfl rfl ?_
          refine xi_tsi (pc' := 75) (z := 1) kc_26_35 (by omega) rfl (by decide) ?_
          refine xi_aload_n (pc' := 76) (x := 115) kc_26_75 rfl rfl ?_
          refine xi_getfield (pc' := 79) (v := .ref 126) kc_26_76 rfl rfl rfl eh1.1 rfl ?_
          refine xi_iload_n (pc' := 80) (x := 3) kc_26_79 rfl rfl ?_
          refine xi_iaload (pc' := 81) (v := 0) kc_26_80 rfl ((eh1.2.1 126 (by decide)).trans (F 126 _ hl_126)) (by decide) rfl (xi_in (n := 12) (by decide) (by decide)) rfl ?_
          refine xi_ireturn kc_26_81 mr_26 rfl ?_
          show xw J ov 100 196 (510, [(4, .int 0), (3, .ref 167), (2, .ref 115), (1, .ref 0), (0, .ref 1000000)], [.int 0, .int 0], hh1) _
          refine xi_cmt (pc' := 1528) kc_196_510 rfl rfl ?_
          refine xi_iinc (pc' := 1531) (x := 0) (v := 6) (lv' := [(4, .int 6), (3, .ref 167), (2, .ref 115), (1, .ref 0), (0, .ref 1000000)]) kc_196_1528 rfl rfl rfl rfl (xm_lt ml_196 rfl) ?_
          refine xi_goto (pc' := 23) kc_196_1531 rfl ?_
          refine xi_iload (pc' := 25) (x := 6) kc_196_23 rfl rfl ?_
          refine xi_aload_n (pc' := 26) (x := 1000000) kc_196_25 rfl rfl ?_
          refine xi_arraylength (pc' := 27) (n := 6) (v := 6) kc_196_26 rfl (xl_lenO (by decide) hov0 rfl) rfl ?_
          refine xi_bipush (pc' := 29) (v := 6) kc_196_27 rfl rfl ?_
          refine xi_isub (pc' := 30) (v := 0) kc_196_29 rfl rfl ?_
          refine xi_cmt (pc' := 1534) kc_196_30 rfl rfl ?_
          refine xi_iconst (pc' := 1535) (v := 1) kc_196_1534 rfl rfl ?_
          refine xi_ireturn kc_196_1535 mr_196 rfl ?_
          refine ⟨rfl, ?_, ?_⟩
          · rw [eh1.2.2.1]; exact hn0
          · rw [eh1.2.2.2]; exact hz0
        by_cases c30 : a2.toInt = 2
        · refine xi_tsi (pc' := 74) (z := 2) kc_107_24 (by omega) rfl (by decide) ?_
          refine xi_aload_n (pc' := 75) (x := 35) kc_107_74 rfl rfl ?_
          refine xi_getfield (pc' := 78) (v := .int 0) kc_107_75 rfl rfl rfl (F 35 _ hl_35) rfl ?_
          refine xi_ift (pc' := 85) kc_107_78 rfl rfl ?_
          refine xi_iconst (pc' := 86) (v := 0) kc_107_85 rfl rfl ?_
          refine xi_ireturn kc_107_86 mr_107 rfl ?_
          show xw J ov 100 196 (494, [(4, .int 0), (3, .ref 167), (2, .ref 115), (1, .ref 0), (0, .ref 1000000)], [.int 0], h0) _
          refine xi_aload_n (pc' := 495) (x := 115) kc_196_494 rfl rfl ?_
          refine xi_aload_n (pc' := 496) (x := 1000000) kc_196_495 rfl rfl ?_
          refine xi_iload (pc' := 498) (x := 0) kc_196_496 rfl rfl ?_
          refine xi_iconst (pc' := 499) (v := 1) kc_196_498 rfl rfl ?_
          refine xi_iadd (pc' := 500) (v := 1) kc_196_499 rfl rfl ?_
          refine xi_ialoadO (pc' := 501) (v := 3) kc_196_500 rfl (by decide) hov0 (xi_in (n := 6) (by decide) (by decide)) rfl ?_
          refine xi_aload_n (pc' := 502) (x := 1000000) kc_196_501 rfl rfl ?_
          refine xi_iload (pc' := 504) (x := 0) kc_196_502 rfl rfl ?_
          refine xi_iconst (pc' := 505) (v := 2) kc_196_504 rfl rfl ?_
          refine xi_iadd (pc' := 506) (v := 2) kc_196_505 rfl rfl ?_
          refine xi_ialoadO (pc' := 507) (v := a2) kc_196_506 rfl (by decide) hov0 (xi_in (n := 6) (by decide) (by decide)) rfl ?_
          refine xi_virtual (mj := 26) (as := [.int 3, .int a2]) (st1 := [.int 0]) (lv0 := [(0, .ref 115), (1, .int 3), (2, .int a2)]) kc_196_507 rfl rfl rfl rfl rfl (F 115 _ hl_115) (Nat.le_of_ble_eq_true rfl) (hJ _ _ _ _ (by decide)) (xm_le ml_26 rfl) rfl ?_
          refine xi_aload_n (pc' := 1) (x := 115) kc_26_0 rfl rfl ?_
          refine xi_iconst (pc' := 2) (v := 0) kc_26_1 rfl rfl ?_
          refine xi_putfield (pc' := 5) (fs' := [.int 0, .int 0, .ref 116, .ref 117, .ref 118, .ref 119, .ref 120, .ref 121, .ref 122, .ref 123, .ref 124, .ref 125, .ref 126, .ref 127, .ref 128, .ref 129, .int 4, .ref 130, .int 0, .ref 131, .ref 132, .ref 133, .ref 134, .int 0, .ref 135, .ref 136, .ref 137, .ref 138, .ref 139, .ref 140, .ref 141, .ref 142, .int 0, .int 0, .int 0, .ref 143, .ref 144, .ref 145, .ref 146, .ref 147, .ref 148, .int 0, .ref 149, .ref 150, .ref 151, .int 0, .ref 152, .ref 153, .ref 154, .ref 155, .ref 156, .ref 157, .ref 158, .ref 159, .int 0, .ref 160, .int 0, .ref 161, .ref 162, .ref 163, .ref 164, .int 0, .ref 165, .ref 166]) kc_26_2 rfl rfl rfl (F 115 _ hl_115) rfl rfl rfl (Nat.le_of_ble_eq_true rfl) rfl (fun hh1 eh1 => ?_)
          refine xi_iload_n (pc' := 6) (x := 3) kc_26_5 rfl rfl ?_
          refine xi_static (mj := 25) (as := [.int 3]) (st1 := []) (lv0 := [(0, .int 3)]) kc_26_6 rfl rfl (Nat.le_of_ble_eq_true rfl) rfl rfl (Nat.le_of_ble_eq_true rfl) (hJ _ _ _ _ (by decide)) (xm_le ml_25 rfl) rfl ?_
          refine xi_iload_n (pc' := 1) (x := 3) kc_25_0 rfl rfl ?_
          refine xi_iconst (pc' := 2) (v := 0) kc_25_1 rfl rfl ?_
          refine xi_bipush (pc' := 4) (v := 11) kc_25_2 rfl rfl ?_
          refine xi_static (mj := 12) (as := [.int 3, .int 0, .int 11]) (st1 := []) (lv0 := [(0, .int 3), (1, .int 0), (2, .int 11)]) kc_25_4 rfl rfl (Nat.le_of_ble_eq_true rfl) rfl rfl (Nat.le_of_ble_eq_true rfl) (hJ _ _ _ _ (by decide)) (xm_le ml_12 rfl) rfl ?_
          refine xi_iload_n (pc' := 1) (x := 3) kc_12_0 rfl rfl ?_
          refine xi_iload_n (pc' := 2) (x := 0) kc_12_1 rfl rfl ?_
          refine xi_cmf (pc' := 5) kc_12_2 rfl rfl ?_
          refine xi_iload_n (pc' := 6) (x := 3) kc_12_5 rfl rfl ?_
          refine xi_iload_n (pc' := 7) (x := 11) kc_12_6 rfl rfl ?_
          refine xi_cmf (pc' := 10) kc_12_7 rfl rfl ?_
          refine xi_iconst (pc' := 11) (v := 1) kc_12_10 rfl rfl ?_
          refine xi_goto (pc' := 15) kc_12_11 rfl ?_
          refine xi_ireturn kc_12_15 mr_12 rfl ?_
          show xw J ov 98 25 (7, [(0, .int 3)], [.int 1], hh1) _
          refine xi_ireturn kc_25_7 mr_25 rfl ?_
          show xw J ov 99 26 (9, [(0, .ref 115), (1, .int 3), (2, .int a2)], [.int 1], hh1) _
          refine xi_ift (pc' := 18) kc_26_9 rfl rfl ?_
          refine xi_iload_n (pc' := 19) (x := a2) kc_26_18 rfl rfl ?_
          refine xi_iconst (pc' := 20) (v := 0) kc_26_19 rfl rfl ?_
          refine xi_iconst (pc' := 21) (v := 5) kc_26_20 rfl rfl ?_
          refine xi_static (mj := 12) (as := [.int a2, .int 0, .int 5]) (st1 := []) (lv0 := [(0, .int a2), (1, .int 0), (2, .int 5)]) kc_26_21 rfl rfl (Nat.le_of_ble_eq_true rfl) rfl rfl (Nat.le_of_ble_eq_true rfl) (hJ _ _ _ _ (by decide)) (xm_le ml_12 rfl) rfl ?_
          refine xi_iload_n (pc' := 1) (x := a2) kc_12_0 rfl rfl ?_
          refine xi_iload_n (pc' := 2) (x := 0) kc_12_1 rfl rfl ?_
          refine xi_cmf (pc' := 5) kc_12_2 rfl (xc_lt_f (X := a2.toInt) (Y := 0) rfl (by decide) (by omega)) ?_
          refine xi_iload_n (pc' := 6) (x := a2) kc_12_5 rfl rfl ?_
          refine xi_iload_n (pc' := 7) (x := 5) kc_12_6 rfl rfl ?_
          refine xi_cmf (pc' := 10) kc_12_7 rfl (xc_gt_f (X := a2.toInt) (Y := 5) rfl (by decide) (by omega)) ?_
          refine xi_iconst (pc' := 11) (v := 1) kc_12_10 rfl rfl ?_
          refine xi_goto (pc' := 15) kc_12_11 rfl ?_
          refine xi_ireturn kc_12_15 mr_12 rfl ?_
          show xw J ov 99 26 (24, [(0, .ref 115), (1, .int 3), (2, .int a2)], [.int 1], hh1) _
          refine xi_ift (pc' := 34) kc_26_24 rfl rfl ?_
          refine xi_iload_n (pc' := 35) (x := a2) kc_26_34 rfl rfl ?_
          refine xi_tsi (pc' := 82) (z := 2) kc_26_35 (by omega) rfl (by decide) ?_
          refine xi_aload_n (pc' := 83) (x := 115) kc_26_82 rfl rfl ?_
          refine xi_getfield (pc' := 86) (v := .ref 127) kc_26_83 rfl rfl rfl eh1.1 rfl ?_
          refine xi_iload_n (pc' := 87) (x := 3) kc_26_86 rfl rfl ?_
          refine xi_baload (pc' := 88) (v := 0) kc_26_87 rfl ((eh1.2.1 127 (by decide)).trans (F 127 _ hl_127)) rfl (xi_in (n := 12) (by decide) (by decide)) rfl ?_
          refine xi_ift (pc' := 95) kc_26_88 rfl rfl ?_
          refine xi_iconst (pc' := 96) (v := 0) kc_26_95 rfl rfl ?_
          refine xi_ireturn kc_26_96 mr_26 rfl ?_
          show xw J ov 100 196 (510, [(4, .int 0), (3, .ref 167), (2, .ref 115), (1, .ref 0), (0, .ref 1000000)], [.int 0, .int 0], hh1) _
          refine xi_cmt (pc' := 1528) kc_196_510 rfl rfl ?_
          refine xi_iinc (pc' := 1531) (x := 0) (v := 6) (lv' := [(4, .int 6), (3, .ref 167), (2, .ref 115), (1, .ref 0), (0, .ref 1000000)]) kc_196_1528 rfl rfl rfl rfl (xm_lt ml_196 rfl) ?_
          refine xi_goto (pc' := 23) kc_196_1531 rfl ?_
          refine xi_iload (pc' := 25) (x := 6) kc_196_23 rfl rfl ?_
          refine xi_aload_n (pc' := 26) (x := 1000000) kc_196_25 rfl rfl ?_
          refine xi_arraylength (pc' := 27) (n := 6) (v := 6) kc_196_26 rfl (xl_lenO (by decide) hov0 rfl) rfl ?_
          refine xi_bipush (pc' := 29) (v := 6) kc_196_27 rfl rfl ?_
          refine xi_isub (pc' := 30) (v := 0) kc_196_29 rfl rfl ?_
          refine xi_cmt (pc' := 1534) kc_196_30 rfl rfl ?_
          refine xi_iconst (pc' := 1535) (v := 1) kc_196_1534 rfl rfl ?_
          refine xi_ireturn kc_196_1535 mr_196 rfl ?_
          refine ⟨rfl, ?_, ?_⟩
          · rw [eh1.2.2.1]; exact hn0
          · rw [eh1.2.2.2]; exact hz0
        by_cases c31 : a2.toInt = 3
        · refine xi_tsi (pc' := 87) (z := 3) kc_107_24 (by omega) rfl (by decide) ?_
          refine xi_aload_n (pc' := 88) (x := 0) kc_107_87 rfl rfl ?_
          refine xi_getfield (pc' := 91) (v := .ref 63) kc_107_88 rfl rfl rfl (F 0 _ hl_0) rfl ?_
          refine xi_getfield (pc' := 94) (v := .ref 65) kc_107_91 rfl rfl rfl (F 63 _ hl_63) rfl ?_
          refine xi_iload_n (pc' := 95) (x := 3) kc_107_94 rfl rfl ?_
          refine xi_iaload (pc' := 96) (v := 0) kc_107_95 rfl (F 65 _ hl_65) (by decide) rfl (xi_in (n := 12) (by decide) (by decide)) rfl ?_
          refine xi_ireturn kc_107_96 mr_107 rfl ?_
          show xw J ov 100 196 (494, [(4, .int 0), (3, .ref 167), (2, .ref 115), (1, .ref 0), (0, .ref 1000000)], [.int 0], h0) _
          refine xi_aload_n (pc' := 495) (x := 115) kc_196_494 rfl rfl ?_
          refine xi_aload_n (pc' := 496) (x := 1000000) kc_196_495 rfl rfl ?_
          refine xi_iload (pc' := 498) (x := 0) kc_196_496 rfl rfl ?_
          refine xi_iconst (pc' := 499) (v := 1) kc_196_498 rfl rfl ?_
          refine xi_iadd (pc' := 500) (v := 1) kc_196_499 rfl rfl ?_
          refine xi_ialoadO (pc' := 501) (v := 3) kc_196_500 rfl (by decide) hov0 (xi_in (n := 6) (by decide) (by decide)) rfl ?_
          refine xi_aload_n (pc' := 502) (x := 1000000) kc_196_501 rfl rfl ?_
          refine xi_iload (pc' := 504) (x := 0) kc_196_502 rfl rfl ?_
          refine xi_iconst (pc' := 505) (v := 2) kc_196_504 rfl rfl ?_
          refine xi_iadd (pc' := 506) (v := 2) kc_196_505 rfl rfl ?_
          refine xi_ialoadO (pc' := 507) (v := a2) kc_196_506 rfl (by decide) hov0 (xi_in (n := 6) (by decide) (by decide)) rfl ?_
          refine xi_virtual (mj := 26) (as := [.int 3, .int a2]) (st1 := [.int 0]) (lv0 := [(0, .ref 115), (1, .int 3), (2, .int a2)]) kc_196_507 rfl rfl rfl rfl rfl (F 115 _ hl_115) (Nat.le_of_ble_eq_true rfl) (hJ _ _ _ _ (by decide)) (xm_le ml_26 rfl) rfl ?_
          refine xi_aload_n (pc' := 1) (x := 115) kc_26_0 rfl rfl ?_
          refine xi_iconst (pc' := 2) (v := 0) kc_26_1 rfl rfl ?_
          refine xi_putfield (pc' := 5) (fs' := [.int 0, .int 0, .ref 116, .ref 117, .ref 118, .ref 119, .ref 120, .ref 121, .ref 122, .ref 123, .ref 124, .ref 125, .ref 126, .ref 127, .ref 128, .ref 129, .int 4, .ref 130, .int 0, .ref 131, .ref 132, .ref 133, .ref 134, .int 0, .ref 135, .ref 136, .ref 137, .ref 138, .ref 139, .ref 140, .ref 141, .ref 142, .int 0, .int 0, .int 0, .ref 143, .ref 144, .ref 145, .ref 146, .ref 147, .ref 148, .int 0, .ref 149, .ref 150, .ref 151, .int 0, .ref 152, .ref 153, .ref 154, .ref 155, .ref 156, .ref 157, .ref 158, .ref 159, .int 0, .ref 160, .int 0, .ref 161, .ref 162, .ref 163, .ref 164, .int 0, .ref 165, .ref 166]) kc_26_2 rfl rfl rfl (F 115 _ hl_115) rfl rfl rfl (Nat.le_of_ble_eq_true rfl) rfl (fun hh1 eh1 => ?_)
          refine xi_iload_n (pc' := 6) (x := 3) kc_26_5 rfl rfl ?_
          refine xi_static (mj := 25) (as := [.int 3]) (st1 := []) (lv0 := [(0, .int 3)]) kc_26_6 rfl rfl (Nat.le_of_ble_eq_true rfl) rfl rfl (Nat.le_of_ble_eq_true rfl) (hJ _ _ _ _ (by decide)) (xm_le ml_25 rfl) rfl ?_
          refine xi_iload_n (pc' := 1) (x := 3) kc_25_0 rfl rfl ?_
          refine xi_iconst (pc' := 2) (v := 0) kc_25_1 rfl rfl ?_
          refine xi_bipush (pc' := 4) (v := 11) kc_25_2 rfl rfl ?_
          refine xi_static (mj := 12) (as := [.int 3, .int 0, .int 11]) (st1 := []) (lv0 := [(0, .int 3), (1, .int 0), (2, .int 11)]) kc_25_4 rfl rfl (Nat.le_of_ble_eq_true rfl) rfl rfl (Nat.le_of_ble_eq_true rfl) (hJ _ _ _ _ (by decide)) (xm_le ml_12 rfl) rfl ?_
          refine xi_iload_n (pc' := 1) (x := 3) kc_12_0 rfl rfl ?_
          refine xi_iload_n (pc' := 2) (x := 0) kc_12_1 rfl rfl ?_
          refine xi_cmf (pc' := 5) kc_12_2 rfl rfl ?_
          refine xi_iload_n (pc' := 6) (x := 3) kc_12_5 rfl rfl ?_
          refine xi_iload_n (pc' := 7) (x := 11) kc_12_6 rfl rfl ?_
          refine xi_cmf (pc' := 10) kc_12_7 rfl rfl ?_
          refine xi_iconst (pc' := 11) (v := 1) kc_12_10 rfl rfl ?_
          refine xi_goto (pc' := 15) kc_12_11 rfl ?_
          refine xi_ireturn kc_12_15 mr_12 rfl ?_
          show xw J ov 98 25 (7, [(0, .int 3)], [.int 1], hh1) _
          refine xi_ireturn kc_25_7 mr_25 rfl ?_
          show xw J ov 99 26 (9, [(0, .ref 115), (1, .int 3), (2, .int a2)], [.int 1], hh1) _
          refine xi_ift (pc' := 18) kc_26_9 rfl rfl ?_
          refine xi_iload_n (pc' := 19) (x := a2) kc_26_18 rfl rfl ?_
          refine xi_iconst (pc' := 20) (v := 0) kc_26_19 rfl rfl ?_
          refine xi_iconst (pc' := 21) (v := 5) kc_26_20 rfl rfl ?_
          refine xi_static (mj := 12) (as := [.int a2, .int 0, .int 5]) (st1 := []) (lv0 := [(0, .int a2), (1, .int 0), (2, .int 5)]) kc_26_21 rfl rfl (Nat.le_of_ble_eq_true rfl) rfl rfl (Nat.le_of_ble_eq_true rfl) (hJ _ _ _ _ (by decide)) (xm_le ml_12 rfl) rfl ?_
          refine xi_iload_n (pc' := 1) (x := a2) kc_12_0 rfl rfl ?_
          refine xi_iload_n (pc' := 2) (x := 0) kc_12_1 rfl rfl ?_
          refine xi_cmf (pc' := 5) kc_12_2 rfl (xc_lt_f (X := a2.toInt) (Y := 0) rfl (by decide) (by omega)) ?_
          refine xi_iload_n (pc' := 6) (x := a2) kc_12_5 rfl rfl ?_
          refine xi_iload_n (pc' := 7) (x := 5) kc_12_6 rfl rfl ?_
          refine xi_cmf (pc' := 10) kc_12_7 rfl (xc_gt_f (X := a2.toInt) (Y := 5) rfl (by decide) (by omega)) ?_
          refine xi_iconst (pc' := 11) (v := 1) kc_12_10 rfl rfl ?_
          refine xi_goto (pc' := 15) kc_12_11 rfl ?_
          refine xi_ireturn kc_12_15 mr_12 rfl ?_
          show xw J ov 99 26 (24, [(0, .ref 115), (1, .int 3), (2, .int a2)], [.int 1], hh1) _
          refine xi_ift (pc' := 34) kc_26_24 rfl rfl ?_
          refine xi_iload_n (pc' := 35) (x := a2) kc_26_34 rfl rfl ?_
          refine xi_tsi (pc' := 97) (z := 3) kc_26_35 (by omega) rfl (by decide) ?_
          refine xi_aload_n (pc' := 98) (x := 115) kc_26_97 rfl rfl ?_
          refine xi_getfield (pc' := 101) (v := .ref 128) kc_26_98 rfl rfl rfl eh1.1 rfl ?_
          refine xi_iload_n (pc' := 102) (x := 3) kc_26_101 rfl rfl ?_
          refine xi_iaload (pc' := 103) (v := 0) kc_26_102 rfl ((eh1.2.1 128 (by decide)).trans (F 128 _ hl_128)) (by decide) rfl (xi_in (n := 12) (by decide) (by decide)) rfl ?_
          refine xi_ireturn kc_26_103 mr_26 rfl ?_
          show xw J ov 100 196 (510, [(4, .int 0), (3, .ref 167), (2, .ref 115), (1, .ref 0), (0, .ref 1000000)], [.int 0, .int 0], hh1) _
          refine xi_cmt (pc' := 1528) kc_196_510 rfl rfl ?_
          refine xi_iinc (pc' := 1531) (x := 0) (v := 6) (lv' := [(4, .int 6), (3, .ref 167), (2, .ref 115), (1, .ref 0), (0, .ref 1000000)]) kc_196_1528 rfl rfl rfl rfl (xm_lt ml_196 rfl) ?_
          refine xi_goto (pc' := 23) kc_196_1531 rfl ?_
          refine xi_iload (pc' := 25) (x := 6) kc_196_23 rfl rfl ?_
          refine xi_aload_n (pc' := 26) (x := 1000000) kc_196_25 rfl rfl ?_
          refine xi_arraylength (pc' := 27) (n := 6) (v := 6) kc_196_26 rfl (xl_lenO (by decide) hov0 rfl) rfl ?_
          refine xi_bipush (pc' := 29) (v := 6) kc_196_27 rfl rfl ?_
          refine xi_isub (pc' := 30) (v := 0) kc_196_29 rfl rfl ?_
          refine xi_cmt (pc' := 1534) kc_196_30 rfl rfl ?_
          refine xi_iconst (pc' := 1535) (v := 1) kc_196_1534 rfl rfl ?_
          refine xi_ireturn kc_196_1535 mr_196 rfl ?_
          refine ⟨rfl, ?_, ?_⟩
          · rw [eh1.2.2.1]; exact hn0
          · rw [eh1.2.2.2]; exact hz0
        by_cases c32 : a2.toInt = 4
        · refine xi_tsi (pc' := 97) (z := 4) kc_107_24 (by omega) rfl (by decide) ?_
          refine xi_aload_n (pc' := 98) (x := 35) kc_107_97 rfl rfl ?_
          refine xi_getfield (pc' := 101) (v := .int 0) kc_107_98 rfl rfl rfl (F 35 _ hl_35) rfl ?_
          refine xi_ireturn kc_107_101 mr_107 rfl ?_
          show xw J ov 100 196 (494, [(4, .int 0), (3, .ref 167), (2, .ref 115), (1, .ref 0), (0, .ref 1000000)], [.int 0], h0) _
          refine xi_aload_n (pc' := 495) (x := 115) kc_196_494 rfl rfl ?_
          refine xi_aload_n (pc' := 496) (x := 1000000) kc_196_495 rfl rfl ?_
          refine xi_iload (pc' := 498) (x := 0) kc_196_496 rfl rfl ?_
          refine xi_iconst (pc' := 499) (v := 1) kc_196_498 rfl rfl ?_
          refine xi_iadd (pc' := 500) (v := 1) kc_196_499 rfl rfl ?_
          refine xi_ialoadO (pc' := 501) (v := 3) kc_196_500 rfl (by decide) hov0 (xi_in (n := 6) (by decide) (by decide)) rfl ?_
          refine xi_aload_n (pc' := 502) (x := 1000000) kc_196_501 rfl rfl ?_
          refine xi_iload (pc' := 504) (x := 0) kc_196_502 rfl rfl ?_
          refine xi_iconst (pc' := 505) (v := 2) kc_196_504 rfl rfl ?_
          refine xi_iadd (pc' := 506) (v := 2) kc_196_505 rfl rfl ?_
          refine xi_ialoadO (pc' := 507) (v := a2) kc_196_506 rfl (by decide) hov0 (xi_in (n := 6) (by decide) (by decide)) rfl ?_
          refine xi_virtual (mj := 26) (as := [.int 3, .int a2]) (st1 := [.int 0]) (lv0 := [(0, .ref 115), (1, .int 3), (2, .int a2)]) kc_196_507 rfl rfl rfl rfl rfl (F 115 _ hl_115) (Nat.le_of_ble_eq_true rfl) (hJ _ _ _ _ (by decide)) (xm_le ml_26 rfl) rfl ?_
          refine xi_aload_n (pc' := 1) (x := 115) kc_26_0 rfl rfl ?_
          refine xi_iconst (pc' := 2) (v := 0) kc_26_1 rfl rfl ?_
          refine xi_putfield (pc' := 5) (fs' := [.int 0, .int 0, .ref 116, .ref 117, .ref 118, .ref 119, .ref 120, .ref 121, .ref 122, .ref 123, .ref 124, .ref 125, .ref 126, .ref 127, .ref 128, .ref 129, .int 4, .ref 130, .int 0, .ref 131, .ref 132, .ref 133, .ref 134, .int 0, .ref 135, .ref 136, .ref 137, .ref 138, .ref 139, .ref 140, .ref 141, .ref 142, .int 0, .int 0, .int 0, .ref 143, .ref 144, .ref 145, .ref 146, .ref 147, .ref 148, .int 0, .ref 149, .ref 150, .ref 151, .int 0, .ref 152, .ref 153, .ref 154, .ref 155, .ref 156, .ref 157, .ref 158, .ref 159, .int 0, .ref 160, .int 0, .ref 161, .ref 162, .ref 163, .ref 164, .int 0, .ref 165, .ref 166]) kc_26_2 rfl rfl rfl (F 115 _ hl_115) rfl rfl rfl (Nat.le_of_ble_eq_true rfl) rfl (fun hh1 eh1 => ?_)
          refine xi_iload_n (pc' := 6) (x := 3) kc_26_5 rfl rfl ?_
          refine xi_static (mj := 25) (as := [.int 3]) (st1 := []) (lv0 := [(0, .int 3)]) kc_26_6 rfl rfl (Nat.le_of_ble_eq_true rfl) rfl rfl (Nat.le_of_ble_eq_true rfl) (hJ _ _ _ _ (by decide)) (xm_le ml_25 rfl) rfl ?_
          refine xi_iload_n (pc' := 1) (x := 3) kc_25_0 rfl rfl ?_
          refine xi_iconst (pc' := 2) (v := 0) kc_25_1 rfl rfl ?_
          refine xi_bipush (pc' := 4) (v := 11) kc_25_2 rfl rfl ?_
          refine xi_static (mj := 12) (as := [.int 3, .int 0, .int 11]) (st1 := []) (lv0 := [(0, .int 3), (1, .int 0), (2, .int 11)]) kc_25_4 rfl rfl (Nat.le_of_ble_eq_true rfl) rfl rfl (Nat.le_of_ble_eq_true rfl) (hJ _ _ _ _ (by decide)) (xm_le ml_12 rfl) rfl ?_
          refine xi_iload_n (pc' := 1) (x := 3) kc_12_0 rfl rfl ?_
          refine xi_iload_n (pc' := 2) (x := 0) kc_12_1 rfl rfl ?_
          refine xi_cmf (pc' := 5) kc_12_2 rfl rfl ?_
          refine xi_iload_n (pc' := 6) (x := 3) kc_12_5 rfl rfl ?_
          refine xi_iload_n (pc' := 7) (x := 11) kc_12_6 rfl rfl ?_
          refine xi_cmf (pc' := 10) kc_12_7 rfl rfl ?_
          refine xi_iconst (pc' := 11) (v := 1) kc_12_10 rfl rfl ?_
          refine xi_goto (pc' := 15) kc_12_11 rfl ?_
          refine xi_ireturn kc_12_15 mr_12 rfl ?_
          show xw J ov 98 25 (7, [(0, .int 3)], [.int 1], hh1) _
          refine xi_ireturn kc_25_7 mr_25 rfl ?_
          show xw J ov 99 26 (9, [(0, .ref 115), (1, .int 3), (2, .int a2)], [.int 1], hh1) _
          refine xi_ift (pc' := 18) kc_26_9 rfl rfl ?_
          refine xi_iload_n (pc' := 19) (x := a2) kc_26_18 rfl rfl ?_
          refine xi_iconst (pc' := 20) (v := 0) kc_26_19 rfl rfl ?_
          refine xi_iconst (pc' := 21) (v := 5) kc_26_20 rfl rfl ?_
          refine xi_static (mj := 12) (as := [.int a2, .int 0, .int 5]) (st1 := []) (lv0 := [(0, .int a2), (1, .int 0), (2, .int 5)]) kc_26_21 rfl rfl (Nat.le_of_ble_eq_true rfl) rfl rfl (Nat.le_of_ble_eq_true rfl) (hJ _ _ _ _ (by decide)) (xm_le ml_12 rfl) rfl ?_
          refine xi_iload_n (pc' := 1) (x := a2) kc_12_0 rfl rfl ?_
          refine xi_iload_n (pc' := 2) (x := 0) kc_12_1 rfl rfl ?_
          refine xi_cmf (pc' := 5) kc_12_2 rfl (xc_lt_f (X := a2.toInt) (Y := 0) rfl (by decide) (by omega)) ?_
          refine xi_iload_n (pc' := 6) (x := a2) kc_12_5 rfl rfl ?_
          refine xi_iload_n (pc' := 7) (x := 5) kc_12_6 rfl rfl ?_
          refine xi_cmf (pc' := 10) kc_12_7 rfl (xc_gt_f (X := a2.toInt) (Y := 5) rfl (by decide) (by omega)) ?_
          refine xi_iconst (pc' := 11) (v := 1) kc_12_10 rfl rfl ?_
          refine xi_goto (pc' := 15) kc_12_11 rfl ?_
          refine xi_ireturn kc_12_15 mr_12 rfl ?_
          show xw J ov 99 26 (24, [(0, .ref 115), (1, .int 3), (2, .int a2)], [.int 1], hh1) _
          refine xi_ift (pc' := 34) kc_26_24 rfl rfl ?_
          refine xi_iload_n (pc' := 35) (x := a2) kc_26_34 rfl rfl ?_
          refine xi_tsi (pc' := 104) (z := 4) kc_26_35 (by omega) rfl (by decide) ?_
          refine xi_aload_n (pc' := 105) (x := 115) kc_26_104 rfl rfl ?_
          refine xi_getfield (pc' := 108) (v := .ref 129) kc_26_105 rfl rfl rfl eh1.1 rfl ?_
          refine xi_iload_n (pc' := 109) (x := 3) kc_26_108 rfl rfl ?_
          refine xi_iaload (pc' := 110) (v := 0) kc_26_109 rfl ((eh1.2.1 129 (by decide)).trans (F 129 _ hl_129)) (by decide) rfl (xi_in (n := 12) (by decide) (by decide)) rfl ?_
          refine xi_ireturn kc_26_110 mr_26 rfl ?_
          show xw J ov 100 196 (510, [(4, .int 0), (3, .ref 167), (2, .ref 115), (1, .ref 0), (0, .ref 1000000)], [.int 0, .int 0], hh1) _
          refine xi_cmt (pc' := 1528) kc_196_510 rfl rfl ?_
          refine xi_iinc (pc' := 1531) (x := 0) (v := 6) (lv' := [(4, .int 6), (3, .ref 167), (2, .ref 115), (1, .ref 0), (0, .ref 1000000)]) kc_196_1528 rfl rfl rfl rfl (xm_lt ml_196 rfl) ?_
          refine xi_goto (pc' := 23) kc_196_1531 rfl ?_
          refine xi_iload (pc' := 25) (x := 6) kc_196_23 rfl rfl ?_
          refine xi_aload_n (pc' := 26) (x := 1000000) kc_196_25 rfl rfl ?_
          refine xi_arraylength (pc' := 27) (n := 6) (v := 6) kc_196_26 rfl (xl_lenO (by decide) hov0 rfl) rfl ?_
          refine xi_bipush (pc' := 29) (v := 6) kc_196_27 rfl rfl ?_
          refine xi_isub (pc' := 30) (v := 0) kc_196_29 rfl rfl ?_
          refine xi_cmt (pc' := 1534) kc_196_30 rfl rfl ?_
          refine xi_iconst (pc' := 1535) (v := 1) kc_196_1534 rfl rfl ?_
          refine xi_ireturn kc_196_1535 mr_196 rfl ?_
          refine ⟨rfl, ?_, ?_⟩
          · rw [eh1.2.2.1]; exact hn0
          · rw [eh1.2.2.2]; exact hz0
        by_cases c33 : a2.toInt = 5
        · refine xi_tsi (pc' := 102) (z := 5) kc_107_24 (by omega) rfl (by decide) ?_
          refine xi_aload_n (pc' := 103) (x := 0) kc_107_102 rfl rfl ?_
          refine xi_getfield (pc' := 106) (v := .ref 1) kc_107_103 rfl rfl rfl (F 0 _ hl_0) rfl ?_
          refine xi_iload_n (pc' := 107) (x := 3) kc_107_106 rfl rfl ?_
          refine xi_aload_n (pc' := 108) (x := 0) kc_107_107 rfl rfl ?_
          refine xi_getfield (pc' := 111) (v := .int 0) kc_107_108 rfl rfl rfl (F 0 _ hl_0) rfl ?_
          refine xi_virtual (mj := 108) (as := [.int 3, .int 0]) (st1 := []) (lv0 := [(0, .ref 1), (1, .int 3), (2, .int 0)]) kc_107_111 rfl rfl rfl rfl rfl (F 1 _ hl_1) (Nat.le_of_ble_eq_true rfl) (hJ _ _ _ _ (by decide)) (xm_le ml_108 rfl) rfl ?_
          refine xi_aload_n (pc' := 1) (x := 1) kc_108_0 rfl rfl ?_
          refine xi_iload_n (pc' := 2) (x := 3) kc_108_1 rfl rfl ?_
          refine xi_virtual (mj := 109) (as := [.int 3]) (st1 := []) (lv0 := [(0, .ref 1), (1, .int 3)]) kc_108_2 rfl rfl rfl rfl rfl (F 1 _ hl_1) (Nat.le_of_ble_eq_true rfl) (hJ _ _ _ _ (by decide)) (xm_le ml_109 rfl) rfl ?_
          refine xi_iload_n (pc' := 1) (x := 3) kc_109_0 rfl rfl ?_
          refine xi_static (mj := 105) (as := [.int 3]) (st1 := []) (lv0 := [(0, .int 3)]) kc_109_1 rfl rfl (Nat.le_of_ble_eq_true rfl) rfl rfl (Nat.le_of_ble_eq_true rfl) (hJ _ _ _ _ (by decide)) (xm_le ml_105 rfl) rfl ?_
          refine xi_iload_n (pc' := 1) (x := 3) kc_105_0 rfl rfl ?_
          refine xi_iff (pc' := 4) kc_105_1 rfl rfl ?_
          refine xi_iload_n (pc' := 5) (x := 3) kc_105_4 rfl rfl ?_
          refine xi_bipush (pc' := 7) (v := 12) kc_105_5 rfl rfl ?_
          refine xi_cmf (pc' := 10) kc_105_7 rfl rfl ?_
          refine xi_iconst (pc' := 11) (v := 1) kc_105_10 rfl rfl ?_
          refine xi_goto (pc' := 15) kc_105_11 rfl ?_
          refine xi_ireturn kc_105_15 mr_105 rfl ?_
          show xw J ov 97 109 (4, [(0, .ref 1), (1, .int 3)], [.int 1], h0) _
          refine xi_iff (pc' := 7) kc_109_4 rfl rfl ?_
          refine xi_aload_n (pc' := 8) (x := 1) kc_109_7 rfl rfl ?_
          refine xi_getfield (pc' := 11) (v := .ref 3) kc_109_8 rfl rfl rfl (F 1 _ hl_1) rfl ?_
          refine xi_iload_n (pc' := 12) (x := 3) kc_109_11 rfl rfl ?_
          refine xi_aaload (pc' := 13) (b := 35) kc_109_12 rfl (F 3 _ hl_3) rfl (xi_in (n := 12) (by decide) (by decide)) rfl ?_
          refine xi_virtual (mj := 106) (as := []) (st1 := []) (lv0 := [(0, .ref 35)]) kc_109_13 rfl rfl rfl rfl rfl (F 35 _ hl_35) (Nat.le_of_ble_eq_true rfl) (hJ _ _ _ _ (by decide)) (xm_le ml_106 rfl) rfl ?_
          refine xi_aload_n (pc' := 1) (x := 35) kc_106_0 rfl rfl ?_
          refine xi_getfield (pc' := 4) (v := .int (-9)) kc_106_1 rfl rfl rfl (F 35 _ hl_35) rfl ?_
          refine xi_static (mj := 90) (as := [.int (-9)]) (st1 := []) (lv0 := [(0, .int (-9))]) kc_106_4 rfl rfl (Nat.le_of_ble_eq_true rfl) rfl rfl (Nat.le_of_ble_eq_true rfl) (hJ _ _ _ _ (by decide)) (xm_le ml_90 rfl) rfl ?_
          refine xi_iload_n (pc' := 1) (x := (-9)) kc_90_0 rfl rfl ?_
          refine xi_ift (pc' := 14) kc_90_1 rfl rfl ?_
          refine xi_iconst (pc' := 15) (v := 0) kc_90_14 rfl rfl ?_
          refine xi_ireturn kc_90_15 mr_90 rfl ?_
          show xw J ov 96 106 (7, [(0, .ref 35)], [.int 0], h0) _
          refine xi_ireturn kc_106_7 mr_106 rfl ?_
          show xw J ov 97 109 (16, [(0, .ref 1), (1, .int 3)], [.int 0], h0) _
          refine xi_ift (pc' := 23) kc_109_16 rfl rfl ?_
          refine xi_iconst (pc' := 24) (v := 0) kc_109_23 rfl rfl ?_
          refine xi_ireturn kc_109_24 mr_109 rfl ?_
          show xw J ov 98 108 (5, [(0, .ref 1), (1, .int 3), (2, .int 0)], [.int 0], h0) _
          refine xi_iff (pc' := 8) kc_108_5 rfl rfl ?_
          refine xi_iconst (pc' := 9) (v := 0) kc_108_8 rfl rfl ?_
          refine xi_ireturn kc_108_9 mr_108 rfl ?_
          show xw J ov 99 107 (114, [(3, .ref 35), (0, .ref 0), (1, .int 3), (2, .int a2)], [.int 0], h0) _
          refine xi_ireturn kc_107_114 mr_107 rfl ?_
          show xw J ov 100 196 (494, [(4, .int 0), (3, .ref 167), (2, .ref 115), (1, .ref 0), (0, .ref 1000000)], [.int 0], h0) _
          refine xi_aload_n (pc' := 495) (x := 115) kc_196_494 rfl rfl ?_
          refine xi_aload_n (pc' := 496) (x := 1000000) kc_196_495 rfl rfl ?_
          refine xi_iload (pc' := 498) (x := 0) kc_196_496 rfl rfl ?_
          refine xi_iconst (pc' := 499) (v := 1) kc_196_498 rfl rfl ?_
          refine xi_iadd (pc' := 500) (v := 1) kc_196_499 rfl rfl ?_
          refine xi_ialoadO (pc' := 501) (v := 3) kc_196_500 rfl (by decide) hov0 (xi_in (n := 6) (by decide) (by decide)) rfl ?_
          refine xi_aload_n (pc' := 502) (x := 1000000) kc_196_501 rfl rfl ?_
          refine xi_iload (pc' := 504) (x := 0) kc_196_502 rfl rfl ?_
          refine xi_iconst (pc' := 505) (v := 2) kc_196_504 rfl rfl ?_
          refine xi_iadd (pc' := 506) (v := 2) kc_196_505 rfl rfl ?_
          refine xi_ialoadO (pc' := 507) (v := a2) kc_196_506 rfl (by decide) hov0 (xi_in (n := 6) (by decide) (by decide)) rfl ?_
          refine xi_virtual (mj := 26) (as := [.int 3, .int a2]) (st1 := [.int 0]) (lv0 := [(0, .ref 115), (1, .int 3), (2, .int a2)]) kc_196_507 rfl rfl rfl rfl rfl (F 115 _ hl_115) (Nat.le_of_ble_eq_true rfl) (hJ _ _ _ _ (by decide)) (xm_le ml_26 rfl) rfl ?_
          refine xi_aload_n (pc' := 1) (x := 115) kc_26_0 rfl rfl ?_
          refine xi_iconst (pc' := 2) (v := 0) kc_26_1 rfl rfl ?_
          refine xi_putfield (pc' := 5) (fs' := [.int 0, .int 0, .ref 116, .ref 117, .ref 118, .ref 119, .ref 120, .ref 121, .ref 122, .ref 123, .ref 124, .ref 125, .ref 126, .ref 127, .ref 128, .ref 129, .int 4, .ref 130, .int 0, .ref 131, .ref 132, .ref 133, .ref 134, .int 0, .ref 135, .ref 136, .ref 137, .ref 138, .ref 139, .ref 140, .ref 141, .ref 142, .int 0, .int 0, .int 0, .ref 143, .ref 144, .ref 145, .ref 146, .ref 147, .ref 148, .int 0, .ref 149, .ref 150, .ref 151, .int 0, .ref 152, .ref 153, .ref 154, .ref 155, .ref 156, .ref 157, .ref 158, .ref 159, .int 0, .ref 160, .int 0, .ref 161, .ref 162, .ref 163, .ref 164, .int 0, .ref 165, .ref 166]) kc_26_2 rfl rfl rfl (F 115 _ hl_115) rfl rfl rfl (Nat.le_of_ble_eq_true rfl) rfl (fun hh1 eh1 => ?_)
          refine xi_iload_n (pc' := 6) (x := 3) kc_26_5 rfl rfl ?_
          refine xi_static (mj := 25) (as := [.int 3]) (st1 := []) (lv0 := [(0, .int 3)]) kc_26_6 rfl rfl (Nat.le_of_ble_eq_true rfl) rfl rfl (Nat.le_of_ble_eq_true rfl) (hJ _ _ _ _ (by decide)) (xm_le ml_25 rfl) rfl ?_
          refine xi_iload_n (pc' := 1) (x := 3) kc_25_0 rfl rfl ?_
          refine xi_iconst (pc' := 2) (v := 0) kc_25_1 rfl rfl ?_
          refine xi_bipush (pc' := 4) (v := 11) kc_25_2 rfl rfl ?_
          refine xi_static (mj := 12) (as := [.int 3, .int 0, .int 11]) (st1 := []) (lv0 := [(0, .int 3), (1, .int 0), (2, .int 11)]) kc_25_4 rfl rfl (Nat.le_of_ble_eq_true rfl) rfl rfl (Nat.le_of_ble_eq_true rfl) (hJ _ _ _ _ (by decide)) (xm_le ml_12 rfl) rfl ?_
          refine xi_iload_n (pc' := 1) (x := 3) kc_12_0 rfl rfl ?_
          refine xi_iload_n (pc' := 2) (x := 0) kc_12_1 rfl rfl ?_
          refine xi_cmf (pc' := 5) kc_12_2 rfl rfl ?_
          refine xi_iload_n (pc' := 6) (x := 3) kc_12_5 rfl rfl ?_
          refine xi_iload_n (pc' := 7) (x := 11) kc_12_6 rfl rfl ?_
          refine xi_cmf (pc' := 10) kc_12_7 rfl rfl ?_
          refine xi_iconst (pc' := 11) (v := 1) kc_12_10 rfl rfl ?_
          refine xi_goto (pc' := 15) kc_12_11 rfl ?_
          refine xi_ireturn kc_12_15 mr_12 rfl ?_
          show xw J ov 98 25 (7, [(0, .int 3)], [.int 1], hh1) _
          refine xi_ireturn kc_25_7 mr_25 rfl ?_
          show xw J ov 99 26 (9, [(0, .ref 115), (1, .int 3), (2, .int a2)], [.int 1], hh1) _
          refine xi_ift (pc' := 18) kc_26_9 rfl rfl ?_
          refine xi_iload_n (pc' := 19) (x := a2) kc_26_18 rfl rfl ?_
          refine xi_iconst (pc' := 20) (v := 0) kc_26_19 rfl rfl ?_
          refine xi_iconst (pc' := 21) (v := 5) kc_26_20 rfl rfl ?_
          refine xi_static (mj := 12) (as := [.int a2, .int 0, .int 5]) (st1 := []) (lv0 := [(0, .int a2), (1, .int 0), (2, .int 5)]) kc_26_21 rfl rfl (Nat.le_of_ble_eq_true rfl) rfl rfl (Nat.le_of_ble_eq_true rfl) (hJ _ _ _ _ (by decide)) (xm_le ml_12 rfl) rfl ?_
          refine xi_iload_n (pc' := 1) (x := a2) kc_12_0 rfl rfl ?_
          refine xi_iload_n (pc' := 2) (x := 0) kc_12_1 rfl rfl ?_
          refine xi_cmf (pc' := 5) kc_12_2 rfl (xc_lt_f (X := a2.toInt) (Y := 0) rfl (by decide) (by omega)) ?_
          refine xi_iload_n (pc' := 6) (x := a2) kc_12_5 rfl rfl ?_
          refine xi_iload_n (pc' := 7) (x := 5) kc_12_6 rfl rfl ?_
          refine xi_cmf (pc' := 10) kc_12_7 rfl (xc_gt_f (X := a2.toInt) (Y := 5) rfl (by decide) (by omega)) ?_
          refine xi_iconst (pc' := 11) (v := 1) kc_12_10 rfl rfl ?_
          refine xi_goto (pc' := 15) kc_12_11 rfl ?_
          refine xi_ireturn kc_12_15 mr_12 rfl ?_
          show xw J ov 99 26 (24, [(0, .ref 115), (1, .int 3), (2, .int a2)], [.int 1], hh1) _
          refine xi_ift (pc' := 34) kc_26_24 rfl rfl ?_
          refine xi_iload_n (pc' := 35) (x := a2) kc_26_34 rfl rfl ?_
          refine xi_tsd (pc' := 111) kc_26_35 rfl (by omega) ?_
          refine xi_aload_n (pc' := 112) (x := 115) kc_26_111 rfl rfl ?_
          refine xi_getfield (pc' := 115) (v := .ref 125) kc_26_112 rfl rfl rfl eh1.1 rfl ?_
          refine xi_iload_n (pc' := 116) (x := 3) kc_26_115 rfl rfl ?_
          refine xi_iaload (pc' := 117) (v := (-9)) kc_26_116 rfl ((eh1.2.1 125 (by decide)).trans (F 125 _ hl_125)) (by decide) rfl (xi_in (n := 12) (by decide) (by decide)) rfl ?_
          refine xi_iff (pc' := 120) kc_26_117 rfl rfl ?_
          refine xi_iconst (pc' := 121) (v := 0) kc_26_120 rfl rfl ?_
          refine xi_goto (pc' := 133) kc_26_121 rfl ?_
          refine xi_ireturn kc_26_133 mr_26 rfl ?_
          show xw J ov 100 196 (510, [(4, .int 0), (3, .ref 167), (2, .ref 115), (1, .ref 0), (0, .ref 1000000)], [.int 0, .int 0], hh1) _
          refine xi_cmt (pc' := 1528) kc_196_510 rfl rfl ?_
          refine xi_iinc (pc' := 1531) (x := 0) (v := 6) (lv' := [(4, .int 6), (3, .ref 167), (2, .ref 115), (1, .ref 0), (0, .ref 1000000)]) kc_196_1528 rfl rfl rfl rfl (xm_lt ml_196 rfl) ?_
          refine xi_goto (pc' := 23) kc_196_1531 rfl ?_
          refine xi_iload (pc' := 25) (x := 6) kc_196_23 rfl rfl ?_
          refine xi_aload_n (pc' := 26) (x := 1000000) kc_196_25 rfl rfl ?_
          refine xi_arraylength (pc' := 27) (n := 6) (v := 6) kc_196_26 rfl (xl_lenO (by decide) hov0 rfl) rfl ?_
          refine xi_bipush (pc' := 29) (v := 6) kc_196_27 rfl rfl ?_
          refine xi_isub (pc' := 30) (v := 0) kc_196_29 rfl rfl ?_
          refine xi_cmt (pc' := 1534) kc_196_30 rfl rfl ?_
          refine xi_iconst (pc' := 1535) (v := 1) kc_196_1534 rfl rfl ?_
          refine xi_ireturn kc_196_1535 mr_196 rfl ?_
          refine ⟨rfl, ?_, ?_⟩
          · rw [eh1.2.2.1]; exact hn0
          · rw [eh1.2.2.2]; exact hz0
        refine xi_tsd (pc' := 115) kc_107_24 rfl (by omega) ?_
        refine xi_aload_n (pc' := 116) (x := 0) kc_107_115 rfl rfl ?_
        refine xi_bipush (pc' := 118) (v := (-2)) kc_107_116 rfl rfl ?_
        refine xi_virtual (mj := 91) (as := [.int (-2)]) (st1 := []) (lv0 := [(0, .ref 0), (1, .int (-2))]) kc_107_118 rfl rfl rfl rfl rfl (F 0 _ hl_0) (Nat.le_of_ble_eq_true rfl) (hJ _ _ _ _ (by decide)) (xm_le ml_91 rfl) rfl ?_
        refine xi_iload_n (pc' := 1) (x := (-2)) kc_91_0 rfl rfl ?_
        refine xi_ineg (pc' := 2) (v := 2) kc_91_1 rfl rfl ?_
        refine xi_istore_n (pc' := 3) (lv' := [(2, .int 2), (0, .ref 0), (1, .int (-2))]) kc_91_2 rfl rfl (xm_lt ml_91 rfl) ?_
        refine xi_iload_n (pc' := 4) (x := 2) kc_91_3 rfl rfl ?_
        refine xi_iff (pc' := 7) kc_91_4 rfl rfl ?_
        refine xi_iload_n (pc' := 8) (x := 2) kc_91_7 rfl rfl ?_
        refine xi_aload_n (pc' := 9) (x := 0) kc_91_8 rfl rfl ?_
        refine xi_getfield (pc' := 12) (v := .ref 94) kc_91_9 rfl rfl rfl (F 0 _ hl_0) rfl ?_
        refine xi_arraylength (pc' := 13) (n := 7) (v := 7) kc_91_12 rfl (xl_lenI (by decide) (by decide) (F 94 _ hl_94) (by simp only [List.length_replicate, List.length_cons, List.length_nil])) rfl ?_
        refine xi_cmf (pc' := 16) kc_91_13 rfl rfl ?_
        refine xi_aload_n (pc' := 17) (x := 0) kc_91_16 rfl rfl ?_
        refine xi_getfield (pc' := 20) (v := .ref 94) kc_91_17 rfl rfl rfl (F 0 _ hl_0) rfl ?_
        refine xi_iload_n (pc' := 21) (x := 2) kc_91_20 rfl rfl ?_
        refine xi_dup2 (pc' := 22) kc_91_21 rfl ⟨rfl, rfl⟩ ?_
        refine xi_iaload (pc' := 23) (v := 0) kc_91_22 rfl (F 94 _ hl_94) (by decide) rfl (xi_in (n := 7) (by decide) (by decide)) rfl ?_
        refine xi_iconst (pc' := 24) (v := 1) kc_91_23 rfl rfl ?_
        refine xi_iadd (pc' := 25) (v := 1) kc_91_24 rfl rfl ?_
        refine xi_iastore (pc' := 26) (x' := [0, 0, 1, 0, 0, 0, 0]) kc_91_25 rfl (F 94 _ hl_94) rfl (xi_in (n := 7) (by decide) (by decide)) rfl (fun hh1 eh1 => ?_)
        refine xi_iload_n (pc' := 27) (x := (-2)) kc_91_26 rfl rfl ?_
        refine xi_ireturn kc_91_27 mr_91 rfl ?_
        show xw J ov 99 107 (121, [(3, .ref 35), (0, .ref 0), (1, .int 3), (2, .int a2)], [.int (-2)], hh1) _
        refine xi_ireturn kc_107_121 mr_107 rfl ?_
        show xw J ov 100 196 (494, [(4, .int 0), (3, .ref 167), (2, .ref 115), (1, .ref 0), (0, .ref 1000000)], [.int (-2)], hh1) _
        refine xi_aload_n (pc' := 495) (x := 115) kc_196_494 rfl rfl ?_
        refine xi_aload_n (pc' := 496) (x := 1000000) kc_196_495 rfl rfl ?_
        refine xi_iload (pc' := 498) (x := 0) kc_196_496 rfl rfl ?_
        refine xi_iconst (pc' := 499) (v := 1) kc_196_498 rfl rfl ?_
        refine xi_iadd (pc' := 500) (v := 1) kc_196_499 rfl rfl ?_
        refine xi_ialoadO (pc' := 501) (v := 3) kc_196_500 rfl (by decide) hov0 (xi_in (n := 6) (by decide) (by decide)) rfl ?_
        refine xi_aload_n (pc' := 502) (x := 1000000) kc_196_501 rfl rfl ?_
        refine xi_iload (pc' := 504) (x := 0) kc_196_502 rfl rfl ?_
        refine xi_iconst (pc' := 505) (v := 2) kc_196_504 rfl rfl ?_
        refine xi_iadd (pc' := 506) (v := 2) kc_196_505 rfl rfl ?_
        refine xi_ialoadO (pc' := 507) (v := a2) kc_196_506 rfl (by decide) hov0 (xi_in (n := 6) (by decide) (by decide)) rfl ?_
        refine xi_virtual (mj := 26) (as := [.int 3, .int a2]) (st1 := [.int (-2)]) (lv0 := [(0, .ref 115), (1, .int 3), (2, .int a2)]) kc_196_507 rfl rfl rfl rfl rfl ((eh1.2.1 115 (by decide)).trans (F 115 _ hl_115)) (Nat.le_of_ble_eq_true rfl) (hJ _ _ _ _ (by decide)) (xm_le ml_26 rfl) rfl ?_
        refine xi_aload_n (pc' := 1) (x := 115) kc_26_0 rfl rfl ?_
        refine xi_iconst (pc' := 2) (v := 0) kc_26_1 rfl rfl ?_
        refine xi_putfield (pc' := 5) (fs' := [.int 0, .int 0, .ref 116, .ref 117, .ref 118, .ref 119, .ref 120, .ref 121, .ref 122, .ref 123, .ref 124, .ref 125, .ref 126, .ref 127, .ref 128, .ref 129, .int 4, .ref 130, .int 0, .ref 131, .ref 132, .ref 133, .ref 134, .int 0, .ref 135, .ref 136, .ref 137, .ref 138, .ref 139, .ref 140, .ref 141, .ref 142, .int 0, .int 0, .int 0, .ref 143, .ref 144, .ref 145, .ref 146, .ref 147, .ref 148, .int 0, .ref 149, .ref 150, .ref 151, .int 0, .ref 152, .ref 153, .ref 154, .ref 155, .ref 156, .ref 157, .ref 158, .ref 159, .int 0, .ref 160, .int 0, .ref 161, .ref 162, .ref 163, .ref 164, .int 0, .ref 165, .ref 166]) kc_26_2 rfl rfl rfl ((eh1.2.1 115 (by decide)).trans (F 115 _ hl_115)) rfl rfl rfl (Nat.le_of_ble_eq_true rfl) rfl (fun hh2 eh2 => ?_)
        refine xi_iload_n (pc' := 6) (x := 3) kc_26_5 rfl rfl ?_
        refine xi_static (mj := 25) (as := [.int 3]) (st1 := []) (lv0 := [(0, .int 3)]) kc_26_6 rfl rfl (Nat.le_of_ble_eq_true rfl) rfl rfl (Nat.le_of_ble_eq_true rfl) (hJ _ _ _ _ (by decide)) (xm_le ml_25 rfl) rfl ?_
        refine xi_iload_n (pc' := 1) (x := 3) kc_25_0 rfl rfl ?_
        refine xi_iconst (pc' := 2) (v := 0) kc_25_1 rfl rfl ?_
        refine xi_bipush (pc' := 4) (v := 11) kc_25_2 rfl rfl ?_
        refine xi_static (mj := 12) (as := [.int 3, .int 0, .int 11]) (st1 := []) (lv0 := [(0, .int 3), (1, .int 0), (2, .int 11)]) kc_25_4 rfl rfl (Nat.le_of_ble_eq_true rfl) rfl rfl (Nat.le_of_ble_eq_true rfl) (hJ _ _ _ _ (by decide)) (xm_le ml_12 rfl) rfl ?_
        refine xi_iload_n (pc' := 1) (x := 3) kc_12_0 rfl rfl ?_
        refine xi_iload_n (pc' := 2) (x := 0) kc_12_1 rfl rfl ?_
        refine xi_cmf (pc' := 5) kc_12_2 rfl rfl ?_
        refine xi_iload_n (pc' := 6) (x := 3) kc_12_5 rfl rfl ?_
        refine xi_iload_n (pc' := 7) (x := 11) kc_12_6 rfl rfl ?_
        refine xi_cmf (pc' := 10) kc_12_7 rfl rfl ?_
        refine xi_iconst (pc' := 11) (v := 1) kc_12_10 rfl rfl ?_
        refine xi_goto (pc' := 15) kc_12_11 rfl ?_
        refine xi_ireturn kc_12_15 mr_12 rfl ?_
        show xw J ov 98 25 (7, [(0, .int 3)], [.int 1], hh2) _
        refine xi_ireturn kc_25_7 mr_25 rfl ?_
        show xw J ov 99 26 (9, [(0, .ref 115), (1, .int 3), (2, .int a2)], [.int 1], hh2) _
        refine xi_ift (pc' := 18) kc_26_9 rfl rfl ?_
        refine xi_iload_n (pc' := 19) (x := a2) kc_26_18 rfl rfl ?_
        refine xi_iconst (pc' := 20) (v := 0) kc_26_19 rfl rfl ?_
        refine xi_iconst (pc' := 21) (v := 5) kc_26_20 rfl rfl ?_
        refine xi_static (mj := 12) (as := [.int a2, .int 0, .int 5]) (st1 := []) (lv0 := [(0, .int a2), (1, .int 0), (2, .int 5)]) kc_26_21 rfl rfl (Nat.le_of_ble_eq_true rfl) rfl rfl (Nat.le_of_ble_eq_true rfl) (hJ _ _ _ _ (by decide)) (xm_le ml_12 rfl) rfl ?_
        refine xi_iload_n (pc' := 1) (x := a2) kc_12_0 rfl rfl ?_
        refine xi_iload_n (pc' := 2) (x := 0) kc_12_1 rfl rfl ?_
        by_cases c34 : a2.toInt < 0
        · refine xi_cmt (pc' := 14) kc_12_2 rfl (xc_lt_t (X := a2.toInt) (Y := 0) rfl (by decide) (by omega)) ?_
          refine xi_iconst (pc' := 15) (v := 0) kc_12_14 rfl rfl ?_
          refine xi_ireturn kc_12_15 mr_12 rfl ?_
          show xw J ov 99 26 (24, [(0, .ref 115), (1, .int 3), (2, .int a2)], [.int 0], hh2) _
          refine xi_iff (pc' := 27) kc_26_24 rfl rfl ?_
          refine xi_aload_n (pc' := 28) (x := 115) kc_26_27 rfl rfl ?_
          refine xi_bipush (pc' := 30) (v := (-2)) kc_26_28 rfl rfl ?_
          refine xi_virtual (mj := 13) (as := [.int (-2)]) (st1 := []) (lv0 := [(0, .ref 115), (1, .int (-2))]) kc_26_30 rfl rfl rfl rfl rfl eh2.1 (Nat.le_of_ble_eq_true rfl) (hJ _ _ _ _ (by decide)) (xm_le ml_13 rfl) rfl ?_
          refine xi_aload_n (pc' := 1) (x := 115) kc_13_0 rfl rfl ?_
          refine xi_getfield (pc' := 4) (v := .ref 140) kc_13_1 rfl rfl rfl eh2.1 rfl ?_
          refine xi_iload_n (pc' := 5) (x := (-2)) kc_13_4 rfl rfl ?_
          refine xi_ineg (pc' := 6) (v := 2) kc_13_5 rfl rfl ?_
          refine xi_dup2 (pc' := 7) kc_13_6 rfl ⟨rfl, rfl⟩ ?_
          refine xi_iaload (pc' := 8) (v := 0) kc_13_7 rfl ((eh2.2.1 140 (by decide)).trans ((eh1.2.1 140 (by decide)).trans (F 140 _ hl_140))) (by decide) rfl (xi_in (n := 7) (by decide) (by decide)) rfl ?_
          refine xi_iconst (pc' := 9) (v := 1) kc_13_8 rfl rfl ?_
          refine xi_iadd (pc' := 10) (v := 1) kc_13_9 rfl rfl ?_
          refine xi_iastore (pc' := 11) (x' := [0, 0, 1, 0, 0, 0, 0]) kc_13_10 rfl ((eh2.2.1 140 (by decide)).trans ((eh1.2.1 140 (by decide)).trans (F 140 _ hl_140))) rfl (xi_in (n := 7) (by decide) (by decide)) rfl (fun hh3 eh3 => ?_)
          refine xi_iload_n (pc' := 12) (x := (-2)) kc_13_11 rfl rfl ?_
          refine xi_ireturn kc_13_12 mr_13 rfl ?_
          show xw J ov 99 26 (33, [(0, .ref 115), (1, .int 3), (2, .int a2)], [.int (-2)], hh3) _
          refine xi_ireturn kc_26_33 mr_26 rfl ?_
          show xw J ov 100 196 (510, [(4, .int 0), (3, .ref 167), (2, .ref 115), (1, .ref 0), (0, .ref 1000000)], [.int (-2), .int (-2)], hh3) _
          refine xi_cmt (pc' := 1528) kc_196_510 rfl rfl ?_
          refine xi_iinc (pc' := 1531) (x := 0) (v := 6) (lv' := [(4, .int 6), (3, .ref 167), (2, .ref 115), (1, .ref 0), (0, .ref 1000000)]) kc_196_1528 rfl rfl rfl rfl (xm_lt ml_196 rfl) ?_
          refine xi_goto (pc' := 23) kc_196_1531 rfl ?_
          refine xi_iload (pc' := 25) (x := 6) kc_196_23 rfl rfl ?_
          refine xi_aload_n (pc' := 26) (x := 1000000) kc_196_25 rfl rfl ?_
          refine xi_arraylength (pc' := 27) (n := 6) (v := 6) kc_196_26 rfl (xl_lenO (by decide) hov0 rfl) rfl ?_
          refine xi_bipush (pc' := 29) (v := 6) kc_196_27 rfl rfl ?_
          refine xi_isub (pc' := 30) (v := 0) kc_196_29 rfl rfl ?_
          refine xi_cmt (pc' := 1534) kc_196_30 rfl rfl ?_
          refine xi_iconst (pc' := 1535) (v := 1) kc_196_1534 rfl rfl ?_
          refine xi_ireturn kc_196_1535 mr_196 rfl ?_
          refine ⟨rfl, ?_, ?_⟩
          · rw [eh3.2.2.1, eh2.2.2.1, eh1.2.2.1]; exact hn0
          · rw [eh3.2.2.2, eh2.2.2.2, eh1.2.2.2]; exact hz0
        · refine xi_cmf (pc' := 5) kc_12_2 rfl (xc_lt_f (X := a2.toInt) (Y := 0) rfl (by decide) (by omega)) ?_
          refine xi_iload_n (pc' := 6) (x := a2) kc_12_5 rfl rfl ?_
          refine xi_iload_n (pc' := 7) (x := 5) kc_12_6 rfl rfl ?_
          refine xi_cmt (pc' := 14) kc_12_7 rfl (xc_gt_t (X := a2.toInt) (Y := 5) rfl (by decide) (by omega)) ?_
          refine xi_iconst (pc' := 15) (v := 0) kc_12_14 rfl rfl ?_
          refine xi_ireturn kc_12_15 mr_12 rfl ?_
          show xw J ov 99 26 (24, [(0, .ref 115), (1, .int 3), (2, .int a2)], [.int 0], hh2) _
          refine xi_iff (pc' := 27) kc_26_24 rfl rfl ?_
          refine xi_aload_n (pc' := 28) (x := 115) kc_26_27 rfl rfl ?_
          refine xi_bipush (pc' := 30) (v := (-2)) kc_26_28 rfl rfl ?_
          refine xi_virtual (mj := 13) (as := [.int (-2)]) (st1 := []) (lv0 := [(0, .ref 115), (1, .int (-2))]) kc_26_30 rfl rfl rfl rfl rfl eh2.1 (Nat.le_of_ble_eq_true rfl) (hJ _ _ _ _ (by decide)) (xm_le ml_13 rfl) rfl ?_
          refine xi_aload_n (pc' := 1) (x := 115) kc_13_0 rfl rfl ?_
          refine xi_getfield (pc' := 4) (v := .ref 140) kc_13_1 rfl rfl rfl eh2.1 rfl ?_
          refine xi_iload_n (pc' := 5) (x := (-2)) kc_13_4 rfl rfl ?_
          refine xi_ineg (pc' := 6) (v := 2) kc_13_5 rfl rfl ?_
          refine xi_dup2 (pc' := 7) kc_13_6 rfl ⟨rfl, rfl⟩ ?_
          refine xi_iaload (pc' := 8) (v := 0) kc_13_7 rfl ((eh2.2.1 140 (by decide)).trans ((eh1.2.1 140 (by decide)).trans (F 140 _ hl_140))) (by decide) rfl (xi_in (n := 7) (by decide) (by decide)) rfl ?_
          refine xi_iconst (pc' := 9) (v := 1) kc_13_8 rfl rfl ?_
          refine xi_iadd (pc' := 10) (v := 1) kc_13_9 rfl rfl ?_
          refine xi_iastore (pc' := 11) (x' := [0, 0, 1, 0, 0, 0, 0]) kc_13_10 rfl ((eh2.2.1 140 (by decide)).trans ((eh1.2.1 140 (by decide)).trans (F 140 _ hl_140))) rfl (xi_in (n := 7) (by decide) (by decide)) rfl (fun hh3 eh3 => ?_)
          refine xi_iload_n (pc' := 12) (x := (-2)) kc_13_11 rfl rfl ?_
          refine xi_ireturn kc_13_12 mr_13 rfl ?_
          show xw J ov 99 26 (33, [(0, .ref 115), (1, .int 3), (2, .int a2)], [.int (-2)], hh3) _
          refine xi_ireturn kc_26_33 mr_26 rfl ?_
          show xw J ov 100 196 (510, [(4, .int 0), (3, .ref 167), (2, .ref 115), (1, .ref 0), (0, .ref 1000000)], [.int (-2), .int (-2)], hh3) _
          refine xi_cmt (pc' := 1528) kc_196_510 rfl rfl ?_
          refine xi_iinc (pc' := 1531) (x := 0) (v := 6) (lv' := [(4, .int 6), (3, .ref 167), (2, .ref 115), (1, .ref 0), (0, .ref 1000000)]) kc_196_1528 rfl rfl rfl rfl (xm_lt ml_196 rfl) ?_
          refine xi_goto (pc' := 23) kc_196_1531 rfl ?_
          refine xi_iload (pc' := 25) (x := 6) kc_196_23 rfl rfl ?_
          refine xi_aload_n (pc' := 26) (x := 1000000) kc_196_25 rfl rfl ?_
          refine xi_arraylength (pc' := 27) (n := 6) (v := 6) kc_196_26 rfl (xl_lenO (by decide) hov0 rfl) rfl ?_
          refine xi_bipush (pc' := 29) (v := 6) kc_196_27 rfl rfl ?_
          refine xi_isub (pc' := 30) (v := 0) kc_196_29 rfl rfl ?_
          refine xi_cmt (pc' := 1534) kc_196_30 rfl rfl ?_
          refine xi_iconst (pc' := 1535) (v := 1) kc_196_1534 rfl rfl ?_
          refine xi_ireturn kc_196_1535 mr_196 rfl ?_
          refine ⟨rfl, ?_, ?_⟩
          · rw [eh3.2.2.1, eh2.2.2.1, eh1.2.2.1]; exact hn0
          · rw [eh3.2.2.2, eh2.2.2.2, eh1.2.2.2]; exact hz0
      by_cases c35 : a1.toInt = 4
      · have qa1 : a1 = 4 := xc_of (Eq.trans (by omega) (show (4 : Int) = (4 : Int32).toInt by decide))
        subst qa1
        refine xi_aaload (pc' := 22) (b := 37) kc_107_21 rfl (F 3 _ hl_3) rfl (xi_in (n := 12) (by decide) (by decide)) rfl ?_
        refine xi_astore_n (pc' := 23) (lv' := [(3, .ref 37), (0, .ref 0), (1, .int 4), (2, .int a2)]) kc_107_22 rfl rfl (xm_lt ml_107 rfl) ?_
        refine xi_iload_n (pc' := 24) (x := a2) kc_107_23 rfl rfl ?_
        by_cases c36 : a2.toInt = 0
        · refine xi_tsi (pc' := 64) (z := 0) kc_107_24 (by omega) rfl (by decide) ?_
          refine xi_aload_n (pc' := 65) (x := 37) kc_107_64 rfl rfl ?_
          refine xi_getfield (pc' := 68) (v := .int (-9)) kc_107_65 rfl rfl rfl (F 37 _ hl_37) rfl ?_
          refine xi_ireturn kc_107_68 mr_107 rfl ?_
          show xw J ov 100 196 (494, [(4, .int 0), (3, .ref 167), (2, .ref 115), (1, .ref 0), (0, .ref 1000000)], [.int (-9)], h0) _
          refine xi_aload_n (pc' := 495) (x := 115) kc_196_494 rfl rfl ?_
          refine xi_aload_n (pc' := 496) (x := 1000000) kc_196_495 rfl rfl ?_
          refine xi_iload (pc' := 498) (x := 0) kc_196_496 rfl rfl ?_
          refine xi_iconst (pc' := 499) (v := 1) kc_196_498 rfl rfl ?_
          refine xi_iadd (pc' := 500) (v := 1) kc_196_499 rfl rfl ?_
          refine xi_ialoadO (pc' := 501) (v := 4) kc_196_500 rfl (by decide) hov0 (xi_in (n := 6) (by decide) (by decide)) rfl ?_
          refine xi_aload_n (pc' := 502) (x := 1000000) kc_196_501 rfl rfl ?_
          refine xi_iload (pc' := 504) (x := 0) kc_196_502 rfl rfl ?_
          refine xi_iconst (pc' := 505) (v := 2) kc_196_504 rfl rfl ?_
          refine xi_iadd (pc' := 506) (v := 2) kc_196_505 rfl rfl ?_
          refine xi_ialoadO (pc' := 507) (v := a2) kc_196_506 rfl (by decide) hov0 (xi_in (n := 6) (by decide) (by decide)) rfl ?_
          refine xi_virtual (mj := 26) (as := [.int 4, .int a2]) (st1 := [.int (-9)]) (lv0 := [(0, .ref 115), (1, .int 4), (2, .int a2)]) kc_196_507 rfl rfl rfl rfl rfl (F 115 _ hl_115) (Nat.le_of_ble_eq_true rfl) (hJ _ _ _ _ (by decide)) (xm_le ml_26 rfl) rfl ?_
          refine xi_aload_n (pc' := 1) (x := 115) kc_26_0 rfl rfl ?_
          refine xi_iconst (pc' := 2) (v := 0) kc_26_1 rfl rfl ?_
          refine xi_putfield (pc' := 5) (fs' := [.int 0, .int 0, .ref 116, .ref 117, .ref 118, .ref 119, .ref 120, .ref 121, .ref 122, .ref 123, .ref 124, .ref 125, .ref 126, .ref 127, .ref 128, .ref 129, .int 4, .ref 130, .int 0, .ref 131, .ref 132, .ref 133, .ref 134, .int 0, .ref 135, .ref 136, .ref 137, .ref 138, .ref 139, .ref 140, .ref 141, .ref 142, .int 0, .int 0, .int 0, .ref 143, .ref 144, .ref 145, .ref 146, .ref 147, .ref 148, .int 0, .ref 149, .ref 150, .ref 151, .int 0, .ref 152, .ref 153, .ref 154, .ref 155, .ref 156, .ref 157, .ref 158, .ref 159, .int 0, .ref 160, .int 0, .ref 161, .ref 162, .ref 163, .ref 164, .int 0, .ref 165, .ref 166]) kc_26_2 rfl rfl rfl (F 115 _ hl_115) rfl rfl rfl (Nat.le_of_ble_eq_true rfl) rfl (fun hh1 eh1 => ?_)
          refine xi_iload_n (pc' := 6) (x := 4) kc_26_5 rfl rfl ?_
          refine xi_static (mj := 25) (as := [.int 4]) (st1 := []) (lv0 := [(0, .int 4)]) kc_26_6 rfl rfl (Nat.le_of_ble_eq_true rfl) rfl rfl (Nat.le_of_ble_eq_true rfl) (hJ _ _ _ _ (by decide)) (xm_le ml_25 rfl) rfl ?_
          refine xi_iload_n (pc' := 1) (x := 4) kc_25_0 rfl rfl ?_
          refine xi_iconst (pc' := 2) (v := 0) kc_25_1 rfl rfl ?_
          refine xi_bipush (pc' := 4) (v := 11) kc_25_2 rfl rfl ?_
          refine xi_static (mj := 12) (as := [.int 4, .int 0, .int 11]) (st1 := []) (lv0 := [(0, .int 4), (1, .int 0), (2, .int 11)]) kc_25_4 rfl rfl (Nat.le_of_ble_eq_true rfl) rfl rfl (Nat.le_of_ble_eq_true rfl) (hJ _ _ _ _ (by decide)) (xm_le ml_12 rfl) rfl ?_
          refine xi_iload_n (pc' := 1) (x := 4) kc_12_0 rfl rfl ?_
          refine xi_iload_n (pc' := 2) (x := 0) kc_12_1 rfl rfl ?_
          refine xi_cmf (pc' := 5) kc_12_2 rfl rfl ?_
          refine xi_iload_n (pc' := 6) (x := 4) kc_12_5 rfl rfl ?_
          refine xi_iload_n (pc' := 7) (x := 11) kc_12_6 rfl rfl ?_
          refine xi_cmf (pc' := 10) kc_12_7 rfl rfl ?_
          refine xi_iconst (pc' := 11) (v := 1) kc_12_10 rfl rfl ?_
          refine xi_goto (pc' := 15) kc_12_11 rfl ?_
          refine xi_ireturn kc_12_15 mr_12 rfl ?_
          show xw J ov 98 25 (7, [(0, .int 4)], [.int 1], hh1) _
          refine xi_ireturn kc_25_7 mr_25 rfl ?_
          show xw J ov 99 26 (9, [(0, .ref 115), (1, .int 4), (2, .int a2)], [.int 1], hh1) _
          refine xi_ift (pc' := 18) kc_26_9 rfl rfl ?_
          refine xi_iload_n (pc' := 19) (x := a2) kc_26_18 rfl rfl ?_
          refine xi_iconst (pc' := 20) (v := 0) kc_26_19 rfl rfl ?_
          refine xi_iconst (pc' := 21) (v := 5) kc_26_20 rfl rfl ?_
          refine xi_static (mj := 12) (as := [.int a2, .int 0, .int 5]) (st1 := []) (lv0 := [(0, .int a2), (1, .int 0), (2, .int 5)]) kc_26_21 rfl rfl (Nat.le_of_ble_eq_true rfl) rfl rfl (Nat.le_of_ble_eq_true rfl) (hJ _ _ _ _ (by decide)) (xm_le ml_12 rfl) rfl ?_
          refine xi_iload_n (pc' := 1) (x := a2) kc_12_0 rfl rfl ?_
          refine xi_iload_n (pc' := 2) (x := 0) kc_12_1 rfl rfl ?_
          refine xi_cmf (pc' := 5) kc_12_2 rfl (xc_lt_f (X := a2.toInt) (Y := 0) rfl (by decide) (by omega)) ?_
          refine xi_iload_n (pc' := 6) (x := a2) kc_12_5 rfl rfl ?_
          refine xi_iload_n (pc' := 7) (x := 5) kc_12_6 rfl rfl ?_
          refine xi_cmf (pc' := 10) kc_12_7 rfl (xc_gt_f (X := a2.toInt) (Y := 5) rfl (by decide) (by omega)) ?_
          refine xi_iconst (pc' := 11) (v := 1) kc_12_10 rfl rfl ?_
          refine xi_goto (pc' := 15) kc_12_11 rfl ?_
          refine xi_ireturn kc_12_15 mr_12 rfl ?_
          show xw J ov 99 26 (24, [(0, .ref 115), (1, .int 4), (2, .int a2)], [.int 1], hh1) _
          refine xi_ift (pc' := 34) kc_26_24 rfl rfl ?_
          refine xi_iload_n (pc' := 35) (x := a2) kc_26_34 rfl rfl ?_
          refine xi_tsi (pc' := 68) (z := 0) kc_26_35 (by omega) rfl (by decide) ?_
          refine xi_aload_n (pc' := 69) (x := 115) kc_26_68 rfl rfl ?_
          refine xi_getfield (pc' := 72) (v := .ref 125) kc_26_69 rfl rfl rfl eh1.1 rfl ?_
          refine xi_iload_n (pc' := 73) (x := 4) kc_26_72 rfl rfl ?_
          refine xi_iaload (pc' := 74) (v := (-9)) kc_26_73 rfl ((eh1.2.1 125 (by decide)).trans (F 125 _ hl_125)) (by decide) rfl (xi_in (n := 12) (by decide) (by decide)) rfl ?_
          refine xi_ireturn kc_26_74 mr_26 rfl ?_
          show xw J ov 100 196 (510, [(4, .int 0), (3, .ref 167), (2, .ref 115), (1, .ref 0), (0, .ref 1000000)], [.int (-9), .int (-9)], hh1) _
          refine xi_cmt (pc' := 1528) kc_196_510 rfl rfl ?_
          refine xi_iinc (pc' := 1531) (x := 0) (v := 6) (lv' := [(4, .int 6), (3, .ref 167), (2, .ref 115), (1, .ref 0), (0, .ref 1000000)]) kc_196_1528 rfl rfl rfl rfl (xm_lt ml_196 rfl) ?_
          refine xi_goto (pc' := 23) kc_196_1531 rfl ?_
          refine xi_iload (pc' := 25) (x := 6) kc_196_23 rfl rfl ?_
          refine xi_aload_n (pc' := 26) (x := 1000000) kc_196_25 rfl rfl ?_
          refine xi_arraylength (pc' := 27) (n := 6) (v := 6) kc_196_26 rfl (xl_lenO (by decide) hov0 rfl) rfl ?_
          refine xi_bipush (pc' := 29) (v := 6) kc_196_27 rfl rfl ?_
          refine xi_isub (pc' := 30) (v := 0) kc_196_29 rfl rfl ?_
          refine xi_cmt (pc' := 1534) kc_196_30 rfl rfl ?_
          refine xi_iconst (pc' := 1535) (v := 1) kc_196_1534 rfl rfl ?_
          refine xi_ireturn kc_196_1535 mr_196 rfl ?_
          refine ⟨rfl, ?_, ?_⟩
          · rw [eh1.2.2.1]; exact hn0
          · rw [eh1.2.2.2]; exact hz0
        by_cases c37 : a2.toInt = 1
        · refine xi_tsi (pc' := 69) (z := 1) kc_107_24 (by omega) rfl (by decide) ?_
          refine xi_aload_n (pc' := 70) (x := 37) kc_107_69 rfl rfl ?_
          refine xi_getfield (pc' := 73) (v := .int 0) kc_107_70 rfl rfl rfl (F 37 _ hl_37) rfl ?_
          refine xi_ireturn kc_107_73 mr_107 rfl ?_
          show xw J ov 100 196 (494, [(4, .int 0), (3, .ref 167), (2, .ref 115), (1, .ref 0), (0, .ref 1000000)], [.int 0], h0) _
          refine xi_aload_n (pc' := 495) (x := 115) kc_196_494 rfl rfl ?_
          refine xi_aload_n (pc' := 496) (x := 1000000) kc_196_495 rfl rfl ?_
          refine xi_iload (pc' := 498) (x := 0) kc_196_496 rfl rfl ?_
          refine xi_iconst (pc' := 499) (v := 1) kc_196_498 rfl rfl ?_
          refine xi_iadd (pc' := 500) (v := 1) kc_196_499 rfl rfl ?_
          refine xi_ialoadO (pc' := 501) (v := 4) kc_196_500 rfl (by decide) hov0 (xi_in (n := 6) (by decide) (by decide)) rfl ?_
          refine xi_aload_n (pc' := 502) (x := 1000000) kc_196_501 rfl rfl ?_
          refine xi_iload (pc' := 504) (x := 0) kc_196_502 rfl rfl ?_
          refine xi_iconst (pc' := 505) (v := 2) kc_196_504 rfl rfl ?_
          refine xi_iadd (pc' := 506) (v := 2) kc_196_505 rfl rfl ?_
          refine xi_ialoadO (pc' := 507) (v := a2) kc_196_506 rfl (by decide) hov0 (xi_in (n := 6) (by decide) (by decide)) rfl ?_
          refine xi_virtual (mj := 26) (as := [.int 4, .int a2]) (st1 := [.int 0]) (lv0 := [(0, .ref 115), (1, .int 4), (2, .int a2)]) kc_196_507 rfl rfl rfl rfl rfl (F 115 _ hl_115) (Nat.le_of_ble_eq_true rfl) (hJ _ _ _ _ (by decide)) (xm_le ml_26 rfl) rfl ?_
          refine xi_aload_n (pc' := 1) (x := 115) kc_26_0 rfl rfl ?_
          refine xi_iconst (pc' := 2) (v := 0) kc_26_1 rfl rfl ?_
          refine xi_putfield (pc' := 5) (fs' := [.int 0, .int 0, .ref 116, .ref 117, .ref 118, .ref 119, .ref 120, .ref 121, .ref 122, .ref 123, .ref 124, .ref 125, .ref 126, .ref 127, .ref 128, .ref 129, .int 4, .ref 130, .int 0, .ref 131, .ref 132, .ref 133, .ref 134, .int 0, .ref 135, .ref 136, .ref 137, .ref 138, .ref 139, .ref 140, .ref 141, .ref 142, .int 0, .int 0, .int 0, .ref 143, .ref 144, .ref 145, .ref 146, .ref 147, .ref 148, .int 0, .ref 149, .ref 150, .ref 151, .int 0, .ref 152, .ref 153, .ref 154, .ref 155, .ref 156, .ref 157, .ref 158, .ref 159, .int 0, .ref 160, .int 0, .ref 161, .ref 162, .ref 163, .ref 164, .int 0, .ref 165, .ref 166]) kc_26_2 rfl rfl rfl (F 115 _ hl_115) rfl rfl rfl (Nat.le_of_ble_eq_true rfl) rfl (fun hh1 eh1 => ?_)
          refine xi_iload_n (pc' := 6) (x := 4) kc_26_5 rfl rfl ?_
          refine xi_static (mj := 25) (as := [.int 4]) (st1 := []) (lv0 := [(0, .int 4)]) kc_26_6 rfl rfl (Nat.le_of_ble_eq_true rfl) rfl rfl (Nat.le_of_ble_eq_true rfl) (hJ _ _ _ _ (by decide)) (xm_le ml_25 rfl) rfl ?_
          refine xi_iload_n (pc' := 1) (x := 4) kc_25_0 rfl rfl ?_
          refine xi_iconst (pc' := 2) (v := 0) kc_25_1 rfl rfl ?_
          refine xi_bipush (pc' := 4) (v := 11) kc_25_2 rfl rfl ?_
          refine xi_static (mj := 12) (as := [.int 4, .int 0, .int 11]) (st1 := []) (lv0 := [(0, .int 4), (1, .int 0), (2, .int 11)]) kc_25_4 rfl rfl (Nat.le_of_ble_eq_true rfl) rfl rfl (Nat.le_of_ble_eq_true rfl) (hJ _ _ _ _ (by decide)) (xm_le ml_12 rfl) rfl ?_
          refine xi_iload_n (pc' := 1) (x := 4) kc_12_0 rfl rfl ?_
          refine xi_iload_n (pc' := 2) (x := 0) kc_12_1 rfl rfl ?_
          refine xi_cmf (pc' := 5) kc_12_2 rfl rfl ?_
          refine xi_iload_n (pc' := 6) (x := 4) kc_12_5 rfl rfl ?_
          refine xi_iload_n (pc' := 7) (x := 11) kc_12_6 rfl rfl ?_
          refine xi_cmf (pc' := 10) kc_12_7 rfl rfl ?_
          refine xi_iconst (pc' := 11) (v := 1) kc_12_10 rfl rfl ?_
          refine xi_goto (pc' := 15) kc_12_11 rfl ?_
          refine xi_ireturn kc_12_15 mr_12 rfl ?_
          show xw J ov 98 25 (7, [(0, .int 4)], [.int 1], hh1) _
          refine xi_ireturn kc_25_7 mr_25 rfl ?_
          show xw J ov 99 26 (9, [(0, .ref 115), (1, .int 4), (2, .int a2)], [.int 1], hh1) _
          refine xi_ift (pc' := 18) kc_26_9 rfl rfl ?_
          refine xi_iload_n (pc' := 19) (x := a2) kc_26_18 rfl rfl ?_
          refine xi_iconst (pc' := 20) (v := 0) kc_26_19 rfl rfl ?_
          refine xi_iconst (pc' := 21) (v := 5) kc_26_20 rfl rfl ?_
          refine xi_static (mj := 12) (as := [.int a2, .int 0, .int 5]) (st1 := []) (lv0 := [(0, .int a2), (1, .int 0), (2, .int 5)]) kc_26_21 rfl rfl (Nat.le_of_ble_eq_true rfl) rfl rfl (Nat.le_of_ble_eq_true rfl) (hJ _ _ _ _ (by decide)) (xm_le ml_12 rfl) rfl ?_
          refine xi_iload_n (pc' := 1) (x := a2) kc_12_0 rfl rfl ?_
          refine xi_iload_n (pc' := 2) (x := 0) kc_12_1 rfl rfl ?_
          refine xi_cmf (pc' := 5) kc_12_2 rfl (xc_lt_f (X := a2.toInt) (Y := 0) rfl (by decide) (by omega)) ?_
          refine xi_iload_n (pc' := 6) (x := a2) kc_12_5 rfl rfl ?_
          refine xi_iload_n (pc' := 7) (x := 5) kc_12_6 rfl rfl ?_
          refine xi_cmf (pc' := 10) kc_12_7 rfl (xc_gt_f (X := a2.toInt) (Y := 5) rfl (by decide) (by omega)) ?_
          refine xi_iconst (pc' := 11) (v := 1) kc_12_10 rfl rfl ?_
          refine xi_goto (pc' := 15) kc_12_11 rfl ?_
          refine xi_ireturn kc_12_15 mr_12 rfl ?_
          show xw J ov 99 26 (24, [(0, .ref 115), (1, .int 4), (2, .int a2)], [.int 1], hh1) _
          refine xi_ift (pc' := 34) kc_26_24 rfl rfl ?_
          refine xi_iload_n (pc' := 35) (x := a2) kc_26_34 rfl rfl ?_
          refine xi_tsi (pc' := 75) (z := 1) kc_26_35 (by omega) rfl (by decide) ?_
          refine xi_aload_n (pc' := 76) (x := 115) kc_26_75 rfl rfl ?_
          refine xi_getfield (pc' := 79) (v := .ref 126) kc_26_76 rfl rfl rfl eh1.1 rfl ?_
          refine xi_iload_n (pc' := 80) (x := 4) kc_26_79 rfl rfl ?_
          refine xi_iaload (pc' := 81) (v := 0) kc_26_80 rfl ((eh1.2.1 126 (by decide)).trans (F 126 _ hl_126)) (by decide) rfl (xi_in (n := 12) (by decide) (by decide)) rfl ?_
          refine xi_ireturn kc_26_81 mr_26 rfl ?_
          show xw J ov 100 196 (510, [(4, .int 0), (3, .ref 167), (2, .ref 115), (1, .ref 0), (0, .ref 1000000)], [.int 0, .int 0], hh1) _
          refine xi_cmt (pc' := 1528) kc_196_510 rfl rfl ?_
          refine xi_iinc (pc' := 1531) (x := 0) (v := 6) (lv' := [(4, .int 6), (3, .ref 167), (2, .ref 115), (1, .ref 0), (0, .ref 1000000)]) kc_196_1528 rfl rfl rfl rfl (xm_lt ml_196 rfl) ?_
          refine xi_goto (pc' := 23) kc_196_1531 rfl ?_
          refine xi_iload (pc' := 25) (x := 6) kc_196_23 rfl rfl ?_
          refine xi_aload_n (pc' := 26) (x := 1000000) kc_196_25 rfl rfl ?_
          refine xi_arraylength (pc' := 27) (n := 6) (v := 6) kc_196_26 rfl (xl_lenO (by decide) hov0 rfl) rfl ?_
          refine xi_bipush (pc' := 29) (v := 6) kc_196_27 rfl rfl ?_
          refine xi_isub (pc' := 30) (v := 0) kc_196_29 rfl rfl ?_
          refine xi_cmt (pc' := 1534) kc_196_30 rfl rfl ?_
          refine xi_iconst (pc' := 1535) (v := 1) kc_196_1534 rfl rfl ?_
          refine xi_ireturn kc_196_1535 mr_196 rfl ?_
          refine ⟨rfl, ?_, ?_⟩
          · rw [eh1.2.2.1]; exact hn0
          · rw [eh1.2.2.2]; exact hz0
        by_cases c38 : a2.toInt = 2
        · refine xi_tsi (pc' := 74) (z := 2) kc_107_24 (by omega) rfl (by decide) ?_
          refine xi_aload_n (pc' := 75) (x := 37) kc_107_74 rfl rfl ?_
          refine xi_getfield (pc' := 78) (v := .int 0) kc_107_75 rfl rfl rfl (F 37 _ hl_37) rfl ?_
          refine xi_ift (pc' := 85) kc_107_78 rfl rfl ?_
          refine xi_iconst (pc' := 86) (v := 0) kc_107_85 rfl rfl ?_
          refine xi_ireturn kc_107_86 mr_107 rfl ?_
          show xw J ov 100 196 (494, [(4, .int 0), (3, .ref 167), (2, .ref 115), (1, .ref 0), (0, .ref 1000000)], [.int 0], h0) _
          refine xi_aload_n (pc' := 495) (x := 115) kc_196_494 rfl rfl ?_
          refine xi_aload_n (pc' := 496) (x := 1000000) kc_196_495 rfl rfl ?_
          refine xi_iload (pc' := 498) (x := 0) kc_196_496 rfl rfl ?_
          refine xi_iconst (pc' := 499) (v := 1) kc_196_498 rfl rfl ?_
          refine xi_iadd (pc' := 500) (v := 1) kc_196_499 rfl rfl ?_
          refine xi_ialoadO (pc' := 501) (v := 4) kc_196_500 rfl (by decide) hov0 (xi_in (n := 6) (by decide) (by decide)) rfl ?_
          refine xi_aload_n (pc' := 502) (x := 1000000) kc_196_501 rfl rfl ?_
          refine xi_iload (pc' := 504) (x := 0) kc_196_502 rfl rfl ?_
          refine xi_iconst (pc' := 505) (v := 2) kc_196_504 rfl rfl ?_
          refine xi_iadd (pc' := 506) (v := 2) kc_196_505 rfl rfl ?_
          refine xi_ialoadO (pc' := 507) (v := a2) kc_196_506 rfl (by decide) hov0 (xi_in (n := 6) (by decide) (by decide)) rfl ?_
          refine xi_virtual (mj := 26) (as := [.int 4, .int a2]) (st1 := [.int 0]) (lv0 := [(0, .ref 115), (1, .int 4), (2, .int a2)]) kc_196_507 rfl rfl rfl rfl rfl (F 115 _ hl_115) (Nat.le_of_ble_eq_true rfl) (hJ _ _ _ _ (by decide)) (xm_le ml_26 rfl) rfl ?_
          refine xi_aload_n (pc' := 1) (x := 115) kc_26_0 rfl rfl ?_
          refine xi_iconst (pc' := 2) (v := 0) kc_26_1 rfl rfl ?_
          refine xi_putfield (pc' := 5) (fs' := [.int 0, .int 0, .ref 116, .ref 117, .ref 118, .ref 119, .ref 120, .ref 121, .ref 122, .ref 123, .ref 124, .ref 125, .ref 126, .ref 127, .ref 128, .ref 129, .int 4, .ref 130, .int 0, .ref 131, .ref 132, .ref 133, .ref 134, .int 0, .ref 135, .ref 136, .ref 137, .ref 138, .ref 139, .ref 140, .ref 141, .ref 142, .int 0, .int 0, .int 0, .ref 143, .ref 144, .ref 145, .ref 146, .ref 147, .ref 148, .int 0, .ref 149, .ref 150, .ref 151, .int 0, .ref 152, .ref 153, .ref 154, .ref 155, .ref 156, .ref 157, .ref 158, .ref 159, .int 0, .ref 160, .int 0, .ref 161, .ref 162, .ref 163, .ref 164, .int 0, .ref 165, .ref 166]) kc_26_2 rfl rfl rfl (F 115 _ hl_115) rfl rfl rfl (Nat.le_of_ble_eq_true rfl) rfl (fun hh1 eh1 => ?_)
          refine xi_iload_n (pc' := 6) (x := 4) kc_26_5 rfl rfl ?_
          refine xi_static (mj := 25) (as := [.int 4]) (st1 := []) (lv0 := [(0, .int 4)]) kc_26_6 rfl rfl (Nat.le_of_ble_eq_true rfl) rfl rfl (Nat.le_of_ble_eq_true rfl) (hJ _ _ _ _ (by decide)) (xm_le ml_25 rfl) rfl ?_
          refine xi_iload_n (pc' := 1) (x := 4) kc_25_0 rfl rfl ?_
          refine xi_iconst (pc' := 2) (v := 0) kc_25_1 rfl rfl ?_
          refine xi_bipush (pc' := 4) (v := 11) kc_25_2 rfl rfl ?_
          refine xi_static (mj := 12) (as := [.int 4, .int 0, .int 11]) (st1 := []) (lv0 := [(0, .int 4), (1, .int 0), (2, .int 11)]) kc_25_4 rfl rfl (Nat.le_of_ble_eq_true rfl) rfl rfl (Nat.le_of_ble_eq_true rfl) (hJ _ _ _ _ (by decide)) (xm_le ml_12 rfl) rfl ?_
          refine xi_iload_n (pc' := 1) (x := 4) kc_12_0 rfl rfl ?_
          refine xi_iload_n (pc' := 2) (x := 0) kc_12_1 rfl rfl ?_
          refine xi_cmf (pc' := 5) kc_12_2 rfl rfl ?_
          refine xi_iload_n (pc' := 6) (x := 4) kc_12_5 rfl rfl ?_
          refine xi_iload_n (pc' := 7) (x := 11) kc_12_6 rfl rfl ?_
          refine xi_cmf (pc' := 10) kc_12_7 rfl rfl ?_
          refine xi_iconst (pc' := 11) (v := 1) kc_12_10 rfl rfl ?_
          refine xi_goto (pc' := 15) kc_12_11 rfl ?_
          refine xi_ireturn kc_12_15 mr_12 rfl ?_
          show xw J ov 98 25 (7, [(0, .int 4)], [.int 1], hh1) _
          refine xi_ireturn kc_25_7 mr_25 rfl ?_
          show xw J ov 99 26 (9, [(0, .ref 115), (1, .int 4), (2, .int a2)], [.int 1], hh1) _
          refine xi_ift (pc' := 18) kc_26_9 rfl rfl ?_
          refine xi_iload_n (pc' := 19) (x := a2) kc_26_18 rfl rfl ?_
          refine xi_iconst (pc' := 20) (v := 0) kc_26_19 rfl rfl ?_
          refine xi_iconst (pc' := 21) (v := 5) kc_26_20 rfl rfl ?_
          refine xi_static (mj := 12) (as := [.int a2, .int 0, .int 5]) (st1 := []) (lv0 := [(0, .int a2), (1, .int 0), (2, .int 5)]) kc_26_21 rfl rfl (Nat.le_of_ble_eq_true rfl) rfl rfl (Nat.le_of_ble_eq_true rfl) (hJ _ _ _ _ (by decide)) (xm_le ml_12 rfl) rfl ?_
          refine xi_iload_n (pc' := 1) (x := a2) kc_12_0 rfl rfl ?_
          refine xi_iload_n (pc' := 2) (x := 0) kc_12_1 rfl rfl ?_
          refine xi_cmf (pc' := 5) kc_12_2 rfl (xc_lt_f (X := a2.toInt) (Y := 0) rfl (by decide) (by omega)) ?_
          refine xi_iload_n (pc' := 6) (x := a2) kc_12_5 rfl rfl ?_
          refine xi_iload_n (pc' := 7) (x := 5) kc_12_6 rfl rfl ?_
          refine xi_cmf (pc' := 10) kc_12_7 rfl (xc_gt_f (X := a2.toInt) (Y := 5) rfl (by decide) (by omega)) ?_
          refine xi_iconst (pc' := 11) (v := 1) kc_12_10 rfl rfl ?_
          refine xi_goto (pc' := 15) kc_12_11 rfl ?_
          refine xi_ireturn kc_12_15 mr_12 rfl ?_
          show xw J ov 99 26 (24, [(0, .ref 115), (1, .int 4), (2, .int a2)], [.int 1], hh1) _
          refine xi_ift (pc' := 34) kc_26_24 rfl rfl ?_
          refine xi_iload_n (pc' := 35) (x := a2) kc_26_34 rfl rfl ?_
          refine xi_tsi (pc' := 82) (z := 2) kc_26_35 (by omega) rfl (by decide) ?_
          refine xi_aload_n (pc' := 83) (x := 115) kc_26_82 rfl rfl ?_
          refine xi_getfield (pc' := 86) (v := .ref 127) kc_26_83 rfl rfl rfl eh1.1 rfl ?_
          refine xi_iload_n (pc' := 87) (x := 4) kc_26_86 rfl rfl ?_
          refine xi_baload (pc' := 88) (v := 0) kc_26_87 rfl ((eh1.2.1 127 (by decide)).trans (F 127 _ hl_127)) rfl (xi_in (n := 12) (by decide) (by decide)) rfl ?_
          refine xi_ift (pc' := 95) kc_26_88 rfl rfl ?_
          refine xi_iconst (pc' := 96) (v := 0) kc_26_95 rfl rfl ?_
          refine xi_ireturn kc_26_96 mr_26 rfl ?_
          show xw J ov 100 196 (510, [(4, .int 0), (3, .ref 167), (2, .ref 115), (1, .ref 0), (0, .ref 1000000)], [.int 0, .int 0], hh1) _
          refine xi_cmt (pc' := 1528) kc_196_510 rfl rfl ?_
          refine xi_iinc (pc' := 1531) (x := 0) (v := 6) (lv' := [(4, .int 6), (3, .ref 167), (2, .ref 115), (1, .ref 0), (0, .ref 1000000)]) kc_196_1528 rfl rfl rfl rfl (xm_lt ml_196 rfl) ?_
          refine xi_goto (pc' := 23) kc_196_1531 rfl ?_
          refine xi_iload (pc' := 25) (x := 6) kc_196_23 rfl rfl ?_
          refine xi_aload_n (pc' := 26) (x := 1000000) kc_196_25 rfl rfl ?_
          refine xi_arraylength (pc' := 27) (n := 6) (v := 6) kc_196_26 rfl (xl_lenO (by decide) hov0 rfl) rfl ?_
          refine xi_bipush (pc' := 29) (v := 6) kc_196_27 rfl rfl ?_
          refine xi_isub (pc' := 30) (v := 0) kc_196_29 rfl rfl ?_
          refine xi_cmt (pc' := 1534) kc_196_30 rfl rfl ?_
          refine xi_iconst (pc' := 1535) (v := 1) kc_196_1534 rfl rfl ?_
          refine xi_ireturn kc_196_1535 mr_196 rfl ?_
          refine ⟨rfl, ?_, ?_⟩
          · rw [eh1.2.2.1]; exact hn0
          · rw [eh1.2.2.2]; exact hz0
        by_cases c39 : a2.toInt = 3
        · refine xi_tsi (pc' := 87) (z := 3) kc_107_24 (by omega) rfl (by decide) ?_
          refine xi_aload_n (pc' := 88) (x := 0) kc_107_87 rfl rfl ?_
          refine xi_getfield (pc' := 91) (v := .ref 63) kc_107_88 rfl rfl rfl (F 0 _ hl_0) rfl ?_
          refine xi_getfield (pc' := 94) (v := .ref 65) kc_107_91 rfl rfl rfl (F 63 _ hl_63) rfl ?_
          refine xi_iload_n (pc' := 95) (x := 4) kc_107_94 rfl rfl ?_
          refine xi_iaload (pc' := 96) (v := 0) kc_107_95 rfl (F 65 _ hl_65) (by decide) rfl (xi_in (n := 12) (by decide) (by decide)) rfl ?_
          refine xi_ireturn kc_107_96 mr_107 rfl ?_
          show xw J ov 100 196 (494, [(4, .int 0), (3, .ref 167), (2, .ref 115), (1, .ref 0), (0, .ref 1000000)], [.int 0], h0) _
          refine xi_aload_n (pc' := 495) (x := 115) kc_196_494 rfl rfl ?_
          refine xi_aload_n (pc' := 496) (x := 1000000) kc_196_495 rfl rfl ?_
          refine xi_iload (pc' := 498) (x := 0) kc_196_496 rfl rfl ?_
          refine xi_iconst (pc' := 499) (v := 1) kc_196_498 rfl rfl ?_
          refine xi_iadd (pc' := 500) (v := 1) kc_196_499 rfl rfl ?_
          refine xi_ialoadO (pc' := 501) (v := 4) kc_196_500 rfl (by decide) hov0 (xi_in (n := 6) (by decide) (by decide)) rfl ?_
          refine xi_aload_n (pc' := 502) (x := 1000000) kc_196_501 rfl rfl ?_
          refine xi_iload (pc' := 504) (x := 0) kc_196_502 rfl rfl ?_
          refine xi_iconst (pc' := 505) (v := 2) kc_196_504 rfl rfl ?_
          refine xi_iadd (pc' := 506) (v := 2) kc_196_505 rfl rfl ?_
          refine xi_ialoadO (pc' := 507) (v := a2) kc_196_506 rfl (by decide) hov0 (xi_in (n := 6) (by decide) (by decide)) rfl ?_
          refine xi_virtual (mj := 26) (as := [.int 4, .int a2]) (st1 := [.int 0]) (lv0 := [(0, .ref 115), (1, .int 4), (2, .int a2)]) kc_196_507 rfl rfl rfl rfl rfl (F 115 _ hl_115) (Nat.le_of_ble_eq_true rfl) (hJ _ _ _ _ (by decide)) (xm_le ml_26 rfl) rfl ?_
          refine xi_aload_n (pc' := 1) (x := 115) kc_26_0 rfl rfl ?_
          refine xi_iconst (pc' := 2) (v := 0) kc_26_1 rfl rfl ?_
          refine xi_putfield (pc' := 5) (fs' := [.int 0, .int 0, .ref 116, .ref 117, .ref 118, .ref 119, .ref 120, .ref 121, .ref 122, .ref 123, .ref 124, .ref 125, .ref 126, .ref 127, .ref 128, .ref 129, .int 4, .ref 130, .int 0, .ref 131, .ref 132, .ref 133, .ref 134, .int 0, .ref 135, .ref 136, .ref 137, .ref 138, .ref 139, .ref 140, .ref 141, .ref 142, .int 0, .int 0, .int 0, .ref 143, .ref 144, .ref 145, .ref 146, .ref 147, .ref 148, .int 0, .ref 149, .ref 150, .ref 151, .int 0, .ref 152, .ref 153, .ref 154, .ref 155, .ref 156, .ref 157, .ref 158, .ref 159, .int 0, .ref 160, .int 0, .ref 161, .ref 162, .ref 163, .ref 164, .int 0, .ref 165, .ref 166]) kc_26_2 rfl rfl rfl (F 115 _ hl_115) rfl rfl rfl (Nat.le_of_ble_eq_true rfl) rfl (fun hh1 eh1 => ?_)
          refine xi_iload_n (pc' := 6) (x := 4) kc_26_5 rfl rfl ?_
          refine xi_static (mj := 25) (as := [.int 4]) (st1 := []) (lv0 := [(0, .int 4)]) kc_26_6 rfl rfl (Nat.le_of_ble_eq_true rfl) rfl rfl (Nat.le_of_ble_eq_true rfl) (hJ _ _ _ _ (by decide)) (xm_le ml_25 rfl) rfl ?_
          refine xi_iload_n (pc' := 1) (x := 4) kc_25_0 rfl rfl ?_
          refine xi_iconst (pc' := 2) (v := 0) kc_25_1 rfl rfl ?_
          refine xi_bipush (pc' := 4) (v := 11) kc_25_2 rfl rfl ?_
          refine xi_static (mj := 12) (as := [.int 4, .int 0, .int 11]) (st1 := []) (lv0 := [(0, .int 4), (1, .int 0), (2, .int 11)]) kc_25_4 rfl rfl (Nat.le_of_ble_eq_true rfl) rfl rfl (Nat.le_of_ble_eq_true rfl) (hJ _ _ _ _ (by decide)) (xm_le ml_12 rfl) rfl ?_
          refine xi_iload_n (pc' := 1) (x := 4) kc_12_0 rfl rfl ?_
          refine xi_iload_n (pc' := 2) (x := 0) kc_12_1 rfl rfl ?_
          refine xi_cmf (pc' := 5) kc_12_2 rfl rfl ?_
          refine xi_iload_n (pc' := 6) (x := 4) kc_12_5 rfl rfl ?_
          refine xi_iload_n (pc' := 7) (x := 11) kc_12_6 rfl rfl ?_
          refine xi_cmf (pc' := 10) kc_12_7 rfl rfl ?_
          refine xi_iconst (pc' := 11) (v := 1) kc_12_10 rfl rfl ?_
          refine xi_goto (pc' := 15) kc_12_11 rfl ?_
          refine xi_ireturn kc_12_15 mr_12 rfl ?_
          show xw J ov 98 25 (7, [(0, .int 4)], [.int 1], hh1) _
          refine xi_ireturn kc_25_7 mr_25 rfl ?_
          show xw J ov 99 26 (9, [(0, .ref 115), (1, .int 4), (2, .int a2)], [.int 1], hh1) _
          refine xi_ift (pc' := 18) kc_26_9 rfl rfl ?_
          refine xi_iload_n (pc' := 19) (x := a2) kc_26_18 rfl rfl ?_
          refine xi_iconst (pc' := 20) (v := 0) kc_26_19 rfl rfl ?_
          refine xi_iconst (pc' := 21) (v := 5) kc_26_20 rfl rfl ?_
          refine xi_static (mj := 12) (as := [.int a2, .int 0, .int 5]) (st1 := []) (lv0 := [(0, .int a2), (1, .int 0), (2, .int 5)]) kc_26_21 rfl rfl (Nat.le_of_ble_eq_true rfl) rfl rfl (Nat.le_of_ble_eq_true rfl) (hJ _ _ _ _ (by decide)) (xm_le ml_12 rfl) rfl ?_
          refine xi_iload_n (pc' := 1) (x := a2) kc_12_0 rfl rfl ?_
          refine xi_iload_n (pc' := 2) (x := 0) kc_12_1 rfl rfl ?_
          refine xi_cmf (pc' := 5) kc_12_2 rfl (xc_lt_f (X := a2.toInt) (Y := 0) rfl (by decide) (by omega)) ?_
          refine xi_iload_n (pc' := 6) (x := a2) kc_12_5 rfl rfl ?_
          refine xi_iload_n (pc' := 7) (x := 5) kc_12_6 rfl rfl ?_
          refine xi_cmf (pc' := 10) kc_12_7 rfl (xc_gt_f (X := a2.toInt) (Y := 5) rfl (by decide) (by omega)) ?_
          refine xi_iconst (pc' := 11) (v := 1) kc_12_10 rfl rfl ?_
          refine xi_goto (pc' := 15) kc_12_11 rfl ?_
          refine xi_ireturn kc_12_15 mr_12 rfl ?_
          show xw J ov 99 26 (24, [(0, .ref 115), (1, .int 4), (2, .int a2)], [.int 1], hh1) _
          refine xi_ift (pc' := 34) kc_26_24 rfl rfl ?_
          refine xi_iload_n (pc' := 35) (x := a2) kc_26_34 rfl rfl ?_
          refine xi_tsi (pc' := 97) (z := 3) kc_26_35 (by omega) rfl (by decide) ?_
          refine xi_aload_n (pc' := 98) (x := 115) kc_26_97 rfl rfl ?_
          refine xi_getfield (pc' := 101) (v := .ref 128) kc_26_98 rfl rfl rfl eh1.1 rfl ?_
          refine xi_iload_n (pc' := 102) (x := 4) kc_26_101 rfl rfl ?_
          refine xi_iaload (pc' := 103) (v := 0) kc_26_102 rfl ((eh1.2.1 128 (by decide)).trans (F 128 _ hl_128)) (by decide) rfl (xi_in (n := 12) (by decide) (by decide)) rfl ?_
          refine xi_ireturn kc_26_103 mr_26 rfl ?_
          show xw J ov 100 196 (510, [(4, .int 0), (3, .ref 167), (2, .ref 115), (1, .ref 0), (0, .ref 1000000)], [.int 0, .int 0], hh1) _
          refine xi_cmt (pc' := 1528) kc_196_510 rfl rfl ?_
          refine xi_iinc (pc' := 1531) (x := 0) (v := 6) (lv' := [(4, .int 6), (3, .ref 167), (2, .ref 115), (1, .ref 0), (0, .ref 1000000)]) kc_196_1528 rfl rfl rfl rfl (xm_lt ml_196 rfl) ?_
          refine xi_goto (pc' := 23) kc_196_1531 rfl ?_
          refine xi_iload (pc' := 25) (x := 6) kc_196_23 rfl rfl ?_
          refine xi_aload_n (pc' := 26) (x := 1000000) kc_196_25 rfl rfl ?_
          refine xi_arraylength (pc' := 27) (n := 6) (v := 6) kc_196_26 rfl (xl_lenO (by decide) hov0 rfl) rfl ?_
          refine xi_bipush (pc' := 29) (v := 6) kc_196_27 rfl rfl ?_
          refine xi_isub (pc' := 30) (v := 0) kc_196_29 rfl rfl ?_
          refine xi_cmt (pc' := 1534) kc_196_30 rfl rfl ?_
          refine xi_iconst (pc' := 1535) (v := 1) kc_196_1534 rfl rfl ?_
          refine xi_ireturn kc_196_1535 mr_196 rfl ?_
          refine ⟨rfl, ?_, ?_⟩
          · rw [eh1.2.2.1]; exact hn0
          · rw [eh1.2.2.2]; exact hz0
        by_cases c40 : a2.toInt = 4
        · refine xi_tsi (pc' := 97) (z := 4) kc_107_24 (by omega) rfl (by decide) ?_
          refine xi_aload_n (pc' := 98) (x := 37) kc_107_97 rfl rfl ?_
          refine xi_getfield (pc' := 101) (v := .int 0) kc_107_98 rfl rfl rfl (F 37 _ hl_37) rfl ?_
          refine xi_ireturn kc_107_101 mr_107 rfl ?_
          show xw J ov 100 196 (494, [(4, .int 0), (3, .ref 167), (2, .ref 115), (1, .ref 0), (0, .ref 1000000)], [.int 0], h0) _
          refine xi_aload_n (pc' := 495) (x := 115) kc_196_494 rfl rfl ?_
          refine xi_aload_n (pc' := 496) (x := 1000000) kc_196_495 rfl rfl ?_
          refine xi_iload (pc' := 498) (x := 0) kc_196_496 rfl rfl ?_
          refine xi_iconst (pc' := 499) (v := 1) kc_196_498 rfl rfl ?_
          refine xi_iadd (pc' := 500) (v := 1) kc_196_499 rfl rfl ?_
          refine xi_ialoadO (pc' := 501) (v := 4) kc_196_500 rfl (by decide) hov0 (xi_in (n := 6) (by decide) (by decide)) rfl ?_
          refine xi_aload_n (pc' := 502) (x := 1000000) kc_196_501 rfl rfl ?_
          refine xi_iload (pc' := 504) (x := 0) kc_196_502 rfl rfl ?_
          refine xi_iconst (pc' := 505) (v := 2) kc_196_504 rfl rfl ?_
          refine xi_iadd (pc' := 506) (v := 2) kc_196_505 rfl rfl ?_
          refine xi_ialoadO (pc' := 507) (v := a2) kc_196_506 rfl (by decide) hov0 (xi_in (n := 6) (by decide) (by decide)) rfl ?_
          refine xi_virtual (mj := 26) (as := [.int 4, .int a2]) (st1 := [.int 0]) (lv0 := [(0, .ref 115), (1, .int 4), (2, .int a2)]) kc_196_507 rfl rfl rfl rfl rfl (F 115 _ hl_115) (Nat.le_of_ble_eq_true rfl) (hJ _ _ _ _ (by decide)) (xm_le ml_26 rfl) rfl ?_
          refine xi_aload_n (pc' := 1) (x := 115) kc_26_0 rfl rfl ?_
          refine xi_iconst (pc' := 2) (v := 0) kc_26_1 rfl rfl ?_
          refine xi_putfield (pc' := 5) (fs' := [.int 0, .int 0, .ref 116, .ref 117, .ref 118, .ref 119, .ref 120, .ref 121, .ref 122, .ref 123, .ref 124, .ref 125, .ref 126, .ref 127, .ref 128, .ref 129, .int 4, .ref 130, .int 0, .ref 131, .ref 132, .ref 133, .ref 134, .int 0, .ref 135, .ref 136, .ref 137, .ref 138, .ref 139, .ref 140, .ref 141, .ref 142, .int 0, .int 0, .int 0, .ref 143, .ref 144, .ref 145, .ref 146, .ref 147, .ref 148, .int 0, .ref 149, .ref 150, .ref 151, .int 0, .ref 152, .ref 153, .ref 154, .ref 155, .ref 156, .ref 157, .ref 158, .ref 159, .int 0, .ref 160, .int 0, .ref 161, .ref 162, .ref 163, .ref 164, .int 0, .ref 165, .ref 166]) kc_26_2 rfl rfl rfl (F 115 _ hl_115) rfl rfl rfl (Nat.le_of_ble_eq_true rfl) rfl (fun hh1 eh1 => ?_)
          refine xi_iload_n (pc' := 6) (x := 4) kc_26_5 rfl rfl ?_
          refine xi_static (mj := 25) (as := [.int 4]) (st1 := []) (lv0 := [(0, .int 4)]) kc_26_6 rfl rfl (Nat.le_of_ble_eq_true rfl) rfl rfl (Nat.le_of_ble_eq_true rfl) (hJ _ _ _ _ (by decide)) (xm_le ml_25 rfl) rfl ?_
          refine xi_iload_n (pc' := 1) (x := 4) kc_25_0 rfl rfl ?_
          refine xi_iconst (pc' := 2) (v := 0) kc_25_1 rfl rfl ?_
          refine xi_bipush (pc' := 4) (v := 11) kc_25_2 rfl rfl ?_
          refine xi_static (mj := 12) (as := [.int 4, .int 0, .int 11]) (st1 := []) (lv0 := [(0, .int 4), (1, .int 0), (2, .int 11)]) kc_25_4 rfl rfl (Nat.le_of_ble_eq_true rfl) rfl rfl (Nat.le_of_ble_eq_true rfl) (hJ _ _ _ _ (by decide)) (xm_le ml_12 rfl) rfl ?_
          refine xi_iload_n (pc' := 1) (x := 4) kc_12_0 rfl rfl ?_
          refine xi_iload_n (pc' := 2) (x := 0) kc_12_1 rfl rfl ?_
          refine xi_cmf (pc' := 5) kc_12_2 rfl rfl ?_
          refine xi_iload_n (pc' := 6) (x := 4) kc_12_5 rfl rfl ?_
          refine xi_iload_n (pc' := 7) (x := 11) kc_12_6 rfl rfl ?_
          refine xi_cmf (pc' := 10) kc_12_7 rfl rfl ?_
          refine xi_iconst (pc' := 11) (v := 1) kc_12_10 rfl rfl ?_
          refine xi_goto (pc' := 15) kc_12_11 rfl ?_
          refine xi_ireturn kc_12_15 mr_12 rfl ?_
          show xw J ov 98 25 (7, [(0, .int 4)], [.int 1], hh1) _
          refine xi_ireturn kc_25_7 mr_25 rfl ?_
          show xw J ov 99 26 (9, [(0, .ref 115), (1, .int 4), (2, .int a2)], [.int 1], hh1) _
          refine xi_ift (pc' := 18) kc_26_9 rfl rfl ?_
          refine xi_iload_n (pc' := 19) (x := a2) kc_26_18 rfl rfl ?_
          refine xi_iconst (pc' := 20) (v := 0) kc_26_19 rfl rfl ?_
          refine xi_iconst (pc' := 21) (v := 5) kc_26_20 rfl rfl ?_
          refine xi_static (mj := 12) (as := [.int a2, .int 0, .int 5]) (st1 := []) (lv0 := [(0, .int a2), (1, .int 0), (2, .int 5)]) kc_26_21 rfl rfl (Nat.le_of_ble_eq_true rfl) rfl rfl (Nat.le_of_ble_eq_true rfl) (hJ _ _ _ _ (by decide)) (xm_le ml_12 rfl) rfl ?_
          refine xi_iload_n (pc' := 1) (x := a2) kc_12_0 rfl rfl ?_
          refine xi_iload_n (pc' := 2) (x := 0) kc_12_1 rfl rfl ?_
          refine xi_cmf (pc' := 5) kc_12_2 rfl (xc_lt_f (X := a2.toInt) (Y := 0) rfl (by decide) (by omega)) ?_
          refine xi_iload_n (pc' := 6) (x := a2) kc_12_5 rfl rfl ?_
          refine xi_iload_n (pc' := 7) (x := 5) kc_12_6 rfl rfl ?_
          refine xi_cmf (pc' := 10) kc_12_7 rfl (xc_gt_f (X := a2.toInt) (Y := 5) rfl (by decide) (by omega)) ?_
          refine xi_iconst (pc' := 11) (v := 1) kc_12_10 rfl rfl ?_
          refine xi_goto (pc' := 15) kc_12_11 rfl ?_
          refine xi_ireturn kc_12_15 mr_12 rfl ?_
          show xw J ov 99 26 (24, [(0, .ref 115), (1, .int 4), (2, .int a2)], [.int 1], hh1) _
          refine xi_ift (pc' := 34) kc_26_24 rfl rfl ?_
          refine xi_iload_n (pc' := 35) (x := a2) kc_26_34 rfl rfl ?_
          refine xi_tsi (pc' := 104) (z := 4) kc_26_35 (by omega) rfl (by decide) ?_
          refine xi_aload_n (pc' := 105) (x := 115) kc_26_104 rfl rfl ?_
          refine xi_getfield (pc' := 108) (v := .ref 129) kc_26_105 rfl rfl rfl eh1.1 rfl ?_
          refine xi_iload_n (pc' := 109) (x := 4) kc_26_108 rfl rfl ?_
          refine xi_iaload (pc' := 110) (v := 0) kc_26_109 rfl ((eh1.2.1 129 (by decide)).trans (F 129 _ hl_129)) (by decide) rfl (xi_in (n := 12) (by decide) (by decide)) rfl ?_
          refine xi_ireturn kc_26_110 mr_26 rfl ?_
          show xw J ov 100 196 (510, [(4, .int 0), (3, .ref 167), (2, .ref 115), (1, .ref 0), (0, .ref 1000000)], [.int 0, .int 0], hh1) _
          refine xi_cmt (pc' := 1528) kc_196_510 rfl rfl ?_
          refine xi_iinc (pc' := 1531) (x := 0) (v := 6) (lv' := [(4, .int 6), (3, .ref 167), (2, .ref 115), (1, .ref 0), (0, .ref 1000000)]) kc_196_1528 rfl rfl rfl rfl (xm_lt ml_196 rfl) ?_
          refine xi_goto (pc' := 23) kc_196_1531 rfl ?_
          refine xi_iload (pc' := 25) (x := 6) kc_196_23 rfl rfl ?_
          refine xi_aload_n (pc' := 26) (x := 1000000) kc_196_25 rfl rfl ?_
          refine xi_arraylength (pc' := 27) (n := 6) (v := 6) kc_196_26 rfl (xl_lenO (by decide) hov0 rfl) rfl ?_
          refine xi_bipush (pc' := 29) (v := 6) kc_196_27 rfl rfl ?_
          refine xi_isub (pc' := 30) (v := 0) kc_196_29 rfl rfl ?_
          refine xi_cmt (pc' := 1534) kc_196_30 rfl rfl ?_
          refine xi_iconst (pc' := 1535) (v := 1) kc_196_1534 rfl rfl ?_
          refine xi_ireturn kc_196_1535 mr_196 rfl ?_
          refine ⟨rfl, ?_, ?_⟩
          · rw [eh1.2.2.1]; exact hn0
          · rw [eh1.2.2.2]; exact hz0
        by_cases c41 : a2.toInt = 5
        · refine xi_tsi (pc' := 102) (z := 5) kc_107_24 (by omega) rfl (by decide) ?_
          refine xi_aload_n (pc' := 103) (x := 0) kc_107_102 rfl rfl ?_
          refine xi_getfield (pc' := 106) (v := .ref 1) kc_107_103 rfl rfl rfl (F 0 _ hl_0) rfl ?_
          refine xi_iload_n (pc' := 107) (x := 4) kc_107_106 rfl rfl ?_
          refine xi_aload_n (pc' := 108) (x := 0) kc_107_107 rfl rfl ?_
          refine xi_getfield (pc' := 111) (v := .int 0) kc_107_108 rfl rfl rfl (F 0 _ hl_0) rfl ?_
          refine xi_virtual (mj := 108) (as := [.int 4, .int 0]) (st1 := []) (lv0 := [(0, .ref 1), (1, .int 4), (2, .int 0)]) kc_107_111 rfl rfl rfl rfl rfl (F 1 _ hl_1) (Nat.le_of_ble_eq_true rfl) (hJ _ _ _ _ (by decide)) (xm_le ml_108 rfl) rfl ?_
          refine xi_aload_n (pc' := 1) (x := 1) kc_108_0 rfl rfl ?_
          refine xi_iload_n (pc' := 2) (x := 4) kc_108_1 rfl rfl ?_
          refine xi_virtual (mj := 109) (as := [.int 4]) (st1 := []) (lv0 := [(0, .ref 1), (1, .int 4)]) kc_108_2 rfl rfl rfl rfl rfl (F 1 _ hl_1) (Nat.le_of_ble_eq_true rfl) (hJ _ _ _ _ (by decide)) (xm_le ml_109 rfl) rfl ?_
          refine xi_iload_n (pc' := 1) (x := 4) kc_109_0 rfl rfl ?_
          refine xi_static (mj := 105) (as := [.int 4]) (st1 := []) (lv0 := [(0, .int 4)]) kc_109_1 rfl rfl (Nat.le_of_ble_eq_true rfl) rfl rfl (Nat.le_of_ble_eq_true rfl) (hJ _ _ _ _ (by decide)) (xm_le ml_105 rfl) rfl ?_
          refine xi_iload_n (pc' := 1) (x := 4) kc_105_0 rfl rfl ?_
          refine xi_iff (pc' := 4) kc_105_1 rfl rfl ?_
          refine xi_iload_n (pc' := 5) (x := 4) kc_105_4 rfl rfl ?_
          refine xi_bipush (pc' := 7) (v := 12) kc_105_5 rfl rfl ?_
          refine xi_cmf (pc' := 10) kc_105_7 rfl rfl ?_
          refine xi_iconst (pc' := 11) (v := 1) kc_105_10 rfl rfl ?_
          refine xi_goto (pc' := 15) kc_105_11 rfl ?_
          refine xi_ireturn kc_105_15 mr_105 rfl ?_
          show xw J ov 97 109 (4, [(0, .ref 1), (1, .int 4)], [.int 1], h0) _
          refine xi_iff (pc' := 7) kc_109_4 rfl rfl ?_
          refine xi_aload_n (pc' := 8) (x := 1) kc_109_7 rfl rfl ?_
          refine xi_getfield (pc' := 11) (v := .ref 3) kc_109_8 rfl rfl rfl (F 1 _ hl_1) rfl ?_
          refine xi_iload_n (pc' := 12) (x := 4) kc_109_11 rfl rfl ?_
          refine xi_aaload (pc' := 13) (b := 37) kc_109_12 rfl (F 3 _ hl_3) rfl (xi_in (n := 12) (by decide) (by decide)) rfl ?_
          refine xi_virtual (mj := 106) (as := []) (st1 := []) (lv0 := [(0, .ref 37)]) kc_109_13 rfl rfl rfl rfl rfl (F 37 _ hl_37) (Nat.le_of_ble_eq_true rfl) (hJ _ _ _ _ (by decide)) (xm_le ml_106 rfl) rfl ?_
          refine xi_aload_n (pc' := 1) (x := 37) kc_106_0 rfl rfl ?_
          refine xi_getfield (pc' := 4) (v := .int (-9)) kc_106_1 rfl rfl rfl (F 37 _ hl_37) rfl ?_
          refine xi_static (mj := 90) (as := [.int (-9)]) (st1 := []) (lv0 := [(0, .int (-9))]) kc_106_4 rfl rfl (Nat.le_of_ble_eq_true rfl) rfl rfl (Nat.le_of_ble_eq_true rfl) (hJ _ _ _ _ (by decide)) (xm_le ml_90 rfl) rfl ?_
          refine xi_iload_n (pc' := 1) (x := (-9)) kc_90_0 rfl rfl ?_
          refine xi_ift (pc' := 14) kc_90_1 rfl rfl ?_
          refine xi_iconst (pc' := 15) (v := 0) kc_90_14 rfl rfl ?_
          refine xi_ireturn kc_90_15 mr_90 rfl ?_
          show xw J ov 96 106 (7, [(0, .ref 37)], [.int 0], h0) _
          refine xi_ireturn kc_106_7 mr_106 rfl ?_
          show xw J ov 97 109 (16, [(0, .ref 1), (1, .int 4)], [.int 0], h0) _
          refine xi_ift (pc' := 23) kc_109_16 rfl rfl ?_
          refine xi_iconst (pc' := 24) (v := 0) kc_109_23 rfl rfl ?_
          refine xi_ireturn kc_109_24 mr_109 rfl ?_
          show xw J ov 98 108 (5, [(0, .ref 1), (1, .int 4), (2, .int 0)], [.int 0], h0) _
          refine xi_iff (pc' := 8) kc_108_5 rfl rfl ?_
          refine xi_iconst (pc' := 9) (v := 0) kc_108_8 rfl rfl ?_
          refine xi_ireturn kc_108_9 mr_108 rfl ?_
          show xw J ov 99 107 (114, [(3, .ref 37), (0, .ref 0), (1, .int 4), (2, .int a2)], [.int 0], h0) _
          refine xi_ireturn kc_107_114 mr_107 rfl ?_
          show xw J ov 100 196 (494, [(4, .int 0), (3, .ref 167), (2, .ref 115), (1, .ref 0), (0, .ref 1000000)], [.int 0], h0) _
          refine xi_aload_n (pc' := 495) (x := 115) kc_196_494 rfl rfl ?_
          refine xi_aload_n (pc' := 496) (x := 1000000) kc_196_495 rfl rfl ?_
          refine xi_iload (pc' := 498) (x := 0) kc_196_496 rfl rfl ?_
          refine xi_iconst (pc' := 499) (v := 1) kc_196_498 rfl rfl ?_
          refine xi_iadd (pc' := 500) (v := 1) kc_196_499 rfl rfl ?_
          refine xi_ialoadO (pc' := 501) (v := 4) kc_196_500 rfl (by decide) hov0 (xi_in (n := 6) (by decide) (by decide)) rfl ?_
          refine xi_aload_n (pc' := 502) (x := 1000000) kc_196_501 rfl rfl ?_
          refine xi_iload (pc' := 504) (x := 0) kc_196_502 rfl rfl ?_
          refine xi_iconst (pc' := 505) (v := 2) kc_196_504 rfl rfl ?_
          refine xi_iadd (pc' := 506) (v := 2) kc_196_505 rfl rfl ?_
          refine xi_ialoadO (pc' := 507) (v := a2) kc_196_506 rfl (by decide) hov0 (xi_in (n := 6) (by decide) (by decide)) rfl ?_
          refine xi_virtual (mj := 26) (as := [.int 4, .int a2]) (st1 := [.int 0]) (lv0 := [(0, .ref 115), (1, .int 4), (2, .int a2)]) kc_196_507 rfl rfl rfl rfl rfl (F 115 _ hl_115) (Nat.le_of_ble_eq_true rfl) (hJ _ _ _ _ (by decide)) (xm_le ml_26 rfl) rfl ?_
          refine xi_aload_n (pc' := 1) (x := 115) kc_26_0 rfl rfl ?_
          refine xi_iconst (pc' := 2) (v := 0) kc_26_1 rfl rfl ?_
          refine xi_putfield (pc' := 5) (fs' := [.int 0, .int 0, .ref 116, .ref 117, .ref 118, .ref 119, .ref 120, .ref 121, .ref 122, .ref 123, .ref 124, .ref 125, .ref 126, .ref 127, .ref 128, .ref 129, .int 4, .ref 130, .int 0, .ref 131, .ref 132, .ref 133, .ref 134, .int 0, .ref 135, .ref 136, .ref 137, .ref 138, .ref 139, .ref 140, .ref 141, .ref 142, .int 0, .int 0, .int 0, .ref 143, .ref 144, .ref 145, .ref 146, .ref 147, .ref 148, .int 0, .ref 149, .ref 150, .ref 151, .int 0, .ref 152, .ref 153, .ref 154, .ref 155, .ref 156, .ref 157, .ref 158, .ref 159, .int 0, .ref 160, .int 0, .ref 161, .ref 162, .ref 163, .ref 164, .int 0, .ref 165, .ref 166]) kc_26_2 rfl rfl rfl (F 115 _ hl_115) rfl rfl rfl (Nat.le_of_ble_eq_true rfl) rfl (fun hh1 eh1 => ?_)
          refine xi_iload_n (pc' := 6) (x := 4) kc_26_5 rfl rfl ?_
          refine xi_static (mj := 25) (as := [.int 4]) (st1 := []) (lv0 := [(0, .int 4)]) kc_26_6 rfl rfl (Nat.le_of_ble_eq_true rfl) rfl rfl (Nat.le_of_ble_eq_true rfl) (hJ _ _ _ _ (by decide)) (xm_le ml_25 rfl) rfl ?_
          refine xi_iload_n (pc' := 1) (x := 4) kc_25_0 rfl rfl ?_
          refine xi_iconst (pc' := 2) (v := 0) kc_25_1 rfl rfl ?_
          refine xi_bipush (pc' := 4) (v := 11) kc_25_2 rfl rfl ?_
          refine xi_static (mj := 12) (as := [.int 4, .int 0, .int 11]) (st1 := []) (lv0 := [(0, .int 4), (1, .int 0), (2, .int 11)]) kc_25_4 rfl rfl (Nat.le_of_ble_eq_true rfl) rfl rfl (Nat.le_of_ble_eq_true rfl) (hJ _ _ _ _ (by decide)) (xm_le ml_12 rfl) rfl ?_
          refine xi_iload_n (pc' := 1) (x := 4) kc_12_0 rfl rfl ?_
          refine xi_iload_n (pc' := 2) (x := 0) kc_12_1 rfl rfl ?_
          refine xi_cmf (pc' := 5) kc_12_2 rfl rfl ?_
          refine xi_iload_n (pc' := 6) (x := 4) kc_12_5 rfl rfl ?_
          refine xi_iload_n (pc' := 7) (x := 11) kc_12_6 rfl rfl ?_
          refine xi_cmf (pc' := 10) kc_12_7 rfl rfl ?_
          refine xi_iconst (pc' := 11) (v := 1) kc_12_10 rfl rfl ?_
          refine xi_goto (pc' := 15) kc_12_11 rfl ?_
          refine xi_ireturn kc_12_15 mr_12 rfl ?_
          show xw J ov 98 25 (7, [(0, .int 4)], [.int 1], hh1) _
          refine xi_ireturn kc_25_7 mr_25 rfl ?_
          show xw J ov 99 26 (9, [(0, .ref 115), (1, .int 4), (2, .int a2)], [.int 1], hh1) _
          refine xi_ift (pc' := 18) kc_26_9 rfl rfl ?_
          refine xi_iload_n (pc' := 19) (x := a2) kc_26_18 rfl rfl ?_
          refine xi_iconst (pc' := 20) (v := 0) kc_26_19 rfl rfl ?_
          refine xi_iconst (pc' := 21) (v := 5) kc_26_20 rfl rfl ?_
          refine xi_static (mj := 12) (as := [.int a2, .int 0, .int 5]) (st1 := []) (lv0 := [(0, .int a2), (1, .int 0), (2, .int 5)]) kc_26_21 rfl rfl (Nat.le_of_ble_eq_true rfl) rfl rfl (Nat.le_of_ble_eq_true rfl) (hJ _ _ _ _ (by decide)) (xm_le ml_12 rfl) rfl ?_
          refine xi_iload_n (pc' := 1) (x := a2) kc_12_0 rfl rfl ?_
          refine xi_iload_n (pc' := 2) (x := 0) kc_12_1 rfl rfl ?_
          refine xi_cmf (pc' := 5) kc_12_2 rfl (xc_lt_f (X := a2.toInt) (Y := 0) rfl (by decide) (by omega)) ?_
          refine xi_iload_n (pc' := 6) (x := a2) kc_12_5 rfl rfl ?_
          refine xi_iload_n (pc' := 7) (x := 5) kc_12_6 rfl rfl ?_
          refine xi_cmf (pc' := 10) kc_12_7 rfl (xc_gt_f (X := a2.toInt) (Y := 5) rfl (by decide) (by omega)) ?_
          refine xi_iconst (pc' := 11) (v := 1) kc_12_10 rfl rfl ?_
          refine xi_goto (pc' := 15) kc_12_11 rfl ?_
          refine xi_ireturn kc_12_15 mr_12 rfl ?_
          show xw J ov 99 26 (24, [(0, .ref 115), (1, .int 4), (2, .int a2)], [.int 1], hh1) _
          refine xi_ift (pc' := 34) kc_26_24 rfl rfl ?_
          refine xi_iload_n (pc' := 35) (x := a2) kc_26_34 rfl rfl ?_
          refine xi_tsd (pc' := 111) kc_26_35 rfl (by omega) ?_
          refine xi_aload_n (pc' := 112) (x := 115) kc_26_111 rfl rfl ?_
          refine xi_getfield (pc' := 115) (v := .ref 125) kc_26_112 rfl rfl rfl eh1.1 rfl ?_
          refine xi_iload_n (pc' := 116) (x := 4) kc_26_115 rfl rfl ?_
          refine xi_iaload (pc' := 117) (v := (-9)) kc_26_116 rfl ((eh1.2.1 125 (by decide)).trans (F 125 _ hl_125)) (by decide) rfl (xi_in (n := 12) (by decide) (by decide)) rfl ?_
          refine xi_iff (pc' := 120) kc_26_117 rfl rfl ?_
          refine xi_iconst (pc' := 121) (v := 0) kc_26_120 rfl rfl ?_
          refine xi_goto (pc' := 133) kc_26_121 rfl ?_
          refine xi_ireturn kc_26_133 mr_26 rfl ?_
          show xw J ov 100 196 (510, [(4, .int 0), (3, .ref 167), (2, .ref 115), (1, .ref 0), (0, .ref 1000000)], [.int 0, .int 0], hh1) _
          refine xi_cmt (pc' := 1528) kc_196_510 rfl rfl ?_
          refine xi_iinc (pc' := 1531) (x := 0) (v := 6) (lv' := [(4, .int 6), (3, .ref 167), (2, .ref 115), (1, .ref 0), (0, .ref 1000000)]) kc_196_1528 rfl rfl rfl rfl (xm_lt ml_196 rfl) ?_
          refine xi_goto (pc' := 23) kc_196_1531 rfl ?_
          refine xi_iload (pc' := 25) (x := 6) kc_196_23 rfl rfl ?_
          refine xi_aload_n (pc' := 26) (x := 1000000) kc_196_25 rfl rfl ?_
          refine xi_arraylength (pc' := 27) (n := 6) (v := 6) kc_196_26 rfl (xl_lenO (by decide) hov0 rfl) rfl ?_
          refine xi_bipush (pc' := 29) (v := 6) kc_196_27 rfl rfl ?_
          refine xi_isub (pc' := 30) (v := 0) kc_196_29 rfl rfl ?_
          refine xi_cmt (pc' := 1534) kc_196_30 rfl rfl ?_
          refine xi_iconst (pc' := 1535) (v := 1) kc_196_1534 rfl rfl ?_
          refine xi_ireturn kc_196_1535 mr_196 rfl ?_
          refine ⟨rfl, ?_, ?_⟩
          · rw [eh1.2.2.1]; exact hn0
          · rw [eh1.2.2.2]; exact hz0
        refine xi_tsd (pc' := 115) kc_107_24 rfl (by omega) ?_
        refine xi_aload_n (pc' := 116) (x := 0) kc_107_115 rfl rfl ?_
        refine xi_bipush (pc' := 118) (v := (-2)) kc_107_116 rfl rfl ?_
        refine xi_virtual (mj := 91) (as := [.int (-2)]) (st1 := []) (lv0 := [(0, .ref 0), (1, .int (-2))]) kc_107_118 rfl rfl rfl rfl rfl (F 0 _ hl_0) (Nat.le_of_ble_eq_true rfl) (hJ _ _ _ _ (by decide)) (xm_le ml_91 rfl) rfl ?_
        refine xi_iload_n (pc' := 1) (x := (-2)) kc_91_0 rfl rfl ?_
        refine xi_ineg (pc' := 2) (v := 2) kc_91_1 rfl rfl ?_
        refine xi_istore_n (pc' := 3) (lv' := [(2, .int 2), (0, .ref 0), (1, .int (-2))]) kc_91_2 rfl rfl (xm_lt ml_91 rfl) ?_
        refine xi_iload_n (pc' := 4) (x := 2) kc_91_3 rfl rfl ?_
        refine xi_iff (pc' := 7) kc_91_4 rfl rfl ?_
        refine xi_iload_n (pc' := 8) (x := 2) kc_91_7 rfl rfl ?_
        refine xi_aload_n (pc' := 9) (x := 0) kc_91_8 rfl rfl ?_
        refine xi_getfield (pc' := 12) (v := .ref 94) kc_91_9 rfl rfl rfl (F 0 _ hl_0) rfl ?_
        refine xi_arraylength (pc' := 13) (n := 7) (v := 7) kc_91_12 rfl (xl_lenI (by decide) (by decide) (F 94 _ hl_94) (by simp only [List.length_replicate, List.length_cons, List.length_nil])) rfl ?_
        refine xi_cmf (pc' := 16) kc_91_13 rfl rfl ?_
        refine xi_aload_n (pc' := 17) (x := 0) kc_91_16 rfl rfl ?_
        refine xi_getfield (pc' := 20) (v := .ref 94) kc_91_17 rfl rfl rfl (F 0 _ hl_0) rfl ?_
        refine xi_iload_n (pc' := 21) (x := 2) kc_91_20 rfl rfl ?_
        refine xi_dup2 (pc' := 22) kc_91_21 rfl ⟨rfl, rfl⟩ ?_
        refine xi_iaload (pc' := 23) (v := 0) kc_91_22 rfl (F 94 _ hl_94) (by decide) rfl (xi_in (n := 7) (by decide) (by decide)) rfl ?_
        refine xi_iconst (pc' := 24) (v := 1) kc_91_23 rfl rfl ?_
        refine xi_iadd (pc' := 25) (v := 1) kc_91_24 rfl rfl ?_
        refine xi_iastore (pc' := 26) (x' := [0, 0, 1, 0, 0, 0, 0]) kc_91_25 rfl (F 94 _ hl_94) rfl (xi_in (n := 7) (by decide) (by decide)) rfl (fun hh1 eh1 => ?_)
        refine xi_iload_n (pc' := 27) (x := (-2)) kc_91_26 rfl rfl ?_
        refine xi_ireturn kc_91_27 mr_91 rfl ?_
        show xw J ov 99 107 (121, [(3, .ref 37), (0, .ref 0), (1, .int 4), (2, .int a2)], [.int (-2)], hh1) _
        refine xi_ireturn kc_107_121 mr_107 rfl ?_
        show xw J ov 100 196 (494, [(4, .int 0), (3, .ref 167), (2, .ref 115), (1, .ref 0), (0, .ref 1000000)], [.int (-2)], hh1) _
        refine xi_aload_n (pc' := 495) (x := 115) kc_196_494 rfl rfl ?_
        refine xi_aload_n (pc' := 496) (x := 1000000) kc_196_495 rfl rfl ?_
        refine xi_iload (pc' := 498) (x := 0) kc_196_496 rfl rfl ?_
        refine xi_iconst (pc' := 499) (v := 1) kc_196_498 rfl rfl ?_
        refine xi_iadd (pc' := 500) (v := 1) kc_196_499 rfl rfl ?_
        refine xi_ialoadO (pc' := 501) (v := 4) kc_196_500 rfl (by decide) hov0 (xi_in (n := 6) (by decide) (by decide)) rfl ?_
        refine xi_aload_n (pc' := 502) (x := 1000000) kc_196_501 rfl rfl ?_
        refine xi_iload (pc' := 504) (x := 0) kc_196_502 rfl rfl ?_
        refine xi_iconst (pc' := 505) (v := 2) kc_196_504 rfl rfl ?_
        refine xi_iadd (pc' := 506) (v := 2) kc_196_505 rfl rfl ?_
        refine xi_ialoadO (pc' := 507) (v := a2) kc_196_506 rfl (by decide) hov0 (xi_in (n := 6) (by decide) (by decide)) rfl ?_
        refine xi_virtual (mj := 26) (as := [.int 4, .int a2]) (st1 := [.int (-2)]) (lv0 := [(0, .ref 115), (1, .int 4), (2, .int a2)]) kc_196_507 rfl rfl rfl rfl rfl ((eh1.2.1 115 (by decide)).trans (F 115 _ hl_115)) (Nat.le_of_ble_eq_true rfl) (hJ _ _ _ _ (by decide)) (xm_le ml_26 rfl) rfl ?_
        refine xi_aload_n (pc' := 1) (x := 115) kc_26_0 rfl rfl ?_
        refine xi_iconst (pc' := 2) (v := 0) kc_26_1 rfl rfl ?_
        refine xi_putfield (pc' := 5) (fs' := [.int 0, .int 0, .ref 116, .ref 117, .ref 118, .ref 119, .ref 120, .ref 121, .ref 122, .ref 123, .ref 124, .ref 125, .ref 126, .ref 127, .ref 128, .ref 129, .int 4, .ref 130, .int 0, .ref 131, .ref 132, .ref 133, .ref 134, .int 0, .ref 135, .ref 136, .ref 137, .ref 138, .ref 139, .ref 140, .ref 141, .ref 142, .int 0, .int 0, .int 0, .ref 143, .ref 144, .ref 145, .ref 146, .ref 147, .ref 148, .int 0, .ref 149, .ref 150, .ref 151, .int 0, .ref 152, .ref 153, .ref 154, .ref 155, .ref 156, .ref 157, .ref 158, .ref 159, .int 0, .ref 160, .int 0, .ref 161, .ref 162, .ref 163, .ref 164, .int 0, .ref 165, .ref 166]) kc_26_2 rfl rfl rfl ((eh1.2.1 115 (by decide)).trans (F 115 _ hl_115)) rfl rfl rfl (Nat.le_of_ble_eq_true rfl) rfl (fun hh2 eh2 => ?_)
        refine xi_iload_n (pc' := 6) (x := 4) kc_26_5 rfl rfl ?_
        refine xi_static (mj := 25) (as := [.int 4]) (st1 := []) (lv0 := [(0, .int 4)]) kc_26_6 rfl rfl (Nat.le_of_ble_eq_true rfl) rfl rfl (Nat.le_of_ble_eq_true rfl) (hJ _ _ _ _ (by decide)) (xm_le ml_25 rfl) rfl ?_
        refine xi_iload_n (pc' := 1) (x := 4) kc_25_0 rfl rfl ?_
        refine xi_iconst (pc' := 2) (v := 0) kc_25_1 rfl rfl ?_
        refine xi_bipush (pc' := 4) (v := 11) kc_25_2 rfl rfl ?_
        refine xi_static (mj := 12) (as := [.int 4, .int 0, .int 11]) (st1 := []) (lv0 := [(0, .int 4), (1, .int 0), (2, .int 11)]) kc_25_4 rfl rfl (Nat.le_of_ble_eq_true rfl) rfl rfl (Nat.le_of_ble_eq_true rfl) (hJ _ _ _ _ (by decide)) (xm_le ml_12 rfl) rfl ?_
        refine xi_iload_n (pc' := 1) (x := 4) kc_12_0 rfl rfl ?_
        refine xi_iload_n (pc' := 2) (x := 0) kc_12_1 rfl rfl ?_
        refine xi_cmf (pc' := 5) kc_12_2 rfl rfl ?_
        refine xi_iload_n (pc' := 6) (x := 4) kc_12_5 rfl rfl ?_
        refine xi_iload_n (pc' := 7) (x := 11) kc_12_6 rfl rfl ?_
        refine xi_cmf (pc' := 10) kc_12_7 rfl rfl ?_
        refine xi_iconst (pc' := 11) (v := 1) kc_12_10 rfl rfl ?_
        refine xi_goto (pc' := 15) kc_12_11 rfl ?_
        refine xi_ireturn kc_12_15 mr_12 rfl ?_
        show xw J ov 98 25 (7, [(0, .int 4)], [.int 1], hh2) _
        refine xi_ireturn kc_25_7 mr_25 rfl ?_
        show xw J ov 99 26 (9, [(0, .ref 115), (1, .int 4), (2, .int a2)], [.int 1], hh2) _
        refine xi_ift (pc' := 18) kc_26_9 rfl rfl ?_
        refine xi_iload_n (pc' := 19) (x := a2) kc_26_18 rfl rfl ?_
        refine xi_iconst (pc' := 20) (v := 0) kc_26_19 rfl rfl ?_
        refine xi_iconst (pc' := 21) (v := 5) kc_26_20 rfl rfl ?_
        refine xi_static (mj := 12) (as := [.int a2, .int 0, .int 5]) (st1 := []) (lv0 := [(0, .int a2), (1, .int 0), (2, .int 5)]) kc_26_21 rfl rfl (Nat.le_of_ble_eq_true rfl) rfl rfl (Nat.le_of_ble_eq_true rfl) (hJ _ _ _ _ (by decide)) (xm_le ml_12 rfl) rfl ?_
        refine xi_iload_n (pc' := 1) (x := a2) kc_12_0 rfl rfl ?_
        refine xi_iload_n (pc' := 2) (x := 0) kc_12_1 rfl rfl ?_
        by_cases c42 : a2.toInt < 0
        · refine xi_cmt (pc' := 14) kc_12_2 rfl (xc_lt_t (X := a2.toInt) (Y := 0) rfl (by decide) (by omega)) ?_
          refine xi_iconst (pc' := 15) (v := 0) kc_12_14 rfl rfl ?_
          refine xi_ireturn kc_12_15 mr_12 rfl ?_
          show xw J ov 99 26 (24, [(0, .ref 115), (1, .int 4), (2, .int a2)], [.int 0], hh2) _
          refine xi_iff (pc' := 27) kc_26_24 rfl rfl ?_
          refine xi_aload_n (pc' := 28) (x := 115) kc_26_27 rfl rfl ?_
          refine xi_bipush (pc' := 30) (v := (-2)) kc_26_28 rfl rfl ?_
          refine xi_virtual (mj := 13) (as := [.int (-2)]) (st1 := []) (lv0 := [(0, .ref 115), (1, .int (-2))]) kc_26_30 rfl rfl rfl rfl rfl eh2.1 (Nat.le_of_ble_eq_true rfl) (hJ _ _ _ _ (by decide)) (xm_le ml_13 rfl) rfl ?_
          refine xi_aload_n (pc' := 1) (x := 115) kc_13_0 rfl rfl ?_
          refine xi_getfield (pc' := 4) (v := .ref 140) kc_13_1 rfl rfl rfl eh2.1 rfl ?_
          refine xi_iload_n (pc' := 5) (x := (-2)) kc_13_4 rfl rfl ?_
          refine xi_ineg (pc' := 6) (v := 2) kc_13_5 rfl rfl ?_
          refine xi_dup2 (pc' := 7) kc_13_6 rfl ⟨rfl, rfl⟩ ?_
          refine xi_iaload (pc' := 8) (v := 0) kc_13_7 rfl ((eh2.2.1 140 (by decide)).trans ((eh1.2.1 140 (by decide)).trans (F 140 _ hl_140))) (by decide) rfl (xi_in (n := 7) (by decide) (by decide)) rfl ?_
          refine xi_iconst (pc' := 9) (v := 1) kc_13_8 rfl rfl ?_
          refine xi_iadd (pc' := 10) (v := 1) kc_13_9 rfl rfl ?_
          refine xi_iastore (pc' := 11) (x' := [0, 0, 1, 0, 0, 0, 0]) kc_13_10 rfl ((eh2.2.1 140 (by decide)).trans ((eh1.2.1 140 (by decide)).trans (F 140 _ hl_140))) rfl (xi_in (n := 7) (by decide) (by decide)) rfl (fun hh3 eh3 => ?_)
          refine xi_iload_n (pc' := 12) (x := (-2)) kc_13_11 rfl rfl ?_
          refine xi_ireturn kc_13_12 mr_13 rfl ?_
          show xw J ov 99 26 (33, [(0, .ref 115), (1, .int 4), (2, .int a2)], [.int (-2)], hh3) _
          refine xi_ireturn kc_26_33 mr_26 rfl ?_
          show xw J ov 100 196 (510, [(4, .int 0), (3, .ref 167), (2, .ref 115), (1, .ref 0), (0, .ref 1000000)], [.int (-2), .int (-2)], hh3) _
          refine xi_cmt (pc' := 1528) kc_196_510 rfl rfl ?_
          refine xi_iinc (pc' := 1531) (x := 0) (v := 6) (lv' := [(4, .int 6), (3, .ref 167), (2, .ref 115), (1, .ref 0), (0, .ref 1000000)]) kc_196_1528 rfl rfl rfl rfl (xm_lt ml_196 rfl) ?_
          refine xi_goto (pc' := 23) kc_196_1531 rfl ?_
          refine xi_iload (pc' := 25) (x := 6) kc_196_23 rfl rfl ?_
          refine xi_aload_n (pc' := 26) (x := 1000000) kc_196_25 rfl rfl ?_
          refine xi_arraylength (pc' := 27) (n := 6) (v := 6) kc_196_26 rfl (xl_lenO (by decide) hov0 rfl) rfl ?_
          refine xi_bipush (pc' := 29) (v := 6) kc_196_27 rfl rfl ?_
          refine xi_isub (pc' := 30) (v := 0) kc_196_29 rfl rfl ?_
          refine xi_cmt (pc' := 1534) kc_196_30 rfl rfl ?_
          refine xi_iconst (pc' := 1535) (v := 1) kc_196_1534 rfl rfl ?_
          refine xi_ireturn kc_196_1535 mr_196 rfl ?_
          refine ⟨rfl, ?_, ?_⟩
          · rw [eh3.2.2.1, eh2.2.2.1, eh1.2.2.1]; exact hn0
          · rw [eh3.2.2.2, eh2.2.2.2, eh1.2.2.2]; exact hz0
        · refine xi_cmf (pc' := 5) kc_12_2 rfl (xc_lt_f (X := a2.toInt) (Y := 0) rfl (by decide) (by omega)) ?_
          refine xi_iload_n (pc' := 6) (x := a2) kc_12_5 rfl rfl ?_
          refine xi_iload_n (pc' := 7) (x := 5) kc_12_6 rfl rfl ?_
          refine xi_cmt (pc' := 14) kc_12_7 rfl (xc_gt_t (X := a2.toInt) (Y := 5) rfl (by decide) (by omega)) ?_
          refine xi_iconst (pc' := 15) (v := 0) kc_12_14 rfl rfl ?_
          refine xi_ireturn kc_12_15 mr_12 rfl ?_
          show xw J ov 99 26 (24, [(0, .ref 115), (1, .int 4), (2, .int a2)], [.int 0], hh2) _
          refine xi_iff (pc' := 27) kc_26_24 rfl rfl ?_
          refine xi_aload_n (pc' := 28) (x := 115) kc_26_27 rfl rfl ?_
          refine xi_bipush (pc' := 30) (v := (-2)) kc_26_28 rfl rfl ?_
          refine xi_virtual (mj := 13) (as := [.int (-2)]) (st1 := []) (lv0 := [(0, .ref 115), (1, .int (-2))]) kc_26_30 rfl rfl rfl rfl rfl eh2.1 (Nat.le_of_ble_eq_true rfl) (hJ _ _ _ _ (by decide)) (xm_le ml_13 rfl) rfl ?_
          refine xi_aload_n (pc' := 1) (x := 115) kc_13_0 rfl rfl ?_
          refine xi_getfield (pc' := 4) (v := .ref 140) kc_13_1 rfl rfl rfl eh2.1 rfl ?_
          refine xi_iload_n (pc' := 5) (x := (-2)) kc_13_4 rfl rfl ?_
          refine xi_ineg (pc' := 6) (v := 2) kc_13_5 rfl rfl ?_
          refine xi_dup2 (pc' := 7) kc_13_6 rfl ⟨rfl, rfl⟩ ?_
          refine xi_iaload (pc' := 8) (v := 0) kc_13_7 rfl ((eh2.2.1 140 (by decide)).trans ((eh1.2.1 140 (by decide)).trans (F 140 _ hl_140))) (by decide) rfl (xi_in (n := 7) (by decide) (by decide)) rfl ?_
          refine xi_iconst (pc' := 9) (v := 1) kc_13_8 rfl rfl ?_
          refine xi_iadd (pc' := 10) (v := 1) kc_13_9 rfl rfl ?_
          refine xi_iastore (pc' := 11) (x' := [0, 0, 1, 0, 0, 0, 0]) kc_13_10 rfl ((eh2.2.1 140 (by decide)).trans ((eh1.2.1 140 (by decide)).trans (F 140 _ hl_140))) rfl (xi_in (n := 7) (by decide) (by decide)) rfl (fun hh3 eh3 => ?_)
          refine xi_iload_n (pc' := 12) (x := (-2)) kc_13_11 rfl rfl ?_
          refine xi_ireturn kc_13_12 mr_13 rfl ?_
          show xw J ov 99 26 (33, [(0, .ref 115), (1, .int 4), (2, .int a2)], [.int (-2)], hh3) _
          refine xi_ireturn kc_26_33 mr_26 rfl ?_
          show xw J ov 100 196 (510, [(4, .int 0), (3, .ref 167), (2, .ref 115), (1, .ref 0), (0, .ref 1000000)], [.int (-2), .int (-2)], hh3) _
          refine xi_cmt (pc' := 1528) kc_196_510 rfl rfl ?_
          refine xi_iinc (pc' := 1531) (x := 0) (v := 6) (lv' := [(4, .int 6), (3, .ref 167), (2, .ref 115), (1, .ref 0), (0, .ref 1000000)]) kc_196_1528 rfl rfl rfl rfl (xm_lt ml_196 rfl) ?_
          refine xi_goto (pc' := 23) kc_196_1531 rfl ?_
          refine xi_iload (pc' := 25) (x := 6) kc_196_23 rfl rfl ?_
          refine xi_aload_n (pc' := 26) (x := 1000000) kc_196_25 rfl rfl ?_
          refine xi_arraylength (pc' := 27) (n := 6) (v := 6) kc_196_26 rfl (xl_lenO (by decide) hov0 rfl) rfl ?_
          refine xi_bipush (pc' := 29) (v := 6) kc_196_27 rfl rfl ?_
          refine xi_isub (pc' := 30) (v := 0) kc_196_29 rfl rfl ?_
          refine xi_cmt (pc' := 1534) kc_196_30 rfl rfl ?_
          refine xi_iconst (pc' := 1535) (v := 1) kc_196_1534 rfl rfl ?_
          refine xi_ireturn kc_196_1535 mr_196 rfl ?_
          refine ⟨rfl, ?_, ?_⟩
          · rw [eh3.2.2.1, eh2.2.2.1, eh1.2.2.1]; exact hn0
          · rw [eh3.2.2.2, eh2.2.2.2, eh1.2.2.2]; exact hz0
      by_cases c43 : a1.toInt = 5
      · have qa1 : a1 = 5 := xc_of (Eq.trans (by omega) (show (5 : Int) = (5 : Int32).toInt by decide))
        subst qa1
        refine xi_aaload (pc' := 22) (b := 39) kc_107_21 rfl (F 3 _ hl_3) rfl (xi_in (n := 12) (by decide) (by decide)) rfl ?_
        refine xi_astore_n (pc' := 23) (lv' := [(3, .ref 39), (0, .ref 0), (1, .int 5), (2, .int a2)]) kc_107_22 rfl rfl (xm_lt ml_107 rfl) ?_
        refine xi_iload_n (pc' := 24) (x := a2) kc_107_23 rfl rfl ?_
        by_cases c44 : a2.toInt = 0
        · refine xi_tsi (pc' := 64) (z := 0) kc_107_24 (by omega) rfl (by decide) ?_
          refine xi_aload_n (pc' := 65) (x := 39) kc_107_64 rfl rfl ?_
          refine xi_getfield (pc' := 68) (v := .int (-9)) kc_107_65 rfl rfl rfl (F 39 _ hl_39) rfl ?_
          refine xi_ireturn kc_107_68 mr_107 rfl ?_
          show xw J ov 100 196 (494, [(4, .int 0), (3, .ref 167), (2, .ref 115), (1, .ref 0), (0, .ref 1000000)], [.int (-9)], h0) _
          refine xi_aload_n (pc' := 495) (x := 115) kc_196_494 rfl rfl ?_
          refine xi_aload_n (pc' := 496) (x := 1000000) kc_196_495 rfl rfl ?_
          refine xi_iload (pc' := 498) (x := 0) kc_196_496 rfl rfl ?_
          refine xi_iconst (pc' := 499) (v := 1) kc_196_498 rfl rfl ?_
          refine xi_iadd (pc' := 500) (v := 1) kc_196_499 rfl rfl ?_
          refine xi_ialoadO (pc' := 501) (v := 5) kc_196_500 rfl (by decide) hov0 (xi_in (n := 6) (by decide) (by decide)) rfl ?_
          refine xi_aload_n (pc' := 502) (x := 1000000) kc_196_501 rfl rfl ?_
          refine xi_iload (pc' := 504) (x := 0) kc_196_502 rfl rfl ?_
          refine xi_iconst (pc' := 505) (v := 2) kc_196_504 rfl rfl ?_
          refine xi_iadd (pc' := 506) (v := 2) kc_196_505 rfl rfl ?_
          refine xi_ialoadO (pc' := 507) (v := a2) kc_196_506 rfl (by decide) hov0 (xi_in (n := 6) (by decide) (by decide)) rfl ?_
          refine xi_virtual (mj := 26) (as := [.int 5, .int a2]) (st1 := [.int (-9)]) (lv0 := [(0, .ref 115), (1, .int 5), (2, .int a2)]) kc_196_507 rfl rfl rfl rfl rfl (F 115 _ hl_115) (Nat.le_of_ble_eq_true rfl) (hJ _ _ _ _ (by decide)) (xm_le ml_26 rfl) rfl ?_
          refine xi_aload_n (pc' := 1) (x := 115) kc_26_0 rfl rfl ?_
          refine xi_iconst (pc' := 2) (v := 0) kc_26_1 rfl rfl ?_
          refine xi_putfield (pc' := 5) (fs' := [.int 0, .int 0, .ref 116, .ref 117, .ref 118, .ref 119, .ref 120, .ref 121, .ref 122, .ref 123, .ref 124, .ref 125, .ref 126, .ref 127, .ref 128, .ref 129, .int 4, .ref 130, .int 0, .ref 131, .ref 132, .ref 133, .ref 134, .int 0, .ref 135, .ref 136, .ref 137, .ref 138, .ref 139, .ref 140, .ref 141, .ref 142, .int 0, .int 0, .int 0, .ref 143, .ref 144, .ref 145, .ref 146, .ref 147, .ref 148, .int 0, .ref 149, .ref 150, .ref 151, .int 0, .ref 152, .ref 153, .ref 154, .ref 155, .ref 156, .ref 157, .ref 158, .ref 159, .int 0, .ref 160, .int 0, .ref 161, .ref 162, .ref 163, .ref 164, .int 0, .ref 165, .ref 166]) kc_26_2 rfl rfl rfl (F 115 _ hl_115) rfl rfl rfl (Nat.le_of_ble_eq_true rfl) rfl (fun hh1 eh1 => ?_)
          refine xi_iload_n (pc' := 6) (x := 5) kc_26_5 rfl rfl ?_
          refine xi_static (mj := 25) (as := [.int 5]) (st1 := []) (lv0 := [(0, .int 5)]) kc_26_6 rfl rfl (Nat.le_of_ble_eq_true rfl) rfl rfl (Nat.le_of_ble_eq_true rfl) (hJ _ _ _ _ (by decide)) (xm_le ml_25 rfl) rfl ?_
          refine xi_iload_n (pc' := 1) (x := 5) kc_25_0 rfl rfl ?_
          refine xi_iconst (pc' := 2) (v := 0) kc_25_1 rfl rfl ?_
          refine xi_bipush (pc' := 4) (v := 11) kc_25_2 rfl rfl ?_
          refine xi_static (mj := 12) (as := [.int 5, .int 0, .int 11]) (st1 := []) (lv0 := [(0, .int 5), (1, .int 0), (2, .int 11)]) kc_25_4 rfl rfl (Nat.le_of_ble_eq_true rfl) rfl rfl (Nat.le_of_ble_eq_true rfl) (hJ _ _ _ _ (by decide)) (xm_le ml_12 rfl) rfl ?_
          refine xi_iload_n (pc' := 1) (x := 5) kc_12_0 rfl rfl ?_
          refine xi_iload_n (pc' := 2) (x := 0) kc_12_1 rfl rfl ?_
          refine xi_cmf (pc' := 5) kc_12_2 rfl rfl ?_
          refine xi_iload_n (pc' := 6) (x := 5) kc_12_5 rfl rfl ?_
          refine xi_iload_n (pc' := 7) (x := 11) kc_12_6 rfl rfl ?_
          refine xi_cmf (pc' := 10) kc_12_7 rfl rfl ?_
          refine xi_iconst (pc' := 11) (v := 1) kc_12_10 rfl rfl ?_
          refine xi_goto (pc' := 15) kc_12_11 rfl ?_
          refine xi_ireturn kc_12_15 mr_12 rfl ?_
          show xw J ov 98 25 (7, [(0, .int 5)], [.int 1], hh1) _
          refine xi_ireturn kc_25_7 mr_25 rfl ?_
          show xw J ov 99 26 (9, [(0, .ref 115), (1, .int 5), (2, .int a2)], [.int 1], hh1) _
          refine xi_ift (pc' := 18) kc_26_9 rfl rfl ?_
          refine xi_iload_n (pc' := 19) (x := a2) kc_26_18 rfl rfl ?_
          refine xi_iconst (pc' := 20) (v := 0) kc_26_19 rfl rfl ?_
          refine xi_iconst (pc' := 21) (v := 5) kc_26_20 rfl rfl ?_
          refine xi_static (mj := 12) (as := [.int a2, .int 0, .int 5]) (st1 := []) (lv0 := [(0, .int a2), (1, .int 0), (2, .int 5)]) kc_26_21 rfl rfl (Nat.le_of_ble_eq_true rfl) rfl rfl (Nat.le_of_ble_eq_true rfl) (hJ _ _ _ _ (by decide)) (xm_le ml_12 rfl) rfl ?_
          refine xi_iload_n (pc' := 1) (x := a2) kc_12_0 rfl rfl ?_
          refine xi_iload_n (pc' := 2) (x := 0) kc_12_1 rfl rfl ?_
          refine xi_cmf (pc' := 5) kc_12_2 rfl (xc_lt_f (X := a2.toInt) (Y := 0) rfl (by decide) (by omega)) ?_
          refine xi_iload_n (pc' := 6) (x := a2) kc_12_5 rfl rfl ?_
          refine xi_iload_n (pc' := 7) (x := 5) kc_12_6 rfl rfl ?_
          refine xi_cmf (pc' := 10) kc_12_7 rfl (xc_gt_f (X := a2.toInt) (Y := 5) rfl (by decide) (by omega)) ?_
          refine xi_iconst (pc' := 11) (v := 1) kc_12_10 rfl rfl ?_
          refine xi_goto (pc' := 15) kc_12_11 rfl ?_
          refine xi_ireturn kc_12_15 mr_12 rfl ?_
          show xw J ov 99 26 (24, [(0, .ref 115), (1, .int 5), (2, .int a2)], [.int 1], hh1) _
          refine xi_ift (pc' := 34) kc_26_24 rfl rfl ?_
          refine xi_iload_n (pc' := 35) (x := a2) kc_26_34 rfl rfl ?_
          refine xi_tsi (pc' := 68) (z := 0) kc_26_35 (by omega) rfl (by decide) ?_
          refine xi_aload_n (pc' := 69) (x := 115) kc_26_68 rfl rfl ?_
          refine xi_getfield (pc' := 72) (v := .ref 125) kc_26_69 rfl rfl rfl eh1.1 rfl ?_
          refine xi_iload_n (pc' := 73) (x := 5) kc_26_72 rfl rfl ?_
          refine xi_iaload (pc' := 74) (v := (-9)) kc_26_73 rfl ((eh1.2.1 125 (by decide)).trans (F 125 _ hl_125)) (by decide) rfl (xi_in (n := 12) (by decide) (by decide)) rfl ?_
          refine xi_ireturn kc_26_74 mr_26 rfl ?_
          show xw J ov 100 196 (510, [(4, .int 0), (3, .ref 167), (2, .ref 115), (1, .ref 0), (0, .ref 1000000)], [.int (-9), .int (-9)], hh1) _
          refine xi_cmt (pc' := 1528) kc_196_510 rfl rfl ?_
          refine xi_iinc (pc' := 1531) (x := 0) (v := 6) (lv' := [(4, .int 6), (3, .ref 167), (2, .ref 115), (1, .ref 0), (0, .ref 1000000)]) kc_196_1528 rfl rfl rfl rfl (xm_lt ml_196 rfl) ?_
          refine xi_goto (pc' := 23) kc_196_1531 rfl ?_
          refine xi_iload (pc' := 25) (x := 6) kc_196_23 rfl rfl ?_
          refine xi_aload_n (pc' := 26) (x := 1000000) kc_196_25 rfl rfl ?_
          refine xi_arraylength (pc' := 27) (n := 6) (v := 6) kc_196_26 rfl (xl_lenO (by decide) hov0 rfl) rfl ?_
          refine xi_bipush (pc' := 29) (v := 6) kc_196_27 rfl rfl ?_
          refine xi_isub (pc' := 30) (v := 0) kc_196_29 rfl rfl ?_
          refine xi_cmt (pc' := 1534) kc_196_30 rfl rfl ?_
          refine xi_iconst (pc' := 1535) (v := 1) kc_196_1534 rfl rfl ?_
          refine xi_ireturn kc_196_1535 mr_196 rfl ?_
          refine ⟨rfl, ?_, ?_⟩
          · rw [eh1.2.2.1]; exact hn0
          · rw [eh1.2.2.2]; exact hz0
        by_cases c45 : a2.toInt = 1
        · refine xi_tsi (pc' := 69) (z := 1) kc_107_24 (by omega) rfl (by decide) ?_
          refine xi_aload_n (pc' := 70) (x := 39) kc_107_69 rfl rfl ?_
          refine xi_getfield (pc' := 73) (v := .int 0) kc_107_70 rfl rfl rfl (F 39 _ hl_39) rfl ?_
          refine xi_ireturn kc_107_73 mr_107 rfl ?_
          show xw J ov 100 196 (494, [(4, .int 0), (3, .ref 167), (2, .ref 115), (1, .ref 0), (0, .ref 1000000)], [.int 0], h0) _
          refine xi_aload_n (pc' := 495) (x := 115) kc_196_494 rfl rfl ?_
          refine xi_aload_n (pc' := 496) (x := 1000000) kc_196_495 rfl rfl ?_
          refine xi_iload (pc' := 498) (x := 0) kc_196_496 rfl rfl ?_
          refine xi_iconst (pc' := 499) (v := 1) kc_196_498 rfl rfl ?_
          refine xi_iadd (pc' := 500) (v := 1) kc_196_499 rfl rfl ?_
          refine xi_ialoadO (pc' := 501) (v := 5) kc_196_500 rfl (by decide) hov0 (xi_in (n := 6) (by decide) (by decide)) rfl ?_
          refine xi_aload_n (pc' := 502) (x := 1000000) kc_196_501 rfl rfl ?_
          refine xi_iload (pc' := 504) (x := 0) kc_196_502 rfl rfl ?_
          refine xi_iconst (pc' := 505) (v := 2) kc_196_504 rfl rfl ?_
          refine xi_iadd (pc' := 506) (v := 2) kc_196_505 rfl rfl ?_
          refine xi_ialoadO (pc' := 507) (v := a2) kc_196_506 rfl (by decide) hov0 (xi_in (n := 6) (by decide) (by decide)) rfl ?_
          refine xi_virtual (mj := 26) (as := [.int 5, .int a2]) (st1 := [.int 0]) (lv0 := [(0, .ref 115), (1, .int 5), (2, .int a2)]) kc_196_507 rfl rfl rfl rfl rfl (F 115 _ hl_115) (Nat.le_of_ble_eq_true rfl) (hJ _ _ _ _ (by decide)) (xm_le ml_26 rfl) rfl ?_
          refine xi_aload_n (pc' := 1) (x := 115) kc_26_0 rfl rfl ?_
          refine xi_iconst (pc' := 2) (v := 0) kc_26_1 rfl rfl ?_
          refine xi_putfield (pc' := 5) (fs' := [.int 0, .int 0, .ref 116, .ref 117, .ref 118, .ref 119, .ref 120, .ref 121, .ref 122, .ref 123, .ref 124, .ref 125, .ref 126, .ref 127, .ref 128, .ref 129, .int 4, .ref 130, .int 0, .ref 131, .ref 132, .ref 133, .ref 134, .int 0, .ref 135, .ref 136, .ref 137, .ref 138, .ref 139, .ref 140, .ref 141, .ref 142, .int 0, .int 0, .int 0, .ref 143, .ref 144, .ref 145, .ref 146, .ref 147, .ref 148, .int 0, .ref 149, .ref 150, .ref 151, .int 0, .ref 152, .ref 153, .ref 154, .ref 155, .ref 156, .ref 157, .ref 158, .ref 159, .int 0, .ref 160, .int 0, .ref 161, .ref 162, .ref 163, .ref 164, .int 0, .ref 165, .ref 166]) kc_26_2 rfl rfl rfl (F 115 _ hl_115) rfl rfl rfl (Nat.le_of_ble_eq_true rfl) rfl (fun hh1 eh1 => ?_)
          refine xi_iload_n (pc' := 6) (x := 5) kc_26_5 rfl rfl ?_
          refine xi_static (mj := 25) (as := [.int 5]) (st1 := []) (lv0 := [(0, .int 5)]) kc_26_6 rfl rfl (Nat.le_of_ble_eq_true rfl) rfl rfl (Nat.le_of_ble_eq_true rfl) (hJ _ _ _ _ (by decide)) (xm_le ml_25 rfl) rfl ?_
          refine xi_iload_n (pc' := 1) (x := 5) kc_25_0 rfl rfl ?_
          refine xi_iconst (pc' := 2) (v := 0) kc_25_1 rfl rfl ?_
          refine xi_bipush (pc' := 4) (v := 11) kc_25_2 rfl rfl ?_
          refine xi_static (mj := 12) (as := [.int 5, .int 0, .int 11]) (st1 := []) (lv0 := [(0, .int 5), (1, .int 0), (2, .int 11)]) kc_25_4 rfl rfl (Nat.le_of_ble_eq_true rfl) rfl rfl (Nat.le_of_ble_eq_true rfl) (hJ _ _ _ _ (by decide)) (xm_le ml_12 rfl) rfl ?_
          refine xi_iload_n (pc' := 1) (x := 5) kc_12_0 rfl rfl ?_
          refine xi_iload_n (pc' := 2) (x := 0) kc_12_1 rfl rfl ?_
          refine xi_cmf (pc' := 5) kc_12_2 rfl rfl ?_
          refine xi_iload_n (pc' := 6) (x := 5) kc_12_5 rfl rfl ?_
          refine xi_iload_n (pc' := 7) (x := 11) kc_12_6 rfl rfl ?_
          refine xi_cmf (pc' := 10) kc_12_7 rfl rfl ?_
          refine xi_iconst (pc' := 11) (v := 1) kc_12_10 rfl rfl ?_
          refine xi_goto (pc' := 15) kc_12_11 rfl ?_
          refine xi_ireturn kc_12_15 mr_12 rfl ?_
          show xw J ov 98 25 (7, [(0, .int 5)], [.int 1], hh1) _
          refine xi_ireturn kc_25_7 mr_25 rfl ?_
          show xw J ov 99 26 (9, [(0, .ref 115), (1, .int 5), (2, .int a2)], [.int 1], hh1) _
          refine xi_ift (pc' := 18) kc_26_9 rfl rfl ?_
          refine xi_iload_n (pc' := 19) (x := a2) kc_26_18 rfl rfl ?_
          refine xi_iconst (pc' := 20) (v := 0) kc_26_19 rfl rfl ?_
          refine xi_iconst (pc' := 21) (v := 5) kc_26_20 rfl rfl ?_
          refine xi_static (mj := 12) (as := [.int a2, .int 0, .int 5]) (st1 := []) (lv0 := [(0, .int a2), (1, .int 0), (2, .int 5)]) kc_26_21 rfl rfl (Nat.le_of_ble_eq_true rfl) rfl rfl (Nat.le_of_ble_eq_true rfl) (hJ _ _ _ _ (by decide)) (xm_le ml_12 rfl) rfl ?_
          refine xi_iload_n (pc' := 1) (x := a2) kc_12_0 rfl rfl ?_
          refine xi_iload_n (pc' := 2) (x := 0) kc_12_1 rfl rfl ?_
          refine xi_cmf (pc' := 5) kc_12_2 rfl (xc_lt_f (X := a2.toInt) (Y := 0) rfl (by decide) (by omega)) ?_
          refine xi_iload_n (pc' := 6) (x := a2) kc_12_5 rfl rfl ?_
          refine xi_iload_n (pc' := 7) (x := 5) kc_12_6 rfl rfl ?_
          refine xi_cmf (pc' := 10) kc_12_7 rfl (xc_gt_f (X := a2.toInt) (Y := 5) rfl (by decide) (by omega)) ?_
          refine xi_iconst (pc' := 11) (v := 1) kc_12_10 rfl rfl ?_
          refine xi_goto (pc' := 15) kc_12_11 rfl ?_
          refine xi_ireturn kc_12_15 mr_12 rfl ?_
          show xw J ov 99 26 (24, [(0, .ref 115), (1, .int 5), (2, .int a2)], [.int 1], hh1) _
          refine xi_ift (pc' := 34) kc_26_24 rfl rfl ?_
          refine xi_iload_n (pc' := 35) (x := a2) kc_26_34 rfl rfl ?_
          refine xi_tsi (pc' := 75) (z := 1) kc_26_35 (by omega) rfl (by decide) ?_
          refine xi_aload_n (pc' := 76) (x := 115) kc_26_75 rfl rfl ?_
          refine xi_getfield (pc' := 79) (v := .ref 126) kc_26_76 rfl rfl rfl eh1.1 rfl ?_
          refine xi_iload_n (pc' := 80) (x := 5) kc_26_79 rfl rfl ?_
          refine xi_iaload (pc' := 81) (v := 0) kc_26_80 rfl ((eh1.2.1 126 (by decide)).trans (F 126 _ hl_126)) (by decide) rfl (xi_in (n := 12) (by decide) (by decide)) rfl ?_
          refine xi_ireturn kc_26_81 mr_26 rfl ?_
          show xw J ov 100 196 (510, [(4, .int 0), (3, .ref 167), (2, .ref 115), (1, .ref 0), (0, .ref 1000000)], [.int 0, .int 0], hh1) _
          refine xi_cmt (pc' := 1528) kc_196_510 rfl rfl ?_
          refine xi_iinc (pc' := 1531) (x := 0) (v := 6) (lv' := [(4, .int 6), (3, .ref 167), (2, .ref 115), (1, .ref 0), (0, .ref 1000000)]) kc_196_1528 rfl rfl rfl rfl (xm_lt ml_196 rfl) ?_
          refine xi_goto (pc' := 23) kc_196_1531 rfl ?_
          refine xi_iload (pc' := 25) (x := 6) kc_196_23 rfl rfl ?_
          refine xi_aload_n (pc' := 26) (x := 1000000) kc_196_25 rfl rfl ?_
          refine xi_arraylength (pc' := 27) (n := 6) (v := 6) kc_196_26 rfl (xl_lenO (by decide) hov0 rfl) rfl ?_
          refine xi_bipush (pc' := 29) (v := 6) kc_196_27 rfl rfl ?_
          refine xi_isub (pc' := 30) (v := 0) kc_196_29 rfl rfl ?_
          refine xi_cmt (pc' := 1534) kc_196_30 rfl rfl ?_
          refine xi_iconst (pc' := 1535) (v := 1) kc_196_1534 rfl rfl ?_
          refine xi_ireturn kc_196_1535 mr_196 rfl ?_
          refine ⟨rfl, ?_, ?_⟩
          · rw [eh1.2.2.1]; exact hn0
          · rw [eh1.2.2.2]; exact hz0
        by_cases c46 : a2.toInt = 2
        · refine xi_tsi (pc' := 74) (z := 2) kc_107_24 (by omega) rfl (by decide) ?_
          refine xi_aload_n (pc' := 75) (x := 39) kc_107_74 rfl rfl ?_
          refine xi_getfield (pc' := 78) (v := .int 0) kc_107_75 rfl rfl rfl (F 39 _ hl_39) rfl ?_
          refine xi_ift (pc' := 85) kc_107_78 rfl rfl ?_
          refine xi_iconst (pc' := 86) (v := 0) kc_107_85 rfl rfl ?_
          refine xi_ireturn kc_107_86 mr_107 rfl ?_
          show xw J ov 100 196 (494, [(4, .int 0), (3, .ref 167), (2, .ref 115), (1, .ref 0), (0, .ref 1000000)], [.int 0], h0) _
          refine xi_aload_n (pc' := 495) (x := 115) kc_196_494 rfl rfl ?_
          refine xi_aload_n (pc' := 496) (x := 1000000) kc_196_495 rfl rfl ?_
          refine xi_iload (pc' := 498) (x := 0) kc_196_496 rfl rfl ?_
          refine xi_iconst (pc' := 499) (v := 1) kc_196_498 rfl rfl ?_
          refine xi_iadd (pc' := 500) (v := 1) kc_196_499 rfl rfl ?_
          refine xi_ialoadO (pc' := 501) (v := 5) kc_196_500 rfl (by decide) hov0 (xi_in (n := 6) (by decide) (by decide)) rfl ?_
          refine xi_aload_n (pc' := 502) (x := 1000000) kc_196_501 rfl rfl ?_
          refine xi_iload (pc' := 504) (x := 0) kc_196_502 rfl rfl ?_
          refine xi_iconst (pc' := 505) (v := 2) kc_196_504 rfl rfl ?_
          refine xi_iadd (pc' := 506) (v := 2) kc_196_505 rfl rfl ?_
          refine xi_ialoadO (pc' := 507) (v := a2) kc_196_506 rfl (by decide) hov0 (xi_in (n := 6) (by decide) (by decide)) rfl ?_
          refine xi_virtual (mj := 26) (as := [.int 5, .int a2]) (st1 := [.int 0]) (lv0 := [(0, .ref 115), (1, .int 5), (2, .int a2)]) kc_196_507 rfl rfl rfl rfl rfl (F 115 _ hl_115) (Nat.le_of_ble_eq_true rfl) (hJ _ _ _ _ (by decide)) (xm_le ml_26 rfl) rfl ?_
          refine xi_aload_n (pc' := 1) (x := 115) kc_26_0 rfl rfl ?_
          refine xi_iconst (pc' := 2) (v := 0) kc_26_1 rfl rfl ?_
          refine xi_putfield (pc' := 5) (fs' := [.int 0, .int 0, .ref 116, .ref 117, .ref 118, .ref 119, .ref 120, .ref 121, .ref 122, .ref 123, .ref 124, .ref 125, .ref 126, .ref 127, .ref 128, .ref 129, .int 4, .ref 130, .int 0, .ref 131, .ref 132, .ref 133, .ref 134, .int 0, .ref 135, .ref 136, .ref 137, .ref 138, .ref 139, .ref 140, .ref 141, .ref 142, .int 0, .int 0, .int 0, .ref 143, .ref 144, .ref 145, .ref 146, .ref 147, .ref 148, .int 0, .ref 149, .ref 150, .ref 151, .int 0, .ref 152, .ref 153, .ref 154, .ref 155, .ref 156, .ref 157, .ref 158, .ref 159, .int 0, .ref 160, .int 0, .ref 161, .ref 162, .ref 163, .ref 164, .int 0, .ref 165, .ref 166]) kc_26_2 rfl rfl rfl (F 115 _ hl_115) rfl rfl rfl (Nat.le_of_ble_eq_true rfl) rfl (fun hh1 eh1 => ?_)
          refine xi_iload_n (pc' := 6) (x := 5) kc_26_5 rfl rfl ?_
          refine xi_static (mj := 25) (as := [.int 5]) (st1 := []) (lv0 := [(0, .int 5)]) kc_26_6 rfl rfl (Nat.le_of_ble_eq_true rfl) rfl rfl (Nat.le_of_ble_eq_true rfl) (hJ _ _ _ _ (by decide)) (xm_le ml_25 rfl) rfl ?_
          refine xi_iload_n (pc' := 1) (x := 5) kc_25_0 rfl rfl ?_
          refine xi_iconst (pc' := 2) (v := 0) kc_25_1 rfl rfl ?_
          refine xi_bipush (pc' := 4) (v := 11) kc_25_2 rfl rfl ?_
          refine xi_static (mj := 12) (as := [.int 5, .int 0, .int 11]) (st1 := []) (lv0 := [(0, .int 5), (1, .int 0), (2, .int 11)]) kc_25_4 rfl rfl (Nat.le_of_ble_eq_true rfl) rfl rfl (Nat.le_of_ble_eq_true rfl) (hJ _ _ _ _ (by decide)) (xm_le ml_12 rfl) rfl ?_
          refine xi_iload_n (pc' := 1) (x := 5) kc_12_0 rfl rfl ?_
          refine xi_iload_n (pc' := 2) (x := 0) kc_12_1 rfl rfl ?_
          refine xi_cmf (pc' := 5) kc_12_2 rfl rfl ?_
          refine xi_iload_n (pc' := 6) (x := 5) kc_12_5 rfl rfl ?_
          refine xi_iload_n (pc' := 7) (x := 11) kc_12_6 rfl rfl ?_
          refine xi_cmf (pc' := 10) kc_12_7 rfl rfl ?_
          refine xi_iconst (pc' := 11) (v := 1) kc_12_10 rfl rfl ?_
          refine xi_goto (pc' := 15) kc_12_11 rfl ?_
          refine xi_ireturn kc_12_15 mr_12 rfl ?_
          show xw J ov 98 25 (7, [(0, .int 5)], [.int 1], hh1) _
          refine xi_ireturn kc_25_7 mr_25 rfl ?_
          show xw J ov 99 26 (9, [(0, .ref 115), (1, .int 5), (2, .int a2)], [.int 1], hh1) _
          refine xi_ift (pc' := 18) kc_26_9 rfl rfl ?_
          refine xi_iload_n (pc' := 19) (x := a2) kc_26_18 rfl rfl ?_
          refine xi_iconst (pc' := 20) (v := 0) kc_26_19 rfl rfl ?_
          refine xi_iconst (pc' := 21) (v := 5) kc_26_20 rfl rfl ?_
          refine xi_static (mj := 12) (as := [.int a2, .int 0, .int 5]) (st1 := []) (lv0 := [(0, .int a2), (1, .int 0), (2, .int 5)]) kc_26_21 rfl rfl (Nat.le_of_ble_eq_true rfl) rfl rfl (Nat.le_of_ble_eq_true rfl) (hJ _ _ _ _ (by decide)) (xm_le ml_12 rfl) rfl ?_
          refine xi_iload_n (pc' := 1) (x := a2) kc_12_0 rfl rfl ?_
          refine xi_iload_n (pc' := 2) (x := 0) kc_12_1 rfl rfl ?_
          refine xi_cmf (pc' := 5) kc_12_2 rfl (xc_lt_f (X := a2.toInt) (Y := 0) rfl (by decide) (by omega)) ?_
          refine xi_iload_n (pc' := 6) (x := a2) kc_12_5 rfl rfl ?_
          refine xi_iload_n (pc' := 7) (x := 5) kc_12_6 rfl rfl ?_
          refine xi_cmf (pc' := 10) kc_12_7 rfl (xc_gt_f (X := a2.toInt) (Y := 5) rfl (by decide) (by omega)) ?_
          refine xi_iconst (pc' := 11) (v := 1) kc_12_10 rfl rfl ?_
          refine xi_goto (pc' := 15) kc_12_11 rfl ?_
          refine xi_ireturn kc_12_15 mr_12 rfl ?_
          show xw J ov 99 26 (24, [(0, .ref 115), (1, .int 5), (2, .int a2)], [.int 1], hh1) _
          refine xi_ift (pc' := 34) kc_26_24 rfl rfl ?_
          refine xi_iload_n (pc' := 35) (x := a2) kc_26_34 rfl rfl ?_
          refine xi_tsi (pc' := 82) (z := 2) kc_26_35 (by omega) rfl (by decide) ?_
          refine xi_aload_n (pc' := 83) (x := 115) kc_26_82 rfl rfl ?_
          refine xi_getfield (pc' := 86) (v := .ref 127) kc_26_83 rfl rfl rfl eh1.1 rfl ?_
          refine xi_iload_n (pc' := 87) (x := 5) kc_26_86 rfl rfl ?_
          refine xi_baload (pc' := 88) (v := 0) kc_26_87 rfl ((eh1.2.1 127 (by decide)).trans (F 127 _ hl_127)) rfl (xi_in (n := 12) (by decide) (by decide)) rfl ?_
          refine xi_ift (pc' := 95) kc_26_88 rfl rfl ?_
          refine xi_iconst (pc' := 96) (v := 0) kc_26_95 rfl rfl ?_
          refine xi_ireturn kc_26_96 mr_26 rfl ?_
          show xw J ov 100 196 (510, [(4, .int 0), (3, .ref 167), (2, .ref 115), (1, .ref 0), (0, .ref 1000000)], [.int 0, .int 0], hh1) _
          refine xi_cmt (pc' := 1528) kc_196_510 rfl rfl ?_
          refine xi_iinc (pc' := 1531) (x := 0) (v := 6) (lv' := [(4, .int 6), (3, .ref 167), (2, .ref 115), (1, .ref 0), (0, .ref 1000000)]) kc_196_1528 rfl rfl rfl rfl (xm_lt ml_196 rfl) ?_
          refine xi_goto (pc' := 23) kc_196_1531 rfl ?_
          refine xi_iload (pc' := 25) (x := 6) kc_196_23 rfl rfl ?_
          refine xi_aload_n (pc' := 26) (x := 1000000) kc_196_25 rfl rfl ?_
          refine xi_arraylength (pc' := 27) (n := 6) (v := 6) kc_196_26 rfl (xl_lenO (by decide) hov0 rfl) rfl ?_
          refine xi_bipush (pc' := 29) (v := 6) kc_196_27 rfl rfl ?_
          refine xi_isub (pc' := 30) (v := 0) kc_196_29 rfl rfl ?_
          refine xi_cmt (pc' := 1534) kc_196_30 rfl rfl ?_
          refine xi_iconst (pc' := 1535) (v := 1) kc_196_1534 rfl rfl ?_
          refine xi_ireturn kc_196_1535 mr_196 rfl ?_
          refine ⟨rfl, ?_, ?_⟩
          · rw [eh1.2.2.1]; exact hn0
          · rw [eh1.2.2.2]; exact hz0
        by_cases c47 : a2.toInt = 3
        · refine xi_tsi (pc' := 87) (z := 3) kc_107_24 (by omega) rfl (by decide) ?_
          refine xi_aload_n (pc' := 88) (x := 0) kc_107_87 rfl rfl ?_
          refine xi_getfield (pc' := 91) (v := .ref 63) kc_107_88 rfl rfl rfl (F 0 _ hl_0) rfl ?_
          refine xi_getfield (pc' := 94) (v := .ref 65) kc_107_91 rfl rfl rfl (F 63 _ hl_63) rfl ?_
          refine xi_iload_n (pc' := 95) (x := 5) kc_107_94 rfl rfl ?_
          refine xi_iaload (pc' := 96) (v := 0) kc_107_95 rfl (F 65 _ hl_65) (by decide) rfl (xi_in (n := 12) (by decide) (by decide)) rfl ?_
          refine xi_ireturn kc_107_96 mr_107 rfl ?_
          show xw J ov 100 196 (494, [(4, .int 0), (3, .ref 167), (2, .ref 115), (1, .ref 0), (0, .ref 1000000)], [.int 0], h0) _
          refine xi_aload_n (pc' := 495) (x := 115) kc_196_494 rfl rfl ?_
          refine xi_aload_n (pc' := 496) (x := 1000000) kc_196_495 rfl rfl ?_
          refine xi_iload (pc' := 498) (x := 0) kc_196_496 rfl rfl ?_
          refine xi_iconst (pc' := 499) (v := 1) kc_196_498 rfl rfl ?_
          refine xi_iadd (pc' := 500) (v := 1) kc_196_499 rfl rfl ?_
          refine xi_ialoadO (pc' := 501) (v := 5) kc_196_500 rfl (by decide) hov0 (xi_in (n := 6) (by decide) (by decide)) rfl ?_
          refine xi_aload_n (pc' := 502) (x := 1000000) kc_196_501 rfl rfl ?_
          refine xi_iload (pc' := 504) (x := 0) kc_196_502 rfl rfl ?_
          refine xi_iconst (pc' := 505) (v := 2) kc_196_504 rfl rfl ?_
          refine xi_iadd (pc' := 506) (v := 2) kc_196_505 rfl rfl ?_
          refine xi_ialoadO (pc' := 507) (v := a2) kc_196_506 rfl (by decide) hov0 (xi_in (n := 6) (by decide) (by decide)) rfl ?_
          refine xi_virtual (mj := 26) (as := [.int 5, .int a2]) (st1 := [.int 0]) (lv0 := [(0, .ref 115), (1, .int 5), (2, .int a2)]) kc_196_507 rfl rfl rfl rfl rfl (F 115 _ hl_115) (Nat.le_of_ble_eq_true rfl) (hJ _ _ _ _ (by decide)) (xm_le ml_26 rfl) rfl ?_
          refine xi_aload_n (pc' := 1) (x := 115) kc_26_0 rfl rfl ?_
          refine xi_iconst (pc' := 2) (v := 0) kc_26_1 rfl rfl ?_
          refine xi_putfield (pc' := 5) (fs' := [.int 0, .int 0, .ref 116, .ref 117, .ref 118, .ref 119, .ref 120, .ref 121, .ref 122, .ref 123, .ref 124, .ref 125, .ref 126, .ref 127, .ref 128, .ref 129, .int 4, .ref 130, .int 0, .ref 131, .ref 132, .ref 133, .ref 134, .int 0, .ref 135, .ref 136, .ref 137, .ref 138, .ref 139, .ref 140, .ref 141, .ref 142, .int 0, .int 0, .int 0, .ref 143, .ref 144, .ref 145, .ref 146, .ref 147, .ref 148, .int 0, .ref 149, .ref 150, .ref 151, .int 0, .ref 152, .ref 153, .ref 154, .ref 155, .ref 156, .ref 157, .ref 158, .ref 159, .int 0, .ref 160, .int 0, .ref 161, .ref 162, .ref 163, .ref 164, .int 0, .ref 165, .ref 166]) kc_26_2 rfl rfl rfl (F 115 _ hl_115) rfl rfl rfl (Nat.le_of_ble_eq_true rfl) rfl (fun hh1 eh1 => ?_)
          refine xi_iload_n (pc' := 6) (x := 5) kc_26_5 rfl rfl ?_
          refine xi_static (mj := 25) (as := [.int 5]) (st1 := []) (lv0 := [(0, .int 5)]) kc_26_6 rfl rfl (Nat.le_of_ble_eq_true rfl) rfl rfl (Nat.le_of_ble_eq_true rfl) (hJ _ _ _ _ (by decide)) (xm_le ml_25 rfl) rfl ?_
          refine xi_iload_n (pc' := 1) (x := 5) kc_25_0 rfl rfl ?_
          refine xi_iconst (pc' := 2) (v := 0) kc_25_1 rfl rfl ?_
          refine xi_bipush (pc' := 4) (v := 11) kc_25_2 rfl rfl ?_
          refine xi_static (mj := 12) (as := [.int 5, .int 0, .int 11]) (st1 := []) (lv0 := [(0, .int 5), (1, .int 0), (2, .int 11)]) kc_25_4 rfl rfl (Nat.le_of_ble_eq_true rfl) rfl rfl (Nat.le_of_ble_eq_true rfl) (hJ _ _ _ _ (by decide)) (xm_le ml_12 rfl) rfl ?_
          refine xi_iload_n (pc' := 1) (x := 5) kc_12_0 rfl rfl ?_
          refine xi_iload_n (pc' := 2) (x := 0) kc_12_1 rfl rfl ?_
          refine xi_cmf (pc' := 5) kc_12_2 rfl rfl ?_
          refine xi_iload_n (pc' := 6) (x := 5) kc_12_5 rfl rfl ?_
          refine xi_iload_n (pc' := 7) (x := 11) kc_12_6 rfl rfl ?_
          refine xi_cmf (pc' := 10) kc_12_7 rfl rfl ?_
          refine xi_iconst (pc' := 11) (v := 1) kc_12_10 rfl rfl ?_
          refine xi_goto (pc' := 15) kc_12_11 rfl ?_
          refine xi_ireturn kc_12_15 mr_12 rfl ?_
          show xw J ov 98 25 (7, [(0, .int 5)], [.int 1], hh1) _
          refine xi_ireturn kc_25_7 mr_25 rfl ?_
          show xw J ov 99 26 (9, [(0, .ref 115), (1, .int 5), (2, .int a2)], [.int 1], hh1) _
          refine xi_ift (pc' := 18) kc_26_9 rfl rfl ?_
          refine xi_iload_n (pc' := 19) (x := a2) kc_26_18 rfl rfl ?_
          refine xi_iconst (pc' := 20) (v := 0) kc_26_19 rfl rfl ?_
          refine xi_iconst (pc' := 21) (v := 5) kc_26_20 rfl rfl ?_
          refine xi_static (mj := 12) (as := [.int a2, .int 0, .int 5]) (st1 := []) (lv0 := [(0, .int a2), (1, .int 0), (2, .int 5)]) kc_26_21 rfl rfl (Nat.le_of_ble_eq_true rfl) rfl rfl (Nat.le_of_ble_eq_true rfl) (hJ _ _ _ _ (by decide)) (xm_le ml_12 rfl) rfl ?_
          refine xi_iload_n (pc' := 1) (x := a2) kc_12_0 rfl rfl ?_
          refine xi_iload_n (pc' := 2) (x := 0) kc_12_1 rfl rfl ?_
          refine xi_cmf (pc' := 5) kc_12_2 rfl (xc_lt_f (X := a2.toInt) (Y := 0) rfl (by decide) (by omega)) ?_
          refine xi_iload_n (pc' := 6) (x := a2) kc_12_5 rfl rfl ?_
          refine xi_iload_n (pc' := 7) (x := 5) kc_12_6 rfl rfl ?_
          refine xi_cmf (pc' := 10) kc_12_7 rfl (xc_gt_f (X := a2.toInt) (Y := 5) rfl (by decide) (by omega)) ?_
          refine xi_iconst (pc' := 11) (v := 1) kc_12_10 rfl rfl ?_
          refine xi_goto (pc' := 15) kc_12_11 rfl ?_
          refine xi_ireturn kc_12_15 mr_12 rfl ?_
          show xw J ov 99 26 (24, [(0, .ref 115), (1, .int 5), (2, .int a2)], [.int 1], hh1) _
          refine xi_ift (pc' := 34) kc_26_24 rfl rfl ?_
          refine xi_iload_n (pc' := 35) (x := a2) kc_26_34 rfl rfl ?_
          refine xi_tsi (pc' := 97) (z := 3) kc_26_35 (by omega) rfl (by decide) ?_
          refine xi_aload_n (pc' := 98) (x := 115) kc_26_97 rfl rfl ?_
          refine xi_getfield (pc' := 101) (v := .ref 128) kc_26_98 rfl rfl rfl eh1.1 rfl ?_
          refine xi_iload_n (pc' := 102) (x := 5) kc_26_101 rfl rfl ?_
          refine xi_iaload (pc' := 103) (v := 0) kc_26_102 rfl ((eh1.2.1 128 (by decide)).trans (F 128 _ hl_128)) (by decide) rfl (xi_in (n := 12) (by decide) (by decide)) rfl ?_
          refine xi_ireturn kc_26_103 mr_26 rfl ?_
          show xw J ov 100 196 (510, [(4, .int 0), (3, .ref 167), (2, .ref 115), (1, .ref 0), (0, .ref 1000000)], [.int 0, .int 0], hh1) _
          refine xi_cmt (pc' := 1528) kc_196_510 rfl rfl ?_
          refine xi_iinc (pc' := 1531) (x := 0) (v := 6) (lv' := [(4, .int 6), (3, .ref 167), (2, .ref 115), (1, .ref 0), (0, .ref 1000000)]) kc_196_1528 rfl rfl rfl rfl (xm_lt ml_196 rfl) ?_
          refine xi_goto (pc' := 23) kc_196_1531 rfl ?_
          refine xi_iload (pc' := 25) (x := 6) kc_196_23 rfl rfl ?_
          refine xi_aload_n (pc' := 26) (x := 1000000) kc_196_25 rfl rfl ?_
          refine xi_arraylength (pc' := 27) (n := 6) (v := 6) kc_196_26 rfl (xl_lenO (by decide) hov0 rfl) rfl ?_
          refine xi_bipush (pc' := 29) (v := 6) kc_196_27 rfl rfl ?_
          refine xi_isub (pc' := 30) (v := 0) kc_196_29 rfl rfl ?_
          refine xi_cmt (pc' := 1534) kc_196_30 rfl rfl ?_
          refine xi_iconst (pc' := 1535) (v := 1) kc_196_1534 rfl rfl ?_
          refine xi_ireturn kc_196_1535 mr_196 rfl ?_
          refine ⟨rfl, ?_, ?_⟩
          · rw [eh1.2.2.1]; exact hn0
          · rw [eh1.2.2.2]; exact hz0
        by_cases c48 : a2.toInt = 4
        · refine xi_tsi (pc' := 97) (z := 4) kc_107_24 (by omega) rfl (by decide) ?_
          refine xi_aload_n (pc' := 98) (x := 39) kc_107_97 rfl rfl ?_
          refine xi_getfield (pc' := 101) (v := .int 0) kc_107_98 rfl rfl rfl (F 39 _ hl_39) rfl ?_
          refine xi_ireturn kc_107_101 mr_107 rfl ?_
          show xw J ov 100 196 (494, [(4, .int 0), (3, .ref 167), (2, .ref 115), (1, .ref 0), (0, .ref 1000000)], [.int 0], h0) _
          refine xi_aload_n (pc' := 495) (x := 115) kc_196_494 rfl rfl ?_
          refine xi_aload_n (pc' := 496) (x := 1000000) kc_196_495 rfl rfl ?_
          refine xi_iload (pc' := 498) (x := 0) kc_196_496 rfl rfl ?_
          refine xi_iconst (pc' := 499) (v := 1) kc_196_498 rfl rfl ?_
          refine xi_iadd (pc' := 500) (v := 1) kc_196_499 rfl rfl ?_
          refine xi_ialoadO (pc' := 501) (v := 5) kc_196_500 rfl (by decide) hov0 (xi_in (n := 6) (by decide) (by decide)) rfl ?_
          refine xi_aload_n (pc' := 502) (x := 1000000) kc_196_501 rfl rfl ?_
          refine xi_iload (pc' := 504) (x := 0) kc_196_502 rfl rfl ?_
          refine xi_iconst (pc' := 505) (v := 2) kc_196_504 rfl rfl ?_
          refine xi_iadd (pc' := 506) (v := 2) kc_196_505 rfl rfl ?_
          refine xi_ialoadO (pc' := 507) (v := a2) kc_196_506 rfl (by decide) hov0 (xi_in (n := 6) (by decide) (by decide)) rfl ?_
          refine xi_virtual (mj := 26) (as := [.int 5, .int a2]) (st1 := [.int 0]) (lv0 := [(0, .ref 115), (1, .int 5), (2, .int a2)]) kc_196_507 rfl rfl rfl rfl rfl (F 115 _ hl_115) (Nat.le_of_ble_eq_true rfl) (hJ _ _ _ _ (by decide)) (xm_le ml_26 rfl) rfl ?_
          refine xi_aload_n (pc' := 1) (x := 115) kc_26_0 rfl rfl ?_
          refine xi_iconst (pc' := 2) (v := 0) kc_26_1 rfl rfl ?_
          refine xi_putfield (pc' := 5) (fs' := [.int 0, .int 0, .ref 116, .ref 117, .ref 118, .ref 119, .ref 120, .ref 121, .ref 122, .ref 123, .ref 124, .ref 125, .ref 126, .ref 127, .ref 128, .ref 129, .int 4, .ref 130, .int 0, .ref 131, .ref 132, .ref 133, .ref 134, .int 0, .ref 135, .ref 136, .ref 137, .ref 138, .ref 139, .ref 140, .ref 141, .ref 142, .int 0, .int 0, .int 0, .ref 143, .ref 144, .ref 145, .ref 146, .ref 147, .ref 148, .int 0, .ref 149, .ref 150, .ref 151, .int 0, .ref 152, .ref 153, .ref 154, .ref 155, .ref 156, .ref 157, .ref 158, .ref 159, .int 0, .ref 160, .int 0, .ref 161, .ref 162, .ref 163, .ref 164, .int 0, .ref 165, .ref 166]) kc_26_2 rfl rfl rfl (F 115 _ hl_115) rfl rfl rfl (Nat.le_of_ble_eq_true rfl) rfl (fun hh1 eh1 => ?_)
          refine xi_iload_n (pc' := 6) (x := 5) kc_26_5 rfl rfl ?_
          refine xi_static (mj := 25) (as := [.int 5]) (st1 := []) (lv0 := [(0, .int 5)]) kc_26_6 rfl rfl (Nat.le_of_ble_eq_true rfl) rfl rfl (Nat.le_of_ble_eq_true rfl) (hJ _ _ _ _ (by decide)) (xm_le ml_25 rfl) rfl ?_
          refine xi_iload_n (pc' := 1) (x := 5) kc_25_0 rfl rfl ?_
          refine xi_iconst (pc' := 2) (v := 0) kc_25_1 rfl rfl ?_
          refine xi_bipush (pc' := 4) (v := 11) kc_25_2 rfl rfl ?_
          refine xi_static (mj := 12) (as := [.int 5, .int 0, .int 11]) (st1 := []) (lv0 := [(0, .int 5), (1, .int 0), (2, .int 11)]) kc_25_4 rfl rfl (Nat.le_of_ble_eq_true rfl) rfl rfl (Nat.le_of_ble_eq_true rfl) (hJ _ _ _ _ (by decide)) (xm_le ml_12 rfl) rfl ?_
          refine xi_iload_n (pc' := 1) (x := 5) kc_12_0 rfl rfl ?_
          refine xi_iload_n (pc' := 2) (x := 0) kc_12_1 rfl rfl ?_
          refine xi_cmf (pc' := 5) kc_12_2 rfl rfl ?_
          refine xi_iload_n (pc' := 6) (x := 5) kc_12_5 rfl rfl ?_
          refine xi_iload_n (pc' := 7) (x := 11) kc_12_6 rfl rfl ?_
          refine xi_cmf (pc' := 10) kc_12_7 rfl rfl ?_
          refine xi_iconst (pc' := 11) (v := 1) kc_12_10 rfl rfl ?_
          refine xi_goto (pc' := 15) kc_12_11 rfl ?_
          refine xi_ireturn kc_12_15 mr_12 rfl ?_
          show xw J ov 98 25 (7, [(0, .int 5)], [.int 1], hh1) _
          refine xi_ireturn kc_25_7 mr_25 rfl ?_
          show xw J ov 99 26 (9, [(0, .ref 115), (1, .int 5), (2, .int a2)], [.int 1], hh1) _
          refine xi_ift (pc' := 18) kc_26_9 rfl rfl ?_
          refine xi_iload_n (pc' := 19) (x := a2) kc_26_18 rfl rfl ?_
          refine xi_iconst (pc' := 20) (v := 0) kc_26_19 rfl rfl ?_
          refine xi_iconst (pc' := 21) (v := 5) kc_26_20 rfl rfl ?_
          refine xi_static (mj := 12) (as := [.int a2, .int 0, .int 5]) (st1 := []) (lv0 := [(0, .int a2), (1, .int 0), (2, .int 5)]) kc_26_21 rfl rfl (Nat.le_of_ble_eq_true rfl) rfl rfl (Nat.le_of_ble_eq_true rfl) (hJ _ _ _ _ (by decide)) (xm_le ml_12 rfl) rfl ?_
          refine xi_iload_n (pc' := 1) (x := a2) kc_12_0 rfl rfl ?_
          refine xi_iload_n (pc' := 2) (x := 0) kc_12_1 rfl rfl ?_
          refine xi_cmf (pc' := 5) kc_12_2 rfl (xc_lt_f (X := a2.toInt) (Y := 0) rfl (by decide) (by omega)) ?_
          refine xi_iload_n (pc' := 6) (x := a2) kc_12_5 rfl rfl ?_
          refine xi_iload_n (pc' := 7) (x := 5) kc_12_6 rfl rfl ?_
          refine xi_cmf (pc' := 10) kc_12_7 rfl (xc_gt_f (X := a2.toInt) (Y := 5) rfl (by decide) (by omega)) ?_
          refine xi_iconst (pc' := 11) (v := 1) kc_12_10 rfl rfl ?_
          refine xi_goto (pc' := 15) kc_12_11 rfl ?_
          refine xi_ireturn kc_12_15 mr_12 rfl ?_
          show xw J ov 99 26 (24, [(0, .ref 115), (1, .int 5), (2, .int a2)], [.int 1], hh1) _
          refine xi_ift (pc' := 34) kc_26_24 rfl rfl ?_
          refine xi_iload_n (pc' := 35) (x := a2) kc_26_34 rfl rfl ?_
          refine xi_tsi (pc' := 104) (z := 4) kc_26_35 (by omega) rfl (by decide) ?_
          refine xi_aload_n (pc' := 105) (x := 115) kc_26_104 rfl rfl ?_
          refine xi_getfield (pc' := 108) (v := .ref 129) kc_26_105 rfl rfl rfl eh1.1 rfl ?_
          refine xi_iload_n (pc' := 109) (x := 5) kc_26_108 rfl rfl ?_
          refine xi_iaload (pc' := 110) (v := 0) kc_26_109 rfl ((eh1.2.1 129 (by decide)).trans (F 129 _ hl_129)) (by decide) rfl (xi_in (n := 12) (by decide) (by decide)) rfl ?_
          refine xi_ireturn kc_26_110 mr_26 rfl ?_
          show xw J ov 100 196 (510, [(4, .int 0), (3, .ref 167), (2, .ref 115), (1, .ref 0), (0, .ref 1000000)], [.int 0, .int 0], hh1) _
          refine xi_cmt (pc' := 1528) kc_196_510 rfl rfl ?_
          refine xi_iinc (pc' := 1531) (x := 0) (v := 6) (lv' := [(4, .int 6), (3, .ref 167), (2, .ref 115), (1, .ref 0), (0, .ref 1000000)]) kc_196_1528 rfl rfl rfl rfl (xm_lt ml_196 rfl) ?_
          refine xi_goto (pc' := 23) kc_196_1531 rfl ?_
          refine xi_iload (pc' := 25) (x := 6) kc_196_23 rfl rfl ?_
          refine xi_aload_n (pc' := 26) (x := 1000000) kc_196_25 rfl rfl ?_
          refine xi_arraylength (pc' := 27) (n := 6) (v := 6) kc_196_26 rfl (xl_lenO (by decide) hov0 rfl) rfl ?_
          refine xi_bipush (pc' := 29) (v := 6) kc_196_27 rfl rfl ?_
          refine xi_isub (pc' := 30) (v := 0) kc_196_29 rfl rfl ?_
          refine xi_cmt (pc' := 1534) kc_196_30 rfl rfl ?_
          refine xi_iconst (pc' := 1535) (v := 1) kc_196_1534 rfl rfl ?_
          refine xi_ireturn kc_196_1535 mr_196 rfl ?_
          refine ⟨rfl, ?_, ?_⟩
          · rw [eh1.2.2.1]; exact hn0
          · rw [eh1.2.2.2]; exact hz0
        by_cases c49 : a2.toInt = 5
        · refine xi_tsi (pc' := 102) (z := 5) kc_107_24 (by omega) rfl (by decide) ?_
          refine xi_aload_n (pc' := 103) (x := 0) kc_107_102 rfl rfl ?_
          refine xi_getfield (pc' := 106) (v := .ref 1) kc_107_103 rfl rfl rfl (F 0 _ hl_0) rfl ?_
          refine xi_iload_n (pc' := 107) (x := 5) kc_107_106 rfl rfl ?_
          refine xi_aload_n (pc' := 108) (x := 0) kc_107_107 rfl rfl ?_
          refine xi_getfield (pc' := 111) (v := .int 0) kc_107_108 rfl rfl rfl (F 0 _ hl_0) rfl ?_
          refine xi_virtual (mj := 108) (as := [.int 5, .int 0]) (st1 := []) (lv0 := [(0, .ref 1), (1, .int 5), (2, .int 0)]) kc_107_111 rfl rfl rfl rfl rfl (F 1 _ hl_1) (Nat.le_of_ble_eq_true rfl) (hJ _ _ _ _ (by decide)) (xm_le ml_108 rfl) rfl ?_
          refine xi_aload_n (pc' := 1) (x := 1) kc_108_0 rfl rfl ?_
          refine xi_iload_n (pc' := 2) (x := 5) kc_108_1 rfl rfl ?_
          refine xi_virtual (mj := 109) (as := [.int 5]) (st1 := []) (lv0 := [(0, .ref 1), (1, .int 5)]) kc_108_2 rfl rfl rfl rfl rfl (F 1 _ hl_1) (Nat.le_of_ble_eq_true rfl) (hJ _ _ _ _ (by decide)) (xm_le ml_109 rfl) rfl ?_
          refine xi_iload_n (pc' := 1) (x := 5) kc_109_0 rfl rfl ?_
          refine xi_static (mj := 105) (as := [.int 5]) (st1 := []) (lv0 := [(0, .int 5)]) kc_109_1 rfl rfl (Nat.le_of_ble_eq_true rfl) rfl rfl (Nat.le_of_ble_eq_true rfl) (hJ _ _ _ _ (by decide)) (xm_le ml_105 rfl) rfl ?_
          refine xi_iload_n (pc' := 1) (x := 5) kc_105_0 rfl rfl ?_
          refine xi_iff (pc' := 4) kc_105_1 rfl rfl ?_
          refine xi_iload_n (pc' := 5) (x := 5) kc_105_4 rfl rfl ?_
          refine xi_bipush (pc' := 7) (v := 12) kc_105_5 rfl rfl ?_
          refine xi_cmf (pc' := 10) kc_105_7 rfl rfl ?_
          refine xi_iconst (pc' := 11) (v := 1) kc_105_10 rfl rfl ?_
          refine xi_goto (pc' := 15) kc_105_11 rfl ?_
          refine xi_ireturn kc_105_15 mr_105 rfl ?_
          show xw J ov 97 109 (4, [(0, .ref 1), (1, .int 5)], [.int 1], h0) _
          refine xi_iff (pc' := 7) kc_109_4 rfl rfl ?_
          refine xi_aload_n (pc' := 8) (x := 1) kc_109_7 rfl rfl ?_
          refine xi_getfield (pc' := 11) (v := .ref 3) kc_109_8 rfl rfl rfl (F 1 _ hl_1) rfl ?_
          refine xi_iload_n (pc' := 12) (x := 5) kc_109_11 rfl rfl ?_
          refine xi_aaload (pc' := 13) (b := 39) kc_109_12 rfl (F 3 _ hl_3) rfl (xi_in (n := 12) (by decide) (by decide)) rfl ?_
          refine xi_virtual (mj := 106) (as := []) (st1 := []) (lv0 := [(0, .ref 39)]) kc_109_13 rfl rfl rfl rfl rfl (F 39 _ hl_39) (Nat.le_of_ble_eq_true rfl) (hJ _ _ _ _ (by decide)) (xm_le ml_106 rfl) rfl ?_
          refine xi_aload_n (pc' := 1) (x := 39) kc_106_0 rfl rfl ?_
          refine xi_getfield (pc' := 4) (v := .int (-9)) kc_106_1 rfl rfl rfl (F 39 _ hl_39) rfl ?_
          refine xi_static (mj := 90) (as := [.int (-9)]) (st1 := []) (lv0 := [(0, .int (-9))]) kc_106_4 rfl rfl (Nat.le_of_ble_eq_true rfl) rfl rfl (Nat.le_of_ble_eq_true rfl) (hJ _ _ _ _ (by decide)) (xm_le ml_90 rfl) rfl ?_
          refine xi_iload_n (pc' := 1) (x := (-9)) kc_90_0 rfl rfl ?_
          refine xi_ift (pc' := 14) kc_90_1 rfl rfl ?_
          refine xi_iconst (pc' := 15) (v := 0) kc_90_14 rfl rfl ?_
          refine xi_ireturn kc_90_15 mr_90 rfl ?_
          show xw J ov 96 106 (7, [(0, .ref 39)], [.int 0], h0) _
          refine xi_ireturn kc_106_7 mr_106 rfl ?_
          show xw J ov 97 109 (16, [(0, .ref 1), (1, .int 5)], [.int 0], h0) _
          refine xi_ift (pc' := 23) kc_109_16 rfl rfl ?_
          refine xi_iconst (pc' := 24) (v := 0) kc_109_23 rfl rfl ?_
          refine xi_ireturn kc_109_24 mr_109 rfl ?_
          show xw J ov 98 108 (5, [(0, .ref 1), (1, .int 5), (2, .int 0)], [.int 0], h0) _
          refine xi_iff (pc' := 8) kc_108_5 rfl rfl ?_
          refine xi_iconst (pc' := 9) (v := 0) kc_108_8 rfl rfl ?_
          refine xi_ireturn kc_108_9 mr_108 rfl ?_
          show xw J ov 99 107 (114, [(3, .ref 39), (0, .ref 0), (1, .int 5), (2, .int a2)], [.int 0], h0) _
          refine xi_ireturn kc_107_114 mr_107 rfl ?_
          show xw J ov 100 196 (494, [(4, .int 0), (3, .ref 167), (2, .ref 115), (1, .ref 0), (0, .ref 1000000)], [.int 0], h0) _
          refine xi_aload_n (pc' := 495) (x := 115) kc_196_494 rfl rfl ?_
          refine xi_aload_n (pc' := 496) (x := 1000000) kc_196_495 rfl rfl ?_
          refine xi_iload (pc' := 498) (x := 0) kc_196_496 rfl rfl ?_
          refine xi_iconst (pc' := 499) (v := 1) kc_196_498 rfl rfl ?_
          refine xi_iadd (pc' := 500) (v := 1) kc_196_499 rfl rfl ?_
          refine xi_ialoadO (pc' := 501) (v := 5) kc_196_500 rfl (by decide) hov0 (xi_in (n := 6) (by decide) (by decide)) rfl ?_
          refine xi_aload_n (pc' := 502) (x := 1000000) kc_196_501 rfl rfl ?_
          refine xi_iload (pc' := 504) (x := 0) kc_196_502 rfl rfl ?_
          refine xi_iconst (pc' := 505) (v := 2) kc_196_504 rfl rfl ?_
          refine xi_iadd (pc' := 506) (v := 2) kc_196_505 rfl rfl ?_
          refine xi_ialoadO (pc' := 507) (v := a2) kc_196_506 rfl (by decide) hov0 (xi_in (n := 6) (by decide) (by decide)) rfl ?_
          refine xi_virtual (mj := 26) (as := [.int 5, .int a2]) (st1 := [.int 0]) (lv0 := [(0, .ref 115), (1, .int 5), (2, .int a2)]) kc_196_507 rfl rfl rfl rfl rfl (F 115 _ hl_115) (Nat.le_of_ble_eq_true rfl) (hJ _ _ _ _ (by decide)) (xm_le ml_26 rfl) rfl ?_
          refine xi_aload_n (pc' := 1) (x := 115) kc_26_0 rfl rfl ?_
          refine xi_iconst (pc' := 2) (v := 0) kc_26_1 rfl rfl ?_
          refine xi_putfield (pc' := 5) (fs' := [.int 0, .int 0, .ref 116, .ref 117, .ref 118, .ref 119, .ref 120, .ref 121, .ref 122, .ref 123, .ref 124, .ref 125, .ref 126, .ref 127, .ref 128, .ref 129, .int 4, .ref 130, .int 0, .ref 131, .ref 132, .ref 133, .ref 134, .int 0, .ref 135, .ref 136, .ref 137, .ref 138, .ref 139, .ref 140, .ref 141, .ref 142, .int 0, .int 0, .int 0, .ref 143, .ref 144, .ref 145, .ref 146, .ref 147, .ref 148, .int 0, .ref 149, .ref 150, .ref 151, .int 0, .ref 152, .ref 153, .ref 154, .ref 155, .ref 156, .ref 157, .ref 158, .ref 159, .int 0, .ref 160, .int 0, .ref 161, .ref 162, .ref 163, .ref 164, .int 0, .ref 165, .ref 166]) kc_26_2 rfl rfl rfl (F 115 _ hl_115) rfl rfl rfl (Nat.le_of_ble_eq_true rfl) rfl (fun hh1 eh1 => ?_)
          refine xi_iload_n (pc' := 6) (x := 5) kc_26_5 rfl rfl ?_
          refine xi_static (mj := 25) (as := [.int 5]) (st1 := []) (lv0 := [(0, .int 5)]) kc_26_6 rfl rfl (Nat.le_of_ble_eq_true rfl) rfl rfl (Nat.le_of_ble_eq_true rfl) (hJ _ _ _ _ (by decide)) (xm_le ml_25 rfl) rfl ?_
          refine xi_iload_n (pc' := 1) (x := 5) kc_25_0 rfl rfl ?_
          refine xi_iconst (pc' := 2) (v := 0) kc_25_1 rfl rfl ?_
          refine xi_bipush (pc' := 4) (v := 11) kc_25_2 rfl rfl ?_
          refine xi_static (mj := 12) (as := [.int 5, .int 0, .int 11]) (st1 := []) (lv0 := [(0, .int 5), (1, .int 0), (2, .int 11)]) kc_25_4 rfl rfl (Nat.le_of_ble_eq_true rfl) rfl rfl (Nat.le_of_ble_eq_true rfl) (hJ _ _ _ _ (by decide)) (xm_le ml_12 rfl) rfl ?_
          refine xi_iload_n (pc' := 1) (x := 5) kc_12_0 rfl rfl ?_
          refine xi_iload_n (pc' := 2) (x := 0) kc_12_1 rfl rfl ?_
          refine xi_cmf (pc' := 5) kc_12_2 rfl rfl ?_
          refine xi_iload_n (pc' := 6) (x := 5) kc_12_5 rfl rfl ?_
          refine xi_iload_n (pc' := 7) (x := 11) kc_12_6 rfl rfl ?_
          refine xi_cmf (pc' := 10) kc_12_7 rfl rfl ?_
          refine xi_iconst (pc' := 11) (v := 1) kc_12_10 rfl rfl ?_
          refine xi_goto (pc' := 15) kc_12_11 rfl ?_
          refine xi_ireturn kc_12_15 mr_12 rfl ?_
          show xw J ov 98 25 (7, [(0, .int 5)], [.int 1], hh1) _
          refine xi_ireturn kc_25_7 mr_25 rfl ?_
          show xw J ov 99 26 (9, [(0, .ref 115), (1, .int 5), (2, .int a2)], [.int 1], hh1) _
          refine xi_ift (pc' := 18) kc_26_9 rfl rfl ?_
          refine xi_iload_n (pc' := 19) (x := a2) kc_26_18 rfl rfl ?_
          refine xi_iconst (pc' := 20) (v := 0) kc_26_19 rfl rfl ?_
          refine xi_iconst (pc' := 21) (v := 5) kc_26_20 rfl rfl ?_
          refine xi_static (mj := 12) (as := [.int a2, .int 0, .int 5]) (st1 := []) (lv0 := [(0, .int a2), (1, .int 0), (2, .int 5)]) kc_26_21 rfl rfl (Nat.le_of_ble_eq_true rfl) rfl rfl (Nat.le_of_ble_eq_true rfl) (hJ _ _ _ _ (by decide)) (xm_le ml_12 rfl) rfl ?_
          refine xi_iload_n (pc' := 1) (x := a2) kc_12_0 rfl rfl ?_
          refine xi_iload_n (pc' := 2) (x := 0) kc_12_1 rfl rfl ?_
          refine xi_cmf (pc' := 5) kc_12_2 rfl (xc_lt_f (X := a2.toInt) (Y := 0) rfl (by decide) (by omega)) ?_
          refine xi_iload_n (pc' := 6) (x := a2) kc_12_5 rfl rfl ?_
          refine xi_iload_n (pc' := 7) (x := 5) kc_12_6 rfl rfl ?_
          refine xi_cmf (pc' := 10) kc_12_7 rfl (xc_gt_f (X := a2.toInt) (Y := 5) rfl (by decide) (by omega)) ?_
          refine xi_iconst (pc' := 11) (v := 1) kc_12_10 rfl rfl ?_
          refine xi_goto (pc' := 15) kc_12_11 rfl ?_
          refine xi_ireturn kc_12_15 mr_12 rfl ?_
          show xw J ov 99 26 (24, [(0, .ref 115), (1, .int 5), (2, .int a2)], [.int 1], hh1) _
          refine xi_ift (pc' := 34) kc_26_24 rfl rfl ?_
          refine xi_iload_n (pc' := 35) (x := a2) kc_26_34 rfl rfl ?_
          refine xi_tsd (pc' := 111) kc_26_35 rfl (by omega) ?_
          refine xi_aload_n (pc' := 112) (x := 115) kc_26_111 rfl rfl ?_
          refine xi_getfield (pc' := 115) (v := .ref 125) kc_26_112 rfl rfl rfl eh1.1 rfl ?_
          refine xi_iload_n (pc' := 116) (x := 5) kc_26_115 rfl rfl ?_
          refine xi_iaload (pc' := 117) (v := (-9)) kc_26_116 rfl ((eh1.2.1 125 (by decide)).trans (F 125 _ hl_125)) (by decide) rfl (xi_in (n := 12) (by decide) (by decide)) rfl ?_
          refine xi_iff (pc' := 120) kc_26_117 rfl rfl ?_
          refine xi_iconst (pc' := 121) (v := 0) kc_26_120 rfl rfl ?_
          refine xi_goto (pc' := 133) kc_26_121 rfl ?_
          refine xi_ireturn kc_26_133 mr_26 rfl ?_
          show xw J ov 100 196 (510, [(4, .int 0), (3, .ref 167), (2, .ref 115), (1, .ref 0), (0, .ref 1000000)], [.int 0, .int 0], hh1) _
          refine xi_cmt (pc' := 1528) kc_196_510 rfl rfl ?_
          refine xi_iinc (pc' := 1531) (x := 0) (v := 6) (lv' := [(4, .int 6), (3, .ref 167), (2, .ref 115), (1, .ref 0), (0, .ref 1000000)]) kc_196_1528 rfl rfl rfl rfl (xm_lt ml_196 rfl) ?_
          refine xi_goto (pc' := 23) kc_196_1531 rfl ?_
          refine xi_iload (pc' := 25) (x := 6) kc_196_23 rfl rfl ?_
          refine xi_aload_n (pc' := 26) (x := 1000000) kc_196_25 rfl rfl ?_
          refine xi_arraylength (pc' := 27) (n := 6) (v := 6) kc_196_26 rfl (xl_lenO (by decide) hov0 rfl) rfl ?_
          refine xi_bipush (pc' := 29) (v := 6) kc_196_27 rfl rfl ?_
          refine xi_isub (pc' := 30) (v := 0) kc_196_29 rfl rfl ?_
          refine xi_cmt (pc' := 1534) kc_196_30 rfl rfl ?_
          refine xi_iconst (pc' := 1535) (v := 1) kc_196_1534 rfl rfl ?_
          refine xi_ireturn kc_196_1535 mr_196 rfl ?_
          refine ⟨rfl, ?_, ?_⟩
          · rw [eh1.2.2.1]; exact hn0
          · rw [eh1.2.2.2]; exact hz0
        refine xi_tsd (pc' := 115) kc_107_24 rfl (by omega) ?_
        refine xi_aload_n (pc' := 116) (x := 0) kc_107_115 rfl rfl ?_
        refine xi_bipush (pc' := 118) (v := (-2)) kc_107_116 rfl rfl ?_
        refine xi_virtual (mj := 91) (as := [.int (-2)]) (st1 := []) (lv0 := [(0, .ref 0), (1, .int (-2))]) kc_107_118 rfl rfl rfl rfl rfl (F 0 _ hl_0) (Nat.le_of_ble_eq_true rfl) (hJ _ _ _ _ (by decide)) (xm_le ml_91 rfl) rfl ?_
        refine xi_iload_n (pc' := 1) (x := (-2)) kc_91_0 rfl rfl ?_
        refine xi_ineg (pc' := 2) (v := 2) kc_91_1 rfl rfl ?_
        refine xi_istore_n (pc' := 3) (lv' := [(2, .int 2), (0, .ref 0), (1, .int (-2))]) kc_91_2 rfl rfl (xm_lt ml_91 rfl) ?_
        refine xi_iload_n (pc' := 4) (x := 2) kc_91_3 rfl rfl ?_
        refine xi_iff (pc' := 7) kc_91_4 rfl rfl ?_
        refine xi_iload_n (pc' := 8) (x := 2) kc_91_7 rfl rfl ?_
        refine xi_aload_n (pc' := 9) (x := 0) kc_91_8 rfl rfl ?_
        refine xi_getfield (pc' := 12) (v := .ref 94) kc_91_9 rfl rfl rfl (F 0 _ hl_0) rfl ?_
        refine xi_arraylength (pc' := 13) (n := 7) (v := 7) kc_91_12 rfl (xl_lenI (by decide) (by decide) (F 94 _ hl_94) (by simp only [List.length_replicate, List.length_cons, List.length_nil])) rfl ?_
        refine xi_cmf (pc' := 16) kc_91_13 rfl rfl ?_
        refine xi_aload_n (pc' := 17) (x := 0) kc_91_16 rfl rfl ?_
        refine xi_getfield (pc' := 20) (v := .ref 94) kc_91_17 rfl rfl rfl (F 0 _ hl_0) rfl ?_
        refine xi_iload_n (pc' := 21) (x := 2) kc_91_20 rfl rfl ?_
        refine xi_dup2 (pc' := 22) kc_91_21 rfl ⟨rfl, rfl⟩ ?_
        refine xi_iaload (pc' := 23) (v := 0) kc_91_22 rfl (F 94 _ hl_94) (by decide) rfl (xi_in (n := 7) (by decide) (by decide)) rfl ?_
        refine xi_iconst (pc' := 24) (v := 1) kc_91_23 rfl rfl ?_
        refine xi_iadd (pc' := 25) (v := 1) kc_91_24 rfl rfl ?_
        refine xi_iastore (pc' := 26) (x' := [0, 0, 1, 0, 0, 0, 0]) kc_91_25 rfl (F 94 _ hl_94) rfl (xi_in (n := 7) (by decide) (by decide)) rfl (fun hh1 eh1 => ?_)
        refine xi_iload_n (pc' := 27) (x := (-2)) kc_91_26 rfl rfl ?_
        refine xi_ireturn kc_91_27 mr_91 rfl ?_
        show xw J ov 99 107 (121, [(3, .ref 39), (0, .ref 0), (1, .int 5), (2, .int a2)], [.int (-2)], hh1) _
        refine xi_ireturn kc_107_121 mr_107 rfl ?_
        show xw J ov 100 196 (494, [(4, .int 0), (3, .ref 167), (2, .ref 115), (1, .ref 0), (0, .ref 1000000)], [.int (-2)], hh1) _
        refine xi_aload_n (pc' := 495) (x := 115) kc_196_494 rfl rfl ?_
        refine xi_aload_n (pc' := 496) (x := 1000000) kc_196_495 rfl rfl ?_
        refine xi_iload (pc' := 498) (x := 0) kc_196_496 rfl rfl ?_
        refine xi_iconst (pc' := 499) (v := 1) kc_196_498 rfl rfl ?_
        refine xi_iadd (pc' := 500) (v := 1) kc_196_499 rfl rfl ?_
        refine xi_ialoadO (pc' := 501) (v := 5) kc_196_500 rfl (by decide) hov0 (xi_in (n := 6) (by decide) (by decide)) rfl ?_
        refine xi_aload_n (pc' := 502) (x := 1000000) kc_196_501 rfl rfl ?_
        refine xi_iload (pc' := 504) (x := 0) kc_196_502 rfl rfl ?_
        refine xi_iconst (pc' := 505) (v := 2) kc_196_504 rfl rfl ?_
        refine xi_iadd (pc' := 506) (v := 2) kc_196_505 rfl rfl ?_
        refine xi_ialoadO (pc' := 507) (v := a2) kc_196_506 rfl (by decide) hov0 (xi_in (n := 6) (by decide) (by decide)) rfl ?_
        refine xi_virtual (mj := 26) (as := [.int 5, .int a2]) (st1 := [.int (-2)]) (lv0 := [(0, .ref 115), (1, .int 5), (2, .int a2)]) kc_196_507 rfl rfl rfl rfl rfl ((eh1.2.1 115 (by decide)).trans (F 115 _ hl_115)) (Nat.le_of_ble_eq_true rfl) (hJ _ _ _ _ (by decide)) (xm_le ml_26 rfl) rfl ?_
        refine xi_aload_n (pc' := 1) (x := 115) kc_26_0 rfl rfl ?_
        refine xi_iconst (pc' := 2) (v := 0) kc_26_1 rfl rfl ?_
        refine xi_putfield (pc' := 5) (fs' := [.int 0, .int 0, .ref 116, .ref 117, .ref 118, .ref 119, .ref 120, .ref 121, .ref 122, .ref 123, .ref 124, .ref 125, .ref 126, .ref 127, .ref 128, .ref 129, .int 4, .ref 130, .int 0, .ref 131, .ref 132, .ref 133, .ref 134, .int 0, .ref 135, .ref 136, .ref 137, .ref 138, .ref 139, .ref 140, .ref 141, .ref 142, .int 0, .int 0, .int 0, .ref 143, .ref 144, .ref 145, .ref 146, .ref 147, .ref 148, .int 0, .ref 149, .ref 150, .ref 151, .int 0, .ref 152, .ref 153, .ref 154, .ref 155, .ref 156, .ref 157, .ref 158, .ref 159, .int 0, .ref 160, .int 0, .ref 161, .ref 162, .ref 163, .ref 164, .int 0, .ref 165, .ref 166]) kc_26_2 rfl rfl rfl ((eh1.2.1 115 (by decide)).trans (F 115 _ hl_115)) rfl rfl rfl (Nat.le_of_ble_eq_true rfl) rfl (fun hh2 eh2 => ?_)
        refine xi_iload_n (pc' := 6) (x := 5) kc_26_5 rfl rfl ?_
        refine xi_static (mj := 25) (as := [.int 5]) (st1 := []) (lv0 := [(0, .int 5)]) kc_26_6 rfl rfl (Nat.le_of_ble_eq_true rfl) rfl rfl (Nat.le_of_ble_eq_true rfl) (hJ _ _ _ _ (by decide)) (xm_le ml_25 rfl) rfl ?_
        refine xi_iload_n (pc' := 1) (x := 5) kc_25_0 rfl rfl ?_
        refine xi_iconst (pc' := 2) (v := 0) kc_25_1 rfl rfl ?_
        refine xi_bipush (pc' := 4) (v := 11) kc_25_2 rfl rfl ?_
        refine xi_static (mj := 12) (as := [.int 5, .int 0, .int 11]) (st1 := []) (lv0 := [(0, .int 5), (1, .int 0), (2, .int 11)]) kc_25_4 rfl rfl (Nat.le_of_ble_eq_true rfl) rfl rfl (Nat.le_of_ble_eq_true rfl) (hJ _ _ _ _ (by decide)) (xm_le ml_12 rfl) rfl ?_
        refine xi_iload_n (pc' := 1) (x := 5) kc_12_0 rfl rfl ?_
        refine xi_iload_n (pc' := 2) (x := 0) kc_12_1 rfl rfl ?_
        refine xi_cmf (pc' := 5) kc_12_2 rfl rfl ?_
        refine xi_iload_n (pc' := 6) (x := 5) kc_12_5 rfl rfl ?_
        refine xi_iload_n (pc' := 7) (x := 11) kc_12_6 rfl rfl ?_
        refine xi_cmf (pc' := 10) kc_12_7 rfl rfl ?_
        refine xi_iconst (pc' := 11) (v := 1) kc_12_10 rfl rfl ?_
        refine xi_goto (pc' := 15) kc_12_11 rfl ?_
        refine xi_ireturn kc_12_15 mr_12 rfl ?_
        show xw J ov 98 25 (7, [(0, .int 5)], [.int 1], hh2) _
        refine xi_ireturn kc_25_7 mr_25 rfl ?_
        show xw J ov 99 26 (9, [(0, .ref 115), (1, .int 5), (2, .int a2)], [.int 1], hh2) _
        refine xi_ift (pc' := 18) kc_26_9 rfl rfl ?_
        refine xi_iload_n (pc' := 19) (x := a2) kc_26_18 rfl rfl ?_
        refine xi_iconst (pc' := 20) (v := 0) kc_26_19 rfl rfl ?_
        refine xi_iconst (pc' := 21) (v := 5) kc_26_20 rfl rfl ?_
        refine xi_static (mj := 12) (as := [.int a2, .int 0, .int 5]) (st1 := []) (lv0 := [(0, .int a2), (1, .int 0), (2, .int 5)]) kc_26_21 rfl rfl (Nat.le_of_ble_eq_true rfl) rfl rfl (Nat.le_of_ble_eq_true rfl) (hJ _ _ _ _ (by decide)) (xm_le ml_12 rfl) rfl ?_
        refine xi_iload_n (pc' := 1) (x := a2) kc_12_0 rfl rfl ?_
        refine xi_iload_n (pc' := 2) (x := 0) kc_12_1 rfl rfl ?_
        by_cases c50 : a2.toInt < 0
        · refine xi_cmt (pc' := 14) kc_12_2 rfl (xc_lt_t (X := a2.toInt) (Y := 0) rfl (by decide) (by omega)) ?_
          refine xi_iconst (pc' := 15) (v := 0) kc_12_14 rfl rfl ?_
          refine xi_ireturn kc_12_15 mr_12 rfl ?_
          show xw J ov 99 26 (24, [(0, .ref 115), (1, .int 5), (2, .int a2)], [.int 0], hh2) _
          refine xi_iff (pc' := 27) kc_26_24 rfl rfl ?_
          refine xi_aload_n (pc' := 28) (x := 115) kc_26_27 rfl rfl ?_
          refine xi_bipush (pc' := 30) (v := (-2)) kc_26_28 rfl rfl ?_
          refine xi_virtual (mj := 13) (as := [.int (-2)]) (st1 := []) (lv0 := [(0, .ref 115), (1, .int (-2))]) kc_26_30 rfl rfl rfl rfl rfl eh2.1 (Nat.le_of_ble_eq_true rfl) (hJ _ _ _ _ (by decide)) (xm_le ml_13 rfl) rfl ?_
          refine xi_aload_n (pc' := 1) (x := 115) kc_13_0 rfl rfl ?_
          refine xi_getfield (pc' := 4) (v := .ref 140) kc_13_1 rfl rfl rfl eh2.1 rfl ?_
          refine xi_iload_n (pc' := 5) (x := (-2)) kc_13_4 rfl rfl ?_
          refine xi_ineg (pc' := 6) (v := 2) kc_13_5 rfl rfl ?_
          refine xi_dup2 (pc' := 7) kc_13_6 rfl ⟨rfl, rfl⟩ ?_
          refine xi_iaload (pc' := 8) (v := 0) kc_13_7 rfl ((eh2.2.1 140 (by decide)).trans ((eh1.2.1 140 (by decide)).trans (F 140 _ hl_140))) (by decide) rfl (xi_in (n := 7) (by decide) (by decide)) rfl ?_
          refine xi_iconst (pc' := 9) (v := 1) kc_13_8 rfl rfl ?_
          refine xi_iadd (pc' := 10) (v := 1) kc_13_9 rfl rfl ?_
          refine xi_iastore (pc' := 11) (x' := [0, 0, 1, 0, 0, 0, 0]) kc_13_10 rfl ((eh2.2.1 140 (by decide)).trans ((eh1.2.1 140 (by decide)).trans (F 140 _ hl_140))) rfl (xi_in (n := 7) (by decide) (by decide)) rfl (fun hh3 eh3 => ?_)
          refine xi_iload_n (pc' := 12) (x := (-2)) kc_13_11 rfl rfl ?_
          refine xi_ireturn kc_13_12 mr_13 rfl ?_
          show xw J ov 99 26 (33, [(0, .ref 115), (1, .int 5), (2, .int a2)], [.int (-2)], hh3) _
          refine xi_ireturn kc_26_33 mr_26 rfl ?_
          show xw J ov 100 196 (510, [(4, .int 0), (3, .ref 167), (2, .ref 115), (1, .ref 0), (0, .ref 1000000)], [.int (-2), .int (-2)], hh3) _
          refine xi_cmt (pc' := 1528) kc_196_510 rfl rfl ?_
          refine xi_iinc (pc' := 1531) (x := 0) (v := 6) (lv' := [(4, .int 6), (3, .ref 167), (2, .ref 115), (1, .ref 0), (0, .ref 1000000)]) kc_196_1528 rfl rfl rfl rfl (xm_lt ml_196 rfl) ?_
          refine xi_goto (pc' := 23) kc_196_1531 rfl ?_
          refine xi_iload (pc' := 25) (x := 6) kc_196_23 rfl rfl ?_
          refine xi_aload_n (pc' := 26) (x := 1000000) kc_196_25 rfl rfl ?_
          refine xi_arraylength (pc' := 27) (n := 6) (v := 6) kc_196_26 rfl (xl_lenO (by decide) hov0 rfl) rfl ?_
          refine xi_bipush (pc' := 29) (v := 6) kc_196_27 rfl rfl ?_
          refine xi_isub (pc' := 30) (v := 0) kc_196_29 rfl rfl ?_
          refine xi_cmt (pc' := 1534) kc_196_30 rfl rfl ?_
          refine xi_iconst (pc' := 1535) (v := 1) kc_196_1534 rfl rfl ?_
          refine xi_ireturn kc_196_1535 mr_196 rfl ?_
          refine ⟨rfl, ?_, ?_⟩
          · rw [eh3.2.2.1, eh2.2.2.1, eh1.2.2.1]; exact hn0
          · rw [eh3.2.2.2, eh2.2.2.2, eh1.2.2.2]; exact hz0
        · refine xi_cmf (pc' := 5) kc_12_2 rfl (xc_lt_f (X := a2.toInt) (Y := 0) rfl (by decide) (by omega)) ?_
          refine xi_iload_n (pc' := 6) (x := a2) kc_12_5 rfl rfl ?_
          refine xi_iload_n (pc' := 7) (x := 5) kc_12_6 rfl rfl ?_
          refine xi_cmt (pc' := 14) kc_12_7 rfl (xc_gt_t (X := a2.toInt) (Y := 5) rfl (by decide) (by omega)) ?_
          refine xi_iconst (pc' := 15) (v := 0) kc_12_14 rfl rfl ?_
          refine xi_ireturn kc_12_15 mr_12 rfl ?_
          show xw J ov 99 26 (24, [(0, .ref 115), (1, .int 5), (2, .int a2)], [.int 0], hh2) _
          refine xi_iff (pc' := 27) kc_26_24 rfl rfl ?_
          refine xi_aload_n (pc' := 28) (x := 115) kc_26_27 rfl rfl ?_
          refine xi_bipush (pc' := 30) (v := (-2)) kc_26_28 rfl rfl ?_
          refine xi_virtual (mj := 13) (as := [.int (-2)]) (st1 := []) (lv0 := [(0, .ref 115), (1, .int (-2))]) kc_26_30 rfl rfl rfl rfl rfl eh2.1 (Nat.le_of_ble_eq_true rfl) (hJ _ _ _ _ (by decide)) (xm_le ml_13 rfl) rfl ?_
          refine xi_aload_n (pc' := 1) (x := 115) kc_13_0 rfl rfl ?_
          refine xi_getfield (pc' := 4) (v := .ref 140) kc_13_1 rfl rfl rfl eh2.1 rfl ?_
          refine xi_iload_n (pc' := 5) (x := (-2)) kc_13_4 rfl rfl ?_
          refine xi_ineg (pc' := 6) (v := 2) kc_13_5 rfl rfl ?_
          refine xi_dup2 (pc' := 7) kc_13_6 rfl ⟨rfl, rfl⟩ ?_
          refine xi_iaload (pc' := 8) (v := 0) kc_13_7 rfl ((eh2.2.1 140 (by decide)).trans ((eh1.2.1 140 (by decide)).trans (F 140 _ hl_140))) (by decide) rfl (xi_in (n := 7) (by decide) (by decide)) rfl ?_
          refine xi_iconst (pc' := 9) (v := 1) kc_13_8 rfl rfl ?_
          refine xi_iadd (pc' := 10) (v := 1) kc_13_9 rfl rfl ?_
          refine xi_iastore (pc' := 11) (x' := [0, 0, 1, 0, 0, 0, 0]) kc_13_10 rfl ((eh2.2.1 140 (by decide)).trans ((eh1.2.1 140 (by decide)).trans (F 140 _ hl_140))) rfl (xi_in (n := 7) (by decide) (by decide)) rfl (fun hh3 eh3 => ?_)
          refine xi_iload_n (pc' := 12) (x := (-2)) kc_13_11 rfl rfl ?_
          refine xi_ireturn kc_13_12 mr_13 rfl ?_
          show xw J ov 99 26 (33, [(0, .ref 115), (1, .int 5), (2, .int a2)], [.int (-2)], hh3) _
          refine xi_ireturn kc_26_33 mr_26 rfl ?_
          show xw J ov 100 196 (510, [(4, .int 0), (3, .ref 167), (2, .ref 115), (1, .ref 0), (0, .ref 1000000)], [.int (-2), .int (-2)], hh3) _
          refine xi_cmt (pc' := 1528) kc_196_510 rfl rfl ?_
          refine xi_iinc (pc' := 1531) (x := 0) (v := 6) (lv' := [(4, .int 6), (3, .ref 167), (2, .ref 115), (1, .ref 0), (0, .ref 1000000)]) kc_196_1528 rfl rfl rfl rfl (xm_lt ml_196 rfl) ?_
          refine xi_goto (pc' := 23) kc_196_1531 rfl ?_
          refine xi_iload (pc' := 25) (x := 6) kc_196_23 rfl rfl ?_
          refine xi_aload_n (pc' := 26) (x := 1000000) kc_196_25 rfl rfl ?_
          refine xi_arraylength (pc' := 27) (n := 6) (v := 6) kc_196_26 rfl (xl_lenO (by decide) hov0 rfl) rfl ?_
          refine xi_bipush (pc' := 29) (v := 6) kc_196_27 rfl rfl ?_
          refine xi_isub (pc' := 30) (v := 0) kc_196_29 rfl rfl ?_
          refine xi_cmt (pc' := 1534) kc_196_30 rfl rfl ?_
          refine xi_iconst (pc' := 1535) (v := 1) kc_196_1534 rfl rfl ?_
          refine xi_ireturn kc_196_1535 mr_196 rfl ?_
          refine ⟨rfl, ?_, ?_⟩
          · rw [eh3.2.2.1, eh2.2.2.1, eh1.2.2.1]; exact hn0
          · rw [eh3.2.2.2, eh2.2.2.2, eh1.2.2.2]; exact hz0
      by_cases c51 : a1.toInt = 6
      · have qa1 : a1 = 6 := xc_of (Eq.trans (by omega) (show (6 : Int) = (6 : Int32).toInt by decide))
        subst qa1
        refine xi_aaload (pc' := 22) (b := 41) kc_107_21 rfl (F 3 _ hl_3) rfl (xi_in (n := 12) (by decide) (by decide)) rfl ?_
        refine xi_astore_n (pc' := 23) (lv' := [(3, .ref 41), (0, .ref 0), (1, .int 6), (2, .int a2)]) kc_107_22 rfl rfl (xm_lt ml_107 rfl) ?_
        refine xi_iload_n (pc' := 24) (x := a2) kc_107_23 rfl rfl ?_
        by_cases c52 : a2.toInt = 0
        · refine xi_tsi (pc' := 64) (z := 0) kc_107_24 (by omega) rfl (by decide) ?_
          refine xi_aload_n (pc' := 65) (x := 41) kc_107_64 rfl rfl ?_
          refine xi_getfield (pc' := 68) (v := .int (-9)) kc_107_65 rfl rfl rfl (F 41 _ hl_41) rfl ?_
          refine xi_ireturn kc_107_68 mr_107 rfl ?_
          show xw J ov 100 196 (494, [(4, .int 0), (3, .ref 167), (2, .ref 115), (1, .ref 0), (0, .ref 1000000)], [.int (-9)], h0) _
          refine xi_aload_n (pc' := 495) (x := 115) kc_196_494 rfl rfl ?_
          refine xi_aload_n (pc' := 496) (x := 1000000) kc_196_495 rfl rfl ?_
          refine xi_iload (pc' := 498) (x := 0) kc_196_496 rfl rfl ?_
          refine xi_iconst (pc' := 499) (v := 1) kc_196_498 rfl rfl ?_
          refine xi_iadd (pc' := 500) (v := 1) kc_196_499 rfl rfl ?_
          refine xi_ialoadO (pc' := 501) (v := 6) kc_196_500 rfl (by decide) hov0 (xi_in (n := 6) (by decide) (by decide)) rfl ?_
          refine xi_aload_n (pc' := 502) (x := 1000000) kc_196_501 rfl rfl ?_
          refine xi_iload (pc' := 504) (x := 0) kc_196_502 rfl rfl ?_
          refine xi_iconst (pc' := 505) (v := 2) kc_196_504 rfl rfl ?_
          refine xi_iadd (pc' := 506) (v := 2) kc_196_505 rfl rfl ?_
          refine xi_ialoadO (pc' := 507) (v := a2) kc_196_506 rfl (by decide) hov0 (xi_in (n := 6) (by decide) (by decide)) rfl ?_
          refine xi_virtual (mj := 26) (as := [.int 6, .int a2]) (st1 := [.int (-9)]) (lv0 := [(0, .ref 115), (1, .int 6), (2, .int a2)]) kc_196_507 rfl rfl rfl rfl rfl (F 115 _ hl_115) (Nat.le_of_ble_eq_true rfl) (hJ _ _ _ _ (by decide)) (xm_le ml_26 rfl) rfl ?_
          refine xi_aload_n (pc' := 1) (x := 115) kc_26_0 rfl rfl ?_
          refine xi_iconst (pc' := 2) (v := 0) kc_26_1 rfl rfl ?_
          refine xi_putfield (pc' := 5) (fs' := [.int 0, .int 0, .ref 116, .ref 117, .ref 118, .ref 119, .ref 120, .ref 121, .ref 122, .ref 123, .ref 124, .ref 125, .ref 126, .ref 127, .ref 128, .ref 129, .int 4, .ref 130, .int 0, .ref 131, .ref 132, .ref 133, .ref 134, .int 0, .ref 135, .ref 136, .ref 137, .ref 138, .ref 139, .ref 140, .ref 141, .ref 142, .int 0, .int 0, .int 0, .ref 143, .ref 144, .ref 145, .ref 146, .ref 147, .ref 148, .int 0, .ref 149, .ref 150, .ref 151, .int 0, .ref 152, .ref 153, .ref 154, .ref 155, .ref 156, .ref 157, .ref 158, .ref 159, .int 0, .ref 160, .int 0, .ref 161, .ref 162, .ref 163, .ref 164, .int 0, .ref 165, .ref 166]) kc_26_2 rfl rfl rfl (F 115 _ hl_115) rfl rfl rfl (Nat.le_of_ble_eq_true rfl) rfl (fun hh1 eh1 => ?_)
          refine xi_iload_n (pc' := 6) (x := 6) kc_26_5 rfl rfl ?_
          refine xi_static (mj := 25) (as := [.int 6]) (st1 := []) (lv0 := [(0, .int 6)]) kc_26_6 rfl rfl (Nat.le_of_ble_eq_true rfl) rfl rfl (Nat.le_of_ble_eq_true rfl) (hJ _ _ _ _ (by decide)) (xm_le ml_25 rfl) rfl ?_
          refine xi_iload_n (pc' := 1) (x := 6) kc_25_0 rfl rfl ?_
          refine xi_iconst (pc' := 2) (v := 0) kc_25_1 rfl rfl ?_
          refine xi_bipush (pc' := 4) (v := 11) kc_25_2 rfl rfl ?_
          refine xi_static (mj := 12) (as := [.int 6, .int 0, .int 11]) (st1 := []) (lv0 := [(0, .int 6), (1, .int 0), (2, .int 11)]) kc_25_4 rfl rfl (Nat.le_of_ble_eq_true rfl) rfl rfl (Nat.le_of_ble_eq_true rfl) (hJ _ _ _ _ (by decide)) (xm_le ml_12 rfl) rfl ?_
          refine xi_iload_n (pc' := 1) (x := 6) kc_12_0 rfl rfl ?_
          refine xi_iload_n (pc' := 2) (x := 0) kc_12_1 rfl rfl ?_
          refine xi_cmf (pc' := 5) kc_12_2 rfl rfl ?_
          refine xi_iload_n (pc' := 6) (x := 6) kc_12_5 rfl rfl ?_
          refine xi_iload_n (pc' := 7) (x := 11) kc_12_6 rfl rfl ?_
          refine xi_cmf (pc' := 10) kc_12_7 rfl rfl ?_
          refine xi_iconst (pc' := 11) (v := 1) kc_12_10 rfl rfl ?_
          refine xi_goto (pc' := 15) kc_12_11 rfl ?_
          refine xi_ireturn kc_12_15 mr_12 rfl ?_
          show xw J ov 98 25 (7, [(0, .int 6)], [.int 1], hh1) _
          refine xi_ireturn kc_25_7 mr_25 rfl ?_
          show xw J ov 99 26 (9, [(0, .ref 115), (1, .int 6), (2, .int a2)], [.int 1], hh1) _
          refine xi_ift (pc' := 18) kc_26_9 rfl rfl ?_
          refine xi_iload_n (pc' := 19) (x := a2) kc_26_18 rfl rfl ?_
          refine xi_iconst (pc' := 20) (v := 0) kc_26_19 rfl rfl ?_
          refine xi_iconst (pc' := 21) (v := 5) kc_26_20 rfl rfl ?_
          refine xi_static (mj := 12) (as := [.int a2, .int 0, .int 5]) (st1 := []) (lv0 := [(0, .int a2), (1, .int 0), (2, .int 5)]) kc_26_21 rfl rfl (Nat.le_of_ble_eq_true rfl) rfl rfl (Nat.le_of_ble_eq_true rfl) (hJ _ _ _ _ (by decide)) (xm_le ml_12 rfl) rfl ?_
          refine xi_iload_n (pc' := 1) (x := a2) kc_12_0 rfl rfl ?_
          refine xi_iload_n (pc' := 2) (x := 0) kc_12_1 rfl rfl ?_
          refine xi_cmf (pc' := 5) kc_12_2 rfl (xc_lt_f (X := a2.toInt) (Y := 0) rfl (by decide) (by omega)) ?_
          refine xi_iload_n (pc' := 6) (x := a2) kc_12_5 rfl rfl ?_
          refine xi_iload_n (pc' := 7) (x := 5) kc_12_6 rfl rfl ?_
          refine xi_cmf (pc' := 10) kc_12_7 rfl (xc_gt_f (X := a2.toInt) (Y := 5) rfl (by decide) (by omega)) ?_
          refine xi_iconst (pc' := 11) (v := 1) kc_12_10 rfl rfl ?_
          refine xi_goto (pc' := 15) kc_12_11 rfl ?_
          refine xi_ireturn kc_12_15 mr_12 rfl ?_
          show xw J ov 99 26 (24, [(0, .ref 115), (1, .int 6), (2, .int a2)], [.int 1], hh1) _
          refine xi_ift (pc' := 34) kc_26_24 rfl rfl ?_
          refine xi_iload_n (pc' := 35) (x := a2) kc_26_34 rfl rfl ?_
          refine xi_tsi (pc' := 68) (z := 0) kc_26_35 (by omega) rfl (by decide) ?_
          refine xi_aload_n (pc' := 69) (x := 115) kc_26_68 rfl rfl ?_
          refine xi_getfield (pc' := 72) (v := .ref 125) kc_26_69 rfl rfl rfl eh1.1 rfl ?_
          refine xi_iload_n (pc' := 73) (x := 6) kc_26_72 rfl rfl ?_
          refine xi_iaload (pc' := 74) (v := (-9)) kc_26_73 rfl ((eh1.2.1 125 (by decide)).trans (F 125 _ hl_125)) (by decide) rfl (xi_in (n := 12) (by decide) (by decide)) rfl ?_
          refine xi_ireturn kc_26_74 mr_26 rfl ?_
          show xw J ov 100 196 (510, [(4, .int 0), (3, .ref 167), (2, .ref 115), (1, .ref 0), (0, .ref 1000000)], [.int (-9), .int (-9)], hh1) _
          refine xi_cmt (pc' := 1528) kc_196_510 rfl rfl ?_
          refine xi_iinc (pc' := 1531) (x := 0) (v := 6) (lv' := [(4, .int 6), (3, .ref 167), (2, .ref 115), (1, .ref 0), (0, .ref 1000000)]) kc_196_1528 rfl rfl rfl rfl (xm_lt ml_196 rfl) ?_
          refine xi_goto (pc' := 23) kc_196_1531 rfl ?_
          refine xi_iload (pc' := 25) (x := 6) kc_196_23 rfl rfl ?_
          refine xi_aload_n (pc' := 26) (x := 1000000) kc_196_25 rfl rfl ?_
          refine xi_arraylength (pc' := 27) (n := 6) (v := 6) kc_196_26 rfl (xl_lenO (by decide) hov0 rfl) rfl ?_
          refine xi_bipush (pc' := 29) (v := 6) kc_196_27 rfl rfl ?_
          refine xi_isub (pc' := 30) (v := 0) kc_196_29 rfl rfl ?_
          refine xi_cmt (pc' := 1534) kc_196_30 rfl rfl ?_
          refine xi_iconst (pc' := 1535) (v := 1) kc_196_1534 rfl rfl ?_
          refine xi_ireturn kc_196_1535 mr_196 rfl ?_
          refine ⟨rfl, ?_, ?_⟩
          · rw [eh1.2.2.1]; exact hn0
          · rw [eh1.2.2.2]; exact hz0
        by_cases c53 : a2.toInt = 1
        · refine xi_tsi (pc' := 69) (z := 1) kc_107_24 (by omega) rfl (by decide) ?_
          refine xi_aload_n (pc' := 70) (x := 41) kc_107_69 rfl rfl ?_
          refine xi_getfield (pc' := 73) (v := .int 0) kc_107_70 rfl rfl rfl (F 41 _ hl_41) rfl ?_
          refine xi_ireturn kc_107_73 mr_107 rfl ?_
          show xw J ov 100 196 (494, [(4, .int 0), (3, .ref 167), (2, .ref 115), (1, .ref 0), (0, .ref 1000000)], [.int 0], h0) _
          refine xi_aload_n (pc' := 495) (x := 115) kc_196_494 rfl rfl ?_
          refine xi_aload_n (pc' := 496) (x := 1000000) kc_196_495 rfl rfl ?_
          refine xi_iload (pc' := 498) (x := 0) kc_196_496 rfl rfl ?_
          refine xi_iconst (pc' := 499) (v := 1) kc_196_498 rfl rfl ?_
          refine xi_iadd (pc' := 500) (v := 1) kc_196_499 rfl rfl ?_
          refine xi_ialoadO (pc' := 501) (v := 6) kc_196_500 rfl (by decide) hov0 (xi_in (n := 6) (by decide) (by decide)) rfl ?_
          refine xi_aload_n (pc' := 502) (x := 1000000) kc_196_501 rfl rfl ?_
          refine xi_iload (pc' := 504) (x := 0) kc_196_502 rfl rfl ?_
          refine xi_iconst (pc' := 505) (v := 2) kc_196_504 rfl rfl ?_
          refine xi_iadd (pc' := 506) (v := 2) kc_196_505 rfl rfl ?_
          refine xi_ialoadO (pc' := 507) (v := a2) kc_196_506 rfl (by decide) hov0 (xi_in (n := 6) (by decide) (by decide)) rfl ?_
          refine xi_virtual (mj := 26) (as := [.int 6, .int a2]) (st1 := [.int 0]) (lv0 := [(0, .ref 115), (1, .int 6), (2, .int a2)]) kc_196_507 rfl rfl rfl rfl rfl (F 115 _ hl_115) (Nat.le_of_ble_eq_true rfl) (hJ _ _ _ _ (by decide)) (xm_le ml_26 rfl) rfl ?_
          refine xi_aload_n (pc' := 1) (x := 115) kc_26_0 rfl rfl ?_
          refine xi_iconst (pc' := 2) (v := 0) kc_26_1 rfl rfl ?_
          refine xi_putfield (pc' := 5) (fs' := [.int 0, .int 0, .ref 116, .ref 117, .ref 118, .ref 119, .ref 120, .ref 121, .ref 122, .ref 123, .ref 124, .ref 125, .ref 126, .ref 127, .ref 128, .ref 129, .int 4, .ref 130, .int 0, .ref 131, .ref 132, .ref 133, .ref 134, .int 0, .ref 135, .ref 136, .ref 137, .ref 138, .ref 139, .ref 140, .ref 141, .ref 142, .int 0, .int 0, .int 0, .ref 143, .ref 144, .ref 145, .ref 146, .ref 147, .ref 148, .int 0, .ref 149, .ref 150, .ref 151, .int 0, .ref 152, .ref 153, .ref 154, .ref 155, .ref 156, .ref 157, .ref 158, .ref 159, .int 0, .ref 160, .int 0, .ref 161, .ref 162, .ref 163, .ref 164, .int 0, .ref 165, .ref 166]) kc_26_2 rfl rfl rfl (F 115 _ hl_115) rfl rfl rfl (Nat.le_of_ble_eq_true rfl) rfl (fun hh1 eh1 => ?_)
          refine xi_iload_n (pc' := 6) (x := 6) kc_26_5 rfl rfl ?_
          refine xi_static (mj := 25) (as := [.int 6]) (st1 := []) (lv0 := [(0, .int 6)]) kc_26_6 rfl rfl (Nat.le_of_ble_eq_true rfl) rfl rfl (Nat.le_of_ble_eq_true rfl) (hJ _ _ _ _ (by decide)) (xm_le ml_25 rfl) rfl ?_
          refine xi_iload_n (pc' := 1) (x := 6) kc_25_0 rfl rfl ?_
          refine xi_iconst (pc' := 2) (v := 0) kc_25_1 rfl rfl ?_
          refine xi_bipush (pc' := 4) (v := 11) kc_25_2 rfl rfl ?_
          refine xi_static (mj := 12) (as := [.int 6, .int 0, .int 11]) (st1 := []) (lv0 := [(0, .int 6), (1, .int 0), (2, .int 11)]) kc_25_4 rfl rfl (Nat.le_of_ble_eq_true rfl) rfl rfl (Nat.le_of_ble_eq_true rfl) (hJ _ _ _ _ (by decide)) (xm_le ml_12 rfl) rfl ?_
          refine xi_iload_n (pc' := 1) (x := 6) kc_12_0 rfl rfl ?_
          refine xi_iload_n (pc' := 2) (x := 0) kc_12_1 rfl rfl ?_
          refine xi_cmf (pc' := 5) kc_12_2 rfl rfl ?_
          refine xi_iload_n (pc' := 6) (x := 6) kc_12_5 rfl rfl ?_
          refine xi_iload_n (pc' := 7) (x := 11) kc_12_6 rfl rfl ?_
          refine xi_cmf (pc' := 10) kc_12_7 rfl rfl ?_
          refine xi_iconst (pc' := 11) (v := 1) kc_12_10 rfl rfl ?_
          refine xi_goto (pc' := 15) kc_12_11 rfl ?_
          refine xi_ireturn kc_12_15 mr_12 rfl ?_
          show xw J ov 98 25 (7, [(0, .int 6)], [.int 1], hh1) _
          refine xi_ireturn kc_25_7 mr_25 rfl ?_
          show xw J ov 99 26 (9, [(0, .ref 115), (1, .int 6), (2, .int a2)], [.int 1], hh1) _
          refine xi_ift (pc' := 18) kc_26_9 rfl rfl ?_
          refine xi_iload_n (pc' := 19) (x := a2) kc_26_18 rfl rfl ?_
          refine xi_iconst (pc' := 20) (v := 0) kc_26_19 rfl rfl ?_
          refine xi_iconst (pc' := 21) (v := 5) kc_26_20 rfl rfl ?_
          refine xi_static (mj := 12) (as := [.int a2, .int 0, .int 5]) (st1 := []) (lv0 := [(0, .int a2), (1, .int 0), (2, .int 5)]) kc_26_21 rfl rfl (Nat.le_of_ble_eq_true rfl) rfl rfl (Nat.le_of_ble_eq_true rfl) (hJ _ _ _ _ (by decide)) (xm_le ml_12 rfl) rfl ?_
          refine xi_iload_n (pc' := 1) (x := a2) kc_12_0 rfl rfl ?_
          refine xi_iload_n (pc' := 2) (x := 0) kc_12_1 rfl rfl ?_
          refine xi_cmf (pc' := 5) kc_12_2 rfl (xc_lt_f (X := a2.toInt) (Y := 0) rfl (by decide) (by omega)) ?_
          refine xi_iload_n (pc' := 6) (x := a2) kc_12_5 rfl rfl ?_
          refine xi_iload_n (pc' := 7) (x := 5) kc_12_6 rfl rfl ?_
          refine xi_cmf (pc' := 10) kc_12_7 rfl (xc_gt_f (X := a2.toInt) (Y := 5) rfl (by decide) (by omega)) ?_
          refine xi_iconst (pc' := 11) (v := 1) kc_12_10 rfl rfl ?_
          refine xi_goto (pc' := 15) kc_12_11 rfl ?_
          refine xi_ireturn kc_12_15 mr_12 rfl ?_
          show xw J ov 99 26 (24, [(0, .ref 115), (1, .int 6), (2, .int a2)], [.int 1], hh1) _
          refine xi_ift (pc' := 34) kc_26_24 rfl rfl ?_
          refine xi_iload_n (pc' := 35) (x := a2) kc_26_34 rfl rfl ?_
          refine xi_tsi (pc' := 75) (z := 1) kc_26_35 (by omega) rfl (by decide) ?_
          refine xi_aload_n (pc' := 76) (x := 115) kc_26_75 rfl rfl ?_
          refine xi_getfield (pc' := 79) (v := .ref 126) kc_26_76 rfl rfl rfl eh1.1 rfl ?_
          refine xi_iload_n (pc' := 80) (x := 6) kc_26_79 rfl rfl ?_
          refine xi_iaload (pc' := 81) (v := 0) kc_26_80 rfl ((eh1.2.1 126 (by decide)).trans (F 126 _ hl_126)) (by decide) rfl (xi_in (n := 12) (by decide) (by decide)) rfl ?_
          refine xi_ireturn kc_26_81 mr_26 rfl ?_
          show xw J ov 100 196 (510, [(4, .int 0), (3, .ref 167), (2, .ref 115), (1, .ref 0), (0, .ref 1000000)], [.int 0, .int 0], hh1) _
          refine xi_cmt (pc' := 1528) kc_196_510 rfl rfl ?_
          refine xi_iinc (pc' := 1531) (x := 0) (v := 6) (lv' := [(4, .int 6), (3, .ref 167), (2, .ref 115), (1, .ref 0), (0, .ref 1000000)]) kc_196_1528 rfl rfl rfl rfl (xm_lt ml_196 rfl) ?_
          refine xi_goto (pc' := 23) kc_196_1531 rfl ?_
          refine xi_iload (pc' := 25) (x := 6) kc_196_23 rfl rfl ?_
          refine xi_aload_n (pc' := 26) (x := 1000000) kc_196_25 rfl rfl ?_
          refine xi_arraylength (pc' := 27) (n := 6) (v := 6) kc_196_26 rfl (xl_lenO (by decide) hov0 rfl) rfl ?_
          refine xi_bipush (pc' := 29) (v := 6) kc_196_27 rfl rfl ?_
          refine xi_isub (pc' := 30) (v := 0) kc_196_29 rfl rfl ?_
          refine xi_cmt (pc' := 1534) kc_196_30 rfl rfl ?_
          refine xi_iconst (pc' := 1535) (v := 1) kc_196_1534 rfl rfl ?_
          refine xi_ireturn kc_196_1535 mr_196 rfl ?_
          refine ⟨rfl, ?_, ?_⟩
          · rw [eh1.2.2.1]; exact hn0
          · rw [eh1.2.2.2]; exact hz0
        by_cases c54 : a2.toInt = 2
        · refine xi_tsi (pc' := 74) (z := 2) kc_107_24 (by omega) rfl (by decide) ?_
          refine xi_aload_n (pc' := 75) (x := 41) kc_107_74 rfl rfl ?_
          refine xi_getfield (pc' := 78) (v := .int 0) kc_107_75 rfl rfl rfl (F 41 _ hl_41) rfl ?_
          refine xi_ift (pc' := 85) kc_107_78 rfl rfl ?_
          refine xi_iconst (pc' := 86) (v := 0) kc_107_85 rfl rfl ?_
          refine xi_ireturn kc_107_86 mr_107 rfl ?_
          show xw J ov 100 196 (494, [(4, .int 0), (3, .ref 167), (2, .ref 115), (1, .ref 0), (0, .ref 1000000)], [.int 0], h0) _
          refine xi_aload_n (pc' := 495) (x := 115) kc_196_494 rfl rfl ?_
          refine xi_aload_n (pc' := 496) (x := 1000000) kc_196_495 rfl rfl ?_
          refine xi_iload (pc' := 498) (x := 0) kc_196_496 rfl rfl ?_
          refine xi_iconst (pc' := 499) (v := 1) kc_196_498 rfl rfl ?_
          refine xi_iadd (pc' := 500) (v := 1) kc_196_499 rfl rfl ?_
          refine xi_ialoadO (pc' := 501) (v := 6) kc_196_500 rfl (by decide) hov0 (xi_in (n := 6) (by decide) (by decide)) rfl ?_
          refine xi_aload_n (pc' := 502) (x := 1000000) kc_196_501 rfl rfl ?_
          refine xi_iload (pc' := 504) (x := 0) kc_196_502 rfl rfl ?_
          refine xi_iconst (pc' := 505) (v := 2) kc_196_504 rfl rfl ?_
          refine xi_iadd (pc' := 506) (v := 2) kc_196_505 rfl rfl ?_
          refine xi_ialoadO (pc' := 507) (v := a2) kc_196_506 rfl (by decide) hov0 (xi_in (n := 6) (by decide) (by decide)) rfl ?_
          refine xi_virtual (mj := 26) (as := [.int 6, .int a2]) (st1 := [.int 0]) (lv0 := [(0, .ref 115), (1, .int 6), (2, .int a2)]) kc_196_507 rfl rfl rfl rfl rfl (F 115 _ hl_115) (Nat.le_of_ble_eq_true rfl) (hJ _ _ _ _ (by decide)) (xm_le ml_26 rfl) rfl ?_
          refine xi_aload_n (pc' := 1) (x := 115) kc_26_0 rfl rfl ?_
          refine xi_iconst (pc' := 2) (v := 0) kc_26_1 rfl rfl ?_
          refine xi_putfield (pc' := 5) (fs' := [.int 0, .int 0, .ref 116, .ref 117, .ref 118, .ref 119, .ref 120, .ref 121, .ref 122, .ref 123, .ref 124, .ref 125, .ref 126, .ref 127, .ref 128, .ref 129, .int 4, .ref 130, .int 0, .ref 131, .ref 132, .ref 133, .ref 134, .int 0, .ref 135, .ref 136, .ref 137, .ref 138, .ref 139, .ref 140, .ref 141, .ref 142, .int 0, .int 0, .int 0, .ref 143, .ref 144, .ref 145, .ref 146, .ref 147, .ref 148, .int 0, .ref 149, .ref 150, .ref 151, .int 0, .ref 152, .ref 153, .ref 154, .ref 155, .ref 156, .ref 157, .ref 158, .ref 159, .int 0, .ref 160, .int 0, .ref 161, .ref 162, .ref 163, .ref 164, .int 0, .ref 165, .ref 166]) kc_26_2 rfl rfl rfl (F 115 _ hl_115) rfl rfl rfl (Nat.le_of_ble_eq_true rfl) rfl (fun hh1 eh1 => ?_)
          refine xi_iload_n (pc' := 6) (x := 6) kc_26_5 rfl rfl ?_
          refine xi_static (mj := 25) (as := [.int 6]) (st1 := []) (lv0 := [(0, .int 6)]) kc_26_6 rfl rfl (Nat.le_of_ble_eq_true rfl) rfl rfl (Nat.le_of_ble_eq_true rfl) (hJ _ _ _ _ (by decide)) (xm_le ml_25 rfl) rfl ?_
          refine xi_iload_n (pc' := 1) (x := 6) kc_25_0 rfl rfl ?_
          refine xi_iconst (pc' := 2) (v := 0) kc_25_1 rfl rfl ?_
          refine xi_bipush (pc' := 4) (v := 11) kc_25_2 rfl rfl ?_
          refine xi_static (mj := 12) (as := [.int 6, .int 0, .int 11]) (st1 := []) (lv0 := [(0, .int 6), (1, .int 0), (2, .int 11)]) kc_25_4 rfl rfl (Nat.le_of_ble_eq_true rfl) rfl rfl (Nat.le_of_ble_eq_true rfl) (hJ _ _ _ _ (by decide)) (xm_le ml_12 rfl) rfl ?_
          refine xi_iload_n (pc' := 1) (x := 6) kc_12_0 rfl rfl ?_
          refine xi_iload_n (pc' := 2) (x := 0) kc_12_1 rfl rfl ?_
          refine xi_cmf (pc' := 5) kc_12_2 rfl rfl ?_
          refine xi_iload_n (pc' := 6) (x := 6) kc_12_5 rfl rfl ?_
          refine xi_iload_n (pc' := 7) (x := 11) kc_12_6 rfl rfl ?_
          refine xi_cmf (pc' := 10) kc_12_7 rfl rfl ?_
          refine xi_iconst (pc' := 11) (v := 1) kc_12_10 rfl rfl ?_
          refine xi_goto (pc' := 15) kc_12_11 rfl ?_
          refine xi_ireturn kc_12_15 mr_12 rfl ?_
          show xw J ov 98 25 (7, [(0, .int 6)], [.int 1], hh1) _
          refine xi_ireturn kc_25_7 mr_25 rfl ?_
          show xw J ov 99 26 (9, [(0, .ref 115), (1, .int 6), (2, .int a2)], [.int 1], hh1) _
          refine xi_ift (pc' := 18) kc_26_9 rfl rfl ?_
          refine xi_iload_n (pc' := 19) (x := a2) kc_26_18 rfl rfl ?_
          refine xi_iconst (pc' := 20) (v := 0) kc_26_19 rfl rfl ?_
          refine xi_iconst (pc' := 21) (v := 5) kc_26_20 rfl rfl ?_
          refine xi_static (mj := 12) (as := [.int a2, .int 0, .int 5]) (st1 := []) (lv0 := [(0, .int a2), (1, .int 0), (2, .int 5)]) kc_26_21 rfl rfl (Nat.le_of_ble_eq_true rfl) rfl rfl (Nat.le_of_ble_eq_true rfl) (hJ _ _ _ _ (by decide)) (xm_le ml_12 rfl) rfl ?_
          refine xi_iload_n (pc' := 1) (x := a2) kc_12_0 rfl rfl ?_
          refine xi_iload_n (pc' := 2) (x := 0) kc_12_1 rfl rfl ?_
          refine xi_cmf (pc' := 5) kc_12_2 rfl (xc_lt_f (X := a2.toInt) (Y := 0) rfl (by decide) (by omega)) ?_
          refine xi_iload_n (pc' := 6) (x := a2) kc_12_5 rfl rfl ?_
          refine xi_iload_n (pc' := 7) (x := 5) kc_12_6 rfl rfl ?_
          refine xi_cmf (pc' := 10) kc_12_7 rfl (xc_gt_f (X := a2.toInt) (Y := 5) rfl (by decide) (by omega)) ?_
          refine xi_iconst (pc' := 11) (v := 1) kc_12_10 rfl rfl ?_
          refine xi_goto (pc' := 15) kc_12_11 rfl ?_
          refine xi_ireturn kc_12_15 mr_12 rfl ?_
          show xw J ov 99 26 (24, [(0, .ref 115), (1, .int 6), (2, .int a2)], [.int 1], hh1) _
          refine xi_ift (pc' := 34) kc_26_24 rfl rfl ?_
          refine xi_iload_n (pc' := 35) (x := a2) kc_26_34 rfl rfl ?_
          refine xi_tsi (pc' := 82) (z := 2) kc_26_35 (by omega) rfl (by decide) ?_
          refine xi_aload_n (pc' := 83) (x := 115) kc_26_82 rfl rfl ?_
          refine xi_getfield (pc' := 86) (v := .ref 127) kc_26_83 rfl rfl rfl eh1.1 rfl ?_
          refine xi_iload_n (pc' := 87) (x := 6) kc_26_86 rfl rfl ?_
          refine xi_baload (pc' := 88) (v := 0) kc_26_87 rfl ((eh1.2.1 127 (by decide)).trans (F 127 _ hl_127)) rfl (xi_in (n := 12) (by decide) (by decide)) rfl ?_
          refine xi_ift (pc' := 95) kc_26_88 rfl rfl ?_
          refine xi_iconst (pc' := 96) (v := 0) kc_26_95 rfl rfl ?_
          refine xi_ireturn kc_26_96 mr_26 rfl ?_
          show xw J ov 100 196 (510, [(4, .int 0), (3, .ref 167), (2, .ref 115), (1, .ref 0), (0, .ref 1000000)], [.int 0, .int 0], hh1) _
          refine xi_cmt (pc' := 1528) kc_196_510 rfl rfl ?_
          refine xi_iinc (pc' := 1531) (x := 0) (v := 6) (lv' := [(4, .int 6), (3, .ref 167), (2, .ref 115), (1, .ref 0), (0, .ref 1000000)]) kc_196_1528 rfl rfl rfl rfl (xm_lt ml_196 rfl) ?_
          refine xi_goto (pc' := 23) kc_196_1531 rfl ?_
          refine xi_iload (pc' := 25) (x := 6) kc_196_23 rfl rfl ?_
          refine xi_aload_n (pc' := 26) (x := 1000000) kc_196_25 rfl rfl ?_
          refine xi_arraylength (pc' := 27) (n := 6) (v := 6) kc_196_26 rfl (xl_lenO (by decide) hov0 rfl) rfl ?_
          refine xi_bipush (pc' := 29) (v := 6) kc_196_27 rfl rfl ?_
          refine xi_isub (pc' := 30) (v := 0) kc_196_29 rfl rfl ?_
          refine xi_cmt (pc' := 1534) kc_196_30 rfl rfl ?_
          refine xi_iconst (pc' := 1535) (v := 1) kc_196_1534 rfl rfl ?_
          refine xi_ireturn kc_196_1535 mr_196 rfl ?_
          refine ⟨rfl, ?_, ?_⟩
          · rw [eh1.2.2.1]; exact hn0
          · rw [eh1.2.2.2]; exact hz0
        by_cases c55 : a2.toInt = 3
        · refine xi_tsi (pc' := 87) (z := 3) kc_107_24 (by omega) rfl (by decide) ?_
          refine xi_aload_n (pc' := 88) (x := 0) kc_107_87 rfl rfl ?_
          refine xi_getfield (pc' := 91) (v := .ref 63) kc_107_88 rfl rfl rfl (F 0 _ hl_0) rfl ?_
          refine xi_getfield (pc' := 94) (v := .ref 65) kc_107_91 rfl rfl rfl (F 63 _ hl_63) rfl ?_
          refine xi_iload_n (pc' := 95) (x := 6) kc_107_94 rfl rfl ?_
          refine xi_iaload (pc' := 96) (v := 0) kc_107_95 rfl (F 65 _ hl_65) (by decide) rfl (xi_in (n := 12) (by decide) (by decide)) rfl ?_
          refine xi_ireturn kc_107_96 mr_107 rfl ?_
          show xw J ov 100 196 (494, [(4, .int 0), (3, .ref 167), (2, .ref 115), (1, .ref 0), (0, .ref 1000000)], [.int 0], h0) _
          refine xi_aload_n (pc' := 495) (x := 115) kc_196_494 rfl rfl ?_
          refine xi_aload_n (pc' := 496) (x := 1000000) kc_196_495 rfl rfl ?_
          refine xi_iload (pc' := 498) (x := 0) kc_196_496 rfl rfl ?_
          refine xi_iconst (pc' := 499) (v := 1) kc_196_498 rfl rfl ?_
          refine xi_iadd (pc' := 500) (v := 1) kc_196_499 rfl rfl ?_
          refine xi_ialoadO (pc' := 501) (v := 6) kc_196_500 rfl (by decide) hov0 (xi_in (n := 6) (by decide) (by decide)) rfl ?_
          refine xi_aload_n (pc' := 502) (x := 1000000) kc_196_501 rfl rfl ?_
          refine xi_iload (pc' := 504) (x := 0) kc_196_502 rfl rfl ?_
          refine xi_iconst (pc' := 505) (v := 2) kc_196_504 rfl rfl ?_
          refine xi_iadd (pc' := 506) (v := 2) kc_196_505 rfl rfl ?_
          refine xi_ialoadO (pc' := 507) (v := a2) kc_196_506 rfl (by decide) hov0 (xi_in (n := 6) (by decide) (by decide)) rfl ?_
          refine xi_virtual (mj := 26) (as := [.int 6, .int a2]) (st1 := [.int 0]) (lv0 := [(0, .ref 115), (1, .int 6), (2, .int a2)]) kc_196_507 rfl rfl rfl rfl rfl (F 115 _ hl_115) (Nat.le_of_ble_eq_true rfl) (hJ _ _ _ _ (by decide)) (xm_le ml_26 rfl) rfl ?_
          refine xi_aload_n (pc' := 1) (x := 115) kc_26_0 rfl rfl ?_
          refine xi_iconst (pc' := 2) (v := 0) kc_26_1 rfl rfl ?_
          refine xi_putfield (pc' := 5) (fs' := [.int 0, .int 0, .ref 116, .ref 117, .ref 118, .ref 119, .ref 120, .ref 121, .ref 122, .ref 123, .ref 124, .ref 125, .ref 126, .ref 127, .ref 128, .ref 129, .int 4, .ref 130, .int 0, .ref 131, .ref 132, .ref 133, .ref 134, .int 0, .ref 135, .ref 136, .ref 137, .ref 138, .ref 139, .ref 140, .ref 141, .ref 142, .int 0, .int 0, .int 0, .ref 143, .ref 144, .ref 145, .ref 146, .ref 147, .ref 148, .int 0, .ref 149, .ref 150, .ref 151, .int 0, .ref 152, .ref 153, .ref 154, .ref 155, .ref 156, .ref 157, .ref 158, .ref 159, .int 0, .ref 160, .int 0, .ref 161, .ref 162, .ref 163, .ref 164, .int 0, .ref 165, .ref 166]) kc_26_2 rfl rfl rfl (F 115 _ hl_115) rfl rfl rfl (Nat.le_of_ble_eq_true rfl) rfl (fun hh1 eh1 => ?_)
          refine xi_iload_n (pc' := 6) (x := 6) kc_26_5 rfl rfl ?_
          refine xi_static (mj := 25) (as := [.int 6]) (st1 := []) (lv0 := [(0, .int 6)]) kc_26_6 rfl rfl (Nat.le_of_ble_eq_true rfl) rfl rfl (Nat.le_of_ble_eq_true rfl) (hJ _ _ _ _ (by decide)) (xm_le ml_25 rfl) rfl ?_
          refine xi_iload_n (pc' := 1) (x := 6) kc_25_0 rfl rfl ?_
          refine xi_iconst (pc' := 2) (v := 0) kc_25_1 rfl rfl ?_
          refine xi_bipush (pc' := 4) (v := 11) kc_25_2 rfl rfl ?_
          refine xi_static (mj := 12) (as := [.int 6, .int 0, .int 11]) (st1 := []) (lv0 := [(0, .int 6), (1, .int 0), (2, .int 11)]) kc_25_4 rfl rfl (Nat.le_of_ble_eq_true rfl) rfl rfl (Nat.le_of_ble_eq_true rfl) (hJ _ _ _ _ (by decide)) (xm_le ml_12 rfl) rfl ?_
          refine xi_iload_n (pc' := 1) (x := 6) kc_12_0 rfl rfl ?_
          refine xi_iload_n (pc' := 2) (x := 0) kc_12_1 rfl rfl ?_
          refine xi_cmf (pc' := 5) kc_12_2 rfl rfl ?_
          refine xi_iload_n (pc' := 6) (x := 6) kc_12_5 rfl rfl ?_
          refine xi_iload_n (pc' := 7) (x := 11) kc_12_6 rfl rfl ?_
          refine xi_cmf (pc' := 10) kc_12_7 rfl rfl ?_
          refine xi_iconst (pc' := 11) (v := 1) kc_12_10 rfl rfl ?_
          refine xi_goto (pc' := 15) kc_12_11 rfl ?_
          refine xi_ireturn kc_12_15 mr_12 rfl ?_
          show xw J ov 98 25 (7, [(0, .int 6)], [.int 1], hh1) _
          refine xi_ireturn kc_25_7 mr_25 rfl ?_
          show xw J ov 99 26 (9, [(0, .ref 115), (1, .int 6), (2, .int a2)], [.int 1], hh1) _
          refine xi_ift (pc' := 18) kc_26_9 rfl rfl ?_
          refine xi_iload_n (pc' := 19) (x := a2) kc_26_18 rfl rfl ?_
          refine xi_iconst (pc' := 20) (v := 0) kc_26_19 rfl rfl ?_
          refine xi_iconst (pc' := 21) (v := 5) kc_26_20 rfl rfl ?_
          refine xi_static (mj := 12) (as := [.int a2, .int 0, .int 5]) (st1 := []) (lv0 := [(0, .int a2), (1, .int 0), (2, .int 5)]) kc_26_21 rfl rfl (Nat.le_of_ble_eq_true rfl) rfl rfl (Nat.le_of_ble_eq_true rfl) (hJ _ _ _ _ (by decide)) (xm_le ml_12 rfl) rfl ?_
          refine xi_iload_n (pc' := 1) (x := a2) kc_12_0 rfl rfl ?_
          refine xi_iload_n (pc' := 2) (x := 0) kc_12_1 rfl rfl ?_
          refine xi_cmf (pc' := 5) kc_12_2 rfl (xc_lt_f (X := a2.toInt) (Y := 0) rfl (by decide) (by omega)) ?_
          refine xi_iload_n (pc' := 6) (x := a2) kc_12_5 rfl rfl ?_
          refine xi_iload_n (pc' := 7) (x := 5) kc_12_6 rfl rfl ?_
          refine xi_cmf (pc' := 10) kc_12_7 rfl (xc_gt_f (X := a2.toInt) (Y := 5) rfl (by decide) (by omega)) ?_
          refine xi_iconst (pc' := 11) (v := 1) kc_12_10 rfl rfl ?_
          refine xi_goto (pc' := 15) kc_12_11 rfl ?_
          refine xi_ireturn kc_12_15 mr_12 rfl ?_
          show xw J ov 99 26 (24, [(0, .ref 115), (1, .int 6), (2, .int a2)], [.int 1], hh1) _
          refine xi_ift (pc' := 34) kc_26_24 rfl rfl ?_
          refine xi_iload_n (pc' := 35) (x := a2) kc_26_34 rfl rfl ?_
          refine xi_tsi (pc' := 97) (z := 3) kc_26_35 (by omega) rfl (by decide) ?_
          refine xi_aload_n (pc' := 98) (x := 115) kc_26_97 rfl rfl ?_
          refine xi_getfield (pc' := 101) (v := .ref 128) kc_26_98 rfl rfl rfl eh1.1 rfl ?_
          refine xi_iload_n (pc' := 102) (x := 6) kc_26_101 rfl rfl ?_
          refine xi_iaload (pc' := 103) (v := 0) kc_26_102 rfl ((eh1.2.1 128 (by decide)).trans (F 128 _ hl_128)) (by decide) rfl (xi_in (n := 12) (by decide) (by decide)) rfl ?_
          refine xi_ireturn kc_26_103 mr_26 rfl ?_
          show xw J ov 100 196 (510, [(4, .int 0), (3, .ref 167), (2, .ref 115), (1, .ref 0), (0, .ref 1000000)], [.int 0, .int 0], hh1) _
          refine xi_cmt (pc' := 1528) kc_196_510 rfl rfl ?_
          refine xi_iinc (pc' := 1531) (x := 0) (v := 6) (lv' := [(4, .int 6), (3, .ref 167), (2, .ref 115), (1, .ref 0), (0, .ref 1000000)]) kc_196_1528 rfl rfl rfl rfl (xm_lt ml_196 rfl) ?_
          refine xi_goto (pc' := 23) kc_196_1531 rfl ?_
          refine xi_iload (pc' := 25) (x := 6) kc_196_23 rfl rfl ?_
          refine xi_aload_n (pc' := 26) (x := 1000000) kc_196_25 rfl rfl ?_
          refine xi_arraylength (pc' := 27) (n := 6) (v := 6) kc_196_26 rfl (xl_lenO (by decide) hov0 rfl) rfl ?_
          refine xi_bipush (pc' := 29) (v := 6) kc_196_27 rfl rfl ?_
          refine xi_isub (pc' := 30) (v := 0) kc_196_29 rfl rfl ?_
          refine xi_cmt (pc' := 1534) kc_196_30 rfl rfl ?_
          refine xi_iconst (pc' := 1535) (v := 1) kc_196_1534 rfl rfl ?_
          refine xi_ireturn kc_196_1535 mr_196 rfl ?_
          refine ⟨rfl, ?_, ?_⟩
          · rw [eh1.2.2.1]; exact hn0
          · rw [eh1.2.2.2]; exact hz0
        by_cases c56 : a2.toInt = 4
        · refine xi_tsi (pc' := 97) (z := 4) kc_107_24 (by omega) rfl (by decide) ?_
          refine xi_aload_n (pc' := 98) (x := 41) kc_107_97 rfl rfl ?_
          refine xi_getfield (pc' := 101) (v := .int 0) kc_107_98 rfl rfl rfl (F 41 _ hl_41) rfl ?_
          refine xi_ireturn kc_107_101 mr_107 rfl ?_
          show xw J ov 100 196 (494, [(4, .int 0), (3, .ref 167), (2, .ref 115), (1, .ref 0), (0, .ref 1000000)], [.int 0], h0) _
          refine xi_aload_n (pc' := 495) (x := 115) kc_196_494 rfl rfl ?_
          refine xi_aload_n (pc' := 496) (x := 1000000) kc_196_495 rfl rfl ?_
          refine xi_iload (pc' := 498) (x := 0) kc_196_496 rfl rfl ?_
          refine xi_iconst (pc' := 499) (v := 1) kc_196_498 rfl rfl ?_
          refine xi_iadd (pc' := 500) (v := 1) kc_196_499 rfl rfl ?_
          refine xi_ialoadO (pc' := 501) (v := 6) kc_196_500 rfl (by decide) hov0 (xi_in (n := 6) (by decide) (by decide)) rfl ?_
          refine xi_aload_n (pc' := 502) (x := 1000000) kc_196_501 rfl rfl ?_
          refine xi_iload (pc' := 504) (x := 0) kc_196_502 rfl rfl ?_
          refine xi_iconst (pc' := 505) (v := 2) kc_196_504 rfl rfl ?_
          refine xi_iadd (pc' := 506) (v := 2) kc_196_505 rfl rfl ?_
          refine xi_ialoadO (pc' := 507) (v := a2) kc_196_506 rfl (by decide) hov0 (xi_in (n := 6) (by decide) (by decide)) rfl ?_
          refine xi_virtual (mj := 26) (as := [.int 6, .int a2]) (st1 := [.int 0]) (lv0 := [(0, .ref 115), (1, .int 6), (2, .int a2)]) kc_196_507 rfl rfl rfl rfl rfl (F 115 _ hl_115) (Nat.le_of_ble_eq_true rfl) (hJ _ _ _ _ (by decide)) (xm_le ml_26 rfl) rfl ?_
          refine xi_aload_n (pc' := 1) (x := 115) kc_26_0 rfl rfl ?_
          refine xi_iconst (pc' := 2) (v := 0) kc_26_1 rfl rfl ?_
          refine xi_putfield (pc' := 5) (fs' := [.int 0, .int 0, .ref 116, .ref 117, .ref 118, .ref 119, .ref 120, .ref 121, .ref 122, .ref 123, .ref 124, .ref 125, .ref 126, .ref 127, .ref 128, .ref 129, .int 4, .ref 130, .int 0, .ref 131, .ref 132, .ref 133, .ref 134, .int 0, .ref 135, .ref 136, .ref 137, .ref 138, .ref 139, .ref 140, .ref 141, .ref 142, .int 0, .int 0, .int 0, .ref 143, .ref 144, .ref 145, .ref 146, .ref 147, .ref 148, .int 0, .ref 149, .ref 150, .ref 151, .int 0, .ref 152, .ref 153, .ref 154, .ref 155, .ref 156, .ref 157, .ref 158, .ref 159, .int 0, .ref 160, .int 0, .ref 161, .ref 162, .ref 163, .ref 164, .int 0, .ref 165, .ref 166]) kc_26_2 rfl rfl rfl (F 115 _ hl_115) rfl rfl rfl (Nat.le_of_ble_eq_true rfl) rfl (fun hh1 eh1 => ?_)
          refine xi_iload_n (pc' := 6) (x := 6) kc_26_5 rfl rfl ?_
          refine xi_static (mj := 25) (as := [.int 6]) (st1 := []) (lv0 := [(0, .int 6)]) kc_26_6 rfl rfl (Nat.le_of_ble_eq_true rfl) rfl rfl (Nat.le_of_ble_eq_true rfl) (hJ _ _ _ _ (by decide)) (xm_le ml_25 rfl) rfl ?_
          refine xi_iload_n (pc' := 1) (x := 6) kc_25_0 rfl rfl ?_
          refine xi_iconst (pc' := 2) (v := 0) kc_25_1 rfl rfl ?_
          refine xi_bipush (pc' := 4) (v := 11) kc_25_2 rfl rfl ?_
          refine xi_static (mj := 12) (as := [.int 6, .int 0, .int 11]) (st1 := []) (lv0 := [(0, .int 6), (1, .int 0), (2, .int 11)]) kc_25_4 rfl rfl (Nat.le_of_ble_eq_true rfl) rfl rfl (Nat.le_of_ble_eq_true rfl) (hJ _ _ _ _ (by decide)) (xm_le ml_12 rfl) rfl ?_
          refine xi_iload_n (pc' := 1) (x := 6) kc_12_0 rfl rfl ?_
          refine xi_iload_n (pc' := 2) (x := 0) kc_12_1 rfl rfl ?_
          refine xi_cmf (pc' := 5) kc_12_2 rfl rfl ?_
          refine xi_iload_n (pc' := 6) (x := 6) kc_12_5 rfl rfl ?_
          refine xi_iload_n (pc' := 7) (x := 11) kc_12_6 rfl rfl ?_
          refine xi_cmf (pc' := 10) kc_12_7 rfl rfl ?_
          refine xi_iconst (pc' := 11) (v := 1) kc_12_10 rfl rfl ?_
          refine xi_goto (pc' := 15) kc_12_11 rfl ?_
          refine xi_ireturn kc_12_15 mr_12 rfl ?_
          show xw J ov 98 25 (7, [(0, .int 6)], [.int 1], hh1) _
          refine xi_ireturn kc_25_7 mr_25 rfl ?_
          show xw J ov 99 26 (9, [(0, .ref 115), (1, .int 6), (2, .int a2)], [.int 1], hh1) _
          refine xi_ift (pc' := 18) kc_26_9 rfl rfl ?_
          refine xi_iload_n (pc' := 19) (x := a2) kc_26_18 rfl rfl ?_
          refine xi_iconst (pc' := 20) (v := 0) kc_26_19 rfl rfl ?_
          refine xi_iconst (pc' := 21) (v := 5) kc_26_20 rfl rfl ?_
          refine xi_static (mj := 12) (as := [.int a2, .int 0, .int 5]) (st1 := []) (lv0 := [(0, .int a2), (1, .int 0), (2, .int 5)]) kc_26_21 rfl rfl (Nat.le_of_ble_eq_true rfl) rfl rfl (Nat.le_of_ble_eq_true rfl) (hJ _ _ _ _ (by decide)) (xm_le ml_12 rfl) rfl ?_
          refine xi_iload_n (pc' := 1) (x := a2) kc_12_0 rfl rfl ?_
          refine xi_iload_n (pc' := 2) (x := 0) kc_12_1 rfl rfl ?_
          refine xi_cmf (pc' := 5) kc_12_2 rfl (xc_lt_f (X := a2.toInt) (Y := 0) rfl (by decide) (by omega)) ?_
          refine xi_iload_n (pc' := 6) (x := a2) kc_12_5 rfl rfl ?_
          refine xi_iload_n (pc' := 7) (x := 5) kc_12_6 rfl rfl ?_
          refine xi_cmf (pc' := 10) kc_12_7 rfl (xc_gt_f (X := a2.toInt) (Y := 5) rfl (by decide) (by omega)) ?_
          refine xi_iconst (pc' := 11) (v := 1) kc_12_10 rfl rfl ?_
          refine xi_goto (pc' := 15) kc_12_11 rfl ?_
          refine xi_ireturn kc_12_15 mr_12 rfl ?_
          show xw J ov 99 26 (24, [(0, .ref 115), (1, .int 6), (2, .int a2)], [.int 1], hh1) _
          refine xi_ift (pc' := 34) kc_26_24 rfl rfl ?_
          refine xi_iload_n (pc' := 35) (x := a2) kc_26_34 rfl rfl ?_
          refine xi_tsi (pc' := 104) (z := 4) kc_26_35 (by omega) rfl (by decide) ?_
          refine xi_aload_n (pc' := 105) (x := 115) kc_26_104 rfl rfl ?_
          refine xi_getfield (pc' := 108) (v := .ref 129) kc_26_105 rfl rfl rfl eh1.1 rfl ?_
          refine xi_iload_n (pc' := 109) (x := 6) kc_26_108 rfl rfl ?_
          refine xi_iaload (pc' := 110) (v := 0) kc_26_109 rfl ((eh1.2.1 129 (by decide)).trans (F 129 _ hl_129)) (by decide) rfl (xi_in (n := 12) (by decide) (by decide)) rfl ?_
          refine xi_ireturn kc_26_110 mr_26 rfl ?_
          show xw J ov 100 196 (510, [(4, .int 0), (3, .ref 167), (2, .ref 115), (1, .ref 0), (0, .ref 1000000)], [.int 0, .int 0], hh1) _
          refine xi_cmt (pc' := 1528) kc_196_510 rfl rfl ?_
          refine xi_iinc (pc' := 1531) (x := 0) (v := 6) (lv' := [(4, .int 6), (3, .ref 167), (2, .ref 115), (1, .ref 0), (0, .ref 1000000)]) kc_196_1528 rfl rfl rfl rfl (xm_lt ml_196 rfl) ?_
          refine xi_goto (pc' := 23) kc_196_1531 rfl ?_
          refine xi_iload (pc' := 25) (x := 6) kc_196_23 rfl rfl ?_
          refine xi_aload_n (pc' := 26) (x := 1000000) kc_196_25 rfl rfl ?_
          refine xi_arraylength (pc' := 27) (n := 6) (v := 6) kc_196_26 rfl (xl_lenO (by decide) hov0 rfl) rfl ?_
          refine xi_bipush (pc' := 29) (v := 6) kc_196_27 rfl rfl ?_
          refine xi_isub (pc' := 30) (v := 0) kc_196_29 rfl rfl ?_
          refine xi_cmt (pc' := 1534) kc_196_30 rfl rfl ?_
          refine xi_iconst (pc' := 1535) (v := 1) kc_196_1534 rfl rfl ?_
          refine xi_ireturn kc_196_1535 mr_196 rfl ?_
          refine ⟨rfl, ?_, ?_⟩
          · rw [eh1.2.2.1]; exact hn0
          · rw [eh1.2.2.2]; exact hz0
        by_cases c57 : a2.toInt = 5
        · refine xi_tsi (pc' := 102) (z := 5) kc_107_24 (by omega) rfl (by decide) ?_
          refine xi_aload_n (pc' := 103) (x := 0) kc_107_102 rfl rfl ?_
          refine xi_getfield (pc' := 106) (v := .ref 1) kc_107_103 rfl rfl rfl (F 0 _ hl_0) rfl ?_
          refine xi_iload_n (pc' := 107) (x := 6) kc_107_106 rfl rfl ?_
          refine xi_aload_n (pc' := 108) (x := 0) kc_107_107 rfl rfl ?_
          refine xi_getfield (pc' := 111) (v := .int 0) kc_107_108 rfl rfl rfl (F 0 _ hl_0) rfl ?_
          refine xi_virtual (mj := 108) (as := [.int 6, .int 0]) (st1 := []) (lv0 := [(0, .ref 1), (1, .int 6), (2, .int 0)]) kc_107_111 rfl rfl rfl rfl rfl (F 1 _ hl_1) (Nat.le_of_ble_eq_true rfl) (hJ _ _ _ _ (by decide)) (xm_le ml_108 rfl) rfl ?_
          refine xi_aload_n (pc' := 1) (x := 1) kc_108_0 rfl rfl ?_
          refine xi_iload_n (pc' := 2) (x := 6) kc_108_1 rfl rfl ?_
          refine xi_virtual (mj := 109) (as := [.int 6]) (st1 := []) (lv0 := [(0, .ref 1), (1, .int 6)]) kc_108_2 rfl rfl rfl rfl rfl (F 1 _ hl_1) (Nat.le_of_ble_eq_true rfl) (hJ _ _ _ _ (by decide)) (xm_le ml_109 rfl) rfl ?_
          refine xi_iload_n (pc' := 1) (x := 6) kc_109_0 rfl rfl ?_
          refine xi_static (mj := 105) (as := [.int 6]) (st1 := []) (lv0 := [(0, .int 6)]) kc_109_1 rfl rfl (Nat.le_of_ble_eq_true rfl) rfl rfl (Nat.le_of_ble_eq_true rfl) (hJ _ _ _ _ (by decide)) (xm_le ml_105 rfl) rfl ?_
          refine xi_iload_n (pc' := 1) (x := 6) kc_105_0 rfl rfl ?_
          refine xi_iff (pc' := 4) kc_105_1 rfl rfl ?_
          refine xi_iload_n (pc' := 5) (x := 6) kc_105_4 rfl rfl ?_
          refine xi_bipush (pc' := 7) (v := 12) kc_105_5 rfl rfl ?_
          refine xi_cmf (pc' := 10) kc_105_7 rfl rfl ?_
          refine xi_iconst (pc' := 11) (v := 1) kc_105_10 rfl rfl ?_
          refine xi_goto (pc' := 15) kc_105_11 rfl ?_
          refine xi_ireturn kc_105_15 mr_105 rfl ?_
          show xw J ov 97 109 (4, [(0, .ref 1), (1, .int 6)], [.int 1], h0) _
          refine xi_iff (pc' := 7) kc_109_4 rfl rfl ?_
          refine xi_aload_n (pc' := 8) (x := 1) kc_109_7 rfl rfl ?_
          refine xi_getfield (pc' := 11) (v := .ref 3) kc_109_8 rfl rfl rfl (F 1 _ hl_1) rfl ?_
          refine xi_iload_n (pc' := 12) (x := 6) kc_109_11 rfl rfl ?_
          refine xi_aaload (pc' := 13) (b := 41) kc_109_12 rfl (F 3 _ hl_3) rfl (xi_in (n := 12) (by decide) (by decide)) rfl ?_
          refine xi_virtual (mj := 106) (as := []) (st1 := []) (lv0 := [(0, .ref 41)]) kc_109_13 rfl rfl rfl rfl rfl (F 41 _ hl_41) (Nat.le_of_ble_eq_true rfl) (hJ _ _ _ _ (by decide)) (xm_le ml_106 rfl) rfl ?_
          refine xi_aload_n (pc' := 1) (x := 41) kc_106_0 rfl rfl ?_
          refine xi_getfield (pc' := 4) (v := .int (-9)) kc_106_1 rfl rfl rfl (F 41 _ hl_41) rfl ?_
          refine xi_static (mj := 90) (as := [.int (-9)]) (st1 := []) (lv0 := [(0, .int (-9))]) kc_106_4 rfl rfl (Nat.le_of_ble_eq_true rfl) rfl rfl (Nat.le_of_ble_eq_true rfl) (hJ _ _ _ _ (by decide)) (xm_le ml_90 rfl) rfl ?_
          refine xi_iload_n (pc' := 1) (x := (-9)) kc_90_0 rfl rfl ?_
          refine xi_ift (pc' := 14) kc_90_1 rfl rfl ?_
          refine xi_iconst (pc' := 15) (v := 0) kc_90_14 rfl rfl ?_
          refine xi_ireturn kc_90_15 mr_90 rfl ?_
          show xw J ov 96 106 (7, [(0, .ref 41)], [.int 0], h0) _
          refine xi_ireturn kc_106_7 mr_106 rfl ?_
          show xw J ov 97 109 (16, [(0, .ref 1), (1, .int 6)], [.int 0], h0) _
          refine xi_ift (pc' := 23) kc_109_16 rfl rfl ?_
          refine xi_iconst (pc' := 24) (v := 0) kc_109_23 rfl rfl ?_
          refine xi_ireturn kc_109_24 mr_109 rfl ?_
          show xw J ov 98 108 (5, [(0, .ref 1), (1, .int 6), (2, .int 0)], [.int 0], h0) _
          refine xi_iff (pc' := 8) kc_108_5 rfl rfl ?_
          refine xi_iconst (pc' := 9) (v := 0) kc_108_8 rfl rfl ?_
          refine xi_ireturn kc_108_9 mr_108 rfl ?_
          show xw J ov 99 107 (114, [(3, .ref 41), (0, .ref 0), (1, .int 6), (2, .int a2)], [.int 0], h0) _
          refine xi_ireturn kc_107_114 mr_107 rfl ?_
          show xw J ov 100 196 (494, [(4, .int 0), (3, .ref 167), (2, .ref 115), (1, .ref 0), (0, .ref 1000000)], [.int 0], h0) _
          refine xi_aload_n (pc' := 495) (x := 115) kc_196_494 rfl rfl ?_
          refine xi_aload_n (pc' := 496) (x := 1000000) kc_196_495 rfl rfl ?_
          refine xi_iload (pc' := 498) (x := 0) kc_196_496 rfl rfl ?_
          refine xi_iconst (pc' := 499) (v := 1) kc_196_498 rfl rfl ?_
          refine xi_iadd (pc' := 500) (v := 1) kc_196_499 rfl rfl ?_
          refine xi_ialoadO (pc' := 501) (v := 6) kc_196_500 rfl (by decide) hov0 (xi_in (n := 6) (by decide) (by decide)) rfl ?_
          refine xi_aload_n (pc' := 502) (x := 1000000) kc_196_501 rfl rfl ?_
          refine xi_iload (pc' := 504) (x := 0) kc_196_502 rfl rfl ?_
          refine xi_iconst (pc' := 505) (v := 2) kc_196_504 rfl rfl ?_
          refine xi_iadd (pc' := 506) (v := 2) kc_196_505 rfl rfl ?_
          refine xi_ialoadO (pc' := 507) (v := a2) kc_196_506 rfl (by decide) hov0 (xi_in (n := 6) (by decide) (by decide)) rfl ?_
          refine xi_virtual (mj := 26) (as := [.int 6, .int a2]) (st1 := [.int 0]) (lv0 := [(0, .ref 115), (1, .int 6), (2, .int a2)]) kc_196_507 rfl rfl rfl rfl rfl (F 115 _ hl_115) (Nat.le_of_ble_eq_true rfl) (hJ _ _ _ _ (by decide)) (xm_le ml_26 rfl) rfl ?_
          refine xi_aload_n (pc' := 1) (x := 115) kc_26_0 rfl rfl ?_
          refine xi_iconst (pc' := 2) (v := 0) kc_26_1 rfl rfl ?_
          refine xi_putfield (pc' := 5) (fs' := [.int 0, .int 0, .ref 116, .ref 117, .ref 118, .ref 119, .ref 120, .ref 121, .ref 122, .ref 123, .ref 124, .ref 125, .ref 126, .ref 127, .ref 128, .ref 129, .int 4, .ref 130, .int 0, .ref 131, .ref 132, .ref 133, .ref 134, .int 0, .ref 135, .ref 136, .ref 137, .ref 138, .ref 139, .ref 140, .ref 141, .ref 142, .int 0, .int 0, .int 0, .ref 143, .ref 144, .ref 145, .ref 146, .ref 147, .ref 148, .int 0, .ref 149, .ref 150, .ref 151, .int 0, .ref 152, .ref 153, .ref 154, .ref 155, .ref 156, .ref 157, .ref 158, .ref 159, .int 0, .ref 160, .int 0, .ref 161, .ref 162, .ref 163, .ref 164, .int 0, .ref 165, .ref 166]) kc_26_2 rfl rfl rfl (F 115 _ hl_115) rfl rfl rfl (Nat.le_of_ble_eq_true rfl) rfl (fun hh1 eh1 => ?_)
          refine xi_iload_n (pc' := 6) (x := 6) kc_26_5 rfl rfl ?_
          refine xi_static (mj := 25) (as := [.int 6]) (st1 := []) (lv0 := [(0, .int 6)]) kc_26_6 rfl rfl (Nat.le_of_ble_eq_true rfl) rfl rfl (Nat.le_of_ble_eq_true rfl) (hJ _ _ _ _ (by decide)) (xm_le ml_25 rfl) rfl ?_
          refine xi_iload_n (pc' := 1) (x := 6) kc_25_0 rfl rfl ?_
          refine xi_iconst (pc' := 2) (v := 0) kc_25_1 rfl rfl ?_
          refine xi_bipush (pc' := 4) (v := 11) kc_25_2 rfl rfl ?_
          refine xi_static (mj := 12) (as := [.int 6, .int 0, .int 11]) (st1 := []) (lv0 := [(0, .int 6), (1, .int 0), (2, .int 11)]) kc_25_4 rfl rfl (Nat.le_of_ble_eq_true rfl) rfl rfl (Nat.le_of_ble_eq_true rfl) (hJ _ _ _ _ (by decide)) (xm_le ml_12 rfl) rfl ?_
          refine xi_iload_n (pc' := 1) (x := 6) kc_12_0 rfl rfl ?_
          refine xi_iload_n (pc' := 2) (x := 0) kc_12_1 rfl rfl ?_
          refine xi_cmf (pc' := 5) kc_12_2 rfl rfl ?_
          refine xi_iload_n (pc' := 6) (x := 6) kc_12_5 rfl rfl ?_
          refine xi_iload_n (pc' := 7) (x := 11) kc_12_6 rfl rfl ?_
          refine xi_cmf (pc' := 10) kc_12_7 rfl rfl ?_
          refine xi_iconst (pc' := 11) (v := 1) kc_12_10 rfl rfl ?_
          refine xi_goto (pc' := 15) kc_12_11 rfl ?_
          refine xi_ireturn kc_12_15 mr_12 rfl ?_
          show xw J ov 98 25 (7, [(0, .int 6)], [.int 1], hh1) _
          refine xi_ireturn kc_25_7 mr_25 rfl ?_
          show xw J ov 99 26 (9, [(0, .ref 115), (1, .int 6), (2, .int a2)], [.int 1], hh1) _
          refine xi_ift (pc' := 18) kc_26_9 rfl rfl ?_
          refine xi_iload_n (pc' := 19) (x := a2) kc_26_18 rfl rfl ?_
          refine xi_iconst (pc' := 20) (v := 0) kc_26_19 rfl rfl ?_
          refine xi_iconst (pc' := 21) (v := 5) kc_26_20 rfl rfl ?_
          refine xi_static (mj := 12) (as := [.int a2, .int 0, .int 5]) (st1 := []) (lv0 := [(0, .int a2), (1, .int 0), (2, .int 5)]) kc_26_21 rfl rfl (Nat.le_of_ble_eq_true rfl) rfl rfl (Nat.le_of_ble_eq_true rfl) (hJ _ _ _ _ (by decide)) (xm_le ml_12 rfl) rfl ?_
          refine xi_iload_n (pc' := 1) (x := a2) kc_12_0 rfl rfl ?_
          refine xi_iload_n (pc' := 2) (x := 0) kc_12_1 rfl rfl ?_
          refine xi_cmf (pc' := 5) kc_12_2 rfl (xc_lt_f (X := a2.toInt) (Y := 0) rfl (by decide) (by omega)) ?_
          refine xi_iload_n (pc' := 6) (x := a2) kc_12_5 rfl rfl ?_
          refine xi_iload_n (pc' := 7) (x := 5) kc_12_6 rfl rfl ?_
          refine xi_cmf (pc' := 10) kc_12_7 rfl (xc_gt_f (X := a2.toInt) (Y := 5) rfl (by decide) (by omega)) ?_
          refine xi_iconst (pc' := 11) (v := 1) kc_12_10 rfl rfl ?_
          refine xi_goto (pc' := 15) kc_12_11 rfl ?_
          refine xi_ireturn kc_12_15 mr_12 rfl ?_
          show xw J ov 99 26 (24, [(0, .ref 115), (1, .int 6), (2, .int a2)], [.int 1], hh1) _
          refine xi_ift (pc' := 34) kc_26_24 rfl rfl ?_
          refine xi_iload_n (pc' := 35) (x := a2) kc_26_34 rfl rfl ?_
          refine xi_tsd (pc' := 111) kc_26_35 rfl (by omega) ?_
          refine xi_aload_n (pc' := 112) (x := 115) kc_26_111 rfl rfl ?_
          refine xi_getfield (pc' := 115) (v := .ref 125) kc_26_112 rfl rfl rfl eh1.1 rfl ?_
          refine xi_iload_n (pc' := 116) (x := 6) kc_26_115 rfl rfl ?_
          refine xi_iaload (pc' := 117) (v := (-9)) kc_26_116 rfl ((eh1.2.1 125 (by decide)).trans (F 125 _ hl_125)) (by decide) rfl (xi_in (n := 12) (by decide) (by decide)) rfl ?_
          refine xi_iff (pc' := 120) kc_26_117 rfl rfl ?_
          refine xi_iconst (pc' := 121) (v := 0) kc_26_120 rfl rfl ?_
          refine xi_goto (pc' := 133) kc_26_121 rfl ?_
          refine xi_ireturn kc_26_133 mr_26 rfl ?_
          show xw J ov 100 196 (510, [(4, .int 0), (3, .ref 167), (2, .ref 115), (1, .ref 0), (0, .ref 1000000)], [.int 0, .int 0], hh1) _
          refine xi_cmt (pc' := 1528) kc_196_510 rfl rfl ?_
          refine xi_iinc (pc' := 1531) (x := 0) (v := 6) (lv' := [(4, .int 6), (3, .ref 167), (2, .ref 115), (1, .ref 0), (0, .ref 1000000)]) kc_196_1528 rfl rfl rfl rfl (xm_lt ml_196 rfl) ?_
          refine xi_goto (pc' := 23) kc_196_1531 rfl ?_
          refine xi_iload (pc' := 25) (x := 6) kc_196_23 rfl rfl ?_
          refine xi_aload_n (pc' := 26) (x := 1000000) kc_196_25 rfl rfl ?_
          refine xi_arraylength (pc' := 27) (n := 6) (v := 6) kc_196_26 rfl (xl_lenO (by decide) hov0 rfl) rfl ?_
          refine xi_bipush (pc' := 29) (v := 6) kc_196_27 rfl rfl ?_
          refine xi_isub (pc' := 30) (v := 0) kc_196_29 rfl rfl ?_
          refine xi_cmt (pc' := 1534) kc_196_30 rfl rfl ?_
          refine xi_iconst (pc' := 1535) (v := 1) kc_196_1534 rfl rfl ?_
          refine xi_ireturn kc_196_1535 mr_196 rfl ?_
          refine ⟨rfl, ?_, ?_⟩
          · rw [eh1.2.2.1]; exact hn0
          · rw [eh1.2.2.2]; exact hz0
        refine xi_tsd (pc' := 115) kc_107_24 rfl (by omega) ?_
        refine xi_aload_n (pc' := 116) (x := 0) kc_107_115 rfl rfl ?_
        refine xi_bipush (pc' := 118) (v := (-2)) kc_107_116 rfl rfl ?_
        refine xi_virtual (mj := 91) (as := [.int (-2)]) (st1 := []) (lv0 := [(0, .ref 0), (1, .int (-2))]) kc_107_118 rfl rfl rfl rfl rfl (F 0 _ hl_0) (Nat.le_of_ble_eq_true rfl) (hJ _ _ _ _ (by decide)) (xm_le ml_91 rfl) rfl ?_
        refine xi_iload_n (pc' := 1) (x := (-2)) kc_91_0 rfl rfl ?_
        refine xi_ineg (pc' := 2) (v := 2) kc_91_1 rfl rfl ?_
        refine xi_istore_n (pc' := 3) (lv' := [(2, .int 2), (0, .ref 0), (1, .int (-2))]) kc_91_2 rfl rfl (xm_lt ml_91 rfl) ?_
        refine xi_iload_n (pc' := 4) (x := 2) kc_91_3 rfl rfl ?_
        refine xi_iff (pc' := 7) kc_91_4 rfl rfl ?_
        refine xi_iload_n (pc' := 8) (x := 2) kc_91_7 rfl rfl ?_
        refine xi_aload_n (pc' := 9) (x := 0) kc_91_8 rfl rfl ?_
        refine xi_getfield (pc' := 12) (v := .ref 94) kc_91_9 rfl rfl rfl (F 0 _ hl_0) rfl ?_
        refine xi_arraylength (pc' := 13) (n := 7) (v := 7) kc_91_12 rfl (xl_lenI (by decide) (by decide) (F 94 _ hl_94) (by simp only [List.length_replicate, List.length_cons, List.length_nil])) rfl ?_
        refine xi_cmf (pc' := 16) kc_91_13 rfl rfl ?_
        refine xi_aload_n (pc' := 17) (x := 0) kc_91_16 rfl rfl ?_
        refine xi_getfield (pc' := 20) (v := .ref 94) kc_91_17 rfl rfl rfl (F 0 _ hl_0) rfl ?_
        refine xi_iload_n (pc' := 21) (x := 2) kc_91_20 rfl rfl ?_
        refine xi_dup2 (pc' := 22) kc_91_21 rfl ⟨rfl, rfl⟩ ?_
        refine xi_iaload (pc' := 23) (v := 0) kc_91_22 rfl (F 94 _ hl_94) (by decide) rfl (xi_in (n := 7) (by decide) (by decide)) rfl ?_
        refine xi_iconst (pc' := 24) (v := 1) kc_91_23 rfl rfl ?_
        refine xi_iadd (pc' := 25) (v := 1) kc_91_24 rfl rfl ?_
        refine xi_iastore (pc' := 26) (x' := [0, 0, 1, 0, 0, 0, 0]) kc_91_25 rfl (F 94 _ hl_94) rfl (xi_in (n := 7) (by decide) (by decide)) rfl (fun hh1 eh1 => ?_)
        refine xi_iload_n (pc' := 27) (x := (-2)) kc_91_26 rfl rfl ?_
        refine xi_ireturn kc_91_27 mr_91 rfl ?_
        show xw J ov 99 107 (121, [(3, .ref 41), (0, .ref 0), (1, .int 6), (2, .int a2)], [.int (-2)], hh1) _
        refine xi_ireturn kc_107_121 mr_107 rfl ?_
        show xw J ov 100 196 (494, [(4, .int 0), (3, .ref 167), (2, .ref 115), (1, .ref 0), (0, .ref 1000000)], [.int (-2)], hh1) _
        refine xi_aload_n (pc' := 495) (x := 115) kc_196_494 rfl rfl ?_
        refine xi_aload_n (pc' := 496) (x := 1000000) kc_196_495 rfl rfl ?_
        refine xi_iload (pc' := 498) (x := 0) kc_196_496 rfl rfl ?_
        refine xi_iconst (pc' := 499) (v := 1) kc_196_498 rfl rfl ?_
        refine xi_iadd (pc' := 500) (v := 1) kc_196_499 rfl rfl ?_
        refine xi_ialoadO (pc' := 501) (v := 6) kc_196_500 rfl (by decide) hov0 (xi_in (n := 6) (by decide) (by decide)) rfl ?_
        refine xi_aload_n (pc' := 502) (x := 1000000) kc_196_501 rfl rfl ?_
        refine xi_iload (pc' := 504) (x := 0) kc_196_502 rfl rfl ?_
        refine xi_iconst (pc' := 505) (v := 2) kc_196_504 rfl rfl ?_
        refine xi_iadd (pc' := 506) (v := 2) kc_196_505 rfl rfl ?_
        refine xi_ialoadO (pc' := 507) (v := a2) kc_196_506 rfl (by decide) hov0 (xi_in (n := 6) (by decide) (by decide)) rfl ?_
        refine xi_virtual (mj := 26) (as := [.int 6, .int a2]) (st1 := [.int (-2)]) (lv0 := [(0, .ref 115), (1, .int 6), (2, .int a2)]) kc_196_507 rfl rfl rfl rfl rfl ((eh1.2.1 115 (by decide)).trans (F 115 _ hl_115)) (Nat.le_of_ble_eq_true rfl) (hJ _ _ _ _ (by decide)) (xm_le ml_26 rfl) rfl ?_
        refine xi_aload_n (pc' := 1) (x := 115) kc_26_0 rfl rfl ?_
        refine xi_iconst (pc' := 2) (v := 0) kc_26_1 rfl rfl ?_
        refine xi_putfield (pc' := 5) (fs' := [.int 0, .int 0, .ref 116, .ref 117, .ref 118, .ref 119, .ref 120, .ref 121, .ref 122, .ref 123, .ref 124, .ref 125, .ref 126, .ref 127, .ref 128, .ref 129, .int 4, .ref 130, .int 0, .ref 131, .ref 132, .ref 133, .ref 134, .int 0, .ref 135, .ref 136, .ref 137, .ref 138, .ref 139, .ref 140, .ref 141, .ref 142, .int 0, .int 0, .int 0, .ref 143, .ref 144, .ref 145, .ref 146, .ref 147, .ref 148, .int 0, .ref 149, .ref 150, .ref 151, .int 0, .ref 152, .ref 153, .ref 154, .ref 155, .ref 156, .ref 157, .ref 158, .ref 159, .int 0, .ref 160, .int 0, .ref 161, .ref 162, .ref 163, .ref 164, .int 0, .ref 165, .ref 166]) kc_26_2 rfl rfl rfl ((eh1.2.1 115 (by decide)).trans (F 115 _ hl_115)) rfl rfl rfl (Nat.le_of_ble_eq_true rfl) rfl (fun hh2 eh2 => ?_)
        refine xi_iload_n (pc' := 6) (x := 6) kc_26_5 rfl rfl ?_
        refine xi_static (mj := 25) (as := [.int 6]) (st1 := []) (lv0 := [(0, .int 6)]) kc_26_6 rfl rfl (Nat.le_of_ble_eq_true rfl) rfl rfl (Nat.le_of_ble_eq_true rfl) (hJ _ _ _ _ (by decide)) (xm_le ml_25 rfl) rfl ?_
        refine xi_iload_n (pc' := 1) (x := 6) kc_25_0 rfl rfl ?_
        refine xi_iconst (pc' := 2) (v := 0) kc_25_1 rfl rfl ?_
        refine xi_bipush (pc' := 4) (v := 11) kc_25_2 rfl rfl ?_
        refine xi_static (mj := 12) (as := [.int 6, .int 0, .int 11]) (st1 := []) (lv0 := [(0, .int 6), (1, .int 0), (2, .int 11)]) kc_25_4 rfl rfl (Nat.le_of_ble_eq_true rfl) rfl rfl (Nat.le_of_ble_eq_true rfl) (hJ _ _ _ _ (by decide)) (xm_le ml_12 rfl) rfl ?_
        refine xi_iload_n (pc' := 1) (x := 6) kc_12_0 rfl rfl ?_
        refine xi_iload_n (pc' := 2) (x := 0) kc_12_1 rfl rfl ?_
        refine xi_cmf (pc' := 5) kc_12_2 rfl rfl ?_
        refine xi_iload_n (pc' := 6) (x := 6) kc_12_5 rfl rfl ?_
        refine xi_iload_n (pc' := 7) (x := 11) kc_12_6 rfl rfl ?_
        refine xi_cmf (pc' := 10) kc_12_7 rfl rfl ?_
        refine xi_iconst (pc' := 11) (v := 1) kc_12_10 rfl rfl ?_
        refine xi_goto (pc' := 15) kc_12_11 rfl ?_
        refine xi_ireturn kc_12_15 mr_12 rfl ?_
        show xw J ov 98 25 (7, [(0, .int 6)], [.int 1], hh2) _
        refine xi_ireturn kc_25_7 mr_25 rfl ?_
        show xw J ov 99 26 (9, [(0, .ref 115), (1, .int 6), (2, .int a2)], [.int 1], hh2) _
        refine xi_ift (pc' := 18) kc_26_9 rfl rfl ?_
        refine xi_iload_n (pc' := 19) (x := a2) kc_26_18 rfl rfl ?_
        refine xi_iconst (pc' := 20) (v := 0) kc_26_19 rfl rfl ?_
        refine xi_iconst (pc' := 21) (v := 5) kc_26_20 rfl rfl ?_
        refine xi_static (mj := 12) (as := [.int a2, .int 0, .int 5]) (st1 := []) (lv0 := [(0, .int a2), (1, .int 0), (2, .int 5)]) kc_26_21 rfl rfl (Nat.le_of_ble_eq_true rfl) rfl rfl (Nat.le_of_ble_eq_true rfl) (hJ _ _ _ _ (by decide)) (xm_le ml_12 rfl) rfl ?_
        refine xi_iload_n (pc' := 1) (x := a2) kc_12_0 rfl rfl ?_
        refine xi_iload_n (pc' := 2) (x := 0) kc_12_1 rfl rfl ?_
        by_cases c58 : a2.toInt < 0
        · refine xi_cmt (pc' := 14) kc_12_2 rfl (xc_lt_t (X := a2.toInt) (Y := 0) rfl (by decide) (by omega)) ?_
          refine xi_iconst (pc' := 15) (v := 0) kc_12_14 rfl rfl ?_
          refine xi_ireturn kc_12_15 mr_12 rfl ?_
          show xw J ov 99 26 (24, [(0, .ref 115), (1, .int 6), (2, .int a2)], [.int 0], hh2) _
          refine xi_iff (pc' := 27) kc_26_24 rfl rfl ?_
          refine xi_aload_n (pc' := 28) (x := 115) kc_26_27 rfl rfl ?_
          refine xi_bipush (pc' := 30) (v := (-2)) kc_26_28 rfl rfl ?_
          refine xi_virtual (mj := 13) (as := [.int (-2)]) (st1 := []) (lv0 := [(0, .ref 115), (1, .int (-2))]) kc_26_30 rfl rfl rfl rfl rfl eh2.1 (Nat.le_of_ble_eq_true rfl) (hJ _ _ _ _ (by decide)) (xm_le ml_13 rfl) rfl ?_
          refine xi_aload_n (pc' := 1) (x := 115) kc_13_0 rfl rfl ?_
          refine xi_getfield (pc' := 4) (v := .ref 140) kc_13_1 rfl rfl rfl eh2.1 rfl ?_
          refine xi_iload_n (pc' := 5) (x := (-2)) kc_13_4 rfl rfl ?_
          refine xi_ineg (pc' := 6) (v := 2) kc_13_5 rfl rfl ?_
          refine xi_dup2 (pc' := 7) kc_13_6 rfl ⟨rfl, rfl⟩ ?_
          refine xi_iaload (pc' := 8) (v := 0) kc_13_7 rfl ((eh2.2.1 140 (by decide)).trans ((eh1.2.1 140 (by decide)).trans (F 140 _ hl_140))) (by decide) rfl (xi_in (n := 7) (by decide) (by decide)) rfl ?_
          refine xi_iconst (pc' := 9) (v := 1) kc_13_8 rfl rfl ?_
          refine xi_iadd (pc' := 10) (v := 1) kc_13_9 rfl rfl ?_
          refine xi_iastore (pc' := 11) (x' := [0, 0, 1, 0, 0, 0, 0]) kc_13_10 rfl ((eh2.2.1 140 (by decide)).trans ((eh1.2.1 140 (by decide)).trans (F 140 _ hl_140))) rfl (xi_in (n := 7) (by decide) (by decide)) rfl (fun hh3 eh3 => ?_)
          refine xi_iload_n (pc' := 12) (x := (-2)) kc_13_11 rfl rfl ?_
          refine xi_ireturn kc_13_12 mr_13 rfl ?_
          show xw J ov 99 26 (33, [(0, .ref 115), (1, .int 6), (2, .int a2)], [.int (-2)], hh3) _
          refine xi_ireturn kc_26_33 mr_26 rfl ?_
          show xw J ov 100 196 (510, [(4, .int 0), (3, .ref 167), (2, .ref 115), (1, .ref 0), (0, .ref 1000000)], [.int (-2), .int (-2)], hh3) _
          refine xi_cmt (pc' := 1528) kc_196_510 rfl rfl ?_
          refine xi_iinc (pc' := 1531) (x := 0) (v := 6) (lv' := [(4, .int 6), (3, .ref 167), (2, .ref 115), (1, .ref 0), (0, .ref 1000000)]) kc_196_1528 rfl rfl rfl rfl (xm_lt ml_196 rfl) ?_
          refine xi_goto (pc' := 23) kc_196_1531 rfl ?_
          refine xi_iload (pc' := 25) (x := 6) kc_196_23 rfl rfl ?_
          refine xi_aload_n (pc' := 26) (x := 1000000) kc_196_25 rfl rfl ?_
          refine xi_arraylength (pc' := 27) (n := 6) (v := 6) kc_196_26 rfl (xl_lenO (by decide) hov0 rfl) rfl ?_
          refine xi_bipush (pc' := 29) (v := 6) kc_196_27 rfl rfl ?_
          refine xi_isub (pc' := 30) (v := 0) kc_196_29 rfl rfl ?_
          refine xi_cmt (pc' := 1534) kc_196_30 rfl rfl ?_
          refine xi_iconst (pc' := 1535) (v := 1) kc_196_1534 rfl rfl ?_
          refine xi_ireturn kc_196_1535 mr_196 rfl ?_
          refine ⟨rfl, ?_, ?_⟩
          · rw [eh3.2.2.1, eh2.2.2.1, eh1.2.2.1]; exact hn0
          · rw [eh3.2.2.2, eh2.2.2.2, eh1.2.2.2]; exact hz0
        · refine xi_cmf (pc' := 5) kc_12_2 rfl (xc_lt_f (X := a2.toInt) (Y := 0) rfl (by decide) (by omega)) ?_
          refine xi_iload_n (pc' := 6) (x := a2) kc_12_5 rfl rfl ?_
          refine xi_iload_n (pc' := 7) (x := 5) kc_12_6 rfl rfl ?_
          refine xi_cmt (pc' := 14) kc_12_7 rfl (xc_gt_t (X := a2.toInt) (Y := 5) rfl (by decide) (by omega)) ?_
          refine xi_iconst (pc' := 15) (v := 0) kc_12_14 rfl rfl ?_
          refine xi_ireturn kc_12_15 mr_12 rfl ?_
          show xw J ov 99 26 (24, [(0, .ref 115), (1, .int 6), (2, .int a2)], [.int 0], hh2) _
          refine xi_iff (pc' := 27) kc_26_24 rfl rfl ?_
          refine xi_aload_n (pc' := 28) (x := 115) kc_26_27 rfl rfl ?_
          refine xi_bipush (pc' := 30) (v := (-2)) kc_26_28 rfl rfl ?_
          refine xi_virtual (mj := 13) (as := [.int (-2)]) (st1 := []) (lv0 := [(0, .ref 115), (1, .int (-2))]) kc_26_30 rfl rfl rfl rfl rfl eh2.1 (Nat.le_of_ble_eq_true rfl) (hJ _ _ _ _ (by decide)) (xm_le ml_13 rfl) rfl ?_
          refine xi_aload_n (pc' := 1) (x := 115) kc_13_0 rfl rfl ?_
          refine xi_getfield (pc' := 4) (v := .ref 140) kc_13_1 rfl rfl rfl eh2.1 rfl ?_
          refine xi_iload_n (pc' := 5) (x := (-2)) kc_13_4 rfl rfl ?_
          refine xi_ineg (pc' := 6) (v := 2) kc_13_5 rfl rfl ?_
          refine xi_dup2 (pc' := 7) kc_13_6 rfl ⟨rfl, rfl⟩ ?_
          refine xi_iaload (pc' := 8) (v := 0) kc_13_7 rfl ((eh2.2.1 140 (by decide)).trans ((eh1.2.1 140 (by decide)).trans (F 140 _ hl_140))) (by decide) rfl (xi_in (n := 7) (by decide) (by decide)) rfl ?_
          refine xi_iconst (pc' := 9) (v := 1) kc_13_8 rfl rfl ?_
          refine xi_iadd (pc' := 10) (v := 1) kc_13_9 rfl rfl ?_
          refine xi_iastore (pc' := 11) (x' := [0, 0, 1, 0, 0, 0, 0]) kc_13_10 rfl ((eh2.2.1 140 (by decide)).trans ((eh1.2.1 140 (by decide)).trans (F 140 _ hl_140))) rfl (xi_in (n := 7) (by decide) (by decide)) rfl (fun hh3 eh3 => ?_)
          refine xi_iload_n (pc' := 12) (x := (-2)) kc_13_11 rfl rfl ?_
          refine xi_ireturn kc_13_12 mr_13 rfl ?_
          show xw J ov 99 26 (33, [(0, .ref 115), (1, .int 6), (2, .int a2)], [.int (-2)], hh3) _
          refine xi_ireturn kc_26_33 mr_26 rfl ?_
          show xw J ov 100 196 (510, [(4, .int 0), (3, .ref 167), (2, .ref 115), (1, .ref 0), (0, .ref 1000000)], [.int (-2), .int (-2)], hh3) _
          refine xi_cmt (pc' := 1528) kc_196_510 rfl rfl ?_
          refine xi_iinc (pc' := 1531) (x := 0) (v := 6) (lv' := [(4, .int 6), (3, .ref 167), (2, .ref 115), (1, .ref 0), (0, .ref 1000000)]) kc_196_1528 rfl rfl rfl rfl (xm_lt ml_196 rfl) ?_
          refine xi_goto (pc' := 23) kc_196_1531 rfl ?_
          refine xi_iload (pc' := 25) (x := 6) kc_196_23 rfl rfl ?_
          refine xi_aload_n (pc' := 26) (x := 1000000) kc_196_25 rfl rfl ?_
          refine xi_arraylength (pc' := 27) (n := 6) (v := 6) kc_196_26 rfl (xl_lenO (by decide) hov0 rfl) rfl ?_
          refine xi_bipush (pc' := 29) (v := 6) kc_196_27 rfl rfl ?_
          refine xi_isub (pc' := 30) (v := 0) kc_196_29 rfl rfl ?_
          refine xi_cmt (pc' := 1534) kc_196_30 rfl rfl ?_
          refine xi_iconst (pc' := 1535) (v := 1) kc_196_1534 rfl rfl ?_
          refine xi_ireturn kc_196_1535 mr_196 rfl ?_
          refine ⟨rfl, ?_, ?_⟩
          · rw [eh3.2.2.1, eh2.2.2.1, eh1.2.2.1]; exact hn0
          · rw [eh3.2.2.2, eh2.2.2.2, eh1.2.2.2]; exact hz0
      by_cases c59 : a1.toInt = 7
      · have qa1 : a1 = 7 := xc_of (Eq.trans (by omega) (show (7 : Int) = (7 : Int32).toInt by decide))
        subst qa1
        refine xi_aaload (pc' := 22) (b := 43) kc_107_21 rfl (F 3 _ hl_3) rfl (xi_in (n := 12) (by decide) (by decide)) rfl ?_
        refine xi_astore_n (pc' := 23) (lv' := [(3, .ref 43), (0, .ref 0), (1, .int 7), (2, .int a2)]) kc_107_22 rfl rfl (xm_lt ml_107 rfl) ?_
        refine xi_iload_n (pc' := 24) (x := a2) kc_107_23 rfl rfl ?_
        by_cases c60 : a2.toInt = 0
        · refine xi_tsi (pc' := 64) (z := 0) kc_107_24 (by omega) rfl (by decide) ?_
          refine xi_aload_n (pc' := 65) (x := 43) kc_107_64 rfl rfl ?_
          refine xi_getfield (pc' := 68) (v := .int (-9)) kc_107_65 rfl rfl rfl (F 43 _ hl_43) rfl ?_
          refine xi_ireturn kc_107_68 mr_107 rfl ?_
          show xw J ov 100 196 (494, [(4, .int 0), (3, .ref 167), (2, .ref 115), (1, .ref 0), (0, .ref 1000000)], [.int (-9)], h0) _
          refine xi_aload_n (pc' := 495) (x := 115) kc_196_494 rfl rfl ?_
          refine xi_aload_n (pc' := 496) (x := 1000000) kc_196_495 rfl rfl ?_
          refine xi_iload (pc' := 498) (x := 0) kc_196_496 rfl rfl ?_
          refine xi_iconst (pc' := 499) (v := 1) kc_196_498 rfl rfl ?_
          refine xi_iadd (pc' := 500) (v := 1) kc_196_499 rfl rfl ?_
          refine xi_ialoadO (pc' := 501) (v := 7) kc_196_500 rfl (by decide) hov0 (xi_in (n := 6) (by decide) (by decide)) rfl ?_
          refine xi_aload_n (pc' := 502) (x := 1000000) kc_196_501 rfl rfl ?_
          refine xi_iload (pc' := 504) (x := 0) kc_196_502 rfl rfl ?_
          refine xi_iconst (pc' := 505) (v := 2) kc_196_504 rfl rfl ?_
          refine xi_iadd (pc' := 506) (v := 2) kc_196_505 rfl rfl ?_
          refine xi_ialoadO (pc' := 507) (v := a2) kc_196_506 rfl (by decide) hov0 (xi_in (n := 6) (by decide) (by decide)) rfl ?_
          refine xi_virtual (mj := 26) (as := [.int 7, .int a2]) (st1 := [.int (-9)]) (lv0 := [(0, .ref 115), (1, .int 7), (2, .int a2)]) kc_196_507 rfl rfl rfl rfl rfl (F 115 _ hl_115) (Nat.le_of_ble_eq_true rfl) (hJ _ _ _ _ (by decide)) (xm_le ml_26 rfl) rfl ?_
          refine xi_aload_n (pc' := 1) (x := 115) kc_26_0 rfl rfl ?_
          refine xi_iconst (pc' := 2) (v := 0) kc_26_1 rfl rfl ?_
          refine xi_putfield (pc' := 5) (fs' := [.int 0, .int 0, .ref 116, .ref 117, .ref 118, .ref 119, .ref 120, .ref 121, .ref 122, .ref 123, .ref 124, .ref 125, .ref 126, .ref 127, .ref 128, .ref 129, .int 4, .ref 130, .int 0, .ref 131, .ref 132, .ref 133, .ref 134, .int 0, .ref 135, .ref 136, .ref 137, .ref 138, .ref 139, .ref 140, .ref 141, .ref 142, .int 0, .int 0, .int 0, .ref 143, .ref 144, .ref 145, .ref 146, .ref 147, .ref 148, .int 0, .ref 149, .ref 150, .ref 151, .int 0, .ref 152, .ref 153, .ref 154, .ref 155, .ref 156, .ref 157, .ref 158, .ref 159, .int 0, .ref 160, .int 0, .ref 161, .ref 162, .ref 163, .ref 164, .int 0, .ref 165, .ref 166]) kc_26_2 rfl rfl rfl (F 115 _ hl_115) rfl rfl rfl (Nat.le_of_ble_eq_true rfl) rfl (fun hh1 eh1 => ?_)
          refine xi_iload_n (pc' := 6) (x := 7) kc_26_5 rfl rfl ?_
          refine xi_static (mj := 25) (as := [.int 7]) (st1 := []) (lv0 := [(0, .int 7)]) kc_26_6 rfl rfl (Nat.le_of_ble_eq_true rfl) rfl rfl (Nat.le_of_ble_eq_true rfl) (hJ _ _ _ _ (by decide)) (xm_le ml_25 rfl) rfl ?_
          refine xi_iload_n (pc' := 1) (x := 7) kc_25_0 rfl rfl ?_
          refine xi_iconst (pc' := 2) (v := 0) kc_25_1 rfl rfl ?_
          refine xi_bipush (pc' := 4) (v := 11) kc_25_2 rfl rfl ?_
          refine xi_static (mj := 12) (as := [.int 7, .int 0, .int 11]) (st1 := []) (lv0 := [(0, .int 7), (1, .int 0), (2, .int 11)]) kc_25_4 rfl rfl (Nat.le_of_ble_eq_true rfl) rfl rfl (Nat.le_of_ble_eq_true rfl) (hJ _ _ _ _ (by decide)) (xm_le ml_12 rfl) rfl ?_
          refine xi_iload_n (pc' := 1) (x := 7) kc_12_0 rfl rfl ?_
          refine xi_iload_n (pc' := 2) (x := 0) kc_12_1 rfl rfl ?_
          refine xi_cmf (pc' := 5) kc_12_2 rfl rfl ?_
          refine xi_iload_n (pc' := 6) (x := 7) kc_12_5 rfl rfl ?_
          refine xi_iload_n (pc' := 7) (x := 11) kc_12_6 rfl rfl ?_
          refine xi_cmf (pc' := 10) kc_12_7 rfl rfl ?_
          refine xi_iconst (pc' := 11) (v := 1) kc_12_10 rfl rfl ?_
          refine xi_goto (pc' := 15) kc_12_11 rfl ?_
          refine xi_ireturn kc_12_15 mr_12 rfl ?_
          show xw J ov 98 25 (7, [(0, .int 7)], [.int 1], hh1) _
          refine xi_ireturn kc_25_7 mr_25 rfl ?_
          show xw J ov 99 26 (9, [(0, .ref 115), (1, .int 7), (2, .int a2)], [.int 1], hh1) _
          refine xi_ift (pc' := 18) kc_26_9 rfl rfl ?_
          refine xi_iload_n (pc' := 19) (x := a2) kc_26_18 rfl rfl ?_
          refine xi_iconst (pc' := 20) (v := 0) kc_26_19 rfl rfl ?_
          refine xi_iconst (pc' := 21) (v := 5) kc_26_20 rfl rfl ?_
          refine xi_static (mj := 12) (as := [.int a2, .int 0, .int 5]) (st1 := []) (lv0 := [(0, .int a2), (1, .int 0), (2, .int 5)]) kc_26_21 rfl rfl (Nat.le_of_ble_eq_true rfl) rfl rfl (Nat.le_of_ble_eq_true rfl) (hJ _ _ _ _ (by decide)) (xm_le ml_12 rfl) rfl ?_
          refine xi_iload_n (pc' := 1) (x := a2) kc_12_0 rfl rfl ?_
          refine xi_iload_n (pc' := 2) (x := 0) kc_12_1 rfl rfl ?_
          refine xi_cmf (pc' := 5) kc_12_2 rfl (xc_lt_f (X := a2.toInt) (Y := 0) rfl (by decide) (by omega)) ?_
          refine xi_iload_n (pc' := 6) (x := a2) kc_12_5 rfl rfl ?_
          refine xi_iload_n (pc' := 7) (x := 5) kc_12_6 rfl rfl ?_
          refine xi_cmf (pc' := 10) kc_12_7 rfl (xc_gt_f (X := a2.toInt) (Y := 5) rfl (by decide) (by omega)) ?_
          refine xi_iconst (pc' := 11) (v := 1) kc_12_10 rfl rfl ?_
          refine xi_goto (pc' := 15) kc_12_11 rfl ?_
          refine xi_ireturn kc_12_15 mr_12 rfl ?_
          show xw J ov 99 26 (24, [(0, .ref 115), (1, .int 7), (2, .int a2)], [.int 1], hh1) _
          refine xi_ift (pc' := 34) kc_26_24 rfl rfl ?_
          refine xi_iload_n (pc' := 35) (x := a2) kc_26_34 rfl rfl ?_
          refine xi_tsi (pc' := 68) (z := 0) kc_26_35 (by omega) rfl (by decide) ?_
          refine xi_aload_n (pc' := 69) (x := 115) kc_26_68 rfl rfl ?_
          refine xi_getfield (pc' := 72) (v := .ref 125) kc_26_69 rfl rfl rfl eh1.1 rfl ?_
          refine xi_iload_n (pc' := 73) (x := 7) kc_26_72 rfl rfl ?_
          refine xi_iaload (pc' := 74) (v := (-9)) kc_26_73 rfl ((eh1.2.1 125 (by decide)).trans (F 125 _ hl_125)) (by decide) rfl (xi_in (n := 12) (by decide) (by decide)) rfl ?_
          refine xi_ireturn kc_26_74 mr_26 rfl ?_
          show xw J ov 100 196 (510, [(4, .int 0), (3, .ref 167), (2, .ref 115), (1, .ref 0), (0, .ref 1000000)], [.int (-9), .int (-9)], hh1) _
          refine xi_cmt (pc' := 1528) kc_196_510 rfl rfl ?_
          refine xi_iinc (pc' := 1531) (x := 0) (v := 6) (lv' := [(4, .int 6), (3, .ref 167), (2, .ref 115), (1, .ref 0), (0, .ref 1000000)]) kc_196_1528 rfl rfl rfl rfl (xm_lt ml_196 rfl) ?_
          refine xi_goto (pc' := 23) kc_196_1531 rfl ?_
          refine xi_iload (pc' := 25) (x := 6) kc_196_23 rfl rfl ?_
          refine xi_aload_n (pc' := 26) (x := 1000000) kc_196_25 rfl rfl ?_
          refine xi_arraylength (pc' := 27) (n := 6) (v := 6) kc_196_26 rfl (xl_lenO (by decide) hov0 rfl) rfl ?_
          refine xi_bipush (pc' := 29) (v := 6) kc_196_27 rfl rfl ?_
          refine xi_isub (pc' := 30) (v := 0) kc_196_29 rfl rfl ?_
          refine xi_cmt (pc' := 1534) kc_196_30 rfl rfl ?_
          refine xi_iconst (pc' := 1535) (v := 1) kc_196_1534 rfl rfl ?_
          refine xi_ireturn kc_196_1535 mr_196 rfl ?_
          refine ⟨rfl, ?_, ?_⟩
          · rw [eh1.2.2.1]; exact hn0
          · rw [eh1.2.2.2]; exact hz0
        by_cases c61 : a2.toInt = 1
        · refine xi_tsi (pc' := 69) (z := 1) kc_107_24 (by omega) rfl (by decide) ?_
          refine xi_aload_n (pc' := 70) (x := 43) kc_107_69 rfl rfl ?_
          refine xi_getfield (pc' := 73) (v := .int 0) kc_107_70 rfl rfl rfl (F 43 _ hl_43) rfl ?_
          refine xi_ireturn kc_107_73 mr_107 rfl ?_
          show xw J ov 100 196 (494, [(4, .int 0), (3, .ref 167), (2, .ref 115), (1, .ref 0), (0, .ref 1000000)], [.int 0], h0) _
          refine xi_aload_n (pc' := 495) (x := 115) kc_196_494 rfl rfl ?_
          refine xi_aload_n (pc' := 496) (x := 1000000) kc_196_495 rfl rfl ?_
          refine xi_iload (pc' := 498) (x := 0) kc_196_496 rfl rfl ?_
          refine xi_iconst (pc' := 499) (v := 1) kc_196_498 rfl rfl ?_
          refine xi_iadd (pc' := 500) (v := 1) kc_196_499 rfl rfl ?_
          refine xi_ialoadO (pc' := 501) (v := 7) kc_196_500 rfl (by decide) hov0 (xi_in (n := 6) (by decide) (by decide)) rfl ?_
          refine xi_aload_n (pc' := 502) (x := 1000000) kc_196_501 rfl rfl ?_
          refine xi_iload (pc' := 504) (x := 0) kc_196_502 rfl rfl ?_
          refine xi_iconst (pc' := 505) (v := 2) kc_196_504 rfl rfl ?_
          refine xi_iadd (pc' := 506) (v := 2) kc_196_505 rfl rfl ?_
          refine xi_ialoadO (pc' := 507) (v := a2) kc_196_506 rfl (by decide) hov0 (xi_in (n := 6) (by decide) (by decide)) rfl ?_
          refine xi_virtual (mj := 26) (as := [.int 7, .int a2]) (st1 := [.int 0]) (lv0 := [(0, .ref 115), (1, .int 7), (2, .int a2)]) kc_196_507 rfl rfl rfl rfl rfl (F 115 _ hl_115) (Nat.le_of_ble_eq_true rfl) (hJ _ _ _ _ (by decide)) (xm_le ml_26 rfl) rfl ?_
          refine xi_aload_n (pc' := 1) (x := 115) kc_26_0 rfl rfl ?_
          refine xi_iconst (pc' := 2) (v := 0) kc_26_1 rfl rfl ?_
          refine xi_putfield (pc' := 5) (fs' := [.int 0, .int 0, .ref 116, .ref 117, .ref 118, .ref 119, .ref 120, .ref 121, .ref 122, .ref 123, .ref 124, .ref 125, .ref 126, .ref 127, .ref 128, .ref 129, .int 4, .ref 130, .int 0, .ref 131, .ref 132, .ref 133, .ref 134, .int 0, .ref 135, .ref 136, .ref 137, .ref 138, .ref 139, .ref 140, .ref 141, .ref 142, .int 0, .int 0, .int 0, .ref 143, .ref 144, .ref 145, .ref 146, .ref 147, .ref 148, .int 0, .ref 149, .ref 150, .ref 151, .int 0, .ref 152, .ref 153, .ref 154, .ref 155, .ref 156, .ref 157, .ref 158, .ref 159, .int 0, .ref 160, .int 0, .ref 161, .ref 162, .ref 163, .ref 164, .int 0, .ref 165, .ref 166]) kc_26_2 rfl rfl rfl (F 115 _ hl_115) rfl rfl rfl (Nat.le_of_ble_eq_true rfl) rfl (fun hh1 eh1 => ?_)
          refine xi_iload_n (pc' := 6) (x := 7) kc_26_5 rfl rfl ?_
          refine xi_static (mj := 25) (as := [.int 7]) (st1 := []) (lv0 := [(0, .int 7)]) kc_26_6 rfl rfl (Nat.le_of_ble_eq_true rfl) rfl rfl (Nat.le_of_ble_eq_true rfl) (hJ _ _ _ _ (by decide)) (xm_le ml_25 rfl) rfl ?_
          refine xi_iload_n (pc' := 1) (x := 7) kc_25_0 rfl rfl ?_
          refine xi_iconst (pc' := 2) (v := 0) kc_25_1 rfl rfl ?_
          refine xi_bipush (pc' := 4) (v := 11) kc_25_2 rfl rfl ?_
          refine xi_static (mj := 12) (as := [.int 7, .int 0, .int 11]) (st1 := []) (lv0 := [(0, .int 7), (1, .int 0), (2, .int 11)]) kc_25_4 rfl rfl (Nat.le_of_ble_eq_true rfl) rfl rfl (Nat.le_of_ble_eq_true rfl) (hJ _ _ _ _ (by decide)) (xm_le ml_12 rfl) rfl ?_
          refine xi_iload_n (pc' := 1) (x := 7) kc_12_0 rfl rfl ?_
          refine xi_iload_n (pc' := 2) (x := 0) kc_12_1 rfl rfl ?_
          refine xi_cmf (pc' := 5) kc_12_2 rfl rfl ?_
          refine xi_iload_n (pc' := 6) (x := 7) kc_12_5 rfl rfl ?_
          refine xi_iload_n (pc' := 7) (x := 11) kc_12_6 rfl rfl ?_
          refine xi_cmf (pc' := 10) kc_12_7 rfl rfl ?_
          refine xi_iconst (pc' := 11) (v := 1) kc_12_10 rfl rfl ?_
          refine xi_goto (pc' := 15) kc_12_11 rfl ?_
          refine xi_ireturn kc_12_15 mr_12 rfl ?_
          show xw J ov 98 25 (7, [(0, .int 7)], [.int 1], hh1) _
          refine xi_ireturn kc_25_7 mr_25 rfl ?_
          show xw J ov 99 26 (9, [(0, .ref 115), (1, .int 7), (2, .int a2)], [.int 1], hh1) _
          refine xi_ift (pc' := 18) kc_26_9 rfl rfl ?_
          refine xi_iload_n (pc' := 19) (x := a2) kc_26_18 rfl rfl ?_
          refine xi_iconst (pc' := 20) (v := 0) kc_26_19 rfl rfl ?_
          refine xi_iconst (pc' := 21) (v := 5) kc_26_20 rfl rfl ?_
          refine xi_static (mj := 12) (as := [.int a2, .int 0, .int 5]) (st1 := []) (lv0 := [(0, .int a2), (1, .int 0), (2, .int 5)]) kc_26_21 rfl rfl (Nat.le_of_ble_eq_true rfl) rfl rfl (Nat.le_of_ble_eq_true rfl) (hJ _ _ _ _ (by decide)) (xm_le ml_12 rfl) rfl ?_
          refine xi_iload_n (pc' := 1) (x := a2) kc_12_0 rfl rfl ?_
          refine xi_iload_n (pc' := 2) (x := 0) kc_12_1 rfl rfl ?_
          refine xi_cmf (pc' := 5) kc_12_2 rfl (xc_lt_f (X := a2.toInt) (Y := 0) rfl (by decide) (by omega)) ?_
          refine xi_iload_n (pc' := 6) (x := a2) kc_12_5 rfl rfl ?_
          refine xi_iload_n (pc' := 7) (x := 5) kc_12_6 rfl rfl ?_
          refine xi_cmf (pc' := 10) kc_12_7 rfl (xc_gt_f (X := a2.toInt) (Y := 5) rfl (by decide) (by omega)) ?_
          refine xi_iconst (pc' := 11) (v := 1) kc_12_10 rfl rfl ?_
          refine xi_goto (pc' := 15) kc_12_11 rfl ?_
          refine xi_ireturn kc_12_15 mr_12 rfl ?_
          show xw J ov 99 26 (24, [(0, .ref 115), (1, .int 7), (2, .int a2)], [.int 1], hh1) _
          refine xi_ift (pc' := 34) kc_26_24 rfl rfl ?_
          refine xi_iload_n (pc' := 35) (x := a2) kc_26_34 rfl rfl ?_
          refine xi_tsi (pc' := 75) (z := 1) kc_26_35 (by omega) rfl (by decide) ?_
          refine xi_aload_n (pc' := 76) (x := 115) kc_26_75 rfl rfl ?_
          refine xi_getfield (pc' := 79) (v := .ref 126) kc_26_76 rfl rfl rfl eh1.1 rfl ?_
          refine xi_iload_n (pc' := 80) (x := 7) kc_26_79 rfl rfl ?_
          refine xi_iaload (pc' := 81) (v := 0) kc_26_80 rfl ((eh1.2.1 126 (by decide)).trans (F 126 _ hl_126)) (by decide) rfl (xi_in (n := 12) (by decide) (by decide)) rfl ?_
          refine xi_ireturn kc_26_81 mr_26 rfl ?_
          show xw J ov 100 196 (510, [(4, .int 0), (3, .ref 167), (2, .ref 115), (1, .ref 0), (0, .ref 1000000)], [.int 0, .int 0], hh1) _
          refine xi_cmt (pc' := 1528) kc_196_510 rfl rfl ?_
          refine xi_iinc (pc' := 1531) (x := 0) (v := 6) (lv' := [(4, .int 6), (3, .ref 167), (2, .ref 115), (1, .ref 0), (0, .ref 1000000)]) kc_196_1528 rfl rfl rfl rfl (xm_lt ml_196 rfl) ?_
          refine xi_goto (pc' := 23) kc_196_1531 rfl ?_
          refine xi_iload (pc' := 25) (x := 6) kc_196_23 rfl rfl ?_
          refine xi_aload_n (pc' := 26) (x := 1000000) kc_196_25 rfl rfl ?_
          refine xi_arraylength (pc' := 27) (n := 6) (v := 6) kc_196_26 rfl (xl_lenO (by decide) hov0 rfl) rfl ?_
          refine xi_bipush (pc' := 29) (v := 6) kc_196_27 rfl rfl ?_
          refine xi_isub (pc' := 30) (v := 0) kc_196_29 rfl rfl ?_
          refine xi_cmt (pc' := 1534) kc_196_30 rfl rfl ?_
          refine xi_iconst (pc' := 1535) (v := 1) kc_196_1534 rfl rfl ?_
          refine xi_ireturn kc_196_1535 mr_196 rfl ?_
          refine ⟨rfl, ?_, ?_⟩
          · rw [eh1.2.2.1]; exact hn0
          · rw [eh1.2.2.2]; exact hz0
        by_cases c62 : a2.toInt = 2
        · refine xi_tsi (pc' := 74) (z := 2) kc_107_24 (by omega) rfl (by decide) ?_
          refine xi_aload_n (pc' := 75) (x := 43) kc_107_74 rfl rfl ?_
          refine xi_getfield (pc' := 78) (v := .int 0) kc_107_75 rfl rfl rfl (F 43 _ hl_43) rfl ?_
          refine xi_ift (pc' := 85) kc_107_78 rfl rfl ?_
          refine xi_iconst (pc' := 86) (v := 0) kc_107_85 rfl rfl ?_
          refine xi_ireturn kc_107_86 mr_107 rfl ?_
          show xw J ov 100 196 (494, [(4, .int 0), (3, .ref 167), (2, .ref 115), (1, .ref 0), (0, .ref 1000000)], [.int 0], h0) _
          refine xi_aload_n (pc' := 495) (x := 115) kc_196_494 rfl rfl ?_
          refine xi_aload_n (pc' := 496) (x := 1000000) kc_196_495 rfl rfl ?_
          refine xi_iload (pc' := 498) (x := 0) kc_196_496 rfl rfl ?_
          refine xi_iconst (pc' := 499) (v := 1) kc_196_498 rfl rfl ?_
          refine xi_iadd (pc' := 500) (v := 1) kc_196_499 rfl rfl ?_
          refine xi_ialoadO (pc' := 501) (v := 7) kc_196_500 rfl (by decide) hov0 (xi_in (n := 6) (by decide) (by decide)) rfl ?_
          refine xi_aload_n (pc' := 502) (x := 1000000) kc_196_501 rfl rfl ?_
          refine xi_iload (pc' := 504) (x := 0) kc_196_502 rfl rfl ?_
          refine xi_iconst (pc' := 505) (v := 2) kc_196_504 rfl rfl ?_
          refine xi_iadd (pc' := 506) (v := 2) kc_196_505 rfl rfl ?_
          refine xi_ialoadO (pc' := 507) (v := a2) kc_196_506 rfl (by decide) hov0 (xi_in (n := 6) (by decide) (by decide)) rfl ?_
          refine xi_virtual (mj := 26) (as := [.int 7, .int a2]) (st1 := [.int 0]) (lv0 := [(0, .ref 115), (1, .int 7), (2, .int a2)]) kc_196_507 rfl rfl rfl rfl rfl (F 115 _ hl_115) (Nat.le_of_ble_eq_true rfl) (hJ _ _ _ _ (by decide)) (xm_le ml_26 rfl) rfl ?_
          refine xi_aload_n (pc' := 1) (x := 115) kc_26_0 rfl rfl ?_
          refine xi_iconst (pc' := 2) (v := 0) kc_26_1 rfl rfl ?_
          refine xi_putfield (pc' := 5) (fs' := [.int 0, .int 0, .ref 116, .ref 117, .ref 118, .ref 119, .ref 120, .ref 121, .ref 122, .ref 123, .ref 124, .ref 125, .ref 126, .ref 127, .ref 128, .ref 129, .int 4, .ref 130, .int 0, .ref 131, .ref 132, .ref 133, .ref 134, .int 0, .ref 135, .ref 136, .ref 137, .ref 138, .ref 139, .ref 140, .ref 141, .ref 142, .int 0, .int 0, .int 0, .ref 143, .ref 144, .ref 145, .ref 146, .ref 147, .ref 148, .int 0, .ref 149, .ref 150, .ref 151, .int 0, .ref 152, .ref 153, .ref 154, .ref 155, .ref 156, .ref 157, .ref 158, .ref 159, .int 0, .ref 160, .int 0, .ref 161, .ref 162, .ref 163, .ref 164, .int 0, .ref 165, .ref 166]) kc_26_2 rfl rfl rfl (F 115 _ hl_115) rfl rfl rfl (Nat.le_of_ble_eq_true rfl) rfl (fun hh1 eh1 => ?_)
          refine xi_iload_n (pc' := 6) (x := 7) kc_26_5 rfl rfl ?_
          refine xi_static (mj := 25) (as := [.int 7]) (st1 := []) (lv0 := [(0, .int 7)]) kc_26_6 rfl rfl (Nat.le_of_ble_eq_true rfl) rfl rfl (Nat.le_of_ble_eq_true rfl) (hJ _ _ _ _ (by decide)) (xm_le ml_25 rfl) rfl ?_
          refine xi_iload_n (pc' := 1) (x := 7) kc_25_0 rfl rfl ?_
          refine xi_iconst (pc' := 2) (v := 0) kc_25_1 rfl rfl ?_
          refine xi_bipush (pc' := 4) (v := 11) kc_25_2 rfl rfl ?_
          refine xi_static (mj := 12) (as := [.int 7, .int 0, .int 11]) (st1 := []) (lv0 := [(0, .int 7), (1, .int 0), (2, .int 11)]) kc_25_4 rfl rfl (Nat.le_of_ble_eq_true rfl) rfl rfl (Nat.le_of_ble_eq_true rfl) (hJ _ _ _ _ (by decide)) (xm_le ml_12 rfl) rfl ?_
          refine xi_iload_n (pc' := 1) (x := 7) kc_12_0 rfl rfl ?_
          refine xi_iload_n (pc' := 2) (x := 0) kc_12_1 rfl rfl ?_
          refine xi_cmf (pc' := 5) kc_12_2 rfl rfl ?_
          refine xi_iload_n (pc' := 6) (x := 7) kc_12_5 rfl rfl ?_
          refine xi_iload_n (pc' := 7) (x := 11) kc_12_6 rfl rfl ?_
          refine xi_cmf (pc' := 10) kc_12_7 rfl rfl ?_
          refine xi_iconst (pc' := 11) (v := 1) kc_12_10 rfl rfl ?_
          refine xi_goto (pc' := 15) kc_12_11 rfl ?_
          refine xi_ireturn kc_12_15 mr_12 rfl ?_
          show xw J ov 98 25 (7, [(0, .int 7)], [.int 1], hh1) _
          refine xi_ireturn kc_25_7 mr_25 rfl ?_
          show xw J ov 99 26 (9, [(0, .ref 115), (1, .int 7), (2, .int a2)], [.int 1], hh1) _
          refine xi_ift (pc' := 18) kc_26_9 rfl rfl ?_
          refine xi_iload_n (pc' := 19) (x := a2) kc_26_18 rfl rfl ?_
          refine xi_iconst (pc' := 20) (v := 0) kc_26_19 rfl rfl ?_
          refine xi_iconst (pc' := 21) (v := 5) kc_26_20 rfl rfl ?_
          refine xi_static (mj := 12) (as := [.int a2, .int 0, .int 5]) (st1 := []) (lv0 := [(0, .int a2), (1, .int 0), (2, .int 5)]) kc_26_21 rfl rfl (Nat.le_of_ble_eq_true rfl) rfl rfl (Nat.le_of_ble_eq_true rfl) (hJ _ _ _ _ (by decide)) (xm_le ml_12 rfl) rfl ?_
          refine xi_iload_n (pc' := 1) (x := a2) kc_12_0 rfl rfl ?_
          refine xi_iload_n (pc' := 2) (x := 0) kc_12_1 rfl rfl ?_
          refine xi_cmf (pc' := 5) kc_12_2 rfl (xc_lt_f (X := a2.toInt) (Y := 0) rfl (by decide) (by omega)) ?_
          refine xi_iload_n (pc' := 6) (x := a2) kc_12_5 rfl rfl ?_
          refine xi_iload_n (pc' := 7) (x := 5) kc_12_6 rfl rfl ?_
          refine xi_cmf (pc' := 10) kc_12_7 rfl (xc_gt_f (X := a2.toInt) (Y := 5) rfl (by decide) (by omega)) ?_
          refine xi_iconst (pc' := 11) (v := 1) kc_12_10 rfl rfl ?_
          refine xi_goto (pc' := 15) kc_12_11 rfl ?_
          refine xi_ireturn kc_12_15 mr_12 rfl ?_
          show xw J ov 99 26 (24, [(0, .ref 115), (1, .int 7), (2, .int a2)], [.int 1], hh1) _
          refine xi_ift (pc' := 34) kc_26_24 rfl rfl ?_
          refine xi_iload_n (pc' := 35) (x := a2) kc_26_34 rfl rfl ?_
          refine xi_tsi (pc' := 82) (z := 2) kc_26_35 (by omega) rfl (by decide) ?_
          refine xi_aload_n (pc' := 83) (x := 115) kc_26_82 rfl rfl ?_
          refine xi_getfield (pc' := 86) (v := .ref 127) kc_26_83 rfl rfl rfl eh1.1 rfl ?_
          refine xi_iload_n (pc' := 87) (x := 7) kc_26_86 rfl rfl ?_
          refine xi_baload (pc' := 88) (v := 0) kc_26_87 rfl ((eh1.2.1 127 (by decide)).trans (F 127 _ hl_127)) rfl (xi_in (n := 12) (by decide) (by decide)) rfl ?_
          refine xi_ift (pc' := 95) kc_26_88 rfl rfl ?_
          refine xi_iconst (pc' := 96) (v := 0) kc_26_95 rfl rfl ?_
          refine xi_ireturn kc_26_96 mr_26 rfl ?_
          show xw J ov 100 196 (510, [(4, .int 0), (3, .ref 167), (2, .ref 115), (1, .ref 0), (0, .ref 1000000)], [.int 0, .int 0], hh1) _
          refine xi_cmt (pc' := 1528) kc_196_510 rfl rfl ?_
          refine xi_iinc (pc' := 1531) (x := 0) (v := 6) (lv' := [(4, .int 6), (3, .ref 167), (2, .ref 115), (1, .ref 0), (0, .ref 1000000)]) kc_196_1528 rfl rfl rfl rfl (xm_lt ml_196 rfl) ?_
          refine xi_goto (pc' := 23) kc_196_1531 rfl ?_
          refine xi_iload (pc' := 25) (x := 6) kc_196_23 rfl rfl ?_
          refine xi_aload_n (pc' := 26) (x := 1000000) kc_196_25 rfl rfl ?_
          refine xi_arraylength (pc' := 27) (n := 6) (v := 6) kc_196_26 rfl (xl_lenO (by decide) hov0 rfl) rfl ?_
          refine xi_bipush (pc' := 29) (v := 6) kc_196_27 rfl rfl ?_
          refine xi_isub (pc' := 30) (v := 0) kc_196_29 rfl rfl ?_
          refine xi_cmt (pc' := 1534) kc_196_30 rfl rfl ?_
          refine xi_iconst (pc' := 1535) (v := 1) kc_196_1534 rfl rfl ?_
          refine xi_ireturn kc_196_1535 mr_196 rfl ?_
          refine ⟨rfl, ?_, ?_⟩
          · rw [eh1.2.2.1]; exact hn0
          · rw [eh1.2.2.2]; exact hz0
        by_cases c63 : a2.toInt = 3
        · refine xi_tsi (pc' := 87) (z := 3) kc_107_24 (by omega) rfl (by decide) ?_
          refine xi_aload_n (pc' := 88) (x := 0) kc_107_87 rfl rfl ?_
          refine xi_getfield (pc' := 91) (v := .ref 63) kc_107_88 rfl rfl rfl (F 0 _ hl_0) rfl ?_
          refine xi_getfield (pc' := 94) (v := .ref 65) kc_107_91 rfl rfl rfl (F 63 _ hl_63) rfl ?_
          refine xi_iload_n (pc' := 95) (x := 7) kc_107_94 rfl rfl ?_
          refine xi_iaload (pc' := 96) (v := 0) kc_107_95 rfl (F 65 _ hl_65) (by decide) rfl (xi_in (n := 12) (by decide) (by decide)) rfl ?_
          refine xi_ireturn kc_107_96 mr_107 rfl ?_
          show xw J ov 100 196 (494, [(4, .int 0), (3, .ref 167), (2, .ref 115), (1, .ref 0), (0, .ref 1000000)], [.int 0], h0) _
          refine xi_aload_n (pc' := 495) (x := 115) kc_196_494 rfl rfl ?_
          refine xi_aload_n (pc' := 496) (x := 1000000) kc_196_495 rfl rfl ?_
          refine xi_iload (pc' := 498) (x := 0) kc_196_496 rfl rfl ?_
          refine xi_iconst (pc' := 499) (v := 1) kc_196_498 rfl rfl ?_
          refine xi_iadd (pc' := 500) (v := 1) kc_196_499 rfl rfl ?_
          refine xi_ialoadO (pc' := 501) (v := 7) kc_196_500 rfl (by decide) hov0 (xi_in (n := 6) (by decide) (by decide)) rfl ?_
          refine xi_aload_n (pc' := 502) (x := 1000000) kc_196_501 rfl rfl ?_
          refine xi_iload (pc' := 504) (x := 0) kc_196_502 rfl rfl ?_
          refine xi_iconst (pc' := 505) (v := 2) kc_196_504 rfl rfl ?_
          refine xi_iadd (pc' := 506) (v := 2) kc_196_505 rfl rfl ?_
          refine xi_ialoadO (pc' := 507) (v := a2) kc_196_506 rfl (by decide) hov0 (xi_in (n := 6) (by decide) (by decide)) rfl ?_
          refine xi_virtual (mj := 26) (as := [.int 7, .int a2]) (st1 := [.int 0]) (lv0 := [(0, .ref 115), (1, .int 7), (2, .int a2)]) kc_196_507 rfl rfl rfl rfl rfl (F 115 _ hl_115) (Nat.le_of_ble_eq_true rfl) (hJ _ _ _ _ (by decide)) (xm_le ml_26 rfl) rfl ?_
          refine xi_aload_n (pc' := 1) (x := 115) kc_26_0 rfl rfl ?_
          refine xi_iconst (pc' := 2) (v := 0) kc_26_1 rfl rfl ?_
          refine xi_putfield (pc' := 5) (fs' := [.int 0, .int 0, .ref 116, .ref 117, .ref 118, .ref 119, .ref 120, .ref 121, .ref 122, .ref 123, .ref 124, .ref 125, .ref 126, .ref 127, .ref 128, .ref 129, .int 4, .ref 130, .int 0, .ref 131, .ref 132, .ref 133, .ref 134, .int 0, .ref 135, .ref 136, .ref 137, .ref 138, .ref 139, .ref 140, .ref 141, .ref 142, .int 0, .int 0, .int 0, .ref 143, .ref 144, .ref 145, .ref 146, .ref 147, .ref 148, .int 0, .ref 149, .ref 150, .ref 151, .int 0, .ref 152, .ref 153, .ref 154, .ref 155, .ref 156, .ref 157, .ref 158, .ref 159, .int 0, .ref 160, .int 0, .ref 161, .ref 162, .ref 163, .ref 164, .int 0, .ref 165, .ref 166]) kc_26_2 rfl rfl rfl (F 115 _ hl_115) rfl rfl rfl (Nat.le_of_ble_eq_true rfl) rfl (fun hh1 eh1 => ?_)
          refine xi_iload_n (pc' := 6) (x := 7) kc_26_5 rfl rfl ?_
          refine xi_static (mj := 25) (as := [.int 7]) (st1 := []) (lv0 := [(0, .int 7)]) kc_26_6 rfl rfl (Nat.le_of_ble_eq_true rfl) rfl rfl (Nat.le_of_ble_eq_true rfl) (hJ _ _ _ _ (by decide)) (xm_le ml_25 rfl) rfl ?_
          refine xi_iload_n (pc' := 1) (x := 7) kc_25_0 rfl rfl ?_
          refine xi_iconst (pc' := 2) (v := 0) kc_25_1 rfl rfl ?_
          refine xi_bipush (pc' := 4) (v := 11) kc_25_2 rfl rfl ?_
          refine xi_static (mj := 12) (as := [.int 7, .int 0, .int 11]) (st1 := []) (lv0 := [(0, .int 7), (1, .int 0), (2, .int 11)]) kc_25_4 rfl rfl (Nat.le_of_ble_eq_true rfl) rfl rfl (Nat.le_of_ble_eq_true rfl) (hJ _ _ _ _ (by decide)) (xm_le ml_12 rfl) rfl ?_
          refine xi_iload_n (pc' := 1) (x := 7) kc_12_0 rfl rfl ?_
          refine xi_iload_n (pc' := 2) (x := 0) kc_12_1 rfl rfl ?_
          refine xi_cmf (pc' := 5) kc_12_2 rfl rfl ?_
          refine xi_iload_n (pc' := 6) (x := 7) kc_12_5 rfl rfl ?_
          refine xi_iload_n (pc' := 7) (x := 11) kc_12_6 rfl rfl ?_
          refine xi_cmf (pc' := 10) kc_12_7 rfl rfl ?_
          refine xi_iconst (pc' := 11) (v := 1) kc_12_10 rfl rfl ?_
          refine xi_goto (pc' := 15) kc_12_11 rfl ?_
          refine xi_ireturn kc_12_15 mr_12 rfl ?_
          show xw J ov 98 25 (7, [(0, .int 7)], [.int 1], hh1) _
          refine xi_ireturn kc_25_7 mr_25 rfl ?_
          show xw J ov 99 26 (9, [(0, .ref 115), (1, .int 7), (2, .int a2)], [.int 1], hh1) _
          refine xi_ift (pc' := 18) kc_26_9 rfl rfl ?_
          refine xi_iload_n (pc' := 19) (x := a2) kc_26_18 rfl rfl ?_
          refine xi_iconst (pc' := 20) (v := 0) kc_26_19 rfl rfl ?_
          refine xi_iconst (pc' := 21) (v := 5) kc_26_20 rfl rfl ?_
          refine xi_static (mj := 12) (as := [.int a2, .int 0, .int 5]) (st1 := []) (lv0 := [(0, .int a2), (1, .int 0), (2, .int 5)]) kc_26_21 rfl rfl (Nat.le_of_ble_eq_true rfl) rfl rfl (Nat.le_of_ble_eq_true rfl) (hJ _ _ _ _ (by decide)) (xm_le ml_12 rfl) rfl ?_
          refine xi_iload_n (pc' := 1) (x := a2) kc_12_0 rfl rfl ?_
          refine xi_iload_n (pc' := 2) (x := 0) kc_12_1 rfl rfl ?_
          refine xi_cmf (pc' := 5) kc_12_2 rfl (xc_lt_f (X := a2.toInt) (Y := 0) rfl (by decide) (by omega)) ?_
          refine xi_iload_n (pc' := 6) (x := a2) kc_12_5 rfl rfl ?_
          refine xi_iload_n (pc' := 7) (x := 5) kc_12_6 rfl rfl ?_
          refine xi_cmf (pc' := 10) kc_12_7 rfl (xc_gt_f (X := a2.toInt) (Y := 5) rfl (by decide) (by omega)) ?_
          refine xi_iconst (pc' := 11) (v := 1) kc_12_10 rfl rfl ?_
          refine xi_goto (pc' := 15) kc_12_11 rfl ?_
          refine xi_ireturn kc_12_15 mr_12 rfl ?_
          show xw J ov 99 26 (24, [(0, .ref 115), (1, .int 7), (2, .int a2)], [.int 1], hh1) _
          refine xi_ift (pc' := 34) kc_26_24 rfl rfl ?_
          refine xi_iload_n (pc' := 35) (x := a2) kc_26_34 rfl rfl ?_
          refine xi_tsi (pc' := 97) (z := 3) kc_26_35 (by omega) rfl (by decide) ?_
          refine xi_aload_n (pc' := 98) (x := 115) kc_26_97 rfl rfl ?_
          refine xi_getfield (pc' := 101) (v := .ref 128) kc_26_98 rfl rfl rfl eh1.1 rfl ?_
          refine xi_iload_n (pc' := 102) (x := 7) kc_26_101 rfl rfl ?_
          refine xi_iaload (pc' := 103) (v := 0) kc_26_102 rfl ((eh1.2.1 128 (by decide)).trans (F 128 _ hl_128)) (by decide) rfl (xi_in (n := 12) (by decide) (by decide)) rfl ?_
          refine xi_ireturn kc_26_103 mr_26 rfl ?_
          show xw J ov 100 196 (510, [(4, .int 0), (3, .ref 167), (2, .ref 115), (1, .ref 0), (0, .ref 1000000)], [.int 0, .int 0], hh1) _
          refine xi_cmt (pc' := 1528) kc_196_510 rfl rfl ?_
          refine xi_iinc (pc' := 1531) (x := 0) (v := 6) (lv' := [(4, .int 6), (3, .ref 167), (2, .ref 115), (1, .ref 0), (0, .ref 1000000)]) kc_196_1528 rfl rfl rfl rfl (xm_lt ml_196 rfl) ?_
          refine xi_goto (pc' := 23) kc_196_1531 rfl ?_
          refine xi_iload (pc' := 25) (x := 6) kc_196_23 rfl rfl ?_
          refine xi_aload_n (pc' := 26) (x := 1000000) kc_196_25 rfl rfl ?_
          refine xi_arraylength (pc' := 27) (n := 6) (v := 6) kc_196_26 rfl (xl_lenO (by decide) hov0 rfl) rfl ?_
          refine xi_bipush (pc' := 29) (v := 6) kc_196_27 rfl rfl ?_
          refine xi_isub (pc' := 30) (v := 0) kc_196_29 rfl rfl ?_
          refine xi_cmt (pc' := 1534) kc_196_30 rfl rfl ?_
          refine xi_iconst (pc' := 1535) (v := 1) kc_196_1534 rfl rfl ?_
          refine xi_ireturn kc_196_1535 mr_196 rfl ?_
          refine ⟨rfl, ?_, ?_⟩
          · rw [eh1.2.2.1]; exact hn0
          · rw [eh1.2.2.2]; exact hz0
        by_cases c64 : a2.toInt = 4
        · refine xi_tsi (pc' := 97) (z := 4) kc_107_24 (by omega) rfl (by decide) ?_
          refine xi_aload_n (pc' := 98) (x := 43) kc_107_97 rfl rfl ?_
          refine xi_getfield (pc' := 101) (v := .int 0) kc_107_98 rfl rfl rfl (F 43 _ hl_43) rfl ?_
          refine xi_ireturn kc_107_101 mr_107 rfl ?_
          show xw J ov 100 196 (494, [(4, .int 0), (3, .ref 167), (2, .ref 115), (1, .ref 0), (0, .ref 1000000)], [.int 0], h0) _
          refine xi_aload_n (pc' := 495) (x := 115) kc_196_494 rfl rfl ?_
          refine xi_aload_n (pc' := 496) (x := 1000000) kc_196_495 rfl rfl ?_
          refine xi_iload (pc' := 498) (x := 0) kc_196_496 rfl rfl ?_
          refine xi_iconst (pc' := 499) (v := 1) kc_196_498 rfl rfl ?_
          refine xi_iadd (pc' := 500) (v := 1) kc_196_499 rfl rfl ?_
          refine xi_ialoadO (pc' := 501) (v := 7) kc_196_500 rfl (by decide) hov0 (xi_in (n := 6) (by decide) (by decide)) rfl ?_
          refine xi_aload_n (pc' := 502) (x := 1000000) kc_196_501 rfl rfl ?_
          refine xi_iload (pc' := 504) (x := 0) kc_196_502 rfl rfl ?_
          refine xi_iconst (pc' := 505) (v := 2) kc_196_504 rfl rfl ?_
          refine xi_iadd (pc' := 506) (v := 2) kc_196_505 rfl rfl ?_
          refine xi_ialoadO (pc' := 507) (v := a2) kc_196_506 rfl (by decide) hov0 (xi_in (n := 6) (by decide) (by decide)) rfl ?_
          refine xi_virtual (mj := 26) (as := [.int 7, .int a2]) (st1 := [.int 0]) (lv0 := [(0, .ref 115), (1, .int 7), (2, .int a2)]) kc_196_507 rfl rfl rfl rfl rfl (F 115 _ hl_115) (Nat.le_of_ble_eq_true rfl) (hJ _ _ _ _ (by decide)) (xm_le ml_26 rfl) rfl ?_
          refine xi_aload_n (pc' := 1) (x := 115) kc_26_0 rfl rfl ?_
          refine xi_iconst (pc' := 2) (v := 0) kc_26_1 rfl rfl ?_
          refine xi_putfield (pc' := 5) (fs' := [.int 0, .int 0, .ref 116, .ref 117, .ref 118, .ref 119, .ref 120, .ref 121, .ref 122, .ref 123, .ref 124, .ref 125, .ref 126, .ref 127, .ref 128, .ref 129, .int 4, .ref 130, .int 0, .ref 131, .ref 132, .ref 133, .ref 134, .int 0, .ref 135, .ref 136, .ref 137, .ref 138, .ref 139, .ref 140, .ref 141, .ref 142, .int 0, .int 0, .int 0, .ref 143, .ref 144, .ref 145, .ref 146, .ref 147, .ref 148, .int 0, .ref 149, .ref 150, .ref 151, .int 0, .ref 152, .ref 153, .ref 154, .ref 155, .ref 156, .ref 157, .ref 158, .ref 159, .int 0, .ref 160, .int 0, .ref 161, .ref 162, .ref 163, .ref 164, .int 0, .ref 165, .ref 166]) kc_26_2 rfl rfl rfl (F 115 _ hl_115) rfl rfl rfl (Nat.le_of_ble_eq_true rfl) rfl (fun hh1 eh1 => ?_)
          refine xi_iload_n (pc' := 6) (x := 7) kc_26_5 rfl rfl ?_
          refine xi_static (mj := 25) (as := [.int 7]) (st1 := []) (lv0 := [(0, .int 7)]) kc_26_6 rfl rfl (Nat.le_of_ble_eq_true rfl) rfl rfl (Nat.le_of_ble_eq_true rfl) (hJ _ _ _ _ (by decide)) (xm_le ml_25 rfl) rfl ?_
          refine xi_iload_n (pc' := 1) (x := 7) kc_25_0 rfl rfl ?_
          refine xi_iconst (pc' := 2) (v := 0) kc_25_1 rfl rfl ?_
          refine xi_bipush (pc' := 4) (v := 11) kc_25_2 rfl rfl ?_
          refine xi_static (mj := 12) (as := [.int 7, .int 0, .int 11]) (st1 := []) (lv0 := [(0, .int 7), (1, .int 0), (2, .int 11)]) kc_25_4 rfl rfl (Nat.le_of_ble_eq_true rfl) rfl rfl (Nat.le_of_ble_eq_true rfl) (hJ _ _ _ _ (by decide)) (xm_le ml_12 rfl) rfl ?_
          refine xi_iload_n (pc' := 1) (x := 7) kc_12_0 rfl rfl ?_
          refine xi_iload_n (pc' := 2) (x := 0) kc_12_1 rfl rfl ?_
          refine xi_cmf (pc' := 5) kc_12_2 rfl rfl ?_
          refine xi_iload_n (pc' := 6) (x := 7) kc_12_5 rfl rfl ?_
          refine xi_iload_n (pc' := 7) (x := 11) kc_12_6 rfl rfl ?_
          refine xi_cmf (pc' := 10) kc_12_7 rfl rfl ?_
          refine xi_iconst (pc' := 11) (v := 1) kc_12_10 rfl rfl ?_
          refine xi_goto (pc' := 15) kc_12_11 rfl ?_
          refine xi_ireturn kc_12_15 mr_12 rfl ?_
          show xw J ov 98 25 (7, [(0, .int 7)], [.int 1], hh1) _
          refine xi_ireturn kc_25_7 mr_25 rfl ?_
          show xw J ov 99 26 (9, [(0, .ref 115), (1, .int 7), (2, .int a2)], [.int 1], hh1) _
          refine xi_ift (pc' := 18) kc_26_9 rfl rfl ?_
          refine xi_iload_n (pc' := 19) (x := a2) kc_26_18 rfl rfl ?_
          refine xi_iconst (pc' := 20) (v := 0) kc_26_19 rfl rfl ?_
          refine xi_iconst (pc' := 21) (v := 5) kc_26_20 rfl rfl ?_
          refine xi_static (mj := 12) (as := [.int a2, .int 0, .int 5]) (st1 := []) (lv0 := [(0, .int a2), (1, .int 0), (2, .int 5)]) kc_26_21 rfl rfl (Nat.le_of_ble_eq_true rfl) rfl rfl (Nat.le_of_ble_eq_true rfl) (hJ _ _ _ _ (by decide)) (xm_le ml_12 rfl) rfl ?_
          refine xi_iload_n (pc' := 1) (x := a2) kc_12_0 rfl rfl ?_
          refine xi_iload_n (pc' := 2) (x := 0) kc_12_1 rfl rfl ?_
          refine xi_cmf (pc' := 5) kc_12_2 rfl (xc_lt_f (X := a2.toInt) (Y := 0) rfl (by decide) (by omega)) ?_
          refine xi_iload_n (pc' := 6) (x := a2) kc_12_5 rfl rfl ?_
          refine xi_iload_n (pc' := 7) (x := 5) kc_12_6 rfl rfl ?_
          refine xi_cmf (pc' := 10) kc_12_7 rfl (xc_gt_f (X := a2.toInt) (Y := 5) rfl (by decide) (by omega)) ?_
          refine xi_iconst (pc' := 11) (v := 1) kc_12_10 rfl rfl ?_
          refine xi_goto (pc' := 15) kc_12_11 rfl ?_
          refine xi_ireturn kc_12_15 mr_12 rfl ?_
          show xw J ov 99 26 (24, [(0, .ref 115), (1, .int 7), (2, .int a2)], [.int 1], hh1) _
          refine xi_ift (pc' := 34) kc_26_24 rfl rfl ?_
          refine xi_iload_n (pc' := 35) (x := a2) kc_26_34 rfl rfl ?_
          refine xi_tsi (pc' := 104) (z := 4) kc_26_35 (by omega) rfl (by decide) ?_
          refine xi_aload_n (pc' := 105) (x := 115) kc_26_104 rfl rfl ?_
          refine xi_getfield (pc' := 108) (v := .ref 129) kc_26_105 rfl rfl rfl eh1.1 rfl ?_
          refine xi_iload_n (pc' := 109) (x := 7) kc_26_108 rfl rfl ?_
          refine xi_iaload (pc' := 110) (v := 0) kc_26_109 rfl ((eh1.2.1 129 (by decide)).trans (F 129 _ hl_129)) (by decide) rfl (xi_in (n := 12) (by decide) (by decide)) rfl ?_
          refine xi_ireturn kc_26_110 mr_26 rfl ?_
          show xw J ov 100 196 (510, [(4, .int 0), (3, .ref 167), (2, .ref 115), (1, .ref 0), (0, .ref 1000000)], [.int 0, .int 0], hh1) _
          refine xi_cmt (pc' := 1528) kc_196_510 rfl rfl ?_
          refine xi_iinc (pc' := 1531) (x := 0) (v := 6) (lv' := [(4, .int 6), (3, .ref 167), (2, .ref 115), (1, .ref 0), (0, .ref 1000000)]) kc_196_1528 rfl rfl rfl rfl (xm_lt ml_196 rfl) ?_
          refine xi_goto (pc' := 23) kc_196_1531 rfl ?_
          refine xi_iload (pc' := 25) (x := 6) kc_196_23 rfl rfl ?_
          refine xi_aload_n (pc' := 26) (x := 1000000) kc_196_25 rfl rfl ?_
          refine xi_arraylength (pc' := 27) (n := 6) (v := 6) kc_196_26 rfl (xl_lenO (by decide) hov0 rfl) rfl ?_
          refine xi_bipush (pc' := 29) (v := 6) kc_196_27 rfl rfl ?_
          refine xi_isub (pc' := 30) (v := 0) kc_196_29 rfl rfl ?_
          refine xi_cmt (pc' := 1534) kc_196_30 rfl rfl ?_
          refine xi_iconst (pc' := 1535) (v := 1) kc_196_1534 rfl rfl ?_
          refine xi_ireturn kc_196_1535 mr_196 rfl ?_
          refine ⟨rfl, ?_, ?_⟩
          · rw [eh1.2.2.1]; exact hn0
          · rw [eh1.2.2.2]; exact hz0
        by_cases c65 : a2.toInt = 5
        · refine xi_tsi (pc' := 102) (z := 5) kc_107_24 (by omega) rfl (by decide) ?_
          refine xi_aload_n (pc' := 103) (x := 0) kc_107_102 rfl rfl ?_
          refine xi_getfield (pc' := 106) (v := .ref 1) kc_107_103 rfl rfl rfl (F 0 _ hl_0) rfl ?_
          refine xi_iload_n (pc' := 107) (x := 7) kc_107_106 rfl rfl ?_
          refine xi_aload_n (pc' := 108) (x := 0) kc_107_107 rfl rfl ?_
          refine xi_getfield (pc' := 111) (v := .int 0) kc_107_108 rfl rfl rfl (F 0 _ hl_0) rfl ?_
          refine xi_virtual (mj := 108) (as := [.int 7, .int 0]) (st1 := []) (lv0 := [(0, .ref 1), (1, .int 7), (2, .int 0)]) kc_107_111 rfl rfl rfl rfl rfl (F 1 _ hl_1) (Nat.le_of_ble_eq_true rfl) (hJ _ _ _ _ (by decide)) (xm_le ml_108 rfl) rfl ?_
          refine xi_aload_n (pc' := 1) (x := 1) kc_108_0 rfl rfl ?_
          refine xi_iload_n (pc' := 2) (x := 7) kc_108_1 rfl rfl ?_
          refine xi_virtual (mj := 109) (as := [.int 7]) (st1 := []) (lv0 := [(0, .ref 1), (1, .int 7)]) kc_108_2 rfl rfl rfl rfl rfl (F 1 _ hl_1) (Nat.le_of_ble_eq_true rfl) (hJ _ _ _ _ (by decide)) (xm_le ml_109 rfl) rfl ?_
          refine xi_iload_n (pc' := 1) (x := 7) kc_109_0 rfl rfl ?_
          refine xi_static (mj := 105) (as := [.int 7]) (st1 := []) (lv0 := [(0, .int 7)]) kc_109_1 rfl rfl (Nat.le_of_ble_eq_true rfl) rfl rfl (Nat.le_of_ble_eq_true rfl) (hJ _ _ _ _ (by decide)) (xm_le ml_105 rfl) rfl ?_
          refine xi_iload_n (pc' := 1) (x := 7) kc_105_0 rfl rfl ?_
          refine xi_iff (pc' := 4) kc_105_1 rfl rfl ?_
          refine xi_iload_n (pc' := 5) (x := 7) kc_105_4 rfl rfl ?_
          refine xi_bipush (pc' := 7) (v := 12) kc_105_5 rfl rfl ?_
          refine xi_cmf (pc' := 10) kc_105_7 rfl rfl ?_
          refine xi_iconst (pc' := 11) (v := 1) kc_105_10 rfl rfl ?_
          refine xi_goto (pc' := 15) kc_105_11 rfl ?_
          refine xi_ireturn kc_105_15 mr_105 rfl ?_
          show xw J ov 97 109 (4, [(0, .ref 1), (1, .int 7)], [.int 1], h0) _
          refine xi_iff (pc' := 7) kc_109_4 rfl rfl ?_
          refine xi_aload_n (pc' := 8) (x := 1) kc_109_7 rfl rfl ?_
          refine xi_getfield (pc' := 11) (v := .ref 3) kc_109_8 rfl rfl rfl (F 1 _ hl_1) rfl ?_
          refine xi_iload_n (pc' := 12) (x := 7) kc_109_11 rfl rfl ?_
          refine xi_aaload (pc' := 13) (b := 43) kc_109_12 rfl (F 3 _ hl_3) rfl (xi_in (n := 12) (by decide) (by decide)) rfl ?_
          refine xi_virtual (mj := 106) (as := []) (st1 := []) (lv0 := [(0, .ref 43)]) kc_109_13 rfl rfl rfl rfl rfl (F 43 _ hl_43) (Nat.le_of_ble_eq_true rfl) (hJ _ _ _ _ (by decide)) (xm_le ml_106 rfl) rfl ?_
          refine xi_aload_n (pc' := 1) (x := 43) kc_106_0 rfl rfl ?_
          refine xi_getfield (pc' := 4) (v := .int (-9)) kc_106_1 rfl rfl rfl (F 43 _ hl_43) rfl ?_
          refine xi_static (mj := 90) (as := [.int (-9)]) (st1 := []) (lv0 := [(0, .int (-9))]) kc_106_4 rfl rfl (Nat.le_of_ble_eq_true rfl) rfl rfl (Nat.le_of_ble_eq_true rfl) (hJ _ _ _ _ (by decide)) (xm_le ml_90 rfl) rfl ?_
          refine xi_iload_n (pc' := 1) (x := (-9)) kc_90_0 rfl rfl ?_
          refine xi_ift (pc' := 14) kc_90_1 rfl rfl ?_
          refine xi_iconst (pc' := 15) (v := 0) kc_90_14 rfl rfl ?_
          refine xi_ireturn kc_90_15 mr_90 rfl ?_
          show xw J ov 96 106 (7, [(0, .ref 43)], [.int 0], h0) _
          refine xi_ireturn kc_106_7 mr_106 rfl ?_
          show xw J ov 97 109 (16, [(0, .ref 1), (1, .int 7)], [.int 0], h0) _
          refine xi_ift (pc' := 23) kc_109_16 rfl rfl ?_
          refine xi_iconst (pc' := 24) (v := 0) kc_109_23 rfl rfl ?_
          refine xi_ireturn kc_109_24 mr_109 rfl ?_
          show xw J ov 98 108 (5, [(0, .ref 1), (1, .int 7), (2, .int 0)], [.int 0], h0) _
          refine xi_iff (pc' := 8) kc_108_5 rfl rfl ?_
          refine xi_iconst (pc' := 9) (v := 0) kc_108_8 rfl rfl ?_
          refine xi_ireturn kc_108_9 mr_108 rfl ?_
          show xw J ov 99 107 (114, [(3, .ref 43), (0, .ref 0), (1, .int 7), (2, .int a2)], [.int 0], h0) _
          refine xi_ireturn kc_107_114 mr_107 rfl ?_
          show xw J ov 100 196 (494, [(4, .int 0), (3, .ref 167), (2, .ref 115), (1, .ref 0), (0, .ref 1000000)], [.int 0], h0) _
          refine xi_aload_n (pc' := 495) (x := 115) kc_196_494 rfl rfl ?_
          refine xi_aload_n (pc' := 496) (x := 1000000) kc_196_495 rfl rfl ?_
          refine xi_iload (pc' := 498) (x := 0) kc_196_496 rfl rfl ?_
          refine xi_iconst (pc' := 499) (v := 1) kc_196_498 rfl rfl ?_
          refine xi_iadd (pc' := 500) (v := 1) kc_196_499 rfl rfl ?_
          refine xi_ialoadO (pc' := 501) (v := 7) kc_196_500 rfl (by decide) hov0 (xi_in (n := 6) (by decide) (by decide)) rfl ?_
          refine xi_aload_n (pc' := 502) (x := 1000000) kc_196_501 rfl rfl ?_
          refine xi_iload (pc' := 504) (x := 0) kc_196_502 rfl rfl ?_
          refine xi_iconst (pc' := 505) (v := 2) kc_196_504 rfl rfl ?_
          refine xi_iadd (pc' := 506) (v := 2) kc_196_505 rfl rfl ?_
          refine xi_ialoadO (pc' := 507) (v := a2) kc_196_506 rfl (by decide) hov0 (xi_in (n := 6) (by decide) (by decide)) rfl ?_
          refine xi_virtual (mj := 26) (as := [.int 7, .int a2]) (st1 := [.int 0]) (lv0 := [(0, .ref 115), (1, .int 7), (2, .int a2)]) kc_196_507 rfl rfl rfl rfl rfl (F 115 _ hl_115) (Nat.le_of_ble_eq_true rfl) (hJ _ _ _ _ (by decide)) (xm_le ml_26 rfl) rfl ?_
          refine xi_aload_n (pc' := 1) (x := 115) kc_26_0 rfl rfl ?_
          refine xi_iconst (pc' := 2) (v := 0) kc_26_1 rfl rfl ?_
          refine xi_putfield (pc' := 5) (fs' := [.int 0, .int 0, .ref 116, .ref 117, .ref 118, .ref 119, .ref 120, .ref 121, .ref 122, .ref 123, .ref 124, .ref 125, .ref 126, .ref 127, .ref 128, .ref 129, .int 4, .ref 130, .int 0, .ref 131, .ref 132, .ref 133, .ref 134, .int 0, .ref 135, .ref 136, .ref 137, .ref 138, .ref 139, .ref 140, .ref 141, .ref 142, .int 0, .int 0, .int 0, .ref 143, .ref 144, .ref 145, .ref 146, .ref 147, .ref 148, .int 0, .ref 149, .ref 150, .ref 151, .int 0, .ref 152, .ref 153, .ref 154, .ref 155, .ref 156, .ref 157, .ref 158, .ref 159, .int 0, .ref 160, .int 0, .ref 161, .ref 162, .ref 163, .ref 164, .int 0, .ref 165, .ref 166]) kc_26_2 rfl rfl rfl (F 115 _ hl_115) rfl rfl rfl (Nat.le_of_ble_eq_true rfl) rfl (fun hh1 eh1 => ?_)
          refine xi_iload_n (pc' := 6) (x := 7) kc_26_5 rfl rfl ?_
          refine xi_static (mj := 25) (as := [.int 7]) (st1 := []) (lv0 := [(0, .int 7)]) kc_26_6 rfl rfl (Nat.le_of_ble_eq_true rfl) rfl rfl (Nat.le_of_ble_eq_true rfl) (hJ _ _ _ _ (by decide)) (xm_le ml_25 rfl) rfl ?_
          refine xi_iload_n (pc' := 1) (x := 7) kc_25_0 rfl rfl ?_
          refine xi_iconst (pc' := 2) (v := 0) kc_25_1 rfl rfl ?_
          refine xi_bipush (pc' := 4) (v := 11) kc_25_2 rfl rfl ?_
          refine xi_static (mj := 12) (as := [.int 7, .int 0, .int 11]) (st1 := []) (lv0 := [(0, .int 7), (1, .int 0), (2, .int 11)]) kc_25_4 rfl rfl (Nat.le_of_ble_eq_true rfl) rfl rfl (Nat.le_of_ble_eq_true rfl) (hJ _ _ _ _ (by decide)) (xm_le ml_12 rfl) rfl ?_
          refine xi_iload_n (pc' := 1) (x := 7) kc_12_0 rfl rfl ?_
          refine xi_iload_n (pc' := 2) (x := 0) kc_12_1 rfl rfl ?_
          refine xi_cmf (pc' := 5) kc_12_2 rfl rfl ?_
          refine xi_iload_n (pc' := 6) (x := 7) kc_12_5 rfl rfl ?_
          refine xi_iload_n (pc' := 7) (x := 11) kc_12_6 rfl rfl ?_
          refine xi_cmf (pc' := 10) kc_12_7 rfl rfl ?_
          refine xi_iconst (pc' := 11) (v := 1) kc_12_10 rfl rfl ?_
          refine xi_goto (pc' := 15) kc_12_11 rfl ?_
          refine xi_ireturn kc_12_15 mr_12 rfl ?_
          show xw J ov 98 25 (7, [(0, .int 7)], [.int 1], hh1) _
          refine xi_ireturn kc_25_7 mr_25 rfl ?_
          show xw J ov 99 26 (9, [(0, .ref 115), (1, .int 7), (2, .int a2)], [.int 1], hh1) _
          refine xi_ift (pc' := 18) kc_26_9 rfl rfl ?_
          refine xi_iload_n (pc' := 19) (x := a2) kc_26_18 rfl rfl ?_
          refine xi_iconst (pc' := 20) (v := 0) kc_26_19 rfl rfl ?_
          refine xi_iconst (pc' := 21) (v := 5) kc_26_20 rfl rfl ?_
          refine xi_static (mj := 12) (as := [.int a2, .int 0, .int 5]) (st1 := []) (lv0 := [(0, .int a2), (1, .int 0), (2, .int 5)]) kc_26_21 rfl rfl (Nat.le_of_ble_eq_true rfl) rfl rfl (Nat.le_of_ble_eq_true rfl) (hJ _ _ _ _ (by decide)) (xm_le ml_12 rfl) rfl ?_
          refine xi_iload_n (pc' := 1) (x := a2) kc_12_0 rfl rfl ?_
          refine xi_iload_n (pc' := 2) (x := 0) kc_12_1 rfl rfl ?_
          refine xi_cmf (pc' := 5) kc_12_2 rfl (xc_lt_f (X := a2.toInt) (Y := 0) rfl (by decide) (by omega)) ?_
          refine xi_iload_n (pc' := 6) (x := a2) kc_12_5 rfl rfl ?_
          refine xi_iload_n (pc' := 7) (x := 5) kc_12_6 rfl rfl ?_
          refine xi_cmf (pc' := 10) kc_12_7 rfl (xc_gt_f (X := a2.toInt) (Y := 5) rfl (by decide) (by omega)) ?_
          refine xi_iconst (pc' := 11) (v := 1) kc_12_10 rfl rfl ?_
          refine xi_goto (pc' := 15) kc_12_11 rfl ?_
          refine xi_ireturn kc_12_15 mr_12 rfl ?_
          show xw J ov 99 26 (24, [(0, .ref 115), (1, .int 7), (2, .int a2)], [.int 1], hh1) _
          refine xi_ift (pc' := 34) kc_26_24 rfl rfl ?_
          refine xi_iload_n (pc' := 35) (x := a2) kc_26_34 rfl rfl ?_
          refine xi_tsd (pc' := 111) kc_26_35 rfl (by omega) ?_
          refine xi_aload_n (pc' := 112) (x := 115) kc_26_111 rfl rfl ?_
          refine xi_getfield (pc' := 115) (v := .ref 125) kc_26_112 rfl rfl rfl eh1.1 rfl ?_
          refine xi_iload_n (pc' := 116) (x := 7) kc_26_115 rfl rfl ?_
          refine xi_iaload (pc' := 117) (v := (-9)) kc_26_116 rfl ((eh1.2.1 125 (by decide)).trans (F 125 _ hl_125)) (by decide) rfl (xi_in (n := 12) (by decide) (by decide)) rfl ?_
          refine xi_iff (pc' := 120) kc_26_117 rfl rfl ?_
          refine xi_iconst (pc' := 121) (v := 0) kc_26_120 rfl rfl ?_
          refine xi_goto (pc' := 133) kc_26_121 rfl ?_
          refine xi_ireturn kc_26_133 mr_26 rfl ?_
          show xw J ov 100 196 (510, [(4, .int 0), (3, .ref 167), (2, .ref 115), (1, .ref 0), (0, .ref 1000000)], [.int 0, .int 0], hh1) _
          refine xi_cmt (pc' := 1528) kc_196_510 rfl rfl ?_
          refine xi_iinc (pc' := 1531) (x := 0) (v := 6) (lv' := [(4, .int 6), (3, .ref 167), (2, .ref 115), (1, .ref 0), (0, .ref 1000000)]) kc_196_1528 rfl rfl rfl rfl (xm_lt ml_196 rfl) ?_
          refine xi_goto (pc' := 23) kc_196_1531 rfl ?_
          refine xi_iload (pc' := 25) (x := 6) kc_196_23 rfl rfl ?_
          refine xi_aload_n (pc' := 26) (x := 1000000) kc_196_25 rfl rfl ?_
          refine xi_arraylength (pc' := 27) (n := 6) (v := 6) kc_196_26 rfl (xl_lenO (by decide) hov0 rfl) rfl ?_
          refine xi_bipush (pc' := 29) (v := 6) kc_196_27 rfl rfl ?_
          refine xi_isub (pc' := 30) (v := 0) kc_196_29 rfl rfl ?_
          refine xi_cmt (pc' := 1534) kc_196_30 rfl rfl ?_
          refine xi_iconst (pc' := 1535) (v := 1) kc_196_1534 rfl rfl ?_
          refine xi_ireturn kc_196_1535 mr_196 rfl ?_
          refine ⟨rfl, ?_, ?_⟩
          · rw [eh1.2.2.1]; exact hn0
          · rw [eh1.2.2.2]; exact hz0
        refine xi_tsd (pc' := 115) kc_107_24 rfl (by omega) ?_
        refine xi_aload_n (pc' := 116) (x := 0) kc_107_115 rfl rfl ?_
        refine xi_bipush (pc' := 118) (v := (-2)) kc_107_116 rfl rfl ?_
        refine xi_virtual (mj := 91) (as := [.int (-2)]) (st1 := []) (lv0 := [(0, .ref 0), (1, .int (-2))]) kc_107_118 rfl rfl rfl rfl rfl (F 0 _ hl_0) (Nat.le_of_ble_eq_true rfl) (hJ _ _ _ _ (by decide)) (xm_le ml_91 rfl) rfl ?_
        refine xi_iload_n (pc' := 1) (x := (-2)) kc_91_0 rfl rfl ?_
        refine xi_ineg (pc' := 2) (v := 2) kc_91_1 rfl rfl ?_
        refine xi_istore_n (pc' := 3) (lv' := [(2, .int 2), (0, .ref 0), (1, .int (-2))]) kc_91_2 rfl rfl (xm_lt ml_91 rfl) ?_
        refine xi_iload_n (pc' := 4) (x := 2) kc_91_3 rfl rfl ?_
        refine xi_iff (pc' := 7) kc_91_4 rfl rfl ?_
        refine xi_iload_n (pc' := 8) (x := 2) kc_91_7 rfl rfl ?_
        refine xi_aload_n (pc' := 9) (x := 0) kc_91_8 rfl rfl ?_
        refine xi_getfield (pc' := 12) (v := .ref 94) kc_91_9 rfl rfl rfl (F 0 _ hl_0) rfl ?_
        refine xi_arraylength (pc' := 13) (n := 7) (v := 7) kc_91_12 rfl (xl_lenI (by decide) (by decide) (F 94 _ hl_94) (by simp only [List.length_replicate, List.length_cons, List.length_nil])) rfl ?_
        refine xi_cmf (pc' := 16) kc_91_13 rfl rfl ?_
        refine xi_aload_n (pc' := 17) (x := 0) kc_91_16 rfl rfl ?_
        refine xi_getfield (pc' := 20) (v := .ref 94) kc_91_17 rfl rfl rfl (F 0 _ hl_0) rfl ?_
        refine xi_iload_n (pc' := 21) (x := 2) kc_91_20 rfl rfl ?_
        refine xi_dup2 (pc' := 22) kc_91_21 rfl ⟨rfl, rfl⟩ ?_
        refine xi_iaload (pc' := 23) (v := 0) kc_91_22 rfl (F 94 _ hl_94) (by decide) rfl (xi_in (n := 7) (by decide) (by decide)) rfl ?_
        refine xi_iconst (pc' := 24) (v := 1) kc_91_23 rfl rfl ?_
        refine xi_iadd (pc' := 25) (v := 1) kc_91_24 rfl rfl ?_
        refine xi_iastore (pc' := 26) (x' := [0, 0, 1, 0, 0, 0, 0]) kc_91_25 rfl (F 94 _ hl_94) rfl (xi_in (n := 7) (by decide) (by decide)) rfl (fun hh1 eh1 => ?_)
        refine xi_iload_n (pc' := 27) (x := (-2)) kc_91_26 rfl rfl ?_
        refine xi_ireturn kc_91_27 mr_91 rfl ?_
        show xw J ov 99 107 (121, [(3, .ref 43), (0, .ref 0), (1, .int 7), (2, .int a2)], [.int (-2)], hh1) _
        refine xi_ireturn kc_107_121 mr_107 rfl ?_
        show xw J ov 100 196 (494, [(4, .int 0), (3, .ref 167), (2, .ref 115), (1, .ref 0), (0, .ref 1000000)], [.int (-2)], hh1) _
        refine xi_aload_n (pc' := 495) (x := 115) kc_196_494 rfl rfl ?_
        refine xi_aload_n (pc' := 496) (x := 1000000) kc_196_495 rfl rfl ?_
        refine xi_iload (pc' := 498) (x := 0) kc_196_496 rfl rfl ?_
        refine xi_iconst (pc' := 499) (v := 1) kc_196_498 rfl rfl ?_
        refine xi_iadd (pc' := 500) (v := 1) kc_196_499 rfl rfl ?_
        refine xi_ialoadO (pc' := 501) (v := 7) kc_196_500 rfl (by decide) hov0 (xi_in (n := 6) (by decide) (by decide)) rfl ?_
        refine xi_aload_n (pc' := 502) (x := 1000000) kc_196_501 rfl rfl ?_
        refine xi_iload (pc' := 504) (x := 0) kc_196_502 rfl rfl ?_
        refine xi_iconst (pc' := 505) (v := 2) kc_196_504 rfl rfl ?_
        refine xi_iadd (pc' := 506) (v := 2) kc_196_505 rfl rfl ?_
        refine xi_ialoadO (pc' := 507) (v := a2) kc_196_506 rfl (by decide) hov0 (xi_in (n := 6) (by decide) (by decide)) rfl ?_
        refine xi_virtual (mj := 26) (as := [.int 7, .int a2]) (st1 := [.int (-2)]) (lv0 := [(0, .ref 115), (1, .int 7), (2, .int a2)]) kc_196_507 rfl rfl rfl rfl rfl ((eh1.2.1 115 (by decide)).trans (F 115 _ hl_115)) (Nat.le_of_ble_eq_true rfl) (hJ _ _ _ _ (by decide)) (xm_le ml_26 rfl) rfl ?_
        refine xi_aload_n (pc' := 1) (x := 115) kc_26_0 rfl rfl ?_
        refine xi_iconst (pc' := 2) (v := 0) kc_26_1 rfl rfl ?_
        refine xi_putfield (pc' := 5) (fs' := [.int 0, .int 0, .ref 116, .ref 117, .ref 118, .ref 119, .ref 120, .ref 121, .ref 122, .ref 123, .ref 124, .ref 125, .ref 126, .ref 127, .ref 128, .ref 129, .int 4, .ref 130, .int 0, .ref 131, .ref 132, .ref 133, .ref 134, .int 0, .ref 135, .ref 136, .ref 137, .ref 138, .ref 139, .ref 140, .ref 141, .ref 142, .int 0, .int 0, .int 0, .ref 143, .ref 144, .ref 145, .ref 146, .ref 147, .ref 148, .int 0, .ref 149, .ref 150, .ref 151, .int 0, .ref 152, .ref 153, .ref 154, .ref 155, .ref 156, .ref 157, .ref 158, .ref 159, .int 0, .ref 160, .int 0, .ref 161, .ref 162, .ref 163, .ref 164, .int 0, .ref 165, .ref 166]) kc_26_2 rfl rfl rfl ((eh1.2.1 115 (by decide)).trans (F 115 _ hl_115)) rfl rfl rfl (Nat.le_of_ble_eq_true rfl) rfl (fun hh2 eh2 => ?_)
        refine xi_iload_n (pc' := 6) (x := 7) kc_26_5 rfl rfl ?_
        refine xi_static (mj := 25) (as := [.int 7]) (st1 := []) (lv0 := [(0, .int 7)]) kc_26_6 rfl rfl (Nat.le_of_ble_eq_true rfl) rfl rfl (Nat.le_of_ble_eq_true rfl) (hJ _ _ _ _ (by decide)) (xm_le ml_25 rfl) rfl ?_
        refine xi_iload_n (pc' := 1) (x := 7) kc_25_0 rfl rfl ?_
        refine xi_iconst (pc' := 2) (v := 0) kc_25_1 rfl rfl ?_
        refine xi_bipush (pc' := 4) (v := 11) kc_25_2 rfl rfl ?_
        refine xi_static (mj := 12) (as := [.int 7, .int 0, .int 11]) (st1 := []) (lv0 := [(0, .int 7), (1, .int 0), (2, .int 11)]) kc_25_4 rfl rfl (Nat.le_of_ble_eq_true rfl) rfl rfl (Nat.le_of_ble_eq_true rfl) (hJ _ _ _ _ (by decide)) (xm_le ml_12 rfl) rfl ?_
        refine xi_iload_n (pc' := 1) (x := 7) kc_12_0 rfl rfl ?_
        refine xi_iload_n (pc' := 2) (x := 0) kc_12_1 rfl rfl ?_
        refine xi_cmf (pc' := 5) kc_12_2 rfl rfl ?_
        refine xi_iload_n (pc' := 6) (x := 7) kc_12_5 rfl rfl ?_
        refine xi_iload_n (pc' := 7) (x := 11) kc_12_6 rfl rfl ?_
        refine xi_cmf (pc' := 10) kc_12_7 rfl rfl ?_
        refine xi_iconst (pc' := 11) (v := 1) kc_12_10 rfl rfl ?_
        refine xi_goto (pc' := 15) kc_12_11 rfl ?_
        refine xi_ireturn kc_12_15 mr_12 rfl ?_
        show xw J ov 98 25 (7, [(0, .int 7)], [.int 1], hh2) _
        refine xi_ireturn kc_25_7 mr_25 rfl ?_
        show xw J ov 99 26 (9, [(0, .ref 115), (1, .int 7), (2, .int a2)], [.int 1], hh2) _
        refine xi_ift (pc' := 18) kc_26_9 rfl rfl ?_
        refine xi_iload_n (pc' := 19) (x := a2) kc_26_18 rfl rfl ?_
        refine xi_iconst (pc' := 20) (v := 0) kc_26_19 rfl rfl ?_
        refine xi_iconst (pc' := 21) (v := 5) kc_26_20 rfl rfl ?_
        refine xi_static (mj := 12) (as := [.int a2, .int 0, .int 5]) (st1 := []) (lv0 := [(0, .int a2), (1, .int 0), (2, .int 5)]) kc_26_21 rfl rfl (Nat.le_of_ble_eq_true rfl) rfl rfl (Nat.le_of_ble_eq_true rfl) (hJ _ _ _ _ (by decide)) (xm_le ml_12 rfl) rfl ?_
        refine xi_iload_n (pc' := 1) (x := a2) kc_12_0 rfl rfl ?_
        refine xi_iload_n (pc' := 2) (x := 0) kc_12_1 rfl rfl ?_
        by_cases c66 : a2.toInt < 0
        · refine xi_cmt (pc' := 14) kc_12_2 rfl (xc_lt_t (X := a2.toInt) (Y := 0) rfl (by decide) (by omega)) ?_
          refine xi_iconst (pc' := 15) (v := 0) kc_12_14 rfl rfl ?_
          refine xi_ireturn kc_12_15 mr_12 rfl ?_
          show xw J ov 99 26 (24, [(0, .ref 115), (1, .int 7), (2, .int a2)], [.int 0], hh2) _
          refine xi_iff (pc' := 27) kc_26_24 rfl rfl ?_
          refine xi_aload_n (pc' := 28) (x := 115) kc_26_27 rfl rfl ?_
          refine xi_bipush (pc' := 30) (v := (-2)) kc_26_28 rfl rfl ?_
          refine xi_virtual (mj := 13) (as := [.int (-2)]) (st1 := []) (lv0 := [(0, .ref 115), (1, .int (-2))]) kc_26_30 rfl rfl rfl rfl rfl eh2.1 (Nat.le_of_ble_eq_true rfl) (hJ _ _ _ _ (by decide)) (xm_le ml_13 rfl) rfl ?_
          refine xi_aload_n (pc' := 1) (x := 115) kc_13_0 rfl rfl ?_
          refine xi_getfield (pc' := 4) (v := .ref 140) kc_13_1 rfl rfl rfl eh2.1 rfl ?_
          refine xi_iload_n (pc' := 5) (x := (-2)) kc_13_4 rfl rfl ?_
          refine xi_ineg (pc' := 6) (v := 2) kc_13_5 rfl rfl ?_
          refine xi_dup2 (pc' := 7) kc_13_6 rfl ⟨rfl, rfl⟩ ?_
          refine xi_iaload (pc' := 8) (v := 0) kc_13_7 rfl ((eh2.2.1 140 (by decide)).trans ((eh1.2.1 140 (by decide)).trans (F 140 _ hl_140))) (by decide) rfl (xi_in (n := 7) (by decide) (by decide)) rfl ?_
          refine xi_iconst (pc' := 9) (v := 1) kc_13_8 rfl rfl ?_
          refine xi_iadd (pc' := 10) (v := 1) kc_13_9 rfl rfl ?_
          refine xi_iastore (pc' := 11) (x' := [0, 0, 1, 0, 0, 0, 0]) kc_13_10 rfl ((eh2.2.1 140 (by decide)).trans ((eh1.2.1 140 (by decide)).trans (F 140 _ hl_140))) rfl (xi_in (n := 7) (by decide) (by decide)) rfl (fun hh3 eh3 => ?_)
          refine xi_iload_n (pc' := 12) (x := (-2)) kc_13_11 rfl rfl ?_
          refine xi_ireturn kc_13_12 mr_13 rfl ?_
          show xw J ov 99 26 (33, [(0, .ref 115), (1, .int 7), (2, .int a2)], [.int (-2)], hh3) _
          refine xi_ireturn kc_26_33 mr_26 rfl ?_
          show xw J ov 100 196 (510, [(4, .int 0), (3, .ref 167), (2, .ref 115), (1, .ref 0), (0, .ref 1000000)], [.int (-2), .int (-2)], hh3) _
          refine xi_cmt (pc' := 1528) kc_196_510 rfl rfl ?_
          refine xi_iinc (pc' := 1531) (x := 0) (v := 6) (lv' := [(4, .int 6), (3, .ref 167), (2, .ref 115), (1, .ref 0), (0, .ref 1000000)]) kc_196_1528 rfl rfl rfl rfl (xm_lt ml_196 rfl) ?_
          refine xi_goto (pc' := 23) kc_196_1531 rfl ?_
          refine xi_iload (pc' := 25) (x := 6) kc_196_23 rfl rfl ?_
          refine xi_aload_n (pc' := 26) (x := 1000000) kc_196_25 rfl rfl ?_
          refine xi_arraylength (pc' := 27) (n := 6) (v := 6) kc_196_26 rfl (xl_lenO (by decide) hov0 rfl) rfl ?_
          refine xi_bipush (pc' := 29) (v := 6) kc_196_27 rfl rfl ?_
          refine xi_isub (pc' := 30) (v := 0) kc_196_29 rfl rfl ?_
          refine xi_cmt (pc' := 1534) kc_196_30 rfl rfl ?_
          refine xi_iconst (pc' := 1535) (v := 1) kc_196_1534 rfl rfl ?_
          refine xi_ireturn kc_196_1535 mr_196 rfl ?_
          refine ⟨rfl, ?_, ?_⟩
          · rw [eh3.2.2.1, eh2.2.2.1, eh1.2.2.1]; exact hn0
          · rw [eh3.2.2.2, eh2.2.2.2, eh1.2.2.2]; exact hz0
        · refine xi_cmf (pc' := 5) kc_12_2 rfl (xc_lt_f (X := a2.toInt) (Y := 0) rfl (by decide) (by omega)) ?_
          refine xi_iload_n (pc' := 6) (x := a2) kc_12_5 rfl rfl ?_
          refine xi_iload_n (pc' := 7) (x := 5) kc_12_6 rfl rfl ?_
          refine xi_cmt (pc' := 14) kc_12_7 rfl (xc_gt_t (X := a2.toInt) (Y := 5) rfl (by decide) (by omega)) ?_
          refine xi_iconst (pc' := 15) (v := 0) kc_12_14 rfl rfl ?_
          refine xi_ireturn kc_12_15 mr_12 rfl ?_
          show xw J ov 99 26 (24, [(0, .ref 115), (1, .int 7), (2, .int a2)], [.int 0], hh2) _
          refine xi_iff (pc' := 27) kc_26_24 rfl rfl ?_
          refine xi_aload_n (pc' := 28) (x := 115) kc_26_27 rfl rfl ?_
          refine xi_bipush (pc' := 30) (v := (-2)) kc_26_28 rfl rfl ?_
          refine xi_virtual (mj := 13) (as := [.int (-2)]) (st1 := []) (lv0 := [(0, .ref 115), (1, .int (-2))]) kc_26_30 rfl rfl rfl rfl rfl eh2.1 (Nat.le_of_ble_eq_true rfl) (hJ _ _ _ _ (by decide)) (xm_le ml_13 rfl) rfl ?_
          refine xi_aload_n (pc' := 1) (x := 115) kc_13_0 rfl rfl ?_
          refine xi_getfield (pc' := 4) (v := .ref 140) kc_13_1 rfl rfl rfl eh2.1 rfl ?_
          refine xi_iload_n (pc' := 5) (x := (-2)) kc_13_4 rfl rfl ?_
          refine xi_ineg (pc' := 6) (v := 2) kc_13_5 rfl rfl ?_
          refine xi_dup2 (pc' := 7) kc_13_6 rfl ⟨rfl, rfl⟩ ?_
          refine xi_iaload (pc' := 8) (v := 0) kc_13_7 rfl ((eh2.2.1 140 (by decide)).trans ((eh1.2.1 140 (by decide)).trans (F 140 _ hl_140))) (by decide) rfl (xi_in (n := 7) (by decide) (by decide)) rfl ?_
          refine xi_iconst (pc' := 9) (v := 1) kc_13_8 rfl rfl ?_
          refine xi_iadd (pc' := 10) (v := 1) kc_13_9 rfl rfl ?_
          refine xi_iastore (pc' := 11) (x' := [0, 0, 1, 0, 0, 0, 0]) kc_13_10 rfl ((eh2.2.1 140 (by decide)).trans ((eh1.2.1 140 (by decide)).trans (F 140 _ hl_140))) rfl (xi_in (n := 7) (by decide) (by decide)) rfl (fun hh3 eh3 => ?_)
          refine xi_iload_n (pc' := 12) (x := (-2)) kc_13_11 rfl rfl ?_
          refine xi_ireturn kc_13_12 mr_13 rfl ?_
          show xw J ov 99 26 (33, [(0, .ref 115), (1, .int 7), (2, .int a2)], [.int (-2)], hh3) _
          refine xi_ireturn kc_26_33 mr_26 rfl ?_
          show xw J ov 100 196 (510, [(4, .int 0), (3, .ref 167), (2, .ref 115), (1, .ref 0), (0, .ref 1000000)], [.int (-2), .int (-2)], hh3) _
          refine xi_cmt (pc' := 1528) kc_196_510 rfl rfl ?_
          refine xi_iinc (pc' := 1531) (x := 0) (v := 6) (lv' := [(4, .int 6), (3, .ref 167), (2, .ref 115), (1, .ref 0), (0, .ref 1000000)]) kc_196_1528 rfl rfl rfl rfl (xm_lt ml_196 rfl) ?_
          refine xi_goto (pc' := 23) kc_196_1531 rfl ?_
          refine xi_iload (pc' := 25) (x := 6) kc_196_23 rfl rfl ?_
          refine xi_aload_n (pc' := 26) (x := 1000000) kc_196_25 rfl rfl ?_
          refine xi_arraylength (pc' := 27) (n := 6) (v := 6) kc_196_26 rfl (xl_lenO (by decide) hov0 rfl) rfl ?_
          refine xi_bipush (pc' := 29) (v := 6) kc_196_27 rfl rfl ?_
          refine xi_isub (pc' := 30) (v := 0) kc_196_29 rfl rfl ?_
          refine xi_cmt (pc' := 1534) kc_196_30 rfl rfl ?_
          refine xi_iconst (pc' := 1535) (v := 1) kc_196_1534 rfl rfl ?_
          refine xi_ireturn kc_196_1535 mr_196 rfl ?_
          refine ⟨rfl, ?_, ?_⟩
          · rw [eh3.2.2.1, eh2.2.2.1, eh1.2.2.1]; exact hn0
          · rw [eh3.2.2.2, eh2.2.2.2, eh1.2.2.2]; exact hz0
      by_cases c67 : a1.toInt = 8
      · have qa1 : a1 = 8 := xc_of (Eq.trans (by omega) (show (8 : Int) = (8 : Int32).toInt by decide))
        subst qa1
        refine xi_aaload (pc' := 22) (b := 45) kc_107_21 rfl (F 3 _ hl_3) rfl (xi_in (n := 12) (by decide) (by decide)) rfl ?_
        refine xi_astore_n (pc' := 23) (lv' := [(3, .ref 45), (0, .ref 0), (1, .int 8), (2, .int a2)]) kc_107_22 rfl rfl (xm_lt ml_107 rfl) ?_
        refine xi_iload_n (pc' := 24) (x := a2) kc_107_23 rfl rfl ?_
        by_cases c68 : a2.toInt = 0
        · refine xi_tsi (pc' := 64) (z := 0) kc_107_24 (by omega) rfl (by decide) ?_
          refine xi_aload_n (pc' := 65) (x := 45) kc_107_64 rfl rfl ?_
          refine xi_getfield (pc' := 68) (v := .int (-9)) kc_107_65 rfl rfl rfl (F 45 _ hl_45) rfl ?_
          refine xi_ireturn kc_107_68 mr_107 rfl ?_
          show xw J ov 100 196 (494, [(4, .int 0), (3, .ref 167), (2, .ref 115), (1, .ref 0), (0, .ref 1000000)], [.int (-9)], h0) _
          refine xi_aload_n (pc' := 495) (x := 115) kc_196_494 rfl rfl ?_
          refine xi_aload_n (pc' := 496) (x := 1000000) kc_196_495 rfl rfl ?_
          refine xi_iload (pc' := 498) (x := 0) kc_196_496 rfl rfl ?_
          refine xi_iconst (pc' := 499) (v := 1) kc_196_498 rfl rfl ?_
          refine xi_iadd (pc' := 500) (v := 1) kc_196_499 rfl rfl ?_
          refine xi_ialoadO (pc' := 501) (v := 8) kc_196_500 rfl (by decide) hov0 (xi_in (n := 6) (by decide) (by decide)) rfl ?_
          refine xi_aload_n (pc' := 502) (x := 1000000) kc_196_501 rfl rfl ?_
          refine xi_iload (pc' := 504) (x := 0) kc_196_502 rfl rfl ?_
          refine xi_iconst (pc' := 505) (v := 2) kc_196_504 rfl rfl ?_
          refine xi_iadd (pc' := 506) (v := 2) kc_196_505 rfl rfl ?_
          refine xi_ialoadO (pc' := 507) (v := a2) kc_196_506 rfl (by decide) hov0 (xi_in (n := 6) (by decide) (by decide)) rfl ?_
          refine xi_virtual (mj := 26) (as := [.int 8, .int a2]) (st1 := [.int (-9)]) (lv0 := [(0, .ref 115), (1, .int 8), (2, .int a2)]) kc_196_507 rfl rfl rfl rfl rfl (F 115 _ hl_115) (Nat.le_of_ble_eq_true rfl) (hJ _ _ _ _ (by decide)) (xm_le ml_26 rfl) rfl ?_
          refine xi_aload_n (pc' := 1) (x := 115) kc_26_0 rfl rfl ?_
          refine xi_iconst (pc' := 2) (v := 0) kc_26_1 rfl rfl ?_
          refine xi_putfield (pc' := 5) (fs' := [.int 0, .int 0, .ref 116, .ref 117, .ref 118, .ref 119, .ref 120, .ref 121, .ref 122, .ref 123, .ref 124, .ref 125, .ref 126, .ref 127, .ref 128, .ref 129, .int 4, .ref 130, .int 0, .ref 131, .ref 132, .ref 133, .ref 134, .int 0, .ref 135, .ref 136, .ref 137, .ref 138, .ref 139, .ref 140, .ref 141, .ref 142, .int 0, .int 0, .int 0, .ref 143, .ref 144, .ref 145, .ref 146, .ref 147, .ref 148, .int 0, .ref 149, .ref 150, .ref 151, .int 0, .ref 152, .ref 153, .ref 154, .ref 155, .ref 156, .ref 157, .ref 158, .ref 159, .int 0, .ref 160, .int 0, .ref 161, .ref 162, .ref 163, .ref 164, .int 0, .ref 165, .ref 166]) kc_26_2 rfl rfl rfl (F 115 _ hl_115) rfl rfl rfl (Nat.le_of_ble_eq_true rfl) rfl (fun hh1 eh1 => ?_)
          refine xi_iload_n (pc' := 6) (x := 8) kc_26_5 rfl rfl ?_
          refine xi_static (mj := 25) (as := [.int 8]) (st1 := []) (lv0 := [(0, .int 8)]) kc_26_6 rfl rfl (Nat.le_of_ble_eq_true rfl) rfl rfl (Nat.le_of_ble_eq_true rfl) (hJ _ _ _ _ (by decide)) (xm_le ml_25 rfl) rfl ?_
          refine xi_iload_n (pc' := 1) (x := 8) kc_25_0 rfl rfl ?_
          refine xi_iconst (pc' := 2) (v := 0) kc_25_1 rfl rfl ?_
          refine xi_bipush (pc' := 4) (v := 11) kc_25_2 rfl rfl ?_
          refine xi_static (mj := 12) (as := [.int 8, .int 0, .int 11]) (st1 := []) (lv0 := [(0, .int 8), (1, .int 0), (2, .int 11)]) kc_25_4 rfl rfl (Nat.le_of_ble_eq_true rfl) rfl rfl (Nat.le_of_ble_eq_true rfl) (hJ _ _ _ _ (by decide)) (xm_le ml_12 rfl) rfl ?_
          refine xi_iload_n (pc' := 1) (x := 8) kc_12_0 rfl rfl ?_
          refine xi_iload_n (pc' := 2) (x := 0) kc_12_1 rfl rfl ?_
          refine xi_cmf (pc' := 5) kc_12_2 rfl rfl ?_
          refine xi_iload_n (pc' := 6) (x := 8) kc_12_5 rfl rfl ?_
          refine xi_iload_n (pc' := 7) (x := 11) kc_12_6 rfl rfl ?_
          refine xi_cmf (pc' := 10) kc_12_7 rfl rfl ?_
          refine xi_iconst (pc' := 11) (v := 1) kc_12_10 rfl rfl ?_
          refine xi_goto (pc' := 15) kc_12_11 rfl ?_
          refine xi_ireturn kc_12_15 mr_12 rfl ?_
          show xw J ov 98 25 (7, [(0, .int 8)], [.int 1], hh1) _
          refine xi_ireturn kc_25_7 mr_25 rfl ?_
          show xw J ov 99 26 (9, [(0, .ref 115), (1, .int 8), (2, .int a2)], [.int 1], hh1) _
          refine xi_ift (pc' := 18) kc_26_9 rfl rfl ?_
          refine xi_iload_n (pc' := 19) (x := a2) kc_26_18 rfl rfl ?_
          refine xi_iconst (pc' := 20) (v := 0) kc_26_19 rfl rfl ?_
          refine xi_iconst (pc' := 21) (v := 5) kc_26_20 rfl rfl ?_
          refine xi_static (mj := 12) (as := [.int a2, .int 0, .int 5]) (st1 := []) (lv0 := [(0, .int a2), (1, .int 0), (2, .int 5)]) kc_26_21 rfl rfl (Nat.le_of_ble_eq_true rfl) rfl rfl (Nat.le_of_ble_eq_true rfl) (hJ _ _ _ _ (by decide)) (xm_le ml_12 rfl) rfl ?_
          refine xi_iload_n (pc' := 1) (x := a2) kc_12_0 rfl rfl ?_
          refine xi_iload_n (pc' := 2) (x := 0) kc_12_1 rfl rfl ?_
          refine xi_cmf (pc' := 5) kc_12_2 rfl (xc_lt_f (X := a2.toInt) (Y := 0) rfl (by decide) (by omega)) ?_
          refine xi_iload_n (pc' := 6) (x := a2) kc_12_5 rfl rfl ?_
          refine xi_iload_n (pc' := 7) (x := 5) kc_12_6 rfl rfl ?_
          refine xi_cmf (pc' := 10) kc_12_7 rfl (xc_gt_f (X := a2.toInt) (Y := 5) rfl (by decide) (by omega)) ?_
          refine xi_iconst (pc' := 11) (v := 1) kc_12_10 rfl rfl ?_
          refine xi_goto (pc' := 15) kc_12_11 rfl ?_
          refine xi_ireturn kc_12_15 mr_12 rfl ?_
          show xw J ov 99 26 (24, [(0, .ref 115), (1, .int 8), (2, .int a2)], [.int 1], hh1) _
          refine xi_ift (pc' := 34) kc_26_24 rfl rfl ?_
          refine xi_iload_n (pc' := 35) (x := a2) kc_26_34 rfl rfl ?_
          refine xi_tsi (pc' := 68) (z := 0) kc_26_35 (by omega) rfl (by decide) ?_
          refine xi_aload_n (pc' := 69) (x := 115) kc_26_68 rfl rfl ?_
          refine xi_getfield (pc' := 72) (v := .ref 125) kc_26_69 rfl rfl rfl eh1.1 rfl ?_
          refine xi_iload_n (pc' := 73) (x := 8) kc_26_72 rfl rfl ?_
          refine xi_iaload (pc' := 74) (v := (-9)) kc_26_73 rfl ((eh1.2.1 125 (by decide)).trans (F 125 _ hl_125)) (by decide) rfl (xi_in (n := 12) (by decide) (by decide)) rfl ?_
          refine xi_ireturn kc_26_74 mr_26 rfl ?_
          show xw J ov 100 196 (510, [(4, .int 0), (3, .ref 167), (2, .ref 115), (1, .ref 0), (0, .ref 1000000)], [.int (-9), .int (-9)], hh1) _
          refine xi_cmt (pc' := 1528) kc_196_510 rfl rfl ?_
          refine xi_iinc (pc' := 1531) (x := 0) (v := 6) (lv' := [(4, .int 6), (3, .ref 167), (2, .ref 115), (1, .ref 0), (0, .ref 1000000)]) kc_196_1528 rfl rfl rfl rfl (xm_lt ml_196 rfl) ?_
          refine xi_goto (pc' := 23) kc_196_1531 rfl ?_
          refine xi_iload (pc' := 25) (x := 6) kc_196_23 rfl rfl ?_
          refine xi_aload_n (pc' := 26) (x := 1000000) kc_196_25 rfl rfl ?_
          refine xi_arraylength (pc' := 27) (n := 6) (v := 6) kc_196_26 rfl (xl_lenO (by decide) hov0 rfl) rfl ?_
          refine xi_bipush (pc' := 29) (v := 6) kc_196_27 rfl rfl ?_
          refine xi_isub (pc' := 30) (v := 0) kc_196_29 rfl rfl ?_
          refine xi_cmt (pc' := 1534) kc_196_30 rfl rfl ?_
          refine xi_iconst (pc' := 1535) (v := 1) kc_196_1534 rfl rfl ?_
          refine xi_ireturn kc_196_1535 mr_196 rfl ?_
          refine ⟨rfl, ?_, ?_⟩
          · rw [eh1.2.2.1]; exact hn0
          · rw [eh1.2.2.2]; exact hz0
        by_cases c69 : a2.toInt = 1
        · refine xi_tsi (pc' := 69) (z := 1) kc_107_24 (by omega) rfl (by decide) ?_
          refine xi_aload_n (pc' := 70) (x := 45) kc_107_69 rfl rfl ?_
          refine xi_getfield (pc' := 73) (v := .int 0) kc_107_70 rfl rfl rfl (F 45 _ hl_45) rfl ?_
          refine xi_ireturn kc_107_73 mr_107 rfl ?_
          show xw J ov 100 196 (494, [(4, .int 0), (3, .ref 167), (2, .ref 115), (1, .ref 0), (0, .ref 1000000)], [.int 0], h0) _
          refine xi_aload_n (pc' := 495) (x := 115) kc_196_494 rfl rfl ?_
          refine xi_aload_n (pc' := 496) (x := 1000000) kc_196_495 rfl rfl ?_
          refine xi_iload (pc' := 498) (x := 0) kc_196_496 rfl rfl ?_
          refine xi_iconst (pc' := 499) (v := 1) kc_196_498 rfl rfl ?_
          refine xi_iadd (pc' := 500) (v := 1) kc_196_499 rfl rfl ?_
          refine xi_ialoadO (pc' := 501) (v := 8) kc_196_500 rfl (by decide) hov0 (xi_in (n := 6) (by decide) (by decide)) rfl ?_
          refine xi_aload_n (pc' := 502) (x := 1000000) kc_196_501 rfl rfl ?_
          refine xi_iload (pc' := 504) (x := 0) kc_196_502 rfl rfl ?_
          refine xi_iconst (pc' := 505) (v := 2) kc_196_504 rfl rfl ?_
          refine xi_iadd (pc' := 506) (v := 2) kc_196_505 rfl rfl ?_
          refine xi_ialoadO (pc' := 507) (v := a2) kc_196_506 rfl (by decide) hov0 (xi_in (n := 6) (by decide) (by decide)) rfl ?_
          refine xi_virtual (mj := 26) (as := [.int 8, .int a2]) (st1 := [.int 0]) (lv0 := [(0, .ref 115), (1, .int 8), (2, .int a2)]) kc_196_507 rfl rfl rfl rfl rfl (F 115 _ hl_115) (Nat.le_of_ble_eq_true rfl) (hJ _ _ _ _ (by decide)) (xm_le ml_26 rfl) rfl ?_
          refine xi_aload_n (pc' := 1) (x := 115) kc_26_0 rfl rfl ?_
          refine xi_iconst (pc' := 2) (v := 0) kc_26_1 rfl rfl ?_
          refine xi_putfield (pc' := 5) (fs' := [.int 0, .int 0, .ref 116, .ref 117, .ref 118, .ref 119, .ref 120, .ref 121, .ref 122, .ref 123, .ref 124, .ref 125, .ref 126, .ref 127, .ref 128, .ref 129, .int 4, .ref 130, .int 0, .ref 131, .ref 132, .ref 133, .ref 134, .int 0, .ref 135, .ref 136, .ref 137, .ref 138, .ref 139, .ref 140, .ref 141, .ref 142, .int 0, .int 0, .int 0, .ref 143, .ref 144, .ref 145, .ref 146, .ref 147, .ref 148, .int 0, .ref 149, .ref 150, .ref 151, .int 0, .ref 152, .ref 153, .ref 154, .ref 155, .ref 156, .ref 157, .ref 158, .ref 159, .int 0, .ref 160, .int 0, .ref 161, .ref 162, .ref 163, .ref 164, .int 0, .ref 165, .ref 166]) kc_26_2 rfl rfl rfl (F 115 _ hl_115) rfl rfl rfl (Nat.le_of_ble_eq_true rfl) rfl (fun hh1 eh1 => ?_)
          refine xi_iload_n (pc' := 6) (x := 8) kc_26_5 rfl rfl ?_
          refine xi_static (mj := 25) (as := [.int 8]) (st1 := []) (lv0 := [(0, .int 8)]) kc_26_6 rfl rfl (Nat.le_of_ble_eq_true rfl) rfl rfl (Nat.le_of_ble_eq_true rfl) (hJ _ _ _ _ (by decide)) (xm_le ml_25 rfl) rfl ?_
          refine xi_iload_n (pc' := 1) (x := 8) kc_25_0 rfl rfl ?_
          refine xi_iconst (pc' := 2) (v := 0) kc_25_1 rfl rfl ?_
          refine xi_bipush (pc' := 4) (v := 11) kc_25_2 rfl rfl ?_
          refine xi_static (mj := 12) (as := [.int 8, .int 0, .int 11]) (st1 := []) (lv0 := [(0, .int 8), (1, .int 0), (2, .int 11)]) kc_25_4 rfl rfl (Nat.le_of_ble_eq_true rfl) rfl rfl (Nat.le_of_ble_eq_true rfl) (hJ _ _ _ _ (by decide)) (xm_le ml_12 rfl) rfl ?_
          refine xi_iload_n (pc' := 1) (x := 8) kc_12_0 rfl rfl ?_
          refine xi_iload_n (pc' := 2) (x := 0) kc_12_1 rfl rfl ?_
          refine xi_cmf (pc' := 5) kc_12_2 rfl rfl ?_
          refine xi_iload_n (pc' := 6) (x := 8) kc_12_5 rfl rfl ?_
          refine xi_iload_n (pc' := 7) (x := 11) kc_12_6 rfl rfl ?_
          refine xi_cmf (pc' := 10) kc_12_7 rfl rfl ?_
          refine xi_iconst (pc' := 11) (v := 1) kc_12_10 rfl rfl ?_
          refine xi_goto (pc' := 15) kc_12_11 rfl ?_
          refine xi_ireturn kc_12_15 mr_12 rfl ?_
          show xw J ov 98 25 (7, [(0, .int 8)], [.int 1], hh1) _
          refine xi_ireturn kc_25_7 mr_25 rfl ?_
          show xw J ov 99 26 (9, [(0, .ref 115), (1, .int 8), (2, .int a2)], [.int 1], hh1) _
          refine xi_ift (pc' := 18) kc_26_9 rfl rfl ?_
          refine xi_iload_n (pc' := 19) (x := a2) kc_26_18 rfl rfl ?_
          refine xi_iconst (pc' := 20) (v := 0) kc_26_19 rfl rfl ?_
          refine xi_iconst (pc' := 21) (v := 5) kc_26_20 rfl rfl ?_
          refine xi_static (mj := 12) (as := [.int a2, .int 0, .int 5]) (st1 := []) (lv0 := [(0, .int a2), (1, .int 0), (2, .int 5)]) kc_26_21 rfl rfl (Nat.le_of_ble_eq_true rfl) rfl rfl (Nat.le_of_ble_eq_true rfl) (hJ _ _ _ _ (by decide)) (xm_le ml_12 rfl) rfl ?_
          refine xi_iload_n (pc' := 1) (x := a2) kc_12_0 rfl rfl ?_
          refine xi_iload_n (pc' := 2) (x := 0) kc_12_1 rfl rfl ?_
          refine xi_cmf (pc' := 5) kc_12_2 rfl (xc_lt_f (X := a2.toInt) (Y := 0) rfl (by decide) (by omega)) ?_
          refine xi_iload_n (pc' := 6) (x := a2) kc_12_5 rfl rfl ?_
          refine xi_iload_n (pc' := 7) (x := 5) kc_12_6 rfl rfl ?_
          refine xi_cmf (pc' := 10) kc_12_7 rfl (xc_gt_f (X := a2.toInt) (Y := 5) rfl (by decide) (by omega)) ?_
          refine xi_iconst (pc' := 11) (v := 1) kc_12_10 rfl rfl ?_
          refine xi_goto (pc' := 15) kc_12_11 rfl ?_
          refine xi_ireturn kc_12_15 mr_12 rfl ?_
          show xw J ov 99 26 (24, [(0, .ref 115), (1, .int 8), (2, .int a2)], [.int 1], hh1) _
          refine xi_ift (pc' := 34) kc_26_24 rfl rfl ?_
          refine xi_iload_n (pc' := 35) (x := a2) kc_26_34 rfl rfl ?_
          refine xi_tsi (pc' := 75) (z := 1) kc_26_35 (by omega) rfl (by decide) ?_
          refine xi_aload_n (pc' := 76) (x := 115) kc_26_75 rfl rfl ?_
          refine xi_getfield (pc' := 79) (v := .ref 126) kc_26_76 rfl rfl rfl eh1.1 rfl ?_
          refine xi_iload_n (pc' := 80) (x := 8) kc_26_79 rfl rfl ?_
          refine xi_iaload (pc' := 81) (v := 0) kc_26_80 rfl ((eh1.2.1 126 (by decide)).trans (F 126 _ hl_126)) (by decide) rfl (xi_in (n := 12) (by decide) (by decide)) rfl ?_
          refine xi_ireturn kc_26_81 mr_26 rfl ?_
          show xw J ov 100 196 (510, [(4, .int 0), (3, .ref 167), (2, .ref 115), (1, .ref 0), (0, .ref 1000000)], [.int 0, .int 0], hh1) _
          refine xi_cmt (pc' := 1528) kc_196_510 rfl rfl ?_
          refine xi_iinc (pc' := 1531) (x := 0) (v := 6) (lv' := [(4, .int 6), (3, .ref 167), (2, .ref 115), (1, .ref 0), (0, .ref 1000000)]) kc_196_1528 rfl rfl rfl rfl (xm_lt ml_196 rfl) ?_
          refine xi_goto (pc' := 23) kc_196_1531 rfl ?_
          refine xi_iload (pc' := 25) (x := 6) kc_196_23 rfl rfl ?_
          refine xi_aload_n (pc' := 26) (x := 1000000) kc_196_25 rfl rfl ?_
          refine xi_arraylength (pc' := 27) (n := 6) (v := 6) kc_196_26 rfl (xl_lenO (by decide) hov0 rfl) rfl ?_
          refine xi_bipush (pc' := 29) (v := 6) kc_196_27 rfl rfl ?_
          refine xi_isub (pc' := 30) (v := 0) kc_196_29 rfl rfl ?_
          refine xi_cmt (pc' := 1534) kc_196_30 rfl rfl ?_
          refine xi_iconst (pc' := 1535) (v := 1) kc_196_1534 rfl rfl ?_
          refine xi_ireturn kc_196_1535 mr_196 rfl ?_
          refine ⟨rfl, ?_, ?_⟩
          · rw [eh1.2.2.1]; exact hn0
          · rw [eh1.2.2.2]; exact hz0
        by_cases c70 : a2.toInt = 2
        · refine xi_tsi (pc' := 74) (z := 2) kc_107_24 (by omega) rfl (by decide) ?_
          refine xi_aload_n (pc' := 75) (x := 45) kc_107_74 rfl rfl ?_
          refine xi_getfield (pc' := 78) (v := .int 0) kc_107_75 rfl rfl rfl (F 45 _ hl_45) rfl ?_
          refine xi_ift (pc' := 85) kc_107_78 rfl rfl ?_
          refine xi_iconst (pc' := 86) (v := 0) kc_107_85 rfl rfl ?_
          refine xi_ireturn kc_107_86 mr_107 rfl ?_
          show xw J ov 100 196 (494, [(4, .int 0), (3, .ref 167), (2, .ref 115), (1, .ref 0), (0, .ref 1000000)], [.int 0], h0) _
          refine xi_aload_n (pc' := 495) (x := 115) kc_196_494 rfl rfl ?_
          refine xi_aload_n (pc' := 496) (x := 1000000) kc_196_495 rfl rfl ?_
          refine xi_iload (pc' := 498) (x := 0) kc_196_496 rfl rfl ?_
          refine xi_iconst (pc' := 499) (v := 1) kc_196_498 rfl rfl ?_
          refine xi_iadd (pc' := 500) (v := 1) kc_196_499 rfl rfl ?_
          refine xi_ialoadO (pc' := 501) (v := 8) kc_196_500 rfl (by decide) hov0 (xi_in (n := 6) (by decide) (by decide)) rfl ?_
          refine xi_aload_n (pc' := 502) (x := 1000000) kc_196_501 rfl rfl ?_
          refine xi_iload (pc' := 504) (x := 0) kc_196_502 rfl rfl ?_
          refine xi_iconst (pc' := 505) (v := 2) kc_196_504 rfl rfl ?_
          refine xi_iadd (pc' := 506) (v := 2) kc_196_505 rfl rfl ?_
          refine xi_ialoadO (pc' := 507) (v := a2) kc_196_506 rfl (by decide) hov0 (xi_in (n := 6) (by decide) (by decide)) rfl ?_
          refine xi_virtual (mj := 26) (as := [.int 8, .int a2]) (st1 := [.int 0]) (lv0 := [(0, .ref 115), (1, .int 8), (2, .int a2)]) kc_196_507 rfl rfl rfl rfl rfl (F 115 _ hl_115) (Nat.le_of_ble_eq_true rfl) (hJ _ _ _ _ (by decide)) (xm_le ml_26 rfl) rfl ?_
          refine xi_aload_n (pc' := 1) (x := 115) kc_26_0 rfl rfl ?_
          refine xi_iconst (pc' := 2) (v := 0) kc_26_1 rfl rfl ?_
          refine xi_putfield (pc' := 5) (fs' := [.int 0, .int 0, .ref 116, .ref 117, .ref 118, .ref 119, .ref 120, .ref 121, .ref 122, .ref 123, .ref 124, .ref 125, .ref 126, .ref 127, .ref 128, .ref 129, .int 4, .ref 130, .int 0, .ref 131, .ref 132, .ref 133, .ref 134, .int 0, .ref 135, .ref 136, .ref 137, .ref 138, .ref 139, .ref 140, .ref 141, .ref 142, .int 0, .int 0, .int 0, .ref 143, .ref 144, .ref 145, .ref 146, .ref 147, .ref 148, .int 0, .ref 149, .ref 150, .ref 151, .int 0, .ref 152, .ref 153, .ref 154, .ref 155, .ref 156, .ref 157, .ref 158, .ref 159, .int 0, .ref 160, .int 0, .ref 161, .ref 162, .ref 163, .ref 164, .int 0, .ref 165, .ref 166]) kc_26_2 rfl rfl rfl (F 115 _ hl_115) rfl rfl rfl (Nat.le_of_ble_eq_true rfl) rfl (fun hh1 eh1 => ?_)
          refine xi_iload_n (pc' := 6) (x := 8) kc_26_5 rfl rfl ?_
          refine xi_static (mj := 25) (as := [.int 8]) (st1 := []) (lv0 := [(0, .int 8)]) kc_26_6 rfl rfl (Nat.le_of_ble_eq_true rfl) rfl rfl (Nat.le_of_ble_eq_true rfl) (hJ _ _ _ _ (by decide)) (xm_le ml_25 rfl) rfl ?_
          refine xi_iload_n (pc' := 1) (x := 8) kc_25_0 rfl rfl ?_
          refine xi_iconst (pc' := 2) (v := 0) kc_25_1 rfl rfl ?_
          refine xi_bipush (pc' := 4) (v := 11) kc_25_2 rfl rfl ?_
          refine xi_static (mj := 12) (as := [.int 8, .int 0, .int 11]) (st1 := []) (lv0 := [(0, .int 8), (1, .int 0), (2, .int 11)]) kc_25_4 rfl rfl (Nat.le_of_ble_eq_true rfl) rfl rfl (Nat.le_of_ble_eq_true rfl) (hJ _ _ _ _ (by decide)) (xm_le ml_12 rfl) rfl ?_
          refine xi_iload_n (pc' := 1) (x := 8) kc_12_0 rfl rfl ?_
          refine xi_iload_n (pc' := 2) (x := 0) kc_12_1 rfl rfl ?_
          refine xi_cmf (pc' := 5) kc_12_2 rfl rfl ?_
          refine xi_iload_n (pc' := 6) (x := 8) kc_12_5 rfl rfl ?_
          refine xi_iload_n (pc' := 7) (x := 11) kc_12_6 rfl rfl ?_
          refine xi_cmf (pc' := 10) kc_12_7 rfl rfl ?_
          refine xi_iconst (pc' := 11) (v := 1) kc_12_10 rfl rfl ?_
          refine xi_goto (pc' := 15) kc_12_11 rfl ?_
          refine xi_ireturn kc_12_15 mr_12 rfl ?_
          show xw J ov 98 25 (7, [(0, .int 8)], [.int 1], hh1) _
          refine xi_ireturn kc_25_7 mr_25 rfl ?_
          show xw J ov 99 26 (9, [(0, .ref 115), (1, .int 8), (2, .int a2)], [.int 1], hh1) _
          refine xi_ift (pc' := 18) kc_26_9 rfl rfl ?_
          refine xi_iload_n (pc' := 19) (x := a2) kc_26_18 rfl rfl ?_
          refine xi_iconst (pc' := 20) (v := 0) kc_26_19 rfl rfl ?_
          refine xi_iconst (pc' := 21) (v := 5) kc_26_20 rfl rfl ?_
          refine xi_static (mj := 12) (as := [.int a2, .int 0, .int 5]) (st1 := []) (lv0 := [(0, .int a2), (1, .int 0), (2, .int 5)]) kc_26_21 rfl rfl (Nat.le_of_ble_eq_true rfl) rfl rfl (Nat.le_of_ble_eq_true rfl) (hJ _ _ _ _ (by decide)) (xm_le ml_12 rfl) rfl ?_
          refine xi_iload_n (pc' := 1) (x := a2) kc_12_0 rfl rfl ?_
          refine xi_iload_n (pc' := 2) (x := 0) kc_12_1 rfl rfl ?_
          refine xi_cmf (pc' := 5) kc_12_2 rfl (xc_lt_f (X := a2.toInt) (Y := 0) rfl (by decide) (by omega)) ?_
          refine xi_iload_n (pc' := 6) (x := a2) kc_12_5 rfl rfl ?_
          refine xi_iload_n (pc' := 7) (x := 5) kc_12_6 rfl rfl ?_
          refine xi_cmf (pc' := 10) kc_12_7 rfl (xc_gt_f (X := a2.toInt) (Y := 5) rfl (by decide) (by omega)) ?_
          refine xi_iconst (pc' := 11) (v := 1) kc_12_10 rfl rfl ?_
          refine xi_goto (pc' := 15) kc_12_11 rfl ?_
          refine xi_ireturn kc_12_15 mr_12 rfl ?_
          show xw J ov 99 26 (24, [(0, .ref 115), (1, .int 8), (2, .int a2)], [.int 1], hh1) _
          refine xi_ift (pc' := 34) kc_26_24 rfl rfl ?_
          refine xi_iload_n (pc' := 35) (x := a2) kc_26_34 rfl rfl ?_
          refine xi_tsi (pc' := 82) (z := 2) kc_26_35 (by omega) rfl (by decide) ?_
          refine xi_aload_n (pc' := 83) (x := 115) kc_26_82 rfl rfl ?_
          refine xi_getfield (pc' := 86) (v := .ref 127) kc_26_83 rfl rfl rfl eh1.1 rfl ?_
          refine xi_iload_n (pc' := 87) (x := 8) kc_26_86 rfl rfl ?_
          refine xi_baload (pc' := 88) (v := 0) kc_26_87 rfl ((eh1.2.1 127 (by decide)).trans (F 127 _ hl_127)) rfl (xi_in (n := 12) (by decide) (by decide)) rfl ?_
          refine xi_ift (pc' := 95) kc_26_88 rfl rfl ?_
          refine xi_iconst (pc' := 96) (v := 0) kc_26_95 rfl rfl ?_
          refine xi_ireturn kc_26_96 mr_26 rfl ?_
          show xw J ov 100 196 (510, [(4, .int 0), (3, .ref 167), (2, .ref 115), (1, .ref 0), (0, .ref 1000000)], [.int 0, .int 0], hh1) _
          refine xi_cmt (pc' := 1528) kc_196_510 rfl rfl ?_
          refine xi_iinc (pc' := 1531) (x := 0) (v := 6) (lv' := [(4, .int 6), (3, .ref 167), (2, .ref 115), (1, .ref 0), (0, .ref 1000000)]) kc_196_1528 rfl rfl rfl rfl (xm_lt ml_196 rfl) ?_
          refine xi_goto (pc' := 23) kc_196_1531 rfl ?_
          refine xi_iload (pc' := 25) (x := 6) kc_196_23 rfl rfl ?_
          refine xi_aload_n (pc' := 26) (x := 1000000) kc_196_25 rfl rfl ?_
          refine xi_arraylength (pc' := 27) (n := 6) (v := 6) kc_196_26 rfl (xl_lenO (by decide) hov0 rfl) rfl ?_
          refine xi_bipush (pc' := 29) (v := 6) kc_196_27 rfl rfl ?_
          refine xi_isub (pc' := 30) (v := 0) kc_196_29 rfl rfl ?_
          refine xi_cmt (pc' := 1534) kc_196_30 rfl rfl ?_
          refine xi_iconst (pc' := 1535) (v := 1) kc_196_1534 rfl rfl ?_
          refine xi_ireturn kc_196_1535 mr_196 rfl ?_
          refine ⟨rfl, ?_, ?_⟩
          · rw [eh1.2.2.1]; exact hn0
          · rw [eh1.2.2.2]; exact hz0
        by_cases c71 : a2.toInt = 3
        · refine xi_tsi (pc' := 87) (z := 3) kc_107_24 (by omega) rfl (by decide) ?_
          refine xi_aload_n (pc' := 88) (x := 0) kc_107_87 rfl rfl ?_
          refine xi_getfield (pc' := 91) (v := .ref 63) kc_107_88 rfl rfl rfl (F 0 _ hl_0) rfl ?_
          refine xi_getfield (pc' := 94) (v := .ref 65) kc_107_91 rfl rfl rfl (F 63 _ hl_63) rfl ?_
          refine xi_iload_n (pc' := 95) (x := 8) kc_107_94 rfl rfl ?_
          refine xi_iaload (pc' := 96) (v := 0) kc_107_95 rfl (F 65 _ hl_65) (by decide) rfl (xi_in (n := 12) (by decide) (by decide)) rfl ?_
          refine xi_ireturn kc_107_96 mr_107 rfl ?_
          show xw J ov 100 196 (494, [(4, .int 0), (3, .ref 167), (2, .ref 115), (1, .ref 0), (0, .ref 1000000)], [.int 0], h0) _
          refine xi_aload_n (pc' := 495) (x := 115) kc_196_494 rfl rfl ?_
          refine xi_aload_n (pc' := 496) (x := 1000000) kc_196_495 rfl rfl ?_
          refine xi_iload (pc' := 498) (x := 0) kc_196_496 rfl rfl ?_
          refine xi_iconst (pc' := 499) (v := 1) kc_196_498 rfl rfl ?_
          refine xi_iadd (pc' := 500) (v := 1) kc_196_499 rfl rfl ?_
          refine xi_ialoadO (pc' := 501) (v := 8) kc_196_500 rfl (by decide) hov0 (xi_in (n := 6) (by decide) (by decide)) rfl ?_
          refine xi_aload_n (pc' := 502) (x := 1000000) kc_196_501 rfl rfl ?_
          refine xi_iload (pc' := 504) (x := 0) kc_196_502 rfl rfl ?_
          refine xi_iconst (pc' := 505) (v := 2) kc_196_504 rfl rfl ?_
          refine xi_iadd (pc' := 506) (v := 2) kc_196_505 rfl rfl ?_
          refine xi_ialoadO (pc' := 507) (v := a2) kc_196_506 rfl (by decide) hov0 (xi_in (n := 6) (by decide) (by decide)) rfl ?_
          refine xi_virtual (mj := 26) (as := [.int 8, .int a2]) (st1 := [.int 0]) (lv0 := [(0, .ref 115), (1, .int 8), (2, .int a2)]) kc_196_507 rfl rfl rfl rfl rfl (F 115 _ hl_115) (Nat.le_of_ble_eq_true rfl) (hJ _ _ _ _ (by decide)) (xm_le ml_26 rfl) rfl ?_
          refine xi_aload_n (pc' := 1) (x := 115) kc_26_0 rfl rfl ?_
          refine xi_iconst (pc' := 2) (v := 0) kc_26_1 rfl rfl ?_
          refine xi_putfield (pc' := 5) (fs' := [.int 0, .int 0, .ref 116, .ref 117, .ref 118, .ref 119, .ref 120, .ref 121, .ref 122, .ref 123, .ref 124, .ref 125, .ref 126, .ref 127, .ref 128, .ref 129, .int 4, .ref 130, .int 0, .ref 131, .ref 132, .ref 133, .ref 134, .int 0, .ref 135, .ref 136, .ref 137, .ref 138, .ref 139, .ref 140, .ref 141, .ref 142, .int 0, .int 0, .int 0, .ref 143, .ref 144, .ref 145, .ref 146, .ref 147, .ref 148, .int 0, .ref 149, .ref 150, .ref 151, .int 0, .ref 152, .ref 153, .ref 154, .ref 155, .ref 156, .ref 157, .ref 158, .ref 159, .int 0, .ref 160, .int 0, .ref 161, .ref 162, .ref 163, .ref 164, .int 0, .ref 165, .ref 166]) kc_26_2 rfl rfl rfl (F 115 _ hl_115) rfl rfl rfl (Nat.le_of_ble_eq_true rfl) rfl (fun hh1 eh1 => ?_)
          refine xi_iload_n (pc' := 6) (x := 8) kc_26_5 rfl rfl ?_
          refine xi_static (mj := 25) (as := [.int 8]) (st1 := []) (lv0 := [(0, .int 8)]) kc_26_6 rfl rfl (Nat.le_of_ble_eq_true rfl) rfl rfl (Nat.le_of_ble_eq_true rfl) (hJ _ _ _ _ (by decide)) (xm_le ml_25 rfl) rfl ?_
          refine xi_iload_n (pc' := 1) (x := 8) kc_25_0 rfl rfl ?_
          refine xi_iconst (pc' := 2) (v := 0) kc_25_1 rfl rfl ?_
          refine xi_bipush (pc' := 4) (v := 11) kc_25_2 rfl rfl ?_
          refine xi_static (mj := 12) (as := [.int 8, .int 0, .int 11]) (st1 := []) (lv0 := [(0, .int 8), (1, .int 0), (2, .int 11)]) kc_25_4 rfl rfl (Nat.le_of_ble_eq_true rfl) rfl rfl (Nat.le_of_ble_eq_true rfl) (hJ _ _ _ _ (by decide)) (xm_le ml_12 rfl) rfl ?_
          refine xi_iload_n (pc' := 1) (x := 8) kc_12_0 rfl rfl ?_
          refine xi_iload_n (pc' := 2) (x := 0) kc_12_1 rfl rfl ?_
          refine xi_cmf (pc' := 5) kc_12_2 rfl rfl ?_
          refine xi_iload_n (pc' := 6) (x := 8) kc_12_5 rfl rfl ?_
          refine xi_iload_n (pc' := 7) (x := 11) kc_12_6 rfl rfl ?_
          refine xi_cmf (pc' := 10) kc_12_7 rfl rfl ?_
          refine xi_iconst (pc' := 11) (v := 1) kc_12_10 rfl rfl ?_
          refine xi_goto (pc' := 15) kc_12_11 rfl ?_
          refine xi_ireturn kc_12_15 mr_12 rfl ?_
          show xw J ov 98 25 (7, [(0, .int 8)], [.int 1], hh1) _
          refine xi_ireturn kc_25_7 mr_25 rfl ?_
          show xw J ov 99 26 (9, [(0, .ref 115), (1, .int 8), (2, .int a2)], [.int 1], hh1) _
          refine xi_ift (pc' := 18) kc_26_9 rfl rfl ?_
          refine xi_iload_n (pc' := 19) (x := a2) kc_26_18 rfl rfl ?_
          refine xi_iconst (pc' := 20) (v := 0) kc_26_19 rfl rfl ?_
          refine xi_iconst (pc' := 21) (v := 5) kc_26_20 rfl rfl ?_
          refine xi_static (mj := 12) (as := [.int a2, .int 0, .int 5]) (st1 := []) (lv0 := [(0, .int a2), (1, .int 0), (2, .int 5)]) kc_26_21 rfl rfl (Nat.le_of_ble_eq_true rfl) rfl rfl (Nat.le_of_ble_eq_true rfl) (hJ _ _ _ _ (by decide)) (xm_le ml_12 rfl) rfl ?_
          refine xi_iload_n (pc' := 1) (x := a2) kc_12_0 rfl rfl ?_
          refine xi_iload_n (pc' := 2) (x := 0) kc_12_1 rfl rfl ?_
          refine xi_cmf (pc' := 5) kc_12_2 rfl (xc_lt_f (X := a2.toInt) (Y := 0) rfl (by decide) (by omega)) ?_
          refine xi_iload_n (pc' := 6) (x := a2) kc_12_5 rfl rfl ?_
          refine xi_iload_n (pc' := 7) (x := 5) kc_12_6 rfl rfl ?_
          refine xi_cmf (pc' := 10) kc_12_7 rfl (xc_gt_f (X := a2.toInt) (Y := 5) rfl (by decide) (by omega)) ?_
          refine xi_iconst (pc' := 11) (v := 1) kc_12_10 rfl rfl ?_
          refine xi_goto (pc' := 15) kc_12_11 rfl ?_
          refine xi_ireturn kc_12_15 mr_12 rfl ?_
          show xw J ov 99 26 (24, [(0, .ref 115), (1, .int 8), (2, .int a2)], [.int 1], hh1) _
          refine xi_ift (pc' := 34) kc_26_24 rfl rfl ?_
          refine xi_iload_n (pc' := 35) (x := a2) kc_26_34 rfl rfl ?_
          refine xi_tsi (pc' := 97) (z := 3) kc_26_35 (by omega) rfl (by decide) ?_
          refine xi_aload_n (pc' := 98) (x := 115) kc_26_97 rfl rfl ?_
          refine xi_getfield (pc' := 101) (v := .ref 128) kc_26_98 rfl rfl rfl eh1.1 rfl ?_
          refine xi_iload_n (pc' := 102) (x := 8) kc_26_101 rfl rfl ?_
          refine xi_iaload (pc' := 103) (v := 0) kc_26_102 rfl ((eh1.2.1 128 (by decide)).trans (F 128 _ hl_128)) (by decide) rfl (xi_in (n := 12) (by decide) (by decide)) rfl ?_
          refine xi_ireturn kc_26_103 mr_26 rfl ?_
          show xw J ov 100 196 (510, [(4, .int 0), (3, .ref 167), (2, .ref 115), (1, .ref 0), (0, .ref 1000000)], [.int 0, .int 0], hh1) _
          refine xi_cmt (pc' := 1528) kc_196_510 rfl rfl ?_
          refine xi_iinc (pc' := 1531) (x := 0) (v := 6) (lv' := [(4, .int 6), (3, .ref 167), (2, .ref 115), (1, .ref 0), (0, .ref 1000000)]) kc_196_1528 rfl rfl rfl rfl (xm_lt ml_196 rfl) ?_
          refine xi_goto (pc' := 23) kc_196_1531 rfl ?_
          refine xi_iload (pc' := 25) (x := 6) kc_196_23 rfl rfl ?_
          refine xi_aload_n (pc' := 26) (x := 1000000) kc_196_25 rfl rfl ?_
          refine xi_arraylength (pc' := 27) (n := 6) (v := 6) kc_196_26 rfl (xl_lenO (by decide) hov0 rfl) rfl ?_
          refine xi_bipush (pc' := 29) (v := 6) kc_196_27 rfl rfl ?_
          refine xi_isub (pc' := 30) (v := 0) kc_196_29 rfl rfl ?_
          refine xi_cmt (pc' := 1534) kc_196_30 rfl rfl ?_
          refine xi_iconst (pc' := 1535) (v := 1) kc_196_1534 rfl rfl ?_
          refine xi_ireturn kc_196_1535 mr_196 rfl ?_
          refine ⟨rfl, ?_, ?_⟩
          · rw [eh1.2.2.1]; exact hn0
          · rw [eh1.2.2.2]; exact hz0
        by_cases c72 : a2.toInt = 4
        · refine xi_tsi (pc' := 97) (z := 4) kc_107_24 (by omega) rfl (by decide) ?_
          refine xi_aload_n (pc' := 98) (x := 45) kc_107_97 rfl rfl ?_
          refine xi_getfield (pc' := 101) (v := .int 0) kc_107_98 rfl rfl rfl (F 45 _ hl_45) rfl ?_
          refine xi_ireturn kc_107_101 mr_107 rfl ?_
          show xw J ov 100 196 (494, [(4, .int 0), (3, .ref 167), (2, .ref 115), (1, .ref 0), (0, .ref 1000000)], [.int 0], h0) _
          refine xi_aload_n (pc' := 495) (x := 115) kc_196_494 rfl rfl ?_
          refine xi_aload_n (pc' := 496) (x := 1000000) kc_196_495 rfl rfl ?_
          refine xi_iload (pc' := 498) (x := 0) kc_196_496 rfl rfl ?_
          refine xi_iconst (pc' := 499) (v := 1) kc_196_498 rfl rfl ?_
          refine xi_iadd (pc' := 500) (v := 1) kc_196_499 rfl rfl ?_
          refine xi_ialoadO (pc' := 501) (v := 8) kc_196_500 rfl (by decide) hov0 (xi_in (n := 6) (by decide) (by decide)) rfl ?_
          refine xi_aload_n (pc' := 502) (x := 1000000) kc_196_501 rfl rfl ?_
          refine xi_iload (pc' := 504) (x := 0) kc_196_502 rfl rfl ?_
          refine xi_iconst (pc' := 505) (v := 2) kc_196_504 rfl rfl ?_
          refine xi_iadd (pc' := 506) (v := 2) kc_196_505 rfl rfl ?_
          refine xi_ialoadO (pc' := 507) (v := a2) kc_196_506 rfl (by decide) hov0 (xi_in (n := 6) (by decide) (by decide)) rfl ?_
          refine xi_virtual (mj := 26) (as := [.int 8, .int a2]) (st1 := [.int 0]) (lv0 := [(0, .ref 115), (1, .int 8), (2, .int a2)]) kc_196_507 rfl rfl rfl rfl rfl (F 115 _ hl_115) (Nat.le_of_ble_eq_true rfl) (hJ _ _ _ _ (by decide)) (xm_le ml_26 rfl) rfl ?_
          refine xi_aload_n (pc' := 1) (x := 115) kc_26_0 rfl rfl ?_
          refine xi_iconst (pc' := 2) (v := 0) kc_26_1 rfl rfl ?_
          refine xi_putfield (pc' := 5) (fs' := [.int 0, .int 0, .ref 116, .ref 117, .ref 118, .ref 119, .ref 120, .ref 121, .ref 122, .ref 123, .ref 124, .ref 125, .ref 126, .ref 127, .ref 128, .ref 129, .int 4, .ref 130, .int 0, .ref 131, .ref 132, .ref 133, .ref 134, .int 0, .ref 135, .ref 136, .ref 137, .ref 138, .ref 139, .ref 140, .ref 141, .ref 142, .int 0, .int 0, .int 0, .ref 143, .ref 144, .ref 145, .ref 146, .ref 147, .ref 148, .int 0, .ref 149, .ref 150, .ref 151, .int 0, .ref 152, .ref 153, .ref 154, .ref 155, .ref 156, .ref 157, .ref 158, .ref 159, .int 0, .ref 160, .int 0, .ref 161, .ref 162, .ref 163, .ref 164, .int 0, .ref 165, .ref 166]) kc_26_2 rfl rfl rfl (F 115 _ hl_115) rfl rfl rfl (Nat.le_of_ble_eq_true rfl) rfl (fun hh1 eh1 => ?_)
          refine xi_iload_n (pc' := 6) (x := 8) kc_26_5 rfl rfl ?_
          refine xi_static (mj := 25) (as := [.int 8]) (st1 := []) (lv0 := [(0, .int 8)]) kc_26_6 rfl rfl (Nat.le_of_ble_eq_true rfl) rfl rfl (Nat.le_of_ble_eq_true rfl) (hJ _ _ _ _ (by decide)) (xm_le ml_25 rfl) rfl ?_
          refine xi_iload_n (pc' := 1) (x := 8) kc_25_0 rfl rfl ?_
          refine xi_iconst (pc' := 2) (v := 0) kc_25_1 rfl rfl ?_
          refine xi_bipush (pc' := 4) (v := 11) kc_25_2 rfl rfl ?_
          refine xi_static (mj := 12) (as := [.int 8, .int 0, .int 11]) (st1 := []) (lv0 := [(0, .int 8), (1, .int 0), (2, .int 11)]) kc_25_4 rfl rfl (Nat.le_of_ble_eq_true rfl) rfl rfl (Nat.le_of_ble_eq_true rfl) (hJ _ _ _ _ (by decide)) (xm_le ml_12 rfl) rfl ?_
          refine xi_iload_n (pc' := 1) (x := 8) kc_12_0 rfl rfl ?_
          refine xi_iload_n (pc' := 2) (x := 0) kc_12_1 rfl rfl ?_
          refine xi_cmf (pc' := 5) kc_12_2 rfl rfl ?_
          refine xi_iload_n (pc' := 6) (x := 8) kc_12_5 rfl rfl ?_
          refine xi_iload_n (pc' := 7) (x := 11) kc_12_6 rfl rfl ?_
          refine xi_cmf (pc' := 10) kc_12_7 rfl rfl ?_
          refine xi_iconst (pc' := 11) (v := 1) kc_12_10 rfl rfl ?_
          refine xi_goto (pc' := 15) kc_12_11 rfl ?_
          refine xi_ireturn kc_12_15 mr_12 rfl ?_
          show xw J ov 98 25 (7, [(0, .int 8)], [.int 1], hh1) _
          refine xi_ireturn kc_25_7 mr_25 rfl ?_
          show xw J ov 99 26 (9, [(0, .ref 115), (1, .int 8), (2, .int a2)], [.int 1], hh1) _
          refine xi_ift (pc' := 18) kc_26_9 rfl rfl ?_
          refine xi_iload_n (pc' := 19) (x := a2) kc_26_18 rfl rfl ?_
          refine xi_iconst (pc' := 20) (v := 0) kc_26_19 rfl rfl ?_
          refine xi_iconst (pc' := 21) (v := 5) kc_26_20 rfl rfl ?_
          refine xi_static (mj := 12) (as := [.int a2, .int 0, .int 5]) (st1 := []) (lv0 := [(0, .int a2), (1, .int 0), (2, .int 5)]) kc_26_21 rfl rfl (Nat.le_of_ble_eq_true rfl) rfl rfl (Nat.le_of_ble_eq_true rfl) (hJ _ _ _ _ (by decide)) (xm_le ml_12 rfl) rfl ?_
          refine xi_iload_n (pc' := 1) (x := a2) kc_12_0 rfl rfl ?_
          refine xi_iload_n (pc' := 2) (x := 0) kc_12_1 rfl rfl ?_
          refine xi_cmf (pc' := 5) kc_12_2 rfl (xc_lt_f (X := a2.toInt) (Y := 0) rfl (by decide) (by omega)) ?_
          refine xi_iload_n (pc' := 6) (x := a2) kc_12_5 rfl rfl ?_
          refine xi_iload_n (pc' := 7) (x := 5) kc_12_6 rfl rfl ?_
          refine xi_cmf (pc' := 10) kc_12_7 rfl (xc_gt_f (X := a2.toInt) (Y := 5) rfl (by decide) (by omega)) ?_
          refine xi_iconst (pc' := 11) (v := 1) kc_12_10 rfl rfl ?_
          refine xi_goto (pc' := 15) kc_12_11 rfl ?_
          refine xi_ireturn kc_12_15 mr_12 rfl ?_
          show xw J ov 99 26 (24, [(0, .ref 115), (1, .int 8), (2, .int a2)], [.int 1], hh1) _
          refine xi_ift (pc' := 34) kc_26_24 rfl rfl ?_
          refine xi_iload_n (pc' := 35) (x := a2) kc_26_34 rfl rfl ?_
          refine xi_tsi (pc' := 104) (z := 4) kc_26_35 (by omega) rfl (by decide) ?_
          refine xi_aload_n (pc' := 105) (x := 115) kc_26_104 rfl rfl ?_
          refine xi_getfield (pc' := 108) (v := .ref 129) kc_26_105 rfl rfl rfl eh1.1 rfl ?_
          refine xi_iload_n (pc' := 109) (x := 8) kc_26_108 rfl rfl ?_
          refine xi_iaload (pc' := 110) (v := 0) kc_26_109 rfl ((eh1.2.1 129 (by decide)).trans (F 129 _ hl_129)) (by decide) rfl (xi_in (n := 12) (by decide) (by decide)) rfl ?_
          refine xi_ireturn kc_26_110 mr_26 rfl ?_
          show xw J ov 100 196 (510, [(4, .int 0), (3, .ref 167), (2, .ref 115), (1, .ref 0), (0, .ref 1000000)], [.int 0, .int 0], hh1) _
          refine xi_cmt (pc' := 1528) kc_196_510 rfl rfl ?_
          refine xi_iinc (pc' := 1531) (x := 0) (v := 6) (lv' := [(4, .int 6), (3, .ref 167), (2, .ref 115), (1, .ref 0), (0, .ref 1000000)]) kc_196_1528 rfl rfl rfl rfl (xm_lt ml_196 rfl) ?_
          refine xi_goto (pc' := 23) kc_196_1531 rfl ?_
          refine xi_iload (pc' := 25) (x := 6) kc_196_23 rfl rfl ?_
          refine xi_aload_n (pc' := 26) (x := 1000000) kc_196_25 rfl rfl ?_
          refine xi_arraylength (pc' := 27) (n := 6) (v := 6) kc_196_26 rfl (xl_lenO (by decide) hov0 rfl) rfl ?_
          refine xi_bipush (pc' := 29) (v := 6) kc_196_27 rfl rfl ?_
          refine xi_isub (pc' := 30) (v := 0) kc_196_29 rfl rfl ?_
          refine xi_cmt (pc' := 1534) kc_196_30 rfl rfl ?_
          refine xi_iconst (pc' := 1535) (v := 1) kc_196_1534 rfl rfl ?_
          refine xi_ireturn kc_196_1535 mr_196 rfl ?_
          refine ⟨rfl, ?_, ?_⟩
          · rw [eh1.2.2.1]; exact hn0
          · rw [eh1.2.2.2]; exact hz0
        by_cases c73 : a2.toInt = 5
        · refine xi_tsi (pc' := 102) (z := 5) kc_107_24 (by omega) rfl (by decide) ?_
          refine xi_aload_n (pc' := 103) (x := 0) kc_107_102 rfl rfl ?_
          refine xi_getfield (pc' := 106) (v := .ref 1) kc_107_103 rfl rfl rfl (F 0 _ hl_0) rfl ?_
          refine xi_iload_n (pc' := 107) (x := 8) kc_107_106 rfl rfl ?_
          refine xi_aload_n (pc' := 108) (x := 0) kc_107_107 rfl rfl ?_
          refine xi_getfield (pc' := 111) (v := .int 0) kc_107_108 rfl rfl rfl (F 0 _ hl_0) rfl ?_
          refine xi_virtual (mj := 108) (as := [.int 8, .int 0]) (st1 := []) (lv0 := [(0, .ref 1), (1, .int 8), (2, .int 0)]) kc_107_111 rfl rfl rfl rfl rfl (F 1 _ hl_1) (Nat.le_of_ble_eq_true rfl) (hJ _ _ _ _ (by decide)) (xm_le ml_108 rfl) rfl ?_
          refine xi_aload_n (pc' := 1) (x := 1) kc_108_0 rfl rfl ?_
          refine xi_iload_n (pc' := 2) (x := 8) kc_108_1 rfl rfl ?_
          refine xi_virtual (mj := 109) (as := [.int 8]) (st1 := []) (lv0 := [(0, .ref 1), (1, .int 8)]) kc_108_2 rfl rfl rfl rfl rfl (F 1 _ hl_1) (Nat.le_of_ble_eq_true rfl) (hJ _ _ _ _ (by decide)) (xm_le ml_109 rfl) rfl ?_
          refine xi_iload_n (pc' := 1) (x := 8) kc_109_0 rfl rfl ?_
          refine xi_static (mj := 105) (as := [.int 8]) (st1 := []) (lv0 := [(0, .int 8)]) kc_109_1 rfl rfl (Nat.le_of_ble_eq_true rfl) rfl rfl (Nat.le_of_ble_eq_true rfl) (hJ _ _ _ _ (by decide)) (xm_le ml_105 rfl) rfl ?_
          refine xi_iload_n (pc' := 1) (x := 8) kc_105_0 rfl rfl ?_
          refine xi_iff (pc' := 4) kc_105_1 rfl rfl ?_
          refine xi_iload_n (pc' := 5) (x := 8) kc_105_4 rfl rfl ?_
          refine xi_bipush (pc' := 7) (v := 12) kc_105_5 rfl rfl ?_
          refine xi_cmf (pc' := 10) kc_105_7 rfl rfl ?_
          refine xi_iconst (pc' := 11) (v := 1) kc_105_10 rfl rfl ?_
          refine xi_goto (pc' := 15) kc_105_11 rfl ?_
          refine xi_ireturn kc_105_15 mr_105 rfl ?_
          show xw J ov 97 109 (4, [(0, .ref 1), (1, .int 8)], [.int 1], h0) _
          refine xi_iff (pc' := 7) kc_109_4 rfl rfl ?_
          refine xi_aload_n (pc' := 8) (x := 1) kc_109_7 rfl rfl ?_
          refine xi_getfield (pc' := 11) (v := .ref 3) kc_109_8 rfl rfl rfl (F 1 _ hl_1) rfl ?_
          refine xi_iload_n (pc' := 12) (x := 8) kc_109_11 rfl rfl ?_
          refine xi_aaload (pc' := 13) (b := 45) kc_109_12 rfl (F 3 _ hl_3) rfl (xi_in (n := 12) (by decide) (by decide)) rfl ?_
          refine xi_virtual (mj := 106) (as := []) (st1 := []) (lv0 := [(0, .ref 45)]) kc_109_13 rfl rfl rfl rfl rfl (F 45 _ hl_45) (Nat.le_of_ble_eq_true rfl) (hJ _ _ _ _ (by decide)) (xm_le ml_106 rfl) rfl ?_
          refine xi_aload_n (pc' := 1) (x := 45) kc_106_0 rfl rfl ?_
          refine xi_getfield (pc' := 4) (v := .int (-9)) kc_106_1 rfl rfl rfl (F 45 _ hl_45) rfl ?_
          refine xi_static (mj := 90) (as := [.int (-9)]) (st1 := []) (lv0 := [(0, .int (-9))]) kc_106_4 rfl rfl (Nat.le_of_ble_eq_true rfl) rfl rfl (Nat.le_of_ble_eq_true rfl) (hJ _ _ _ _ (by decide)) (xm_le ml_90 rfl) rfl ?_
          refine xi_iload_n (pc' := 1) (x := (-9)) kc_90_0 rfl rfl ?_
          refine xi_ift (pc' := 14) kc_90_1 rfl rfl ?_
          refine xi_iconst (pc' := 15) (v := 0) kc_90_14 rfl rfl ?_
          refine xi_ireturn kc_90_15 mr_90 rfl ?_
          show xw J ov 96 106 (7, [(0, .ref 45)], [.int 0], h0) _
          refine xi_ireturn kc_106_7 mr_106 rfl ?_
          show xw J ov 97 109 (16, [(0, .ref 1), (1, .int 8)], [.int 0], h0) _
          refine xi_ift (pc' := 23) kc_109_16 rfl rfl ?_
          refine xi_iconst (pc' := 24) (v := 0) kc_109_23 rfl rfl ?_
          refine xi_ireturn kc_109_24 mr_109 rfl ?_
          show xw J ov 98 108 (5, [(0, .ref 1), (1, .int 8), (2, .int 0)], [.int 0], h0) _
          refine xi_iff (pc' := 8) kc_108_5 rfl rfl ?_
          refine xi_iconst (pc' := 9) (v := 0) kc_108_8 rfl rfl ?_
          refine xi_ireturn kc_108_9 mr_108 rfl ?_
          show xw J ov 99 107 (114, [(3, .ref 45), (0, .ref 0), (1, .int 8), (2, .int a2)], [.int 0], h0) _
          refine xi_ireturn kc_107_114 mr_107 rfl ?_
          show xw J ov 100 196 (494, [(4, .int 0), (3, .ref 167), (2, .ref 115), (1, .ref 0), (0, .ref 1000000)], [.int 0], h0) _
          refine xi_aload_n (pc' := 495) (x := 115) kc_196_494 rfl rfl ?_
          refine xi_aload_n (pc' := 496) (x := 1000000) kc_196_495 rfl rfl ?_
          refine xi_iload (pc' := 498) (x := 0) kc_196_496 rfl rfl ?_
          refine xi_iconst (pc' := 499) (v := 1) kc_196_498 rfl rfl ?_
          refine xi_iadd (pc' := 500) (v := 1) kc_196_499 rfl rfl ?_
          refine xi_ialoadO (pc' := 501) (v := 8) kc_196_500 rfl (by decide) hov0 (xi_in (n := 6) (by decide) (by decide)) rfl ?_
          refine xi_aload_n (pc' := 502) (x := 1000000) kc_196_501 rfl rfl ?_
          refine xi_iload (pc' := 504) (x := 0) kc_196_502 rfl rfl ?_
          refine xi_iconst (pc' := 505) (v := 2) kc_196_504 rfl rfl ?_
          refine xi_iadd (pc' := 506) (v := 2) kc_196_505 rfl rfl ?_
          refine xi_ialoadO (pc' := 507) (v := a2) kc_196_506 rfl (by decide) hov0 (xi_in (n := 6) (by decide) (by decide)) rfl ?_
          refine xi_virtual (mj := 26) (as := [.int 8, .int a2]) (st1 := [.int 0]) (lv0 := [(0, .ref 115), (1, .int 8), (2, .int a2)]) kc_196_507 rfl rfl rfl rfl rfl (F 115 _ hl_115) (Nat.le_of_ble_eq_true rfl) (hJ _ _ _ _ (by decide)) (xm_le ml_26 rfl) rfl ?_
          refine xi_aload_n (pc' := 1) (x := 115) kc_26_0 rfl rfl ?_
          refine xi_iconst (pc' := 2) (v := 0) kc_26_1 rfl rfl ?_
          refine xi_putfield (pc' := 5) (fs' := [.int 0, .int 0, .ref 116, .ref 117, .ref 118, .ref 119, .ref 120, .ref 121, .ref 122, .ref 123, .ref 124, .ref 125, .ref 126, .ref 127, .ref 128, .ref 129, .int 4, .ref 130, .int 0, .ref 131, .ref 132, .ref 133, .ref 134, .int 0, .ref 135, .ref 136, .ref 137, .ref 138, .ref 139, .ref 140, .ref 141, .ref 142, .int 0, .int 0, .int 0, .ref 143, .ref 144, .ref 145, .ref 146, .ref 147, .ref 148, .int 0, .ref 149, .ref 150, .ref 151, .int 0, .ref 152, .ref 153, .ref 154, .ref 155, .ref 156, .ref 157, .ref 158, .ref 159, .int 0, .ref 160, .int 0, .ref 161, .ref 162, .ref 163, .ref 164, .int 0, .ref 165, .ref 166]) kc_26_2 rfl rfl rfl (F 115 _ hl_115) rfl rfl rfl (Nat.le_of_ble_eq_true rfl) rfl (fun hh1 eh1 => ?_)
          refine xi_iload_n (pc' := 6) (x := 8) kc_26_5 rfl rfl ?_
          refine xi_static (mj := 25) (as := [.int 8]) (st1 := []) (lv0 := [(0, .int 8)]) kc_26_6 rfl rfl (Nat.le_of_ble_eq_true rfl) rfl rfl (Nat.le_of_ble_eq_true rfl) (hJ _ _ _ _ (by decide)) (xm_le ml_25 rfl) rfl ?_
          refine xi_iload_n (pc' := 1) (x := 8) kc_25_0 rfl rfl ?_
          refine xi_iconst (pc' := 2) (v := 0) kc_25_1 rfl rfl ?_
          refine xi_bipush (pc' := 4) (v := 11) kc_25_2 rfl rfl ?_
          refine xi_static (mj := 12) (as := [.int 8, .int 0, .int 11]) (st1 := []) (lv0 := [(0, .int 8), (1, .int 0), (2, .int 11)]) kc_25_4 rfl rfl (Nat.le_of_ble_eq_true rfl) rfl rfl (Nat.le_of_ble_eq_true rfl) (hJ _ _ _ _ (by decide)) (xm_le ml_12 rfl) rfl ?_
          refine xi_iload_n (pc' := 1) (x := 8) kc_12_0 rfl rfl ?_
          refine xi_iload_n (pc' := 2) (x := 0) kc_12_1 rfl rfl ?_
          refine xi_cmf (pc' := 5) kc_12_2 rfl rfl ?_
          refine xi_iload_n (pc' := 6) (x := 8) kc_12_5 rfl rfl ?_
          refine xi_iload_n (pc' := 7) (x := 11) kc_12_6 rfl rfl ?_
          refine xi_cmf (pc' := 10) kc_12_7 rfl rfl ?_
          refine xi_iconst (pc' := 11) (v := 1) kc_12_10 rfl rfl ?_
          refine xi_goto (pc' := 15) kc_12_11 rfl ?_
          refine xi_ireturn kc_12_15 mr_12 rfl ?_
          show xw J ov 98 25 (7, [(0, .int 8)], [.int 1], hh1) _
          refine xi_ireturn kc_25_7 mr_25 rfl ?_
          show xw J ov 99 26 (9, [(0, .ref 115), (1, .int 8), (2, .int a2)], [.int 1], hh1) _
          refine xi_ift (pc' := 18) kc_26_9 rfl rfl ?_
          refine xi_iload_n (pc' := 19) (x := a2) kc_26_18 rfl rfl ?_
          refine xi_iconst (pc' := 20) (v := 0) kc_26_19 rfl rfl ?_
          refine xi_iconst (pc' := 21) (v := 5) kc_26_20 rfl rfl ?_
          refine xi_static (mj := 12) (as := [.int a2, .int 0, .int 5]) (st1 := []) (lv0 := [(0, .int a2), (1, .int 0), (2, .int 5)]) kc_26_21 rfl rfl (Nat.le_of_ble_eq_true rfl) rfl rfl (Nat.le_of_ble_eq_true rfl) (hJ _ _ _ _ (by decide)) (xm_le ml_12 rfl) rfl ?_
          refine xi_iload_n (pc' := 1) (x := a2) kc_12_0 rfl rfl ?_
          refine xi_iload_n (pc' := 2) (x := 0) kc_12_1 rfl rfl ?_
          refine xi_cmf (pc' := 5) kc_12_2 rfl (xc_lt_f (X := a2.toInt) (Y := 0) rfl (by decide) (by omega)) ?_
          refine xi_iload_n (pc' := 6) (x := a2) kc_12_5 rfl rfl ?_
          refine xi_iload_n (pc' := 7) (x := 5) kc_12_6 rfl rfl ?_
          refine xi_cmf (pc' := 10) kc_12_7 rfl (xc_gt_f (X := a2.toInt) (Y := 5) rfl (by decide) (by omega)) ?_
          refine xi_iconst (pc' := 11) (v := 1) kc_12_10 rfl rfl ?_
          refine xi_goto (pc' := 15) kc_12_11 rfl ?_
          refine xi_ireturn kc_12_15 mr_12 rfl ?_
          show xw J ov 99 26 (24, [(0, .ref 115), (1, .int 8), (2, .int a2)], [.int 1], hh1) _
          refine xi_ift (pc' := 34) kc_26_24 rfl rfl ?_
          refine xi_iload_n (pc' := 35) (x := a2) kc_26_34 rfl rfl ?_
          refine xi_tsd (pc' := 111) kc_26_35 rfl (by omega) ?_
          refine xi_aload_n (pc' := 112) (x := 115) kc_26_111 rfl rfl ?_
          refine xi_getfield (pc' := 115) (v := .ref 125) kc_26_112 rfl rfl rfl eh1.1 rfl ?_
          refine xi_iload_n (pc' := 116) (x := 8) kc_26_115 rfl rfl ?_
          refine xi_iaload (pc' := 117) (v := (-9)) kc_26_116 rfl ((eh1.2.1 125 (by decide)).trans (F 125 _ hl_125)) (by decide) rfl (xi_in (n := 12) (by decide) (by decide)) rfl ?_
          refine xi_iff (pc' := 120) kc_26_117 rfl rfl ?_
          refine xi_iconst (pc' := 121) (v := 0) kc_26_120 rfl rfl ?_
          refine xi_goto (pc' := 133) kc_26_121 rfl ?_
          refine xi_ireturn kc_26_133 mr_26 rfl ?_
          show xw J ov 100 196 (510, [(4, .int 0), (3, .ref 167), (2, .ref 115), (1, .ref 0), (0, .ref 1000000)], [.int 0, .int 0], hh1) _
          refine xi_cmt (pc' := 1528) kc_196_510 rfl rfl ?_
          refine xi_iinc (pc' := 1531) (x := 0) (v := 6) (lv' := [(4, .int 6), (3, .ref 167), (2, .ref 115), (1, .ref 0), (0, .ref 1000000)]) kc_196_1528 rfl rfl rfl rfl (xm_lt ml_196 rfl) ?_
          refine xi_goto (pc' := 23) kc_196_1531 rfl ?_
          refine xi_iload (pc' := 25) (x := 6) kc_196_23 rfl rfl ?_
          refine xi_aload_n (pc' := 26) (x := 1000000) kc_196_25 rfl rfl ?_
          refine xi_arraylength (pc' := 27) (n := 6) (v := 6) kc_196_26 rfl (xl_lenO (by decide) hov0 rfl) rfl ?_
          refine xi_bipush (pc' := 29) (v := 6) kc_196_27 rfl rfl ?_
          refine xi_isub (pc' := 30) (v := 0) kc_196_29 rfl rfl ?_
          refine xi_cmt (pc' := 1534) kc_196_30 rfl rfl ?_
          refine xi_iconst (pc' := 1535) (v := 1) kc_196_1534 rfl rfl ?_
          refine xi_ireturn kc_196_1535 mr_196 rfl ?_
          refine ⟨rfl, ?_, ?_⟩
          · rw [eh1.2.2.1]; exact hn0
          · rw [eh1.2.2.2]; exact hz0
        refine xi_tsd (pc' := 115) kc_107_24 rfl (by omega) ?_
        refine xi_aload_n (pc' := 116) (x := 0) kc_107_115 rfl rfl ?_
        refine xi_bipush (pc' := 118) (v := (-2)) kc_107_116 rfl rfl ?_
        refine xi_virtual (mj := 91) (as := [.int (-2)]) (st1 := []) (lv0 := [(0, .ref 0), (1, .int (-2))]) kc_107_118 rfl rfl rfl rfl rfl (F 0 _ hl_0) (Nat.le_of_ble_eq_true rfl) (hJ _ _ _ _ (by decide)) (xm_le ml_91 rfl) rfl ?_
        refine xi_iload_n (pc' := 1) (x := (-2)) kc_91_0 rfl rfl ?_
        refine xi_ineg (pc' := 2) (v := 2) kc_91_1 rfl rfl ?_
        refine xi_istore_n (pc' := 3) (lv' := [(2, .int 2), (0, .ref 0), (1, .int (-2))]) kc_91_2 rfl rfl (xm_lt ml_91 rfl) ?_
        refine xi_iload_n (pc' := 4) (x := 2) kc_91_3 rfl rfl ?_
        refine xi_iff (pc' := 7) kc_91_4 rfl rfl ?_
        refine xi_iload_n (pc' := 8) (x := 2) kc_91_7 rfl rfl ?_
        refine xi_aload_n (pc' := 9) (x := 0) kc_91_8 rfl rfl ?_
        refine xi_getfield (pc' := 12) (v := .ref 94) kc_91_9 rfl rfl rfl (F 0 _ hl_0) rfl ?_
        refine xi_arraylength (pc' := 13) (n := 7) (v := 7) kc_91_12 rfl (xl_lenI (by decide) (by decide) (F 94 _ hl_94) (by simp only [List.length_replicate, List.length_cons, List.length_nil])) rfl ?_
        refine xi_cmf (pc' := 16) kc_91_13 rfl rfl ?_
        refine xi_aload_n (pc' := 17) (x := 0) kc_91_16 rfl rfl ?_
        refine xi_getfield (pc' := 20) (v := .ref 94) kc_91_17 rfl rfl rfl (F 0 _ hl_0) rfl ?_
        refine xi_iload_n (pc' := 21) (x := 2) kc_91_20 rfl rfl ?_
        refine xi_dup2 (pc' := 22) kc_91_21 rfl ⟨rfl, rfl⟩ ?_
        refine xi_iaload (pc' := 23) (v := 0) kc_91_22 rfl (F 94 _ hl_94) (by decide) rfl (xi_in (n := 7) (by decide) (by decide)) rfl ?_
        refine xi_iconst (pc' := 24) (v := 1) kc_91_23 rfl rfl ?_
        refine xi_iadd (pc' := 25) (v := 1) kc_91_24 rfl rfl ?_
        refine xi_iastore (pc' := 26) (x' := [0, 0, 1, 0, 0, 0, 0]) kc_91_25 rfl (F 94 _ hl_94) rfl (xi_in (n := 7) (by decide) (by decide)) rfl (fun hh1 eh1 => ?_)
        refine xi_iload_n (pc' := 27) (x := (-2)) kc_91_26 rfl rfl ?_
        refine xi_ireturn kc_91_27 mr_91 rfl ?_
        show xw J ov 99 107 (121, [(3, .ref 45), (0, .ref 0), (1, .int 8), (2, .int a2)], [.int (-2)], hh1) _
        refine xi_ireturn kc_107_121 mr_107 rfl ?_
        show xw J ov 100 196 (494, [(4, .int 0), (3, .ref 167), (2, .ref 115), (1, .ref 0), (0, .ref 1000000)], [.int (-2)], hh1) _
        refine xi_aload_n (pc' := 495) (x := 115) kc_196_494 rfl rfl ?_
        refine xi_aload_n (pc' := 496) (x := 1000000) kc_196_495 rfl rfl ?_
        refine xi_iload (pc' := 498) (x := 0) kc_196_496 rfl rfl ?_
        refine xi_iconst (pc' := 499) (v := 1) kc_196_498 rfl rfl ?_
        refine xi_iadd (pc' := 500) (v := 1) kc_196_499 rfl rfl ?_
        refine xi_ialoadO (pc' := 501) (v := 8) kc_196_500 rfl (by decide) hov0 (xi_in (n := 6) (by decide) (by decide)) rfl ?_
        refine xi_aload_n (pc' := 502) (x := 1000000) kc_196_501 rfl rfl ?_
        refine xi_iload (pc' := 504) (x := 0) kc_196_502 rfl rfl ?_
        refine xi_iconst (pc' := 505) (v := 2) kc_196_504 rfl rfl ?_
        refine xi_iadd (pc' := 506) (v := 2) kc_196_505 rfl rfl ?_
        refine xi_ialoadO (pc' := 507) (v := a2) kc_196_506 rfl (by decide) hov0 (xi_in (n := 6) (by decide) (by decide)) rfl ?_
        refine xi_virtual (mj := 26) (as := [.int 8, .int a2]) (st1 := [.int (-2)]) (lv0 := [(0, .ref 115), (1, .int 8), (2, .int a2)]) kc_196_507 rfl rfl rfl rfl rfl ((eh1.2.1 115 (by decide)).trans (F 115 _ hl_115)) (Nat.le_of_ble_eq_true rfl) (hJ _ _ _ _ (by decide)) (xm_le ml_26 rfl) rfl ?_
        refine xi_aload_n (pc' := 1) (x := 115) kc_26_0 rfl rfl ?_
        refine xi_iconst (pc' := 2) (v := 0) kc_26_1 rfl rfl ?_
        refine xi_putfield (pc' := 5) (fs' := [.int 0, .int 0, .ref 116, .ref 117, .ref 118, .ref 119, .ref 120, .ref 121, .ref 122, .ref 123, .ref 124, .ref 125, .ref 126, .ref 127, .ref 128, .ref 129, .int 4, .ref 130, .int 0, .ref 131, .ref 132, .ref 133, .ref 134, .int 0, .ref 135, .ref 136, .ref 137, .ref 138, .ref 139, .ref 140, .ref 141, .ref 142, .int 0, .int 0, .int 0, .ref 143, .ref 144, .ref 145, .ref 146, .ref 147, .ref 148, .int 0, .ref 149, .ref 150, .ref 151, .int 0, .ref 152, .ref 153, .ref 154, .ref 155, .ref 156, .ref 157, .ref 158, .ref 159, .int 0, .ref 160, .int 0, .ref 161, .ref 162, .ref 163, .ref 164, .int 0, .ref 165, .ref 166]) kc_26_2 rfl rfl rfl ((eh1.2.1 115 (by decide)).trans (F 115 _ hl_115)) rfl rfl rfl (Nat.le_of_ble_eq_true rfl) rfl (fun hh2 eh2 => ?_)
        refine xi_iload_n (pc' := 6) (x := 8) kc_26_5 rfl rfl ?_
        refine xi_static (mj := 25) (as := [.int 8]) (st1 := []) (lv0 := [(0, .int 8)]) kc_26_6 rfl rfl (Nat.le_of_ble_eq_true rfl) rfl rfl (Nat.le_of_ble_eq_true rfl) (hJ _ _ _ _ (by decide)) (xm_le ml_25 rfl) rfl ?_
        refine xi_iload_n (pc' := 1) (x := 8) kc_25_0 rfl rfl ?_
        refine xi_iconst (pc' := 2) (v := 0) kc_25_1 rfl rfl ?_
        refine xi_bipush (pc' := 4) (v := 11) kc_25_2 rfl rfl ?_
        refine xi_static (mj := 12) (as := [.int 8, .int 0, .int 11]) (st1 := []) (lv0 := [(0, .int 8), (1, .int 0), (2, .int 11)]) kc_25_4 rfl rfl (Nat.le_of_ble_eq_true rfl) rfl rfl (Nat.le_of_ble_eq_true rfl) (hJ _ _ _ _ (by decide)) (xm_le ml_12 rfl) rfl ?_
        refine xi_iload_n (pc' := 1) (x := 8) kc_12_0 rfl rfl ?_
        refine xi_iload_n (pc' := 2) (x := 0) kc_12_1 rfl rfl ?_
        refine xi_cmf (pc' := 5) kc_12_2 rfl rfl ?_
        refine xi_iload_n (pc' := 6) (x := 8) kc_12_5 rfl rfl ?_
        refine xi_iload_n (pc' := 7) (x := 11) kc_12_6 rfl rfl ?_
        refine xi_cmf (pc' := 10) kc_12_7 rfl rfl ?_
        refine xi_iconst (pc' := 11) (v := 1) kc_12_10 rfl rfl ?_
        refine xi_goto (pc' := 15) kc_12_11 rfl ?_
        refine xi_ireturn kc_12_15 mr_12 rfl ?_
        show xw J ov 98 25 (7, [(0, .int 8)], [.int 1], hh2) _
        refine xi_ireturn kc_25_7 mr_25 rfl ?_
        show xw J ov 99 26 (9, [(0, .ref 115), (1, .int 8), (2, .int a2)], [.int 1], hh2) _
        refine xi_ift (pc' := 18) kc_26_9 rfl rfl ?_
        refine xi_iload_n (pc' := 19) (x := a2) kc_26_18 rfl rfl ?_
        refine xi_iconst (pc' := 20) (v := 0) kc_26_19 rfl rfl ?_
        refine xi_iconst (pc' := 21) (v := 5) kc_26_20 rfl rfl ?_
        refine xi_static (mj := 12) (as := [.int a2, .int 0, .int 5]) (st1 := []) (lv0 := [(0, .int a2), (1, .int 0), (2, .int 5)]) kc_26_21 rfl rfl (Nat.le_of_ble_eq_true rfl) rfl rfl (Nat.le_of_ble_eq_true rfl) (hJ _ _ _ _ (by decide)) (xm_le ml_12 rfl) rfl ?_
        refine xi_iload_n (pc' := 1) (x := a2) kc_12_0 rfl rfl ?_
        refine xi_iload_n (pc' := 2) (x := 0) kc_12_1 rfl rfl ?_
        by_cases c74 : a2.toInt < 0
        · refine xi_cmt (pc' := 14) kc_12_2 rfl (xc_lt_t (X := a2.toInt) (Y := 0) rfl (by decide) (by omega)) ?_
          refine xi_iconst (pc' := 15) (v := 0) kc_12_14 rfl rfl ?_
          refine xi_ireturn kc_12_15 mr_12 rfl ?_
          show xw J ov 99 26 (24, [(0, .ref 115), (1, .int 8), (2, .int a2)], [.int 0], hh2) _
          refine xi_iff (pc' := 27) kc_26_24 rfl rfl ?_
          refine xi_aload_n (pc' := 28) (x := 115) kc_26_27 rfl rfl ?_
          refine xi_bipush (pc' := 30) (v := (-2)) kc_26_28 rfl rfl ?_
          refine xi_virtual (mj := 13) (as := [.int (-2)]) (st1 := []) (lv0 := [(0, .ref 115), (1, .int (-2))]) kc_26_30 rfl rfl rfl rfl rfl eh2.1 (Nat.le_of_ble_eq_true rfl) (hJ _ _ _ _ (by decide)) (xm_le ml_13 rfl) rfl ?_
          refine xi_aload_n (pc' := 1) (x := 115) kc_13_0 rfl rfl ?_
          refine xi_getfield (pc' := 4) (v := .ref 140) kc_13_1 rfl rfl rfl eh2.1 rfl ?_
          refine xi_iload_n (pc' := 5) (x := (-2)) kc_13_4 rfl rfl ?_
          refine xi_ineg (pc' := 6) (v := 2) kc_13_5 rfl rfl ?_
          refine xi_dup2 (pc' := 7) kc_13_6 rfl ⟨rfl, rfl⟩ ?_
          refine xi_iaload (pc' := 8) (v := 0) kc_13_7 rfl ((eh2.2.1 140 (by decide)).trans ((eh1.2.1 140 (by decide)).trans (F 140 _ hl_140))) (by decide) rfl (xi_in (n := 7) (by decide) (by decide)) rfl ?_
          refine xi_iconst (pc' := 9) (v := 1) kc_13_8 rfl rfl ?_
          refine xi_iadd (pc' := 10) (v := 1) kc_13_9 rfl rfl ?_
          refine xi_iastore (pc' := 11) (x' := [0, 0, 1, 0, 0, 0, 0]) kc_13_10 rfl ((eh2.2.1 140 (by decide)).trans ((eh1.2.1 140 (by decide)).trans (F 140 _ hl_140))) rfl (xi_in (n := 7) (by decide) (by decide)) rfl (fun hh3 eh3 => ?_)
          refine xi_iload_n (pc' := 12) (x := (-2)) kc_13_11 rfl rfl ?_
          refine xi_ireturn kc_13_12 mr_13 rfl ?_
          show xw J ov 99 26 (33, [(0, .ref 115), (1, .int 8), (2, .int a2)], [.int (-2)], hh3) _
          refine xi_ireturn kc_26_33 mr_26 rfl ?_
          show xw J ov 100 196 (510, [(4, .int 0), (3, .ref 167), (2, .ref 115), (1, .ref 0), (0, .ref 1000000)], [.int (-2), .int (-2)], hh3) _
          refine xi_cmt (pc' := 1528) kc_196_510 rfl rfl ?_
          refine xi_iinc (pc' := 1531) (x := 0) (v := 6) (lv' := [(4, .int 6), (3, .ref 167), (2, .ref 115), (1, .ref 0), (0, .ref 1000000)]) kc_196_1528 rfl rfl rfl rfl (xm_lt ml_196 rfl) ?_
          refine xi_goto (pc' := 23) kc_196_1531 rfl ?_
          refine xi_iload (pc' := 25) (x := 6) kc_196_23 rfl rfl ?_
          refine xi_aload_n (pc' := 26) (x := 1000000) kc_196_25 rfl rfl ?_
          refine xi_arraylength (pc' := 27) (n := 6) (v := 6) kc_196_26 rfl (xl_lenO (by decide) hov0 rfl) rfl ?_
          refine xi_bipush (pc' := 29) (v := 6) kc_196_27 rfl rfl ?_
          refine xi_isub (pc' := 30) (v := 0) kc_196_29 rfl rfl ?_
          refine xi_cmt (pc' := 1534) kc_196_30 rfl rfl ?_
          refine xi_iconst (pc' := 1535) (v := 1) kc_196_1534 rfl rfl ?_
          refine xi_ireturn kc_196_1535 mr_196 rfl ?_
          refine ⟨rfl, ?_, ?_⟩
          · rw [eh3.2.2.1, eh2.2.2.1, eh1.2.2.1]; exact hn0
          · rw [eh3.2.2.2, eh2.2.2.2, eh1.2.2.2]; exact hz0
        · refine xi_cmf (pc' := 5) kc_12_2 rfl (xc_lt_f (X := a2.toInt) (Y := 0) rfl (by decide) (by omega)) ?_
          refine xi_iload_n (pc' := 6) (x := a2) kc_12_5 rfl rfl ?_
          refine xi_iload_n (pc' := 7) (x := 5) kc_12_6 rfl rfl ?_
          refine xi_cmt (pc' := 14) kc_12_7 rfl (xc_gt_t (X := a2.toInt) (Y := 5) rfl (by decide) (by omega)) ?_
          refine xi_iconst (pc' := 15) (v := 0) kc_12_14 rfl rfl ?_
          refine xi_ireturn kc_12_15 mr_12 rfl ?_
          show xw J ov 99 26 (24, [(0, .ref 115), (1, .int 8), (2, .int a2)], [.int 0], hh2) _
          refine xi_iff (pc' := 27) kc_26_24 rfl rfl ?_
          refine xi_aload_n (pc' := 28) (x := 115) kc_26_27 rfl rfl ?_
          refine xi_bipush (pc' := 30) (v := (-2)) kc_26_28 rfl rfl ?_
          refine xi_virtual (mj := 13) (as := [.int (-2)]) (st1 := []) (lv0 := [(0, .ref 115), (1, .int (-2))]) kc_26_30 rfl rfl rfl rfl rfl eh2.1 (Nat.le_of_ble_eq_true rfl) (hJ _ _ _ _ (by decide)) (xm_le ml_13 rfl) rfl ?_
          refine xi_aload_n (pc' := 1) (x := 115) kc_13_0 rfl rfl ?_
          refine xi_getfield (pc' := 4) (v := .ref 140) kc_13_1 rfl rfl rfl eh2.1 rfl ?_
          refine xi_iload_n (pc' := 5) (x := (-2)) kc_13_4 rfl rfl ?_
          refine xi_ineg (pc' := 6) (v := 2) kc_13_5 rfl rfl ?_
          refine xi_dup2 (pc' := 7) kc_13_6 rfl ⟨rfl, rfl⟩ ?_
          refine xi_iaload (pc' := 8) (v := 0) kc_13_7 rfl ((eh2.2.1 140 (by decide)).trans ((eh1.2.1 140 (by decide)).trans (F 140 _ hl_140))) (by decide) rfl (xi_in (n := 7) (by decide) (by decide)) rfl ?_
          refine xi_iconst (pc' := 9) (v := 1) kc_13_8 rfl rfl ?_
          refine xi_iadd (pc' := 10) (v := 1) kc_13_9 rfl rfl ?_
          refine xi_iastore (pc' := 11) (x' := [0, 0, 1, 0, 0, 0, 0]) kc_13_10 rfl ((eh2.2.1 140 (by decide)).trans ((eh1.2.1 140 (by decide)).trans (F 140 _ hl_140))) rfl (xi_in (n := 7) (by decide) (by decide)) rfl (fun hh3 eh3 => ?_)
          refine xi_iload_n (pc' := 12) (x := (-2)) kc_13_11 rfl rfl ?_
          refine xi_ireturn kc_13_12 mr_13 rfl ?_
          show xw J ov 99 26 (33, [(0, .ref 115), (1, .int 8), (2, .int a2)], [.int (-2)], hh3) _
          refine xi_ireturn kc_26_33 mr_26 rfl ?_
          show xw J ov 100 196 (510, [(4, .int 0), (3, .ref 167), (2, .ref 115), (1, .ref 0), (0, .ref 1000000)], [.int (-2), .int (-2)], hh3) _
          refine xi_cmt (pc' := 1528) kc_196_510 rfl rfl ?_
          refine xi_iinc (pc' := 1531) (x := 0) (v := 6) (lv' := [(4, .int 6), (3, .ref 167), (2, .ref 115), (1, .ref 0), (0, .ref 1000000)]) kc_196_1528 rfl rfl rfl rfl (xm_lt ml_196 rfl) ?_
          refine xi_goto (pc' := 23) kc_196_1531 rfl ?_
          refine xi_iload (pc' := 25) (x := 6) kc_196_23 rfl rfl ?_
          refine xi_aload_n (pc' := 26) (x := 1000000) kc_196_25 rfl rfl ?_
          refine xi_arraylength (pc' := 27) (n := 6) (v := 6) kc_196_26 rfl (xl_lenO (by decide) hov0 rfl) rfl ?_
          refine xi_bipush (pc' := 29) (v := 6) kc_196_27 rfl rfl ?_
          refine xi_isub (pc' := 30) (v := 0) kc_196_29 rfl rfl ?_
          refine xi_cmt (pc' := 1534) kc_196_30 rfl rfl ?_
          refine xi_iconst (pc' := 1535) (v := 1) kc_196_1534 rfl rfl ?_
          refine xi_ireturn kc_196_1535 mr_196 rfl ?_
          refine ⟨rfl, ?_, ?_⟩
          · rw [eh3.2.2.1, eh2.2.2.1, eh1.2.2.1]; exact hn0
          · rw [eh3.2.2.2, eh2.2.2.2, eh1.2.2.2]; exact hz0
      by_cases c75 : a1.toInt = 9
      · have qa1 : a1 = 9 := xc_of (Eq.trans (by omega) (show (9 : Int) = (9 : Int32).toInt by decide))
        subst qa1
        refine xi_aaload (pc' := 22) (b := 47) kc_107_21 rfl (F 3 _ hl_3) rfl (xi_in (n := 12) (by decide) (by decide)) rfl ?_
        refine xi_astore_n (pc' := 23) (lv' := [(3, .ref 47), (0, .ref 0), (1, .int 9), (2, .int a2)]) kc_107_22 rfl rfl (xm_lt ml_107 rfl) ?_
        refine xi_iload_n (pc' := 24) (x := a2) kc_107_23 rfl rfl ?_
        by_cases c76 : a2.toInt = 0
        · refine xi_tsi (pc' := 64) (z := 0) kc_107_24 (by omega) rfl (by decide) ?_
          refine xi_aload_n (pc' := 65) (x := 47) kc_107_64 rfl rfl ?_
          refine xi_getfield (pc' := 68) (v := .int (-9)) kc_107_65 rfl rfl rfl (F 47 _ hl_47) rfl ?_
          refine xi_ireturn kc_107_68 mr_107 rfl ?_
          show xw J ov 100 196 (494, [(4, .int 0), (3, .ref 167), (2, .ref 115), (1, .ref 0), (0, .ref 1000000)], [.int (-9)], h0) _
          refine xi_aload_n (pc' := 495) (x := 115) kc_196_494 rfl rfl ?_
          refine xi_aload_n (pc' := 496) (x := 1000000) kc_196_495 rfl rfl ?_
          refine xi_iload (pc' := 498) (x := 0) kc_196_496 rfl rfl ?_
          refine xi_iconst (pc' := 499) (v := 1) kc_196_498 rfl rfl ?_
          refine xi_iadd (pc' := 500) (v := 1) kc_196_499 rfl rfl ?_
          refine xi_ialoadO (pc' := 501) (v := 9) kc_196_500 rfl (by decide) hov0 (xi_in (n := 6) (by decide) (by decide)) rfl ?_
          refine xi_aload_n (pc' := 502) (x := 1000000) kc_196_501 rfl rfl ?_
          refine xi_iload (pc' := 504) (x := 0) kc_196_502 rfl rfl ?_
          refine xi_iconst (pc' := 505) (v := 2) kc_196_504 rfl rfl ?_
          refine xi_iadd (pc' := 506) (v := 2) kc_196_505 rfl rfl ?_
          refine xi_ialoadO (pc' := 507) (v := a2) kc_196_506 rfl (by decide) hov0 (xi_in (n := 6) (by decide) (by decide)) rfl ?_
          refine xi_virtual (mj := 26) (as := [.int 9, .int a2]) (st1 := [.int (-9)]) (lv0 := [(0, .ref 115), (1, .int 9), (2, .int a2)]) kc_196_507 rfl rfl rfl rfl rfl (F 115 _ hl_115) (Nat.le_of_ble_eq_true rfl) (hJ _ _ _ _ (by decide)) (xm_le ml_26 rfl) rfl ?_
          refine xi_aload_n (pc' := 1) (x := 115) kc_26_0 rfl rfl ?_
          refine xi_iconst (pc' := 2) (v := 0) kc_26_1 rfl rfl ?_
          refine xi_putfield (pc' := 5) (fs' := [.int 0, .int 0, .ref 116, .ref 117, .ref 118, .ref 119, .ref 120, .ref 121, .ref 122, .ref 123, .ref 124, .ref 125, .ref 126, .ref 127, .ref 128, .ref 129, .int 4, .ref 130, .int 0, .ref 131, .ref 132, .ref 133, .ref 134, .int 0, .ref 135, .ref 136, .ref 137, .ref 138, .ref 139, .ref 140, .ref 141, .ref 142, .int 0, .int 0, .int 0, .ref 143, .ref 144, .ref 145, .ref 146, .ref 147, .ref 148, .int 0, .ref 149, .ref 150, .ref 151, .int 0, .ref 152, .ref 153, .ref 154, .ref 155, .ref 156, .ref 157, .ref 158, .ref 159, .int 0, .ref 160, .int 0, .ref 161, .ref 162, .ref 163, .ref 164, .int 0, .ref 165, .ref 166]) kc_26_2 rfl rfl rfl (F 115 _ hl_115) rfl rfl rfl (Nat.le_of_ble_eq_true rfl) rfl (fun hh1 eh1 => ?_)
          refine xi_iload_n (pc' := 6) (x := 9) kc_26_5 rfl rfl ?_
          refine xi_static (mj := 25) (as := [.int 9]) (st1 := []) (lv0 := [(0, .int 9)]) kc_26_6 rfl rfl (Nat.le_of_ble_eq_true rfl) rfl rfl (Nat.le_of_ble_eq_true rfl) (hJ _ _ _ _ (by decide)) (xm_le ml_25 rfl) rfl ?_
          refine xi_iload_n (pc' := 1) (x := 9) kc_25_0 rfl rfl ?_
          refine xi_iconst (pc' := 2) (v := 0) kc_25_1 rfl rfl ?_
          refine xi_bipush (pc' := 4) (v := 11) kc_25_2 rfl rfl ?_
          refine xi_static (mj := 12) (as := [.int 9, .int 0, .int 11]) (st1 := []) (lv0 := [(0, .int 9), (1, .int 0), (2, .int 11)]) kc_25_4 rfl rfl (Nat.le_of_ble_eq_true rfl) rfl rfl (Nat.le_of_ble_eq_true rfl) (hJ _ _ _ _ (by decide)) (xm_le ml_12 rfl) rfl ?_
          refine xi_iload_n (pc' := 1) (x := 9) kc_12_0 rfl rfl ?_
          refine xi_iload_n (pc' := 2) (x := 0) kc_12_1 rfl rfl ?_
          refine xi_cmf (pc' := 5) kc_12_2 rfl rfl ?_
          refine xi_iload_n (pc' := 6) (x := 9) kc_12_5 rfl rfl ?_
          refine xi_iload_n (pc' := 7) (x := 11) kc_12_6 rfl rfl ?_
          refine xi_cmf (pc' := 10) kc_12_7 rfl rfl ?_
          refine xi_iconst (pc' := 11) (v := 1) kc_12_10 rfl rfl ?_
          refine xi_goto (pc' := 15) kc_12_11 rfl ?_
          refine xi_ireturn kc_12_15 mr_12 rfl ?_
          show xw J ov 98 25 (7, [(0, .int 9)], [.int 1], hh1) _
          refine xi_ireturn kc_25_7 mr_25 rfl ?_
          show xw J ov 99 26 (9, [(0, .ref 115), (1, .int 9), (2, .int a2)], [.int 1], hh1) _
          refine xi_ift (pc' := 18) kc_26_9 rfl rfl ?_
          refine xi_iload_n (pc' := 19) (x := a2) kc_26_18 rfl rfl ?_
          refine xi_iconst (pc' := 20) (v := 0) kc_26_19 rfl rfl ?_
          refine xi_iconst (pc' := 21) (v := 5) kc_26_20 rfl rfl ?_
          refine xi_static (mj := 12) (as := [.int a2, .int 0, .int 5]) (st1 := []) (lv0 := [(0, .int a2), (1, .int 0), (2, .int 5)]) kc_26_21 rfl rfl (Nat.le_of_ble_eq_true rfl) rfl rfl (Nat.le_of_ble_eq_true rfl) (hJ _ _ _ _ (by decide)) (xm_le ml_12 rfl) rfl ?_
          refine xi_iload_n (pc' := 1) (x := a2) kc_12_0 rfl rfl ?_
          refine xi_iload_n (pc' := 2) (x := 0) kc_12_1 rfl rfl ?_
          refine xi_cmf (pc' := 5) kc_12_2 rfl (xc_lt_f (X := a2.toInt) (Y := 0) rfl (by decide) (by omega)) ?_
          refine xi_iload_n (pc' := 6) (x := a2) kc_12_5 rfl rfl ?_
          refine xi_iload_n (pc' := 7) (x := 5) kc_12_6 rfl rfl ?_
          refine xi_cmf (pc' := 10) kc_12_7 rfl (xc_gt_f (X := a2.toInt) (Y := 5) rfl (by decide) (by omega)) ?_
          refine xi_iconst (pc' := 11) (v := 1) kc_12_10 rfl rfl ?_
          refine xi_goto (pc' := 15) kc_12_11 rfl ?_
          refine xi_ireturn kc_12_15 mr_12 rfl ?_
          show xw J ov 99 26 (24, [(0, .ref 115), (1, .int 9), (2, .int a2)], [.int 1], hh1) _
          refine xi_ift (pc' := 34) kc_26_24 rfl rfl ?_
          refine xi_iload_n (pc' := 35) (x := a2) kc_26_34 rfl rfl ?_
          refine xi_tsi (pc' := 68) (z := 0) kc_26_35 (by omega) rfl (by decide) ?_
          refine xi_aload_n (pc' := 69) (x := 115) kc_26_68 rfl rfl ?_
          refine xi_getfield (pc' := 72) (v := .ref 125) kc_26_69 rfl rfl rfl eh1.1 rfl ?_
          refine xi_iload_n (pc' := 73) (x := 9) kc_26_72 rfl rfl ?_
          refine xi_iaload (pc' := 74) (v := (-9)) kc_26_73 rfl ((eh1.2.1 125 (by decide)).trans (F 125 _ hl_125)) (by decide) rfl (xi_in (n := 12) (by decide) (by decide)) rfl ?_
          refine xi_ireturn kc_26_74 mr_26 rfl ?_
          show xw J ov 100 196 (510, [(4, .int 0), (3, .ref 167), (2, .ref 115), (1, .ref 0), (0, .ref 1000000)], [.int (-9), .int (-9)], hh1) _
          refine xi_cmt (pc' := 1528) kc_196_510 rfl rfl ?_
          refine xi_iinc (pc' := 1531) (x := 0) (v := 6) (lv' := [(4, .int 6), (3, .ref 167), (2, .ref 115), (1, .ref 0), (0, .ref 1000000)]) kc_196_1528 rfl rfl rfl rfl (xm_lt ml_196 rfl) ?_
          refine xi_goto (pc' := 23) kc_196_1531 rfl ?_
          refine xi_iload (pc' := 25) (x := 6) kc_196_23 rfl rfl ?_
          refine xi_aload_n (pc' := 26) (x := 1000000) kc_196_25 rfl rfl ?_
          refine xi_arraylength (pc' := 27) (n := 6) (v := 6) kc_196_26 rfl (xl_lenO (by decide) hov0 rfl) rfl ?_
          refine xi_bipush (pc' := 29) (v := 6) kc_196_27 rfl rfl ?_
          refine xi_isub (pc' := 30) (v := 0) kc_196_29 rfl rfl ?_
          refine xi_cmt (pc' := 1534) kc_196_30 rfl rfl ?_
          refine xi_iconst (pc' := 1535) (v := 1) kc_196_1534 rfl rfl ?_
          refine xi_ireturn kc_196_1535 mr_196 rfl ?_
          refine ⟨rfl, ?_, ?_⟩
          · rw [eh1.2.2.1]; exact hn0
          · rw [eh1.2.2.2]; exact hz0
        by_cases c77 : a2.toInt = 1
        · refine xi_tsi (pc' := 69) (z := 1) kc_107_24 (by omega) rfl (by decide) ?_
          refine xi_aload_n (pc' := 70) (x := 47) kc_107_69 rfl rfl ?_
          refine xi_getfield (pc' := 73) (v := .int 0) kc_107_70 rfl rfl rfl (F 47 _ hl_47) rfl ?_
          refine xi_ireturn kc_107_73 mr_107 rfl ?_
          show xw J ov 100 196 (494, [(4, .int 0), (3, .ref 167), (2, .ref 115), (1, .ref 0), (0, .ref 1000000)], [.int 0], h0) _
          refine xi_aload_n (pc' := 495) (x := 115) kc_196_494 rfl rfl ?_
          refine xi_aload_n (pc' := 496) (x := 1000000) kc_196_495 rfl rfl ?_
          refine xi_iload (pc' := 498) (x := 0) kc_196_496 rfl rfl ?_
          refine xi_iconst (pc' := 499) (v := 1) kc_196_498 rfl rfl ?_
          refine xi_iadd (pc' := 500) (v := 1) kc_196_499 rfl rfl ?_
          refine xi_ialoadO (pc' := 501) (v := 9) kc_196_500 rfl (by decide) hov0 (xi_in (n := 6) (by decide) (by decide)) rfl ?_
          refine xi_aload_n (pc' := 502) (x := 1000000) kc_196_501 rfl rfl ?_
          refine xi_iload (pc' := 504) (x := 0) kc_196_502 rfl rfl ?_
          refine xi_iconst (pc' := 505) (v := 2) kc_196_504 rfl rfl ?_
          refine xi_iadd (pc' := 506) (v := 2) kc_196_505 rfl rfl ?_
          refine xi_ialoadO (pc' := 507) (v := a2) kc_196_506 rfl (by decide) hov0 (xi_in (n := 6) (by decide) (by decide)) rfl ?_
          refine xi_virtual (mj := 26) (as := [.int 9, .int a2]) (st1 := [.int 0]) (lv0 := [(0, .ref 115), (1, .int 9), (2, .int a2)]) kc_196_507 rfl rfl rfl rfl rfl (F 115 _ hl_115) (Nat.le_of_ble_eq_true rfl) (hJ _ _ _ _ (by decide)) (xm_le ml_26 rfl) rfl ?_
          refine xi_aload_n (pc' := 1) (x := 115) kc_26_0 rfl rfl ?_
          refine xi_iconst (pc' := 2) (v := 0) kc_26_1 rfl rfl ?_
          refine xi_putfield (pc' := 5) (fs' := [.int 0, .int 0, .ref 116, .ref 117, .ref 118, .ref 119, .ref 120, .ref 121, .ref 122, .ref 123, .ref 124, .ref 125, .ref 126, .ref 127, .ref 128, .ref 129, .int 4, .ref 130, .int 0, .ref 131, .ref 132, .ref 133, .ref 134, .int 0, .ref 135, .ref 136, .ref 137, .ref 138, .ref 139, .ref 140, .ref 141, .ref 142, .int 0, .int 0, .int 0, .ref 143, .ref 144, .ref 145, .ref 146, .ref 147, .ref 148, .int 0, .ref 149, .ref 150, .ref 151, .int 0, .ref 152, .ref 153, .ref 154, .ref 155, .ref 156, .ref 157, .ref 158, .ref 159, .int 0, .ref 160, .int 0, .ref 161, .ref 162, .ref 163, .ref 164, .int 0, .ref 165, .ref 166]) kc_26_2 rfl rfl rfl (F 115 _ hl_115) rfl rfl rfl (Nat.le_of_ble_eq_true rfl) rfl (fun hh1 eh1 => ?_)
          refine xi_iload_n (pc' := 6) (x := 9) kc_26_5 rfl rfl ?_
          refine xi_static (mj := 25) (as := [.int 9]) (st1 := []) (lv0 := [(0, .int 9)]) kc_26_6 rfl rfl (Nat.le_of_ble_eq_true rfl) rfl rfl (Nat.le_of_ble_eq_true rfl) (hJ _ _ _ _ (by decide)) (xm_le ml_25 rfl) rfl ?_
          refine xi_iload_n (pc' := 1) (x := 9) kc_25_0 rfl rfl ?_
          refine xi_iconst (pc' := 2) (v := 0) kc_25_1 rfl rfl ?_
          refine xi_bipush (pc' := 4) (v := 11) kc_25_2 rfl rfl ?_
          refine xi_static (mj := 12) (as := [.int 9, .int 0, .int 11]) (st1 := []) (lv0 := [(0, .int 9), (1, .int 0), (2, .int 11)]) kc_25_4 rfl rfl (Nat.le_of_ble_eq_true rfl) rfl rfl (Nat.le_of_ble_eq_true rfl) (hJ _ _ _ _ (by decide)) (xm_le ml_12 rfl) rfl ?_
          refine xi_iload_n (pc' := 1) (x := 9) kc_12_0 rfl rfl ?_
          refine xi_iload_n (pc' := 2) (x := 0) kc_12_1 rfl rfl ?_
          refine xi_cmf (pc' := 5) kc_12_2 rfl rfl ?_
          refine xi_iload_n (pc' := 6) (x := 9) kc_12_5 rfl rfl ?_
          refine xi_iload_n (pc' := 7) (x := 11) kc_12_6 rfl rfl ?_
          refine xi_cmf (pc' := 10) kc_12_7 rfl rfl ?_
          refine xi_iconst (pc' := 11) (v := 1) kc_12_10 rfl rfl ?_
          refine xi_goto (pc' := 15) kc_12_11 rfl ?_
          refine xi_ireturn kc_12_15 mr_12 rfl ?_
          show xw J ov 98 25 (7, [(0, .int 9)], [.int 1], hh1) _
          refine xi_ireturn kc_25_7 mr_25 rfl ?_
          show xw J ov 99 26 (9, [(0, .ref 115), (1, .int 9), (2, .int a2)], [.int 1], hh1) _
          refine xi_ift (pc' := 18) kc_26_9 rfl rfl ?_
          refine xi_iload_n (pc' := 19) (x := a2) kc_26_18 rfl rfl ?_
          refine xi_iconst (pc' := 20) (v := 0) kc_26_19 rfl rfl ?_
          refine xi_iconst (pc' := 21) (v := 5) kc_26_20 rfl rfl ?_
          refine xi_static (mj := 12) (as := [.int a2, .int 0, .int 5]) (st1 := []) (lv0 := [(0, .int a2), (1, .int 0), (2, .int 5)]) kc_26_21 rfl rfl (Nat.le_of_ble_eq_true rfl) rfl rfl (Nat.le_of_ble_eq_true rfl) (hJ _ _ _ _ (by decide)) (xm_le ml_12 rfl) rfl ?_
          refine xi_iload_n (pc' := 1) (x := a2) kc_12_0 rfl rfl ?_
          refine xi_iload_n (pc' := 2) (x := 0) kc_12_1 rfl rfl ?_
          refine xi_cmf (pc' := 5) kc_12_2 rfl (xc_lt_f (X := a2.toInt) (Y := 0) rfl (by decide) (by omega)) ?_
          refine xi_iload_n (pc' := 6) (x := a2) kc_12_5 rfl rfl ?_
          refine xi_iload_n (pc' := 7) (x := 5) kc_12_6 rfl rfl ?_
          refine xi_cmf (pc' := 10) kc_12_7 rfl (xc_gt_f (X := a2.toInt) (Y := 5) rfl (by decide) (by omega)) ?_
          refine xi_iconst (pc' := 11) (v := 1) kc_12_10 rfl rfl ?_
          refine xi_goto (pc' := 15) kc_12_11 rfl ?_
          refine xi_ireturn kc_12_15 mr_12 rfl ?_
          show xw J ov 99 26 (24, [(0, .ref 115), (1, .int 9), (2, .int a2)], [.int 1], hh1) _
          refine xi_ift (pc' := 34) kc_26_24 rfl rfl ?_
          refine xi_iload_n (pc' := 35) (x := a2) kc_26_34 rfl rfl ?_
          refine xi_tsi (pc' := 75) (z := 1) kc_26_35 (by omega) rfl (by decide) ?_
          refine xi_aload_n (pc' := 76) (x := 115) kc_26_75 rfl rfl ?_
          refine xi_getfield (pc' := 79) (v := .ref 126) kc_26_76 rfl rfl rfl eh1.1 rfl ?_
          refine xi_iload_n (pc' := 80) (x := 9) kc_26_79 rfl rfl ?_
          refine xi_iaload (pc' := 81) (v := 0) kc_26_80 rfl ((eh1.2.1 126 (by decide)).trans (F 126 _ hl_126)) (by decide) rfl (xi_in (n := 12) (by decide) (by decide)) rfl ?_
          refine xi_ireturn kc_26_81 mr_26 rfl ?_
          show xw J ov 100 196 (510, [(4, .int 0), (3, .ref 167), (2, .ref 115), (1, .ref 0), (0, .ref 1000000)], [.int 0, .int 0], hh1) _
          refine xi_cmt (pc' := 1528) kc_196_510 rfl rfl ?_
          refine xi_iinc (pc' := 1531) (x := 0) (v := 6) (lv' := [(4, .int 6), (3, .ref 167), (2, .ref 115), (1, .ref 0), (0, .ref 1000000)]) kc_196_1528 rfl rfl rfl rfl (xm_lt ml_196 rfl) ?_
          refine xi_goto (pc' := 23) kc_196_1531 rfl ?_
          refine xi_iload (pc' := 25) (x := 6) kc_196_23 rfl rfl ?_
          refine xi_aload_n (pc' := 26) (x := 1000000) kc_196_25 rfl rfl ?_
          refine xi_arraylength (pc' := 27) (n := 6) (v := 6) kc_196_26 rfl (xl_lenO (by decide) hov0 rfl) rfl ?_
          refine xi_bipush (pc' := 29) (v := 6) kc_196_27 rfl rfl ?_
          refine xi_isub (pc' := 30) (v := 0) kc_196_29 rfl rfl ?_
          refine xi_cmt (pc' := 1534) kc_196_30 rfl rfl ?_
          refine xi_iconst (pc' := 1535) (v := 1) kc_196_1534 rfl rfl ?_
          refine xi_ireturn kc_196_1535 mr_196 rfl ?_
          refine ⟨rfl, ?_, ?_⟩
          · rw [eh1.2.2.1]; exact hn0
          · rw [eh1.2.2.2]; exact hz0
        by_cases c78 : a2.toInt = 2
        · refine xi_tsi (pc' := 74) (z := 2) kc_107_24 (by omega) rfl (by decide) ?_
          refine xi_aload_n (pc' := 75) (x := 47) kc_107_74 rfl rfl ?_
          refine xi_getfield (pc' := 78) (v := .int 0) kc_107_75 rfl rfl rfl (F 47 _ hl_47) rfl ?_
          refine xi_ift (pc' := 85) kc_107_78 rfl rfl ?_
          refine xi_iconst (pc' := 86) (v := 0) kc_107_85 rfl rfl ?_
          refine xi_ireturn kc_107_86 mr_107 rfl ?_
          show xw J ov 100 196 (494, [(4, .int 0), (3, .ref 167), (2, .ref 115), (1, .ref 0), (0, .ref 1000000)], [.int 0], h0) _
          refine xi_aload_n (pc' := 495) (x := 115) kc_196_494 rfl rfl ?_
          refine xi_aload_n (pc' := 496) (x := 1000000) kc_196_495 rfl rfl ?_
          refine xi_iload (pc' := 498) (x := 0) kc_196_496 rfl rfl ?_
          refine xi_iconst (pc' := 499) (v := 1) kc_196_498 rfl rfl ?_
          refine xi_iadd (pc' := 500) (v := 1) kc_196_499 rfl rfl ?_
          refine xi_ialoadO (pc' := 501) (v := 9) kc_196_500 rfl (by decide) hov0 (xi_in (n := 6) (by decide) (by decide)) rfl ?_
          refine xi_aload_n (pc' := 502) (x := 1000000) kc_196_501 rfl rfl ?_
          refine xi_iload (pc' := 504) (x := 0) kc_196_502 rfl rfl ?_
          refine xi_iconst (pc' := 505) (v := 2) kc_196_504 rfl rfl ?_
          refine xi_iadd (pc' := 506) (v := 2) kc_196_505 rfl rfl ?_
          refine xi_ialoadO (pc' := 507) (v := a2) kc_196_506 rfl (by decide) hov0 (xi_in (n := 6) (by decide) (by decide)) rfl ?_
          refine xi_virtual (mj := 26) (as := [.int 9, .int a2]) (st1 := [.int 0]) (lv0 := [(0, .ref 115), (1, .int 9), (2, .int a2)]) kc_196_507 rfl rfl rfl rfl rfl (F 115 _ hl_115) (Nat.le_of_ble_eq_true rfl) (hJ _ _ _ _ (by decide)) (xm_le ml_26 rfl) rfl ?_
          refine xi_aload_n (pc' := 1) (x := 115) kc_26_0 rfl rfl ?_
          refine xi_iconst (pc' := 2) (v := 0) kc_26_1 rfl rfl ?_
          refine xi_putfield (pc' := 5) (fs' := [.int 0, .int 0, .ref 116, .ref 117, .ref 118, .ref 119, .ref 120, .ref 121, .ref 122, .ref 123, .ref 124, .ref 125, .ref 126, .ref 127, .ref 128, .ref 129, .int 4, .ref 130, .int 0, .ref 131, .ref 132, .ref 133, .ref 134, .int 0, .ref 135, .ref 136, .ref 137, .ref 138, .ref 139, .ref 140, .ref 141, .ref 142, .int 0, .int 0, .int 0, .ref 143, .ref 144, .ref 145, .ref 146, .ref 147, .ref 148, .int 0, .ref 149, .ref 150, .ref 151, .int 0, .ref 152, .ref 153, .ref 154, .ref 155, .ref 156, .ref 157, .ref 158, .ref 159, .int 0, .ref 160, .int 0, .ref 161, .ref 162, .ref 163, .ref 164, .int 0, .ref 165, .ref 166]) kc_26_2 rfl rfl rfl (F 115 _ hl_115) rfl rfl rfl (Nat.le_of_ble_eq_true rfl) rfl (fun hh1 eh1 => ?_)
          refine xi_iload_n (pc' := 6) (x := 9) kc_26_5 rfl rfl ?_
          refine xi_static (mj := 25) (as := [.int 9]) (st1 := []) (lv0 := [(0, .int 9)]) kc_26_6 rfl rfl (Nat.le_of_ble_eq_true rfl) rfl rfl (Nat.le_of_ble_eq_true rfl) (hJ _ _ _ _ (by decide)) (xm_le ml_25 rfl) rfl ?_
          refine xi_iload_n (pc' := 1) (x := 9) kc_25_0 rfl rfl ?_
          refine xi_iconst (pc' := 2) (v := 0) kc_25_1 rfl rfl ?_
          refine xi_bipush (pc' := 4) (v := 11) kc_25_2 rfl rfl ?_
          refine xi_static (mj := 12) (as := [.int 9, .int 0, .int 11]) (st1 := []) (lv0 := [(0, .int 9), (1, .int 0), (2, .int 11)]) kc_25_4 rfl rfl (Nat.le_of_ble_eq_true rfl) rfl rfl (Nat.le_of_ble_eq_true rfl) (hJ _ _ _ _ (by decide)) (xm_le ml_12 rfl) rfl ?_
          refine xi_iload_n (pc' := 1) (x := 9) kc_12_0 rfl rfl ?_
          refine xi_iload_n (pc' := 2) (x := 0) kc_12_1 rfl rfl ?_
          refine xi_cmf (pc' := 5) kc_12_2 rfl rfl ?_
          refine xi_iload_n (pc' := 6) (x := 9) kc_12_5 rfl rfl ?_
          refine xi_iload_n (pc' := 7) (x := 11) kc_12_6 rfl rfl ?_
          refine xi_cmf (pc' := 10) kc_12_7 rfl rfl ?_
          refine xi_iconst (pc' := 11) (v := 1) kc_12_10 rfl rfl ?_
          refine xi_goto (pc' := 15) kc_12_11 rfl ?_
          refine xi_ireturn kc_12_15 mr_12 rfl ?_
          show xw J ov 98 25 (7, [(0, .int 9)], [.int 1], hh1) _
          refine xi_ireturn kc_25_7 mr_25 rfl ?_
          show xw J ov 99 26 (9, [(0, .ref 115), (1, .int 9), (2, .int a2)], [.int 1], hh1) _
          refine xi_ift (pc' := 18) kc_26_9 rfl rfl ?_
          refine xi_iload_n (pc' := 19) (x := a2) kc_26_18 rfl rfl ?_
          refine xi_iconst (pc' := 20) (v := 0) kc_26_19 rfl rfl ?_
          refine xi_iconst (pc' := 21) (v := 5) kc_26_20 rfl rfl ?_
          refine xi_static (mj := 12) (as := [.int a2, .int 0, .int 5]) (st1 := []) (lv0 := [(0, .int a2), (1, .int 0), (2, .int 5)]) kc_26_21 rfl rfl (Nat.le_of_ble_eq_true rfl) rfl rfl (Nat.le_of_ble_eq_true rfl) (hJ _ _ _ _ (by decide)) (xm_le ml_12 rfl) rfl ?_
          refine xi_iload_n (pc' := 1) (x := a2) kc_12_0 rfl rfl ?_
          refine xi_iload_n (pc' := 2) (x := 0) kc_12_1 rfl rfl ?_
          refine xi_cmf (pc' := 5) kc_12_2 rfl (xc_lt_f (X := a2.toInt) (Y := 0) rfl (by decide) (by omega)) ?_
          refine xi_iload_n (pc' := 6) (x := a2) kc_12_5 rfl rfl ?_
          refine xi_iload_n (pc' := 7) (x := 5) kc_12_6 rfl rfl ?_
          refine xi_cmf (pc' := 10) kc_12_7 rfl (xc_gt_f (X := a2.toInt) (Y := 5) rfl (by decide) (by omega)) ?_
          refine xi_iconst (pc' := 11) (v := 1) kc_12_10 rfl rfl ?_
          refine xi_goto (pc' := 15) kc_12_11 rfl ?_
          refine xi_ireturn kc_12_15 mr_12 rfl ?_
          show xw J ov 99 26 (24, [(0, .ref 115), (1, .int 9), (2, .int a2)], [.int 1], hh1) _
          refine xi_ift (pc' := 34) kc_26_24 rfl rfl ?_
          refine xi_iload_n (pc' := 35) (x := a2) kc_26_34 rfl rfl ?_
          refine xi_tsi (pc' := 82) (z := 2) kc_26_35 (by omega) rfl (by decide) ?_
          refine xi_aload_n (pc' := 83) (x := 115) kc_26_82 rfl rfl ?_
          refine xi_getfield (pc' := 86) (v := .ref 127) kc_26_83 rfl rfl rfl eh1.1 rfl ?_
          refine xi_iload_n (pc' := 87) (x := 9) kc_26_86 rfl rfl ?_
          refine xi_baload (pc' := 88) (v := 0) kc_26_87 rfl ((eh1.2.1 127 (by decide)).trans (F 127 _ hl_127)) rfl (xi_in (n := 12) (by decide) (by decide)) rfl ?_
          refine xi_ift (pc' := 95) kc_26_88 rfl rfl ?_
          refine xi_iconst (pc' := 96) (v := 0) kc_26_95 rfl rfl ?_
          refine xi_ireturn kc_26_96 mr_26 rfl ?_
          show xw J ov 100 196 (510, [(4, .int 0), (3, .ref 167), (2, .ref 115), (1, .ref 0), (0, .ref 1000000)], [.int 0, .int 0], hh1) _
          refine xi_cmt (pc' := 1528) kc_196_510 rfl rfl ?_
          refine xi_iinc (pc' := 1531) (x := 0) (v := 6) (lv' := [(4, .int 6), (3, .ref 167), (2, .ref 115), (1, .ref 0), (0, .ref 1000000)]) kc_196_1528 rfl rfl rfl rfl (xm_lt ml_196 rfl) ?_
          refine xi_goto (pc' := 23) kc_196_1531 rfl ?_
          refine xi_iload (pc' := 25) (x := 6) kc_196_23 rfl rfl ?_
          refine xi_aload_n (pc' := 26) (x := 1000000) kc_196_25 rfl rfl ?_
          refine xi_arraylength (pc' := 27) (n := 6) (v := 6) kc_196_26 rfl (xl_lenO (by decide) hov0 rfl) rfl ?_
          refine xi_bipush (pc' := 29) (v := 6) kc_196_27 rfl rfl ?_
          refine xi_isub (pc' := 30) (v := 0) kc_196_29 rfl rfl ?_
          refine xi_cmt (pc' := 1534) kc_196_30 rfl rfl ?_
          refine xi_iconst (pc' := 1535) (v := 1) kc_196_1534 rfl rfl ?_
          refine xi_ireturn kc_196_1535 mr_196 rfl ?_
          refine ⟨rfl, ?_, ?_⟩
          · rw [eh1.2.2.1]; exact hn0
          · rw [eh1.2.2.2]; exact hz0
        by_cases c79 : a2.toInt = 3
        · refine xi_tsi (pc' := 87) (z := 3) kc_107_24 (by omega) rfl (by decide) ?_
          refine xi_aload_n (pc' := 88) (x := 0) kc_107_87 rfl rfl ?_
          refine xi_getfield (pc' := 91) (v := .ref 63) kc_107_88 rfl rfl rfl (F 0 _ hl_0) rfl ?_
          refine xi_getfield (pc' := 94) (v := .ref 65) kc_107_91 rfl rfl rfl (F 63 _ hl_63) rfl ?_
          refine xi_iload_n (pc' := 95) (x := 9) kc_107_94 rfl rfl ?_
          refine xi_iaload (pc' := 96) (v := 0) kc_107_95 rfl (F 65 _ hl_65) (by decide) rfl (xi_in (n := 12) (by decide) (by decide)) rfl ?_
          refine xi_ireturn kc_107_96 mr_107 rfl ?_
          show xw J ov 100 196 (494, [(4, .int 0), (3, .ref 167), (2, .ref 115), (1, .ref 0), (0, .ref 1000000)], [.int 0], h0) _
          refine xi_aload_n (pc' := 495) (x := 115) kc_196_494 rfl rfl ?_
          refine xi_aload_n (pc' := 496) (x := 1000000) kc_196_495 rfl rfl ?_
          refine xi_iload (pc' := 498) (x := 0) kc_196_496 rfl rfl ?_
          refine xi_iconst (pc' := 499) (v := 1) kc_196_498 rfl rfl ?_
          refine xi_iadd (pc' := 500) (v := 1) kc_196_499 rfl rfl ?_
          refine xi_ialoadO (pc' := 501) (v := 9) kc_196_500 rfl (by decide) hov0 (xi_in (n := 6) (by decide) (by decide)) rfl ?_
          refine xi_aload_n (pc' := 502) (x := 1000000) kc_196_501 rfl rfl ?_
          refine xi_iload (pc' := 504) (x := 0) kc_196_502 rfl rfl ?_
          refine xi_iconst (pc' := 505) (v := 2) kc_196_504 rfl rfl ?_
          refine xi_iadd (pc' := 506) (v := 2) kc_196_505 rfl rfl ?_
          refine xi_ialoadO (pc' := 507) (v := a2) kc_196_506 rfl (by decide) hov0 (xi_in (n := 6) (by decide) (by decide)) rfl ?_
          refine xi_virtual (mj := 26) (as := [.int 9, .int a2]) (st1 := [.int 0]) (lv0 := [(0, .ref 115), (1, .int 9), (2, .int a2)]) kc_196_507 rfl rfl rfl rfl rfl (F 115 _ hl_115) (Nat.le_of_ble_eq_true rfl) (hJ _ _ _ _ (by decide)) (xm_le ml_26 rfl) rfl ?_
          refine xi_aload_n (pc' := 1) (x := 115) kc_26_0 rfl rfl ?_
          refine xi_iconst (pc' := 2) (v := 0) kc_26_1 rfl rfl ?_
          refine xi_putfield (pc' := 5) (fs' := [.int 0, .int 0, .ref 116, .ref 117, .ref 118, .ref 119, .ref 120, .ref 121, .ref 122, .ref 123, .ref 124, .ref 125, .ref 126, .ref 127, .ref 128, .ref 129, .int 4, .ref 130, .int 0, .ref 131, .ref 132, .ref 133, .ref 134, .int 0, .ref 135, .ref 136, .ref 137, .ref 138, .ref 139, .ref 140, .ref 141, .ref 142, .int 0, .int 0, .int 0, .ref 143, .ref 144, .ref 145, .ref 146, .ref 147, .ref 148, .int 0, .ref 149, .ref 150, .ref 151, .int 0, .ref 152, .ref 153, .ref 154, .ref 155, .ref 156, .ref 157, .ref 158, .ref 159, .int 0, .ref 160, .int 0, .ref 161, .ref 162, .ref 163, .ref 164, .int 0, .ref 165, .ref 166]) kc_26_2 rfl rfl rfl (F 115 _ hl_115) rfl rfl rfl (Nat.le_of_ble_eq_true rfl) rfl (fun hh1 eh1 => ?_)
          refine xi_iload_n (pc' := 6) (x := 9) kc_26_5 rfl rfl ?_
          refine xi_static (mj := 25) (as := [.int 9]) (st1 := []) (lv0 := [(0, .int 9)]) kc_26_6 rfl rfl (Nat.le_of_ble_eq_true rfl) rfl rfl (Nat.le_of_ble_eq_true rfl) (hJ _ _ _ _ (by decide)) (xm_le ml_25 rfl) rfl ?_
          refine xi_iload_n (pc' := 1) (x := 9) kc_25_0 rfl rfl ?_
          refine xi_iconst (pc' := 2) (v := 0) kc_25_1 rfl rfl ?_
          refine xi_bipush (pc' := 4) (v := 11) kc_25_2 rfl rfl ?_
          refine xi_static (mj := 12) (as := [.int 9, .int 0, .int 11]) (st1 := []) (lv0 := [(0, .int 9), (1, .int 0), (2, .int 11)]) kc_25_4 rfl rfl (Nat.le_of_ble_eq_true rfl) rfl rfl (Nat.le_of_ble_eq_true rfl) (hJ _ _ _ _ (by decide)) (xm_le ml_12 rfl) rfl ?_
          refine xi_iload_n (pc' := 1) (x := 9) kc_12_0 rfl rfl ?_
          refine xi_iload_n (pc' := 2) (x := 0) kc_12_1 rfl rfl ?_
          refine xi_cmf (pc' := 5) kc_12_2 rfl rfl ?_
          refine xi_iload_n (pc' := 6) (x := 9) kc_12_5 rfl rfl ?_
          refine xi_iload_n (pc' := 7) (x := 11) kc_12_6 rfl rfl ?_
          refine xi_cmf (pc' := 10) kc_12_7 rfl rfl ?_
          refine xi_iconst (pc' := 11) (v := 1) kc_12_10 rfl rfl ?_
          refine xi_goto (pc' := 15) kc_12_11 rfl ?_
          refine xi_ireturn kc_12_15 mr_12 rfl ?_
          show xw J ov 98 25 (7, [(0, .int 9)], [.int 1], hh1) _
          refine xi_ireturn kc_25_7 mr_25 rfl ?_
          show xw J ov 99 26 (9, [(0, .ref 115), (1, .int 9), (2, .int a2)], [.int 1], hh1) _
          refine xi_ift (pc' := 18) kc_26_9 rfl rfl ?_
          refine xi_iload_n (pc' := 19) (x := a2) kc_26_18 rfl rfl ?_
          refine xi_iconst (pc' := 20) (v := 0) kc_26_19 rfl rfl ?_
          refine xi_iconst (pc' := 21) (v := 5) kc_26_20 rfl rfl ?_
          refine xi_static (mj := 12) (as := [.int a2, .int 0, .int 5]) (st1 := []) (lv0 := [(0, .int a2), (1, .int 0), (2, .int 5)]) kc_26_21 rfl rfl (Nat.le_of_ble_eq_true rfl) rfl rfl (Nat.le_of_ble_eq_true rfl) (hJ _ _ _ _ (by decide)) (xm_le ml_12 rfl) rfl ?_
          refine xi_iload_n (pc' := 1) (x := a2) kc_12_0 rfl rfl ?_
          refine xi_iload_n (pc' := 2) (x := 0) kc_12_1 rfl rfl ?_
          refine xi_cmf (pc' := 5) kc_12_2 rfl (xc_lt_f (X := a2.toInt) (Y := 0) rfl (by decide) (by omega)) ?_
          refine xi_iload_n (pc' := 6) (x := a2) kc_12_5 rfl rfl ?_
          refine xi_iload_n (pc' := 7) (x := 5) kc_12_6 rfl rfl ?_
          refine xi_cmf (pc' := 10) kc_12_7 rfl (xc_gt_f (X := a2.toInt) (Y := 5) rfl (by decide) (by omega)) ?_
          refine xi_iconst (pc' := 11) (v := 1) kc_12_10 rfl rfl ?_
          refine xi_goto (pc' := 15) kc_12_11 rfl ?_
          refine xi_ireturn kc_12_15 mr_12 rfl ?_
          show xw J ov 99 26 (24, [(0, .ref 115), (1, .int 9), (2, .int a2)], [.int 1], hh1) _
          refine xi_ift (pc' := 34) kc_26_24 rfl rfl ?_
          refine xi_iload_n (pc' := 35) (x := a2) kc_26_34 rfl rfl ?_
          refine xi_tsi (pc' := 97) (z := 3) kc_26_35 (by omega) rfl (by decide) ?_
          refine xi_aload_n (pc' := 98) (x := 115) kc_26_97 rfl rfl ?_
          refine xi_getfield (pc' := 101) (v := .ref 128) kc_26_98 rfl rfl rfl eh1.1 rfl ?_
          refine xi_iload_n (pc' := 102) (x := 9) kc_26_101 rfl rfl ?_
          refine xi_iaload (pc' := 103) (v := 0) kc_26_102 rfl ((eh1.2.1 128 (by decide)).trans (F 128 _ hl_128)) (by decide) rfl (xi_in (n := 12) (by decide) (by decide)) rfl ?_
          refine xi_ireturn kc_26_103 mr_26 rfl ?_
          show xw J ov 100 196 (510, [(4, .int 0), (3, .ref 167), (2, .ref 115), (1, .ref 0), (0, .ref 1000000)], [.int 0, .int 0], hh1) _
          refine xi_cmt (pc' := 1528) kc_196_510 rfl rfl ?_
          refine xi_iinc (pc' := 1531) (x := 0) (v := 6) (lv' := [(4, .int 6), (3, .ref 167), (2, .ref 115), (1, .ref 0), (0, .ref 1000000)]) kc_196_1528 rfl rfl rfl rfl (xm_lt ml_196 rfl) ?_
          refine xi_goto (pc' := 23) kc_196_1531 rfl ?_
          refine xi_iload (pc' := 25) (x := 6) kc_196_23 rfl rfl ?_
          refine xi_aload_n (pc' := 26) (x := 1000000) kc_196_25 rfl rfl ?_
          refine xi_arraylength (pc' := 27) (n := 6) (v := 6) kc_196_26 rfl (xl_lenO (by decide) hov0 rfl) rfl ?_
          refine xi_bipush (pc' := 29) (v := 6) kc_196_27 rfl rfl ?_
          refine xi_isub (pc' := 30) (v := 0) kc_196_29 rfl rfl ?_
          refine xi_cmt (pc' := 1534) kc_196_30 rfl rfl ?_
          refine xi_iconst (pc' := 1535) (v := 1) kc_196_1534 rfl rfl ?_
          refine xi_ireturn kc_196_1535 mr_196 rfl ?_
          refine ⟨rfl, ?_, ?_⟩
          · rw [eh1.2.2.1]; exact hn0
          · rw [eh1.2.2.2]; exact hz0
        by_cases c80 : a2.toInt = 4
        · refine xi_tsi (pc' := 97) (z := 4) kc_107_24 (by omega) rfl (by decide) ?_
          refine xi_aload_n (pc' := 98) (x := 47) kc_107_97 rfl rfl ?_
          refine xi_getfield (pc' := 101) (v := .int 0) kc_107_98 rfl rfl rfl (F 47 _ hl_47) rfl ?_
          refine xi_ireturn kc_107_101 mr_107 rfl ?_
          show xw J ov 100 196 (494, [(4, .int 0), (3, .ref 167), (2, .ref 115), (1, .ref 0), (0, .ref 1000000)], [.int 0], h0) _
          refine xi_aload_n (pc' := 495) (x := 115) kc_196_494 rfl rfl ?_
          refine xi_aload_n (pc' := 496) (x := 1000000) kc_196_495 rfl rfl ?_
          refine xi_iload (pc' := 498) (x := 0) kc_196_496 rfl rfl ?_
          refine xi_iconst (pc' := 499) (v := 1) kc_196_498 rfl rfl ?_
          refine xi_iadd (pc' := 500) (v := 1) kc_196_499 rfl rfl ?_
          refine xi_ialoadO (pc' := 501) (v := 9) kc_196_500 rfl (by decide) hov0 (xi_in (n := 6) (by decide) (by decide)) rfl ?_
          refine xi_aload_n (pc' := 502) (x := 1000000) kc_196_501 rfl rfl ?_
          refine xi_iload (pc' := 504) (x := 0) kc_196_502 rfl rfl ?_
          refine xi_iconst (pc' := 505) (v := 2) kc_196_504 rfl rfl ?_
          refine xi_iadd (pc' := 506) (v := 2) kc_196_505 rfl rfl ?_
          refine xi_ialoadO (pc' := 507) (v := a2) kc_196_506 rfl (by decide) hov0 (xi_in (n := 6) (by decide) (by decide)) rfl ?_
          refine xi_virtual (mj := 26) (as := [.int 9, .int a2]) (st1 := [.int 0]) (lv0 := [(0, .ref 115), (1, .int 9), (2, .int a2)]) kc_196_507 rfl rfl rfl rfl rfl (F 115 _ hl_115) (Nat.le_of_ble_eq_true rfl) (hJ _ _ _ _ (by decide)) (xm_le ml_26 rfl) rfl ?_
          refine xi_aload_n (pc' := 1) (x := 115) kc_26_0 rfl rfl ?_
          refine xi_iconst (pc' := 2) (v := 0) kc_26_1 rfl rfl ?_
          refine xi_putfield (pc' := 5) (fs' := [.int 0, .int 0, .ref 116, .ref 117, .ref 118, .ref 119, .ref 120, .ref 121, .ref 122, .ref 123, .ref 124, .ref 125, .ref 126, .ref 127, .ref 128, .ref 129, .int 4, .ref 130, .int 0, .ref 131, .ref 132, .ref 133, .ref 134, .int 0, .ref 135, .ref 136, .ref 137, .ref 138, .ref 139, .ref 140, .ref 141, .ref 142, .int 0, .int 0, .int 0, .ref 143, .ref 144, .ref 145, .ref 146, .ref 147, .ref 148, .int 0, .ref 149, .ref 150, .ref 151, .int 0, .ref 152, .ref 153, .ref 154, .ref 155, .ref 156, .ref 157, .ref 158, .ref 159, .int 0, .ref 160, .int 0, .ref 161, .ref 162, .ref 163, .ref 164, .int 0, .ref 165, .ref 166]) kc_26_2 rfl rfl rfl (F 115 _ hl_115) rfl rfl rfl (Nat.le_of_ble_eq_true rfl) rfl (fun hh1 eh1 => ?_)
          refine xi_iload_n (pc' := 6) (x := 9) kc_26_5 rfl rfl ?_
          refine xi_static (mj := 25) (as := [.int 9]) (st1 := []) (lv0 := [(0, .int 9)]) kc_26_6 rfl rfl (Nat.le_of_ble_eq_true rfl) rfl rfl (Nat.le_of_ble_eq_true rfl) (hJ _ _ _ _ (by decide)) (xm_le ml_25 rfl) rfl ?_
          refine xi_iload_n (pc' := 1) (x := 9) kc_25_0 rfl rfl ?_
          refine xi_iconst (pc' := 2) (v := 0) kc_25_1 rfl rfl ?_
          refine xi_bipush (pc' := 4) (v := 11) kc_25_2 rfl rfl ?_
          refine xi_static (mj := 12) (as := [.int 9, .int 0, .int 11]) (st1 := []) (lv0 := [(0, .int 9), (1, .int 0), (2, .int 11)]) kc_25_4 rfl rfl (Nat.le_of_ble_eq_true rfl) rfl rfl (Nat.le_of_ble_eq_true rfl) (hJ _ _ _ _ (by decide)) (xm_le ml_12 rfl) rfl ?_
          refine xi_iload_n (pc' := 1) (x := 9) kc_12_0 rfl rfl ?_
          refine xi_iload_n (pc' := 2) (x := 0) kc_12_1 rfl rfl ?_
          refine xi_cmf (pc' := 5) kc_12_2 rfl rfl ?_
          refine xi_iload_n (pc' := 6) (x := 9) kc_12_5 rfl rfl ?_
          refine xi_iload_n (pc' := 7) (x := 11) kc_12_6 rfl rfl ?_
          refine xi_cmf (pc' := 10) kc_12_7 rfl rfl ?_
          refine xi_iconst (pc' := 11) (v := 1) kc_12_10 rfl rfl ?_
          refine xi_goto (pc' := 15) kc_12_11 rfl ?_
          refine xi_ireturn kc_12_15 mr_12 rfl ?_
          show xw J ov 98 25 (7, [(0, .int 9)], [.int 1], hh1) _
          refine xi_ireturn kc_25_7 mr_25 rfl ?_
          show xw J ov 99 26 (9, [(0, .ref 115), (1, .int 9), (2, .int a2)], [.int 1], hh1) _
          refine xi_ift (pc' := 18) kc_26_9 rfl rfl ?_
          refine xi_iload_n (pc' := 19) (x := a2) kc_26_18 rfl rfl ?_
          refine xi_iconst (pc' := 20) (v := 0) kc_26_19 rfl rfl ?_
          refine xi_iconst (pc' := 21) (v := 5) kc_26_20 rfl rfl ?_
          refine xi_static (mj := 12) (as := [.int a2, .int 0, .int 5]) (st1 := []) (lv0 := [(0, .int a2), (1, .int 0), (2, .int 5)]) kc_26_21 rfl rfl (Nat.le_of_ble_eq_true rfl) rfl rfl (Nat.le_of_ble_eq_true rfl) (hJ _ _ _ _ (by decide)) (xm_le ml_12 rfl) rfl ?_
          refine xi_iload_n (pc' := 1) (x := a2) kc_12_0 rfl rfl ?_
          refine xi_iload_n (pc' := 2) (x := 0) kc_12_1 rfl rfl ?_
          refine xi_cmf (pc' := 5) kc_12_2 rfl (xc_lt_f (X := a2.toInt) (Y := 0) rfl (by decide) (by omega)) ?_
          refine xi_iload_n (pc' := 6) (x := a2) kc_12_5 rfl rfl ?_
          refine xi_iload_n (pc' := 7) (x := 5) kc_12_6 rfl rfl ?_
          refine xi_cmf (pc' := 10) kc_12_7 rfl (xc_gt_f (X := a2.toInt) (Y := 5) rfl (by decide) (by omega)) ?_
          refine xi_iconst (pc' := 11) (v := 1) kc_12_10 rfl rfl ?_
          refine xi_goto (pc' := 15) kc_12_11 rfl ?_
          refine xi_ireturn kc_12_15 mr_12 rfl ?_
          show xw J ov 99 26 (24, [(0, .ref 115), (1, .int 9), (2, .int a2)], [.int 1], hh1) _
          refine xi_ift (pc' := 34) kc_26_24 rfl rfl ?_
          refine xi_iload_n (pc' := 35) (x := a2) kc_26_34 rfl rfl ?_
          refine xi_tsi (pc' := 104) (z := 4) kc_26_35 (by omega) rfl (by decide) ?_
          refine xi_aload_n (pc' := 105) (x := 115) kc_26_104 rfl rfl ?_
          refine xi_getfield (pc' := 108) (v := .ref 129) kc_26_105 rfl rfl rfl eh1.1 rfl ?_
          refine xi_iload_n (pc' := 109) (x := 9) kc_26_108 rfl rfl ?_
          refine xi_iaload (pc' := 110) (v := 0) kc_26_109 rfl ((eh1.2.1 129 (by decide)).trans (F 129 _ hl_129)) (by decide) rfl (xi_in (n := 12) (by decide) (by decide)) rfl ?_
          refine xi_ireturn kc_26_110 mr_26 rfl ?_
          show xw J ov 100 196 (510, [(4, .int 0), (3, .ref 167), (2, .ref 115), (1, .ref 0), (0, .ref 1000000)], [.int 0, .int 0], hh1) _
          refine xi_cmt (pc' := 1528) kc_196_510 rfl rfl ?_
          refine xi_iinc (pc' := 1531) (x := 0) (v := 6) (lv' := [(4, .int 6), (3, .ref 167), (2, .ref 115), (1, .ref 0), (0, .ref 1000000)]) kc_196_1528 rfl rfl rfl rfl (xm_lt ml_196 rfl) ?_
          refine xi_goto (pc' := 23) kc_196_1531 rfl ?_
          refine xi_iload (pc' := 25) (x := 6) kc_196_23 rfl rfl ?_
          refine xi_aload_n (pc' := 26) (x := 1000000) kc_196_25 rfl rfl ?_
          refine xi_arraylength (pc' := 27) (n := 6) (v := 6) kc_196_26 rfl (xl_lenO (by decide) hov0 rfl) rfl ?_
          refine xi_bipush (pc' := 29) (v := 6) kc_196_27 rfl rfl ?_
          refine xi_isub (pc' := 30) (v := 0) kc_196_29 rfl rfl ?_
          refine xi_cmt (pc' := 1534) kc_196_30 rfl rfl ?_
          refine xi_iconst (pc' := 1535) (v := 1) kc_196_1534 rfl rfl ?_
          refine xi_ireturn kc_196_1535 mr_196 rfl ?_
          refine ⟨rfl, ?_, ?_⟩
          · rw [eh1.2.2.1]; exact hn0
          · rw [eh1.2.2.2]; exact hz0
        by_cases c81 : a2.toInt = 5
        · refine xi_tsi (pc' := 102) (z := 5) kc_107_24 (by omega) rfl (by decide) ?_
          refine xi_aload_n (pc' := 103) (x := 0) kc_107_102 rfl rfl ?_
          refine xi_getfield (pc' := 106) (v := .ref 1) kc_107_103 rfl rfl rfl (F 0 _ hl_0) rfl ?_
          refine xi_iload_n (pc' := 107) (x := 9) kc_107_106 rfl rfl ?_
          refine xi_aload_n (pc' := 108) (x := 0) kc_107_107 rfl rfl ?_
          refine xi_getfield (pc' := 111) (v := .int 0) kc_107_108 rfl rfl rfl (F 0 _ hl_0) rfl ?_
          refine xi_virtual (mj := 108) (as := [.int 9, .int 0]) (st1 := []) (lv0 := [(0, .ref 1), (1, .int 9), (2, .int 0)]) kc_107_111 rfl rfl rfl rfl rfl (F 1 _ hl_1) (Nat.le_of_ble_eq_true rfl) (hJ _ _ _ _ (by decide)) (xm_le ml_108 rfl) rfl ?_
          refine xi_aload_n (pc' := 1) (x := 1) kc_108_0 rfl rfl ?_
          refine xi_iload_n (pc' := 2) (x := 9) kc_108_1 rfl rfl ?_
          refine xi_virtual (mj := 109) (as := [.int 9]) (st1 := []) (lv0 := [(0, .ref 1), (1, .int 9)]) kc_108_2 rfl rfl rfl rfl rfl (F 1 _ hl_1) (Nat.le_of_ble_eq_true rfl) (hJ _ _ _ _ (by decide)) (xm_le ml_109 rfl) rfl ?_
          refine xi_iload_n (pc' := 1) (x := 9) kc_109_0 rfl rfl ?_
          refine xi_static (mj := 105) (as := [.int 9]) (st1 := []) (lv0 := [(0, .int 9)]) kc_109_1 rfl rfl (Nat.le_of_ble_eq_true rfl) rfl rfl (Nat.le_of_ble_eq_true rfl) (hJ _ _ _ _ (by decide)) (xm_le ml_105 rfl) rfl ?_
          refine xi_iload_n (pc' := 1) (x := 9) kc_105_0 rfl rfl ?_
          refine xi_iff (pc' := 4) kc_105_1 rfl rfl ?_
          refine xi_iload_n (pc' := 5) (x := 9) kc_105_4 rfl rfl ?_
          refine xi_bipush (pc' := 7) (v := 12) kc_105_5 rfl rfl ?_
          refine xi_cmf (pc' := 10) kc_105_7 rfl rfl ?_
          refine xi_iconst (pc' := 11) (v := 1) kc_105_10 rfl rfl ?_
          refine xi_goto (pc' := 15) kc_105_11 rfl ?_
          refine xi_ireturn kc_105_15 mr_105 rfl ?_
          show xw J ov 97 109 (4, [(0, .ref 1), (1, .int 9)], [.int 1], h0) _
          refine xi_iff (pc' := 7) kc_109_4 rfl rfl ?_
          refine xi_aload_n (pc' := 8) (x := 1) kc_109_7 rfl rfl ?_
          refine xi_getfield (pc' := 11) (v := .ref 3) kc_109_8 rfl rfl rfl (F 1 _ hl_1) rfl ?_
          refine xi_iload_n (pc' := 12) (x := 9) kc_109_11 rfl rfl ?_
          refine xi_aaload (pc' := 13) (b := 47) kc_109_12 rfl (F 3 _ hl_3) rfl (xi_in (n := 12) (by decide) (by decide)) rfl ?_
          refine xi_virtual (mj := 106) (as := []) (st1 := []) (lv0 := [(0, .ref 47)]) kc_109_13 rfl rfl rfl rfl rfl (F 47 _ hl_47) (Nat.le_of_ble_eq_true rfl) (hJ _ _ _ _ (by decide)) (xm_le ml_106 rfl) rfl ?_
          refine xi_aload_n (pc' := 1) (x := 47) kc_106_0 rfl rfl ?_
          refine xi_getfield (pc' := 4) (v := .int (-9)) kc_106_1 rfl rfl rfl (F 47 _ hl_47) rfl ?_
          refine xi_static (mj := 90) (as := [.int (-9)]) (st1 := []) (lv0 := [(0, .int (-9))]) kc_106_4 rfl rfl (Nat.le_of_ble_eq_true rfl) rfl rfl (Nat.le_of_ble_eq_true rfl) (hJ _ _ _ _ (by decide)) (xm_le ml_90 rfl) rfl ?_
          refine xi_iload_n (pc' := 1) (x := (-9)) kc_90_0 rfl rfl ?_
          refine xi_ift (pc' := 14) kc_90_1 rfl rfl ?_
          refine xi_iconst (pc' := 15) (v := 0) kc_90_14 rfl rfl ?_
          refine xi_ireturn kc_90_15 mr_90 rfl ?_
          show xw J ov 96 106 (7, [(0, .ref 47)], [.int 0], h0) _
          refine xi_ireturn kc_106_7 mr_106 rfl ?_
          show xw J ov 97 109 (16, [(0, .ref 1), (1, .int 9)], [.int 0], h0) _
          refine xi_ift (pc' := 23) kc_109_16 rfl rfl ?_
          refine xi_iconst (pc' := 24) (v := 0) kc_109_23 rfl rfl ?_
          refine xi_ireturn kc_109_24 mr_109 rfl ?_
          show xw J ov 98 108 (5, [(0, .ref 1), (1, .int 9), (2, .int 0)], [.int 0], h0) _
          refine xi_iff (pc' := 8) kc_108_5 rfl rfl ?_
          refine xi_iconst (pc' := 9) (v := 0) kc_108_8 rfl rfl ?_
          refine xi_ireturn kc_108_9 mr_108 rfl ?_
          show xw J ov 99 107 (114, [(3, .ref 47), (0, .ref 0), (1, .int 9), (2, .int a2)], [.int 0], h0) _
          refine xi_ireturn kc_107_114 mr_107 rfl ?_
          show xw J ov 100 196 (494, [(4, .int 0), (3, .ref 167), (2, .ref 115), (1, .ref 0), (0, .ref 1000000)], [.int 0], h0) _
          refine xi_aload_n (pc' := 495) (x := 115) kc_196_494 rfl rfl ?_
          refine xi_aload_n (pc' := 496) (x := 1000000) kc_196_495 rfl rfl ?_
          refine xi_iload (pc' := 498) (x := 0) kc_196_496 rfl rfl ?_
          refine xi_iconst (pc' := 499) (v := 1) kc_196_498 rfl rfl ?_
          refine xi_iadd (pc' := 500) (v := 1) kc_196_499 rfl rfl ?_
          refine xi_ialoadO (pc' := 501) (v := 9) kc_196_500 rfl (by decide) hov0 (xi_in (n := 6) (by decide) (by decide)) rfl ?_
          refine xi_aload_n (pc' := 502) (x := 1000000) kc_196_501 rfl rfl ?_
          refine xi_iload (pc' := 504) (x := 0) kc_196_502 rfl rfl ?_
          refine xi_iconst (pc' := 505) (v := 2) kc_196_504 rfl rfl ?_
          refine xi_iadd (pc' := 506) (v := 2) kc_196_505 rfl rfl ?_
          refine xi_ialoadO (pc' := 507) (v := a2) kc_196_506 rfl (by decide) hov0 (xi_in (n := 6) (by decide) (by decide)) rfl ?_
          refine xi_virtual (mj := 26) (as := [.int 9, .int a2]) (st1 := [.int 0]) (lv0 := [(0, .ref 115), (1, .int 9), (2, .int a2)]) kc_196_507 rfl rfl rfl rfl rfl (F 115 _ hl_115) (Nat.le_of_ble_eq_true rfl) (hJ _ _ _ _ (by decide)) (xm_le ml_26 rfl) rfl ?_
          refine xi_aload_n (pc' := 1) (x := 115) kc_26_0 rfl rfl ?_
          refine xi_iconst (pc' := 2) (v := 0) kc_26_1 rfl rfl ?_
          refine xi_putfield (pc' := 5) (fs' := [.int 0, .int 0, .ref 116, .ref 117, .ref 118, .ref 119, .ref 120, .ref 121, .ref 122, .ref 123, .ref 124, .ref 125, .ref 126, .ref 127, .ref 128, .ref 129, .int 4, .ref 130, .int 0, .ref 131, .ref 132, .ref 133, .ref 134, .int 0, .ref 135, .ref 136, .ref 137, .ref 138, .ref 139, .ref 140, .ref 141, .ref 142, .int 0, .int 0, .int 0, .ref 143, .ref 144, .ref 145, .ref 146, .ref 147, .ref 148, .int 0, .ref 149, .ref 150, .ref 151, .int 0, .ref 152, .ref 153, .ref 154, .ref 155, .ref 156, .ref 157, .ref 158, .ref 159, .int 0, .ref 160, .int 0, .ref 161, .ref 162, .ref 163, .ref 164, .int 0, .ref 165, .ref 166]) kc_26_2 rfl rfl rfl (F 115 _ hl_115) rfl rfl rfl (Nat.le_of_ble_eq_true rfl) rfl (fun hh1 eh1 => ?_)
          refine xi_iload_n (pc' := 6) (x := 9) kc_26_5 rfl rfl ?_
          refine xi_static (mj := 25) (as := [.int 9]) (st1 := []) (lv0 := [(0, .int 9)]) kc_26_6 rfl rfl (Nat.le_of_ble_eq_true rfl) rfl rfl (Nat.le_of_ble_eq_true rfl) (hJ _ _ _ _ (by decide)) (xm_le ml_25 rfl) rfl ?_
          refine xi_iload_n (pc' := 1) (x := 9) kc_25_0 rfl rfl ?_
          refine xi_iconst (pc' := 2) (v := 0) kc_25_1 rfl rfl ?_
          refine xi_bipush (pc' := 4) (v := 11) kc_25_2 rfl rfl ?_
          refine xi_static (mj := 12) (as := [.int 9, .int 0, .int 11]) (st1 := []) (lv0 := [(0, .int 9), (1, .int 0), (2, .int 11)]) kc_25_4 rfl rfl (Nat.le_of_ble_eq_true rfl) rfl rfl (Nat.le_of_ble_eq_true rfl) (hJ _ _ _ _ (by decide)) (xm_le ml_12 rfl) rfl ?_
          refine xi_iload_n (pc' := 1) (x := 9) kc_12_0 rfl rfl ?_
          refine xi_iload_n (pc' := 2) (x := 0) kc_12_1 rfl rfl ?_
          refine xi_cmf (pc' := 5) kc_12_2 rfl rfl ?_
          refine xi_iload_n (pc' := 6) (x := 9) kc_12_5 rfl rfl ?_
          refine xi_iload_n (pc' := 7) (x := 11) kc_12_6 rfl rfl ?_
          refine xi_cmf (pc' := 10) kc_12_7 rfl rfl ?_
          refine xi_iconst (pc' := 11) (v := 1) kc_12_10 rfl rfl ?_
          refine xi_goto (pc' := 15) kc_12_11 rfl ?_
          refine xi_ireturn kc_12_15 mr_12 rfl ?_
          show xw J ov 98 25 (7, [(0, .int 9)], [.int 1], hh1) _
          refine xi_ireturn kc_25_7 mr_25 rfl ?_
          show xw J ov 99 26 (9, [(0, .ref 115), (1, .int 9), (2, .int a2)], [.int 1], hh1) _
          refine xi_ift (pc' := 18) kc_26_9 rfl rfl ?_
          refine xi_iload_n (pc' := 19) (x := a2) kc_26_18 rfl rfl ?_
          refine xi_iconst (pc' := 20) (v := 0) kc_26_19 rfl rfl ?_
          refine xi_iconst (pc' := 21) (v := 5) kc_26_20 rfl rfl ?_
          refine xi_static (mj := 12) (as := [.int a2, .int 0, .int 5]) (st1 := []) (lv0 := [(0, .int a2), (1, .int 0), (2, .int 5)]) kc_26_21 rfl rfl (Nat.le_of_ble_eq_true rfl) rfl rfl (Nat.le_of_ble_eq_true rfl) (hJ _ _ _ _ (by decide)) (xm_le ml_12 rfl) rfl ?_
          refine xi_iload_n (pc' := 1) (x := a2) kc_12_0 rfl rfl ?_
          refine xi_iload_n (pc' := 2) (x := 0) kc_12_1 rfl rfl ?_
          refine xi_cmf (pc' := 5) kc_12_2 rfl (xc_lt_f (X := a2.toInt) (Y := 0) rfl (by decide) (by omega)) ?_
          refine xi_iload_n (pc' := 6) (x := a2) kc_12_5 rfl rfl ?_
          refine xi_iload_n (pc' := 7) (x := 5) kc_12_6 rfl rfl ?_
          refine xi_cmf (pc' := 10) kc_12_7 rfl (xc_gt_f (X := a2.toInt) (Y := 5) rfl (by decide) (by omega)) ?_
          refine xi_iconst (pc' := 11) (v := 1) kc_12_10 rfl rfl ?_
          refine xi_goto (pc' := 15) kc_12_11 rfl ?_
          refine xi_ireturn kc_12_15 mr_12 rfl ?_
          show xw J ov 99 26 (24, [(0, .ref 115), (1, .int 9), (2, .int a2)], [.int 1], hh1) _
          refine xi_ift (pc' := 34) kc_26_24 rfl rfl ?_
          refine xi_iload_n (pc' := 35) (x := a2) kc_26_34 rfl rfl ?_
          refine xi_tsd (pc' := 111) kc_26_35 rfl (by omega) ?_
          refine xi_aload_n (pc' := 112) (x := 115) kc_26_111 rfl rfl ?_
          refine xi_getfield (pc' := 115) (v := .ref 125) kc_26_112 rfl rfl rfl eh1.1 rfl ?_
          refine xi_iload_n (pc' := 116) (x := 9) kc_26_115 rfl rfl ?_
          refine xi_iaload (pc' := 117) (v := (-9)) kc_26_116 rfl ((eh1.2.1 125 (by decide)).trans (F 125 _ hl_125)) (by decide) rfl (xi_in (n := 12) (by decide) (by decide)) rfl ?_
          refine xi_iff (pc' := 120) kc_26_117 rfl rfl ?_
          refine xi_iconst (pc' := 121) (v := 0) kc_26_120 rfl rfl ?_
          refine xi_goto (pc' := 133) kc_26_121 rfl ?_
          refine xi_ireturn kc_26_133 mr_26 rfl ?_
          show xw J ov 100 196 (510, [(4, .int 0), (3, .ref 167), (2, .ref 115), (1, .ref 0), (0, .ref 1000000)], [.int 0, .int 0], hh1) _
          refine xi_cmt (pc' := 1528) kc_196_510 rfl rfl ?_
          refine xi_iinc (pc' := 1531) (x := 0) (v := 6) (lv' := [(4, .int 6), (3, .ref 167), (2, .ref 115), (1, .ref 0), (0, .ref 1000000)]) kc_196_1528 rfl rfl rfl rfl (xm_lt ml_196 rfl) ?_
          refine xi_goto (pc' := 23) kc_196_1531 rfl ?_
          refine xi_iload (pc' := 25) (x := 6) kc_196_23 rfl rfl ?_
          refine xi_aload_n (pc' := 26) (x := 1000000) kc_196_25 rfl rfl ?_
          refine xi_arraylength (pc' := 27) (n := 6) (v := 6) kc_196_26 rfl (xl_lenO (by decide) hov0 rfl) rfl ?_
          refine xi_bipush (pc' := 29) (v := 6) kc_196_27 rfl rfl ?_
          refine xi_isub (pc' := 30) (v := 0) kc_196_29 rfl rfl ?_
          refine xi_cmt (pc' := 1534) kc_196_30 rfl rfl ?_
          refine xi_iconst (pc' := 1535) (v := 1) kc_196_1534 rfl rfl ?_
          refine xi_ireturn kc_196_1535 mr_196 rfl ?_
          refine ⟨rfl, ?_, ?_⟩
          · rw [eh1.2.2.1]; exact hn0
          · rw [eh1.2.2.2]; exact hz0
        refine xi_tsd (pc' := 115) kc_107_24 rfl (by omega) ?_
        refine xi_aload_n (pc' := 116) (x := 0) kc_107_115 rfl rfl ?_
        refine xi_bipush (pc' := 118) (v := (-2)) kc_107_116 rfl rfl ?_
        refine xi_virtual (mj := 91) (as := [.int (-2)]) (st1 := []) (lv0 := [(0, .ref 0), (1, .int (-2))]) kc_107_118 rfl rfl rfl rfl rfl (F 0 _ hl_0) (Nat.le_of_ble_eq_true rfl) (hJ _ _ _ _ (by decide)) (xm_le ml_91 rfl) rfl ?_
        refine xi_iload_n (pc' := 1) (x := (-2)) kc_91_0 rfl rfl ?_
        refine xi_ineg (pc' := 2) (v := 2) kc_91_1 rfl rfl ?_
        refine xi_istore_n (pc' := 3) (lv' := [(2, .int 2), (0, .ref 0), (1, .int (-2))]) kc_91_2 rfl rfl (xm_lt ml_91 rfl) ?_
        refine xi_iload_n (pc' := 4) (x := 2) kc_91_3 rfl rfl ?_
        refine xi_iff (pc' := 7) kc_91_4 rfl rfl ?_
        refine xi_iload_n (pc' := 8) (x := 2) kc_91_7 rfl rfl ?_
        refine xi_aload_n (pc' := 9) (x := 0) kc_91_8 rfl rfl ?_
        refine xi_getfield (pc' := 12) (v := .ref 94) kc_91_9 rfl rfl rfl (F 0 _ hl_0) rfl ?_
        refine xi_arraylength (pc' := 13) (n := 7) (v := 7) kc_91_12 rfl (xl_lenI (by decide) (by decide) (F 94 _ hl_94) (by simp only [List.length_replicate, List.length_cons, List.length_nil])) rfl ?_
        refine xi_cmf (pc' := 16) kc_91_13 rfl rfl ?_
        refine xi_aload_n (pc' := 17) (x := 0) kc_91_16 rfl rfl ?_
        refine xi_getfield (pc' := 20) (v := .ref 94) kc_91_17 rfl rfl rfl (F 0 _ hl_0) rfl ?_
        refine xi_iload_n (pc' := 21) (x := 2) kc_91_20 rfl rfl ?_
        refine xi_dup2 (pc' := 22) kc_91_21 rfl ⟨rfl, rfl⟩ ?_
        refine xi_iaload (pc' := 23) (v := 0) kc_91_22 rfl (F 94 _ hl_94) (by decide) rfl (xi_in (n := 7) (by decide) (by decide)) rfl ?_
        refine xi_iconst (pc' := 24) (v := 1) kc_91_23 rfl rfl ?_
        refine xi_iadd (pc' := 25) (v := 1) kc_91_24 rfl rfl ?_
        refine xi_iastore (pc' := 26) (x' := [0, 0, 1, 0, 0, 0, 0]) kc_91_25 rfl (F 94 _ hl_94) rfl (xi_in (n := 7) (by decide) (by decide)) rfl (fun hh1 eh1 => ?_)
        refine xi_iload_n (pc' := 27) (x := (-2)) kc_91_26 rfl rfl ?_
        refine xi_ireturn kc_91_27 mr_91 rfl ?_
        show xw J ov 99 107 (121, [(3, .ref 47), (0, .ref 0), (1, .int 9), (2, .int a2)], [.int (-2)], hh1) _
        refine xi_ireturn kc_107_121 mr_107 rfl ?_
        show xw J ov 100 196 (494, [(4, .int 0), (3, .ref 167), (2, .ref 115), (1, .ref 0), (0, .ref 1000000)], [.int (-2)], hh1) _
        refine xi_aload_n (pc' := 495) (x := 115) kc_196_494 rfl rfl ?_
        refine xi_aload_n (pc' := 496) (x := 1000000) kc_196_495 rfl rfl ?_
        refine xi_iload (pc' := 498) (x := 0) kc_196_496 rfl rfl ?_
        refine xi_iconst (pc' := 499) (v := 1) kc_196_498 rfl rfl ?_
        refine xi_iadd (pc' := 500) (v := 1) kc_196_499 rfl rfl ?_
        refine xi_ialoadO (pc' := 501) (v := 9) kc_196_500 rfl (by decide) hov0 (xi_in (n := 6) (by decide) (by decide)) rfl ?_
        refine xi_aload_n (pc' := 502) (x := 1000000) kc_196_501 rfl rfl ?_
        refine xi_iload (pc' := 504) (x := 0) kc_196_502 rfl rfl ?_
        refine xi_iconst (pc' := 505) (v := 2) kc_196_504 rfl rfl ?_
        refine xi_iadd (pc' := 506) (v := 2) kc_196_505 rfl rfl ?_
        refine xi_ialoadO (pc' := 507) (v := a2) kc_196_506 rfl (by decide) hov0 (xi_in (n := 6) (by decide) (by decide)) rfl ?_
        refine xi_virtual (mj := 26) (as := [.int 9, .int a2]) (st1 := [.int (-2)]) (lv0 := [(0, .ref 115), (1, .int 9), (2, .int a2)]) kc_196_507 rfl rfl rfl rfl rfl ((eh1.2.1 115 (by decide)).trans (F 115 _ hl_115)) (Nat.le_of_ble_eq_true rfl) (hJ _ _ _ _ (by decide)) (xm_le ml_26 rfl) rfl ?_
        refine xi_aload_n (pc' := 1) (x := 115) kc_26_0 rfl rfl ?_
        refine xi_iconst (pc' := 2) (v := 0) kc_26_1 rfl rfl ?_
        refine xi_putfield (pc' := 5) (fs' := [.int 0, .int 0, .ref 116, .ref 117, .ref 118, .ref 119, .ref 120, .ref 121, .ref 122, .ref 123, .ref 124, .ref 125, .ref 126, .ref 127, .ref 128, .ref 129, .int 4, .ref 130, .int 0, .ref 131, .ref 132, .ref 133, .ref 134, .int 0, .ref 135, .ref 136, .ref 137, .ref 138, .ref 139, .ref 140, .ref 141, .ref 142, .int 0, .int 0, .int 0, .ref 143, .ref 144, .ref 145, .ref 146, .ref 147, .ref 148, .int 0, .ref 149, .ref 150, .ref 151, .int 0, .ref 152, .ref 153, .ref 154, .ref 155, .ref 156, .ref 157, .ref 158, .ref 159, .int 0, .ref 160, .int 0, .ref 161, .ref 162, .ref 163, .ref 164, .int 0, .ref 165, .ref 166]) kc_26_2 rfl rfl rfl ((eh1.2.1 115 (by decide)).trans (F 115 _ hl_115)) rfl rfl rfl (Nat.le_of_ble_eq_true rfl) rfl (fun hh2 eh2 => ?_)
        refine xi_iload_n (pc' := 6) (x := 9) kc_26_5 rfl rfl ?_
        refine xi_static (mj := 25) (as := [.int 9]) (st1 := []) (lv0 := [(0, .int 9)]) kc_26_6 rfl rfl (Nat.le_of_ble_eq_true rfl) rfl rfl (Nat.le_of_ble_eq_true rfl) (hJ _ _ _ _ (by decide)) (xm_le ml_25 rfl) rfl ?_
        refine xi_iload_n (pc' := 1) (x := 9) kc_25_0 rfl rfl ?_
        refine xi_iconst (pc' := 2) (v := 0) kc_25_1 rfl rfl ?_
        refine xi_bipush (pc' := 4) (v := 11) kc_25_2 rfl rfl ?_
        refine xi_static (mj := 12) (as := [.int 9, .int 0, .int 11]) (st1 := []) (lv0 := [(0, .int 9), (1, .int 0), (2, .int 11)]) kc_25_4 rfl rfl (Nat.le_of_ble_eq_true rfl) rfl rfl (Nat.le_of_ble_eq_true rfl) (hJ _ _ _ _ (by decide)) (xm_le ml_12 rfl) rfl ?_
        refine xi_iload_n (pc' := 1) (x := 9) kc_12_0 rfl rfl ?_
        refine xi_iload_n (pc' := 2) (x := 0) kc_12_1 rfl rfl ?_
        refine xi_cmf (pc' := 5) kc_12_2 rfl rfl ?_
        refine xi_iload_n (pc' := 6) (x := 9) kc_12_5 rfl rfl ?_
        refine xi_iload_n (pc' := 7) (x := 11) kc_12_6 rfl rfl ?_
        refine xi_cmf (pc' := 10) kc_12_7 rfl rfl ?_
        refine xi_iconst (pc' := 11) (v := 1) kc_12_10 rfl rfl ?_
        refine xi_goto (pc' := 15) kc_12_11 rfl ?_
        refine xi_ireturn kc_12_15 mr_12 rfl ?_
        show xw J ov 98 25 (7, [(0, .int 9)], [.int 1], hh2) _
        refine xi_ireturn kc_25_7 mr_25 rfl ?_
        show xw J ov 99 26 (9, [(0, .ref 115), (1, .int 9), (2, .int a2)], [.int 1], hh2) _
        refine xi_ift (pc' := 18) kc_26_9 rfl rfl ?_
        refine xi_iload_n (pc' := 19) (x := a2) kc_26_18 rfl rfl ?_
        refine xi_iconst (pc' := 20) (v := 0) kc_26_19 rfl rfl ?_
        refine xi_iconst (pc' := 21) (v := 5) kc_26_20 rfl rfl ?_
        refine xi_static (mj := 12) (as := [.int a2, .int 0, .int 5]) (st1 := []) (lv0 := [(0, .int a2), (1, .int 0), (2, .int 5)]) kc_26_21 rfl rfl (Nat.le_of_ble_eq_true rfl) rfl rfl (Nat.le_of_ble_eq_true rfl) (hJ _ _ _ _ (by decide)) (xm_le ml_12 rfl) rfl ?_
        refine xi_iload_n (pc' := 1) (x := a2) kc_12_0 rfl rfl ?_
        refine xi_iload_n (pc' := 2) (x := 0) kc_12_1 rfl rfl ?_
        by_cases c82 : a2.toInt < 0
        · refine xi_cmt (pc' := 14) kc_12_2 rfl (xc_lt_t (X := a2.toInt) (Y := 0) rfl (by decide) (by omega)) ?_
          refine xi_iconst (pc' := 15) (v := 0) kc_12_14 rfl rfl ?_
          refine xi_ireturn kc_12_15 mr_12 rfl ?_
          show xw J ov 99 26 (24, [(0, .ref 115), (1, .int 9), (2, .int a2)], [.int 0], hh2) _
          refine xi_iff (pc' := 27) kc_26_24 rfl rfl ?_
          refine xi_aload_n (pc' := 28) (x := 115) kc_26_27 rfl rfl ?_
          refine xi_bipush (pc' := 30) (v := (-2)) kc_26_28 rfl rfl ?_
          refine xi_virtual (mj := 13) (as := [.int (-2)]) (st1 := []) (lv0 := [(0, .ref 115), (1, .int (-2))]) kc_26_30 rfl rfl rfl rfl rfl eh2.1 (Nat.le_of_ble_eq_true rfl) (hJ _ _ _ _ (by decide)) (xm_le ml_13 rfl) rfl ?_
          refine xi_aload_n (pc' := 1) (x := 115) kc_13_0 rfl rfl ?_
          refine xi_getfield (pc' := 4) (v := .ref 140) kc_13_1 rfl rfl rfl eh2.1 rfl ?_
          refine xi_iload_n (pc' := 5) (x := (-2)) kc_13_4 rfl rfl ?_
          refine xi_ineg (pc' := 6) (v := 2) kc_13_5 rfl rfl ?_
          refine xi_dup2 (pc' := 7) kc_13_6 rfl ⟨rfl, rfl⟩ ?_
          refine xi_iaload (pc' := 8) (v := 0) kc_13_7 rfl ((eh2.2.1 140 (by decide)).trans ((eh1.2.1 140 (by decide)).trans (F 140 _ hl_140))) (by decide) rfl (xi_in (n := 7) (by decide) (by decide)) rfl ?_
          refine xi_iconst (pc' := 9) (v := 1) kc_13_8 rfl rfl ?_
          refine xi_iadd (pc' := 10) (v := 1) kc_13_9 rfl rfl ?_
          refine xi_iastore (pc' := 11) (x' := [0, 0, 1, 0, 0, 0, 0]) kc_13_10 rfl ((eh2.2.1 140 (by decide)).trans ((eh1.2.1 140 (by decide)).trans (F 140 _ hl_140))) rfl (xi_in (n := 7) (by decide) (by decide)) rfl (fun hh3 eh3 => ?_)
          refine xi_iload_n (pc' := 12) (x := (-2)) kc_13_11 rfl rfl ?_
          refine xi_ireturn kc_13_12 mr_13 rfl ?_
          show xw J ov 99 26 (33, [(0, .ref 115), (1, .int 9), (2, .int a2)], [.int (-2)], hh3) _
          refine xi_ireturn kc_26_33 mr_26 rfl ?_
          show xw J ov 100 196 (510, [(4, .int 0), (3, .ref 167), (2, .ref 115), (1, .ref 0), (0, .ref 1000000)], [.int (-2), .int (-2)], hh3) _
          refine xi_cmt (pc' := 1528) kc_196_510 rfl rfl ?_
          refine xi_iinc (pc' := 1531) (x := 0) (v := 6) (lv' := [(4, .int 6), (3, .ref 167), (2, .ref 115), (1, .ref 0), (0, .ref 1000000)]) kc_196_1528 rfl rfl rfl rfl (xm_lt ml_196 rfl) ?_
          refine xi_goto (pc' := 23) kc_196_1531 rfl ?_
          refine xi_iload (pc' := 25) (x := 6) kc_196_23 rfl rfl ?_
          refine xi_aload_n (pc' := 26) (x := 1000000) kc_196_25 rfl rfl ?_
          refine xi_arraylength (pc' := 27) (n := 6) (v := 6) kc_196_26 rfl (xl_lenO (by decide) hov0 rfl) rfl ?_
          refine xi_bipush (pc' := 29) (v := 6) kc_196_27 rfl rfl ?_
          refine xi_isub (pc' := 30) (v := 0) kc_196_29 rfl rfl ?_
          refine xi_cmt (pc' := 1534) kc_196_30 rfl rfl ?_
          refine xi_iconst (pc' := 1535) (v := 1) kc_196_1534 rfl rfl ?_
          refine xi_ireturn kc_196_1535 mr_196 rfl ?_
          refine ⟨rfl, ?_, ?_⟩
          · rw [eh3.2.2.1, eh2.2.2.1, eh1.2.2.1]; exact hn0
          · rw [eh3.2.2.2, eh2.2.2.2, eh1.2.2.2]; exact hz0
        · refine xi_cmf (pc' := 5) kc_12_2 rfl (xc_lt_f (X := a2.toInt) (Y := 0) rfl (by decide) (by omega)) ?_
          refine xi_iload_n (pc' := 6) (x := a2) kc_12_5 rfl rfl ?_
          refine xi_iload_n (pc' := 7) (x := 5) kc_12_6 rfl rfl ?_
          refine xi_cmt (pc' := 14) kc_12_7 rfl (xc_gt_t (X := a2.toInt) (Y := 5) rfl (by decide) (by omega)) ?_
          refine xi_iconst (pc' := 15) (v := 0) kc_12_14 rfl rfl ?_
          refine xi_ireturn kc_12_15 mr_12 rfl ?_
          show xw J ov 99 26 (24, [(0, .ref 115), (1, .int 9), (2, .int a2)], [.int 0], hh2) _
          refine xi_iff (pc' := 27) kc_26_24 rfl rfl ?_
          refine xi_aload_n (pc' := 28) (x := 115) kc_26_27 rfl rfl ?_
          refine xi_bipush (pc' := 30) (v := (-2)) kc_26_28 rfl rfl ?_
          refine xi_virtual (mj := 13) (as := [.int (-2)]) (st1 := []) (lv0 := [(0, .ref 115), (1, .int (-2))]) kc_26_30 rfl rfl rfl rfl rfl eh2.1 (Nat.le_of_ble_eq_true rfl) (hJ _ _ _ _ (by decide)) (xm_le ml_13 rfl) rfl ?_
          refine xi_aload_n (pc' := 1) (x := 115) kc_13_0 rfl rfl ?_
          refine xi_getfield (pc' := 4) (v := .ref 140) kc_13_1 rfl rfl rfl eh2.1 rfl ?_
          refine xi_iload_n (pc' := 5) (x := (-2)) kc_13_4 rfl rfl ?_
          refine xi_ineg (pc' := 6) (v := 2) kc_13_5 rfl rfl ?_
          refine xi_dup2 (pc' := 7) kc_13_6 rfl ⟨rfl, rfl⟩ ?_
          refine xi_iaload (pc' := 8) (v := 0) kc_13_7 rfl ((eh2.2.1 140 (by decide)).trans ((eh1.2.1 140 (by decide)).trans (F 140 _ hl_140))) (by decide) rfl (xi_in (n := 7) (by decide) (by decide)) rfl ?_
          refine xi_iconst (pc' := 9) (v := 1) kc_13_8 rfl rfl ?_
          refine xi_iadd (pc' := 10) (v := 1) kc_13_9 rfl rfl ?_
          refine xi_iastore (pc' := 11) (x' := [0, 0, 1, 0, 0, 0, 0]) kc_13_10 rfl ((eh2.2.1 140 (by decide)).trans ((eh1.2.1 140 (by decide)).trans (F 140 _ hl_140))) rfl (xi_in (n := 7) (by decide) (by decide)) rfl (fun hh3 eh3 => ?_)
          refine xi_iload_n (pc' := 12) (x := (-2)) kc_13_11 rfl rfl ?_
          refine xi_ireturn kc_13_12 mr_13 rfl ?_
          show xw J ov 99 26 (33, [(0, .ref 115), (1, .int 9), (2, .int a2)], [.int (-2)], hh3) _
          refine xi_ireturn kc_26_33 mr_26 rfl ?_
          show xw J ov 100 196 (510, [(4, .int 0), (3, .ref 167), (2, .ref 115), (1, .ref 0), (0, .ref 1000000)], [.int (-2), .int (-2)], hh3) _
          refine xi_cmt (pc' := 1528) kc_196_510 rfl rfl ?_
          refine xi_iinc (pc' := 1531) (x := 0) (v := 6) (lv' := [(4, .int 6), (3, .ref 167), (2, .ref 115), (1, .ref 0), (0, .ref 1000000)]) kc_196_1528 rfl rfl rfl rfl (xm_lt ml_196 rfl) ?_
          refine xi_goto (pc' := 23) kc_196_1531 rfl ?_
          refine xi_iload (pc' := 25) (x := 6) kc_196_23 rfl rfl ?_
          refine xi_aload_n (pc' := 26) (x := 1000000) kc_196_25 rfl rfl ?_
          refine xi_arraylength (pc' := 27) (n := 6) (v := 6) kc_196_26 rfl (xl_lenO (by decide) hov0 rfl) rfl ?_
          refine xi_bipush (pc' := 29) (v := 6) kc_196_27 rfl rfl ?_
          refine xi_isub (pc' := 30) (v := 0) kc_196_29 rfl rfl ?_
          refine xi_cmt (pc' := 1534) kc_196_30 rfl rfl ?_
          refine xi_iconst (pc' := 1535) (v := 1) kc_196_1534 rfl rfl ?_
          refine xi_ireturn kc_196_1535 mr_196 rfl ?_
          refine ⟨rfl, ?_, ?_⟩
          · rw [eh3.2.2.1, eh2.2.2.1, eh1.2.2.1]; exact hn0
          · rw [eh3.2.2.2, eh2.2.2.2, eh1.2.2.2]; exact hz0
      by_cases c83 : a1.toInt = 10
      · have qa1 : a1 = 10 := xc_of (Eq.trans (by omega) (show (10 : Int) = (10 : Int32).toInt by decide))
        subst qa1
        refine xi_aaload (pc' := 22) (b := 49) kc_107_21 rfl (F 3 _ hl_3) rfl (xi_in (n := 12) (by decide) (by decide)) rfl ?_
        refine xi_astore_n (pc' := 23) (lv' := [(3, .ref 49), (0, .ref 0), (1, .int 10), (2, .int a2)]) kc_107_22 rfl rfl (xm_lt ml_107 rfl) ?_
        refine xi_iload_n (pc' := 24) (x := a2) kc_107_23 rfl rfl ?_
        by_cases c84 : a2.toInt = 0
        · refine xi_tsi (pc' := 64) (z := 0) kc_107_24 (by omega) rfl (by decide) ?_
          refine xi_aload_n (pc' := 65) (x := 49) kc_107_64 rfl rfl ?_
          refine xi_getfield (pc' := 68) (v := .int (-9)) kc_107_65 rfl rfl rfl (F 49 _ hl_49) rfl ?_
          refine xi_ireturn kc_107_68 mr_107 rfl ?_
          show xw J ov 100 196 (494, [(4, .int 0), (3, .ref 167), (2, .ref 115), (1, .ref 0), (0, .ref 1000000)], [.int (-9)], h0) _
          refine xi_aload_n (pc' := 495) (x := 115) kc_196_494 rfl rfl ?_
          refine xi_aload_n (pc' := 496) (x := 1000000) kc_196_495 rfl rfl ?_
          refine xi_iload (pc' := 498) (x := 0) kc_196_496 rfl rfl ?_
          refine xi_iconst (pc' := 499) (v := 1) kc_196_498 rfl rfl ?_
          refine xi_iadd (pc' := 500) (v := 1) kc_196_499 rfl rfl ?_
          refine xi_ialoadO (pc' := 501) (v := 10) kc_196_500 rfl (by decide) hov0 (xi_in (n := 6) (by decide) (by decide)) rfl ?_
          refine xi_aload_n (pc' := 502) (x := 1000000) kc_196_501 rfl rfl ?_
          refine xi_iload (pc' := 504) (x := 0) kc_196_502 rfl rfl ?_
          refine xi_iconst (pc' := 505) (v := 2) kc_196_504 rfl rfl ?_
          refine xi_iadd (pc' := 506) (v := 2) kc_196_505 rfl rfl ?_
          refine xi_ialoadO (pc' := 507) (v := a2) kc_196_506 rfl (by decide) hov0 (xi_in (n := 6) (by decide) (by decide)) rfl ?_
          refine xi_virtual (mj := 26) (as := [.int 10, .int a2]) (st1 := [.int (-9)]) (lv0 := [(0, .ref 115), (1, .int 10), (2, .int a2)]) kc_196_507 rfl rfl rfl rfl rfl (F 115 _ hl_115) (Nat.le_of_ble_eq_true rfl) (hJ _ _ _ _ (by decide)) (xm_le ml_26 rfl) rfl ?_
          refine xi_aload_n (pc' := 1) (x := 115) kc_26_0 rfl rfl ?_
          refine xi_iconst (pc' := 2) (v := 0) kc_26_1 rfl rfl ?_
          refine xi_putfield (pc' := 5) (fs' := [.int 0, .int 0, .ref 116, .ref 117, .ref 118, .ref 119, .ref 120, .ref 121, .ref 122, .ref 123, .ref 124, .ref 125, .ref 126, .ref 127, .ref 128, .ref 129, .int 4, .ref 130, .int 0, .ref 131, .ref 132, .ref 133, .ref 134, .int 0, .ref 135, .ref 136, .ref 137, .ref 138, .ref 139, .ref 140, .ref 141, .ref 142, .int 0, .int 0, .int 0, .ref 143, .ref 144, .ref 145, .ref 146, .ref 147, .ref 148, .int 0, .ref 149, .ref 150, .ref 151, .int 0, .ref 152, .ref 153, .ref 154, .ref 155, .ref 156, .ref 157, .ref 158, .ref 159, .int 0, .ref 160, .int 0, .ref 161, .ref 162, .ref 163, .ref 164, .int 0, .ref 165, .ref 166]) kc_26_2 rfl rfl rfl (F 115 _ hl_115) rfl rfl rfl (Nat.le_of_ble_eq_true rfl) rfl (fun hh1 eh1 => ?_)
          refine xi_iload_n (pc' := 6) (x := 10) kc_26_5 rfl rfl ?_
          refine xi_static (mj := 25) (as := [.int 10]) (st1 := []) (lv0 := [(0, .int 10)]) kc_26_6 rfl rfl (Nat.le_of_ble_eq_true rfl) rfl rfl (Nat.le_of_ble_eq_true rfl) (hJ _ _ _ _ (by decide)) (xm_le ml_25 rfl) rfl ?_
          refine xi_iload_n (pc' := 1) (x := 10) kc_25_0 rfl rfl ?_
          refine xi_iconst (pc' := 2) (v := 0) kc_25_1 rfl rfl ?_
          refine xi_bipush (pc' := 4) (v := 11) kc_25_2 rfl rfl ?_
          refine xi_static (mj := 12) (as := [.int 10, .int 0, .int 11]) (st1 := []) (lv0 := [(0, .int 10), (1, .int 0), (2, .int 11)]) kc_25_4 rfl rfl (Nat.le_of_ble_eq_true rfl) rfl rfl (Nat.le_of_ble_eq_true rfl) (hJ _ _ _ _ (by decide)) (xm_le ml_12 rfl) rfl ?_
          refine xi_iload_n (pc' := 1) (x := 10) kc_12_0 rfl rfl ?_
          refine xi_iload_n (pc' := 2) (x := 0) kc_12_1 rfl rfl ?_
          refine xi_cmf (pc' := 5) kc_12_2 rfl rfl ?_
          refine xi_iload_n (pc' := 6) (x := 10) kc_12_5 rfl rfl ?_
          refine xi_iload_n (pc' := 7) (x := 11) kc_12_6 rfl rfl ?_
          refine xi_cmf (pc' := 10) kc_12_7 rfl rfl ?_
          refine xi_iconst (pc' := 11) (v := 1) kc_12_10 rfl rfl ?_
          refine xi_goto (pc' := 15) kc_12_11 rfl ?_
          refine xi_ireturn kc_12_15 mr_12 rfl ?_
          show xw J ov 98 25 (7, [(0, .int 10)], [.int 1], hh1) _
          refine xi_ireturn kc_25_7 mr_25 rfl ?_
          show xw J ov 99 26 (9, [(0, .ref 115), (1, .int 10), (2, .int a2)], [.int 1], hh1) _
          refine xi_ift (pc' := 18) kc_26_9 rfl rfl ?_
          refine xi_iload_n (pc' := 19) (x := a2) kc_26_18 rfl rfl ?_
          refine xi_iconst (pc' := 20) (v := 0) kc_26_19 rfl rfl ?_
          refine xi_iconst (pc' := 21) (v := 5) kc_26_20 rfl rfl ?_
          refine xi_static (mj := 12) (as := [.int a2, .int 0, .int 5]) (st1 := []) (lv0 := [(0, .int a2), (1, .int 0), (2, .int 5)]) kc_26_21 rfl rfl (Nat.le_of_ble_eq_true rfl) rfl rfl (Nat.le_of_ble_eq_true rfl) (hJ _ _ _ _ (by decide)) (xm_le ml_12 rfl) rfl ?_
          refine xi_iload_n (pc' := 1) (x := a2) kc_12_0 rfl rfl ?_
          refine xi_iload_n (pc' := 2) (x := 0) kc_12_1 rfl rfl ?_
          refine xi_cmf (pc' := 5) kc_12_2 rfl (xc_lt_f (X := a2.toInt) (Y := 0) rfl (by decide) (by omega)) ?_
          refine xi_iload_n (pc' := 6) (x := a2) kc_12_5 rfl rfl ?_
          refine xi_iload_n (pc' := 7) (x := 5) kc_12_6 rfl rfl ?_
          refine xi_cmf (pc' := 10) kc_12_7 rfl (xc_gt_f (X := a2.toInt) (Y := 5) rfl (by decide) (by omega)) ?_
          refine xi_iconst (pc' := 11) (v := 1) kc_12_10 rfl rfl ?_
          refine xi_goto (pc' := 15) kc_12_11 rfl ?_
          refine xi_ireturn kc_12_15 mr_12 rfl ?_
          show xw J ov 99 26 (24, [(0, .ref 115), (1, .int 10), (2, .int a2)], [.int 1], hh1) _
          refine xi_ift (pc' := 34) kc_26_24 rfl rfl ?_
          refine xi_iload_n (pc' := 35) (x := a2) kc_26_34 rfl rfl ?_
          refine xi_tsi (pc' := 68) (z := 0) kc_26_35 (by omega) rfl (by decide) ?_
          refine xi_aload_n (pc' := 69) (x := 115) kc_26_68 rfl rfl ?_
          refine xi_getfield (pc' := 72) (v := .ref 125) kc_26_69 rfl rfl rfl eh1.1 rfl ?_
          refine xi_iload_n (pc' := 73) (x := 10) kc_26_72 rfl rfl ?_
          refine xi_iaload (pc' := 74) (v := (-9)) kc_26_73 rfl ((eh1.2.1 125 (by decide)).trans (F 125 _ hl_125)) (by decide) rfl (xi_in (n := 12) (by decide) (by decide)) rfl ?_
          refine xi_ireturn kc_26_74 mr_26 rfl ?_
          show xw J ov 100 196 (510, [(4, .int 0), (3, .ref 167), (2, .ref 115), (1, .ref 0), (0, .ref 1000000)], [.int (-9), .int (-9)], hh1) _
          refine xi_cmt (pc' := 1528) kc_196_510 rfl rfl ?_
          refine xi_iinc (pc' := 1531) (x := 0) (v := 6) (lv' := [(4, .int 6), (3, .ref 167), (2, .ref 115), (1, .ref 0), (0, .ref 1000000)]) kc_196_1528 rfl rfl rfl rfl (xm_lt ml_196 rfl) ?_
          refine xi_goto (pc' := 23) kc_196_1531 rfl ?_
          refine xi_iload (pc' := 25) (x := 6) kc_196_23 rfl rfl ?_
          refine xi_aload_n (pc' := 26) (x := 1000000) kc_196_25 rfl rfl ?_
          refine xi_arraylength (pc' := 27) (n := 6) (v := 6) kc_196_26 rfl (xl_lenO (by decide) hov0 rfl) rfl ?_
          refine xi_bipush (pc' := 29) (v := 6) kc_196_27 rfl rfl ?_
          refine xi_isub (pc' := 30) (v := 0) kc_196_29 rfl rfl ?_
          refine xi_cmt (pc' := 1534) kc_196_30 rfl rfl ?_
          refine xi_iconst (pc' := 1535) (v := 1) kc_196_1534 rfl rfl ?_
          refine xi_ireturn kc_196_1535 mr_196 rfl ?_
          refine ⟨rfl, ?_, ?_⟩
          · rw [eh1.2.2.1]; exact hn0
          · rw [eh1.2.2.2]; exact hz0
        by_cases c85 : a2.toInt = 1
        · refine xi_tsi (pc' := 69) (z := 1) kc_107_24 (by omega) rfl (by decide) ?_
          refine xi_aload_n (pc' := 70) (x := 49) kc_107_69 rfl rfl ?_
          refine xi_getfield (pc' := 73) (v := .int 0) kc_107_70 rfl rfl rfl (F 49 _ hl_49) rfl ?_
          refine xi_ireturn kc_107_73 mr_107 rfl ?_
          show xw J ov 100 196 (494, [(4, .int 0), (3, .ref 167), (2, .ref 115), (1, .ref 0), (0, .ref 1000000)], [.int 0], h0) _
          refine xi_aload_n (pc' := 495) (x := 115) kc_196_494 rfl rfl ?_
          refine xi_aload_n (pc' := 496) (x := 1000000) kc_196_495 rfl rfl ?_
          refine xi_iload (pc' := 498) (x := 0) kc_196_496 rfl rfl ?_
          refine xi_iconst (pc' := 499) (v := 1) kc_196_498 rfl rfl ?_
          refine xi_iadd (pc' := 500) (v := 1) kc_196_499 rfl rfl ?_
          refine xi_ialoadO (pc' := 501) (v := 10) kc_196_500 rfl (by decide) hov0 (xi_in (n := 6) (by decide) (by decide)) rfl ?_
          refine xi_aload_n (pc' := 502) (x := 1000000) kc_196_501 rfl rfl ?_
          refine xi_iload (pc' := 504) (x := 0) kc_196_502 rfl rfl ?_
          refine xi_iconst (pc' := 505) (v := 2) kc_196_504 rfl rfl ?_
          refine xi_iadd (pc' := 506) (v := 2) kc_196_505 rfl rfl ?_
          refine xi_ialoadO (pc' := 507) (v := a2) kc_196_506 rfl (by decide) hov0 (xi_in (n := 6) (by decide) (by decide)) rfl ?_
          refine xi_virtual (mj := 26) (as := [.int 10, .int a2]) (st1 := [.int 0]) (lv0 := [(0, .ref 115), (1, .int 10), (2, .int a2)]) kc_196_507 rfl rfl rfl rfl rfl (F 115 _ hl_115) (Nat.le_of_ble_eq_true rfl) (hJ _ _ _ _ (by decide)) (xm_le ml_26 rfl) rfl ?_
          refine xi_aload_n (pc' := 1) (x := 115) kc_26_0 rfl rfl ?_
          refine xi_iconst (pc' := 2) (v := 0) kc_26_1 rfl rfl ?_
          refine xi_putfield (pc' := 5) (fs' := [.int 0, .int 0, .ref 116, .ref 117, .ref 118, .ref 119, .ref 120, .ref 121, .ref 122, .ref 123, .ref 124, .ref 125, .ref 126, .ref 127, .ref 128, .ref 129, .int 4, .ref 130, .int 0, .ref 131, .ref 132, .ref 133, .ref 134, .int 0, .ref 135, .ref 136, .ref 137, .ref 138, .ref 139, .ref 140, .ref 141, .ref 142, .int 0, .int 0, .int 0, .ref 143, .ref 144, .ref 145, .ref 146, .ref 147, .ref 148, .int 0, .ref 149, .ref 150, .ref 151, .int 0, .ref 152, .ref 153, .ref 154, .ref 155, .ref 156, .ref 157, .ref 158, .ref 159, .int 0, .ref 160, .int 0, .ref 161, .ref 162, .ref 163, .ref 164, .int 0, .ref 165, .ref 166]) kc_26_2 rfl rfl rfl (F 115 _ hl_115) rfl rfl rfl (Nat.le_of_ble_eq_true rfl) rfl (fun hh1 eh1 => ?_)
          refine xi_iload_n (pc' := 6) (x := 10) kc_26_5 rfl rfl ?_
          refine xi_static (mj := 25) (as := [.int 10]) (st1 := []) (lv0 := [(0, .int 10)]) kc_26_6 rfl rfl (Nat.le_of_ble_eq_true rfl) rfl rfl (Nat.le_of_ble_eq_true rfl) (hJ _ _ _ _ (by decide)) (xm_le ml_25 rfl) rfl ?_
          refine xi_iload_n (pc' := 1) (x := 10) kc_25_0 rfl rfl ?_
          refine xi_iconst (pc' := 2) (v := 0) kc_25_1 rfl rfl ?_
          refine xi_bipush (pc' := 4) (v := 11) kc_25_2 rfl rfl ?_
          refine xi_static (mj := 12) (as := [.int 10, .int 0, .int 11]) (st1 := []) (lv0 := [(0, .int 10), (1, .int 0), (2, .int 11)]) kc_25_4 rfl rfl (Nat.le_of_ble_eq_true rfl) rfl rfl (Nat.le_of_ble_eq_true rfl) (hJ _ _ _ _ (by decide)) (xm_le ml_12 rfl) rfl ?_
          refine xi_iload_n (pc' := 1) (x := 10) kc_12_0 rfl rfl ?_
          refine xi_iload_n (pc' := 2) (x := 0) kc_12_1 rfl rfl ?_
          refine xi_cmf (pc' := 5) kc_12_2 rfl rfl ?_
          refine xi_iload_n (pc' := 6) (x := 10) kc_12_5 rfl rfl ?_
          refine xi_iload_n (pc' := 7) (x := 11) kc_12_6 rfl rfl ?_
          refine xi_cmf (pc' := 10) kc_12_7 rfl rfl ?_
          refine xi_iconst (pc' := 11) (v := 1) kc_12_10 rfl rfl ?_
          refine xi_goto (pc' := 15) kc_12_11 rfl ?_
          refine xi_ireturn kc_12_15 mr_12 rfl ?_
          show xw J ov 98 25 (7, [(0, .int 10)], [.int 1], hh1) _
          refine xi_ireturn kc_25_7 mr_25 rfl ?_
          show xw J ov 99 26 (9, [(0, .ref 115), (1, .int 10), (2, .int a2)], [.int 1], hh1) _
          refine xi_ift (pc' := 18) kc_26_9 rfl rfl ?_
          refine xi_iload_n (pc' := 19) (x := a2) kc_26_18 rfl rfl ?_
          refine xi_iconst (pc' := 20) (v := 0) kc_26_19 rfl rfl ?_
          refine xi_iconst (pc' := 21) (v := 5) kc_26_20 rfl rfl ?_
          refine xi_static (mj := 12) (as := [.int a2, .int 0, .int 5]) (st1 := []) (lv0 := [(0, .int a2), (1, .int 0), (2, .int 5)]) kc_26_21 rfl rfl (Nat.le_of_ble_eq_true rfl) rfl rfl (Nat.le_of_ble_eq_true rfl) (hJ _ _ _ _ (by decide)) (xm_le ml_12 rfl) rfl ?_
          refine xi_iload_n (pc' := 1) (x := a2) kc_12_0 rfl rfl ?_
          refine xi_iload_n (pc' := 2) (x := 0) kc_12_1 rfl rfl ?_
          refine xi_cmf (pc' := 5) kc_12_2 rfl (xc_lt_f (X := a2.toInt) (Y := 0) rfl (by decide) (by omega)) ?_
          refine xi_iload_n (pc' := 6) (x := a2) kc_12_5 rfl rfl ?_
          refine xi_iload_n (pc' := 7) (x := 5) kc_12_6 rfl rfl ?_
          refine xi_cmf (pc' := 10) kc_12_7 rfl (xc_gt_f (X := a2.toInt) (Y := 5) rfl (by decide) (by omega)) ?_
          refine xi_iconst (pc' := 11) (v := 1) kc_12_10 rfl rfl ?_
          refine xi_goto (pc' := 15) kc_12_11 rfl ?_
          refine xi_ireturn kc_12_15 mr_12 rfl ?_
          show xw J ov 99 26 (24, [(0, .ref 115), (1, .int 10), (2, .int a2)], [.int 1], hh1) _
          refine xi_ift (pc' := 34) kc_26_24 rfl rfl ?_
          refine xi_iload_n (pc' := 35) (x := a2) kc_26_34 rfl rfl ?_
          refine xi_tsi (pc' := 75) (z := 1) kc_26_35 (by omega) rfl (by decide) ?_
          refine xi_aload_n (pc' := 76) (x := 115) kc_26_75 rfl rfl ?_
          refine xi_getfield (pc' := 79) (v := .ref 126) kc_26_76 rfl rfl rfl eh1.1 rfl ?_
          refine xi_iload_n (pc' := 80) (x := 10) kc_26_79 rfl rfl ?_
          refine xi_iaload (pc' := 81) (v := 0) kc_26_80 rfl ((eh1.2.1 126 (by decide)).trans (F 126 _ hl_126)) (by decide) rfl (xi_in (n := 12) (by decide) (by decide)) rfl ?_
          refine xi_ireturn kc_26_81 mr_26 rfl ?_
          show xw J ov 100 196 (510, [(4, .int 0), (3, .ref 167), (2, .ref 115), (1, .ref 0), (0, .ref 1000000)], [.int 0, .int 0], hh1) _
          refine xi_cmt (pc' := 1528) kc_196_510 rfl rfl ?_
          refine xi_iinc (pc' := 1531) (x := 0) (v := 6) (lv' := [(4, .int 6), (3, .ref 167), (2, .ref 115), (1, .ref 0), (0, .ref 1000000)]) kc_196_1528 rfl rfl rfl rfl (xm_lt ml_196 rfl) ?_
          refine xi_goto (pc' := 23) kc_196_1531 rfl ?_
          refine xi_iload (pc' := 25) (x := 6) kc_196_23 rfl rfl ?_
          refine xi_aload_n (pc' := 26) (x := 1000000) kc_196_25 rfl rfl ?_
          refine xi_arraylength (pc' := 27) (n := 6) (v := 6) kc_196_26 rfl (xl_lenO (by decide) hov0 rfl) rfl ?_
          refine xi_bipush (pc' := 29) (v := 6) kc_196_27 rfl rfl ?_
          refine xi_isub (pc' := 30) (v := 0) kc_196_29 rfl rfl ?_
          refine xi_cmt (pc' := 1534) kc_196_30 rfl rfl ?_
          refine xi_iconst (pc' := 1535) (v := 1) kc_196_1534 rfl rfl ?_
          refine xi_ireturn kc_196_1535 mr_196 rfl ?_
          refine ⟨rfl, ?_, ?_⟩
          · rw [eh1.2.2.1]; exact hn0
          · rw [eh1.2.2.2]; exact hz0
        by_cases c86 : a2.toInt = 2
        · refine xi_tsi (pc' := 74) (z := 2) kc_107_24 (by omega) rfl (by decide) ?_
          refine xi_aload_n (pc' := 75) (x := 49) kc_107_74 rfl rfl ?_
          refine xi_getfield (pc' := 78) (v := .int 0) kc_107_75 rfl rfl rfl (F 49 _ hl_49) rfl ?_
          refine xi_ift (pc' := 85) kc_107_78 rfl rfl ?_
          refine xi_iconst (pc' := 86) (v := 0) kc_107_85 rfl rfl ?_
          refine xi_ireturn kc_107_86 mr_107 rfl ?_
          show xw J ov 100 196 (494, [(4, .int 0), (3, .ref 167), (2, .ref 115), (1, .ref 0), (0, .ref 1000000)], [.int 0], h0) _
          refine xi_aload_n (pc' := 495) (x := 115) kc_196_494 rfl rfl ?_
          refine xi_aload_n (pc' := 496) (x := 1000000) kc_196_495 rfl rfl ?_
          refine xi_iload (pc' := 498) (x := 0) kc_196_496 rfl rfl ?_
          refine xi_iconst (pc' := 499) (v := 1) kc_196_498 rfl rfl ?_
          refine xi_iadd (pc' := 500) (v := 1) kc_196_499 rfl rfl ?_
          refine xi_ialoadO (pc' := 501) (v := 10) kc_196_500 rfl (by decide) hov0 (xi_in (n := 6) (by decide) (by decide)) rfl ?_
          refine xi_aload_n (pc' := 502) (x := 1000000) kc_196_501 rfl rfl ?_
          refine xi_iload (pc' := 504) (x := 0) kc_196_502 rfl rfl ?_
          refine xi_iconst (pc' := 505) (v := 2) kc_196_504 rfl rfl ?_
          refine xi_iadd (pc' := 506) (v := 2) kc_196_505 rfl rfl ?_
          refine xi_ialoadO (pc' := 507) (v := a2) kc_196_506 rfl (by decide) hov0 (xi_in (n := 6) (by decide) (by decide)) rfl ?_
          refine xi_virtual (mj := 26) (as := [.int 10, .int a2]) (st1 := [.int 0]) (lv0 := [(0, .ref 115), (1, .int 10), (2, .int a2)]) kc_196_507 rfl rfl rfl rfl rfl (F 115 _ hl_115) (Nat.le_of_ble_eq_true rfl) (hJ _ _ _ _ (by decide)) (xm_le ml_26 rfl) rfl ?_
          refine xi_aload_n (pc' := 1) (x := 115) kc_26_0 rfl rfl ?_
          refine xi_iconst (pc' := 2) (v := 0) kc_26_1 rfl rfl ?_
          refine xi_putfield (pc' := 5) (fs' := [.int 0, .int 0, .ref 116, .ref 117, .ref 118, .ref 119, .ref 120, .ref 121, .ref 122, .ref 123, .ref 124, .ref 125, .ref 126, .ref 127, .ref 128, .ref 129, .int 4, .ref 130, .int 0, .ref 131, .ref 132, .ref 133, .ref 134, .int 0, .ref 135, .ref 136, .ref 137, .ref 138, .ref 139, .ref 140, .ref 141, .ref 142, .int 0, .int 0, .int 0, .ref 143, .ref 144, .ref 145, .ref 146, .ref 147, .ref 148, .int 0, .ref 149, .ref 150, .ref 151, .int 0, .ref 152, .ref 153, .ref 154, .ref 155, .ref 156, .ref 157, .ref 158, .ref 159, .int 0, .ref 160, .int 0, .ref 161, .ref 162, .ref 163, .ref 164, .int 0, .ref 165, .ref 166]) kc_26_2 rfl rfl rfl (F 115 _ hl_115) rfl rfl rfl (Nat.le_of_ble_eq_true rfl) rfl (fun hh1 eh1 => ?_)
          refine xi_iload_n (pc' := 6) (x := 10) kc_26_5 rfl rfl ?_
          refine xi_static (mj := 25) (as := [.int 10]) (st1 := []) (lv0 := [(0, .int 10)]) kc_26_6 rfl rfl (Nat.le_of_ble_eq_true rfl) rfl rfl (Nat.le_of_ble_eq_true rfl) (hJ _ _ _ _ (by decide)) (xm_le ml_25 rfl) rfl ?_
          refine xi_iload_n (pc' := 1) (x := 10) kc_25_0 rfl rfl ?_
          refine xi_iconst (pc' := 2) (v := 0) kc_25_1 rfl rfl ?_
          refine xi_bipush (pc' := 4) (v := 11) kc_25_2 rfl rfl ?_
          refine xi_static (mj := 12) (as := [.int 10, .int 0, .int 11]) (st1 := []) (lv0 := [(0, .int 10), (1, .int 0), (2, .int 11)]) kc_25_4 rfl rfl (Nat.le_of_ble_eq_true rfl) rfl rfl (Nat.le_of_ble_eq_true rfl) (hJ _ _ _ _ (by decide)) (xm_le ml_12 rfl) rfl ?_
          refine xi_iload_n (pc' := 1) (x := 10) kc_12_0 rfl rfl ?_
          refine xi_iload_n (pc' := 2) (x := 0) kc_12_1 rfl rfl ?_
          refine xi_cmf (pc' := 5) kc_12_2 rfl rfl ?_
          refine xi_iload_n (pc' := 6) (x := 10) kc_12_5 rfl rfl ?_
          refine xi_iload_n (pc' := 7) (x := 11) kc_12_6 rfl rfl ?_
          refine xi_cmf (pc' := 10) kc_12_7 rfl rfl ?_
          refine xi_iconst (pc' := 11) (v := 1) kc_12_10 rfl rfl ?_
          refine xi_goto (pc' := 15) kc_12_11 rfl ?_
          refine xi_ireturn kc_12_15 mr_12 rfl ?_
          show xw J ov 98 25 (7, [(0, .int 10)], [.int 1], hh1) _
          refine xi_ireturn kc_25_7 mr_25 rfl ?_
          show xw J ov 99 26 (9, [(0, .ref 115), (1, .int 10), (2, .int a2)], [.int 1], hh1) _
          refine xi_ift (pc' := 18) kc_26_9 rfl rfl ?_
          refine xi_iload_n (pc' := 19) (x := a2) kc_26_18 rfl rfl ?_
          refine xi_iconst (pc' := 20) (v := 0) kc_26_19 rfl rfl ?_
          refine xi_iconst (pc' := 21) (v := 5) kc_26_20 rfl rfl ?_
          refine xi_static (mj := 12) (as := [.int a2, .int 0, .int 5]) (st1 := []) (lv0 := [(0, .int a2), (1, .int 0), (2, .int 5)]) kc_26_21 rfl rfl (Nat.le_of_ble_eq_true rfl) rfl rfl (Nat.le_of_ble_eq_true rfl) (hJ _ _ _ _ (by decide)) (xm_le ml_12 rfl) rfl ?_
          refine xi_iload_n (pc' := 1) (x := a2) kc_12_0 rfl rfl ?_
          refine xi_iload_n (pc' := 2) (x := 0) kc_12_1 rfl rfl ?_
          refine xi_cmf (pc' := 5) kc_12_2 rfl (xc_lt_f (X := a2.toInt) (Y := 0) rfl (by decide) (by omega)) ?_
          refine xi_iload_n (pc' := 6) (x := a2) kc_12_5 rfl rfl ?_
          refine xi_iload_n (pc' := 7) (x := 5) kc_12_6 rfl rfl ?_
          refine xi_cmf (pc' := 10) kc_12_7 rfl (xc_gt_f (X := a2.toInt) (Y := 5) rfl (by decide) (by omega)) ?_
          refine xi_iconst (pc' := 11) (v := 1) kc_12_10 rfl rfl ?_
          refine xi_goto (pc' := 15) kc_12_11 rfl ?_
          refine xi_ireturn kc_12_15 mr_12 rfl ?_
          show xw J ov 99 26 (24, [(0, .ref 115), (1, .int 10), (2, .int a2)], [.int 1], hh1) _
          refine xi_ift (pc' := 34) kc_26_24 rfl rfl ?_
          refine xi_iload_n (pc' := 35) (x := a2) kc_26_34 rfl rfl ?_
          refine xi_tsi (pc' := 82) (z := 2) kc_26_35 (by omega) rfl (by decide) ?_
          refine xi_aload_n (pc' := 83) (x := 115) kc_26_82 rfl rfl ?_
          refine xi_getfield (pc' := 86) (v := .ref 127) kc_26_83 rfl rfl rfl eh1.1 rfl ?_
          refine xi_iload_n (pc' := 87) (x := 10) kc_26_86 rfl rfl ?_
          refine xi_baload (pc' := 88) (v := 0) kc_26_87 rfl ((eh1.2.1 127 (by decide)).trans (F 127 _ hl_127)) rfl (xi_in (n := 12) (by decide) (by decide)) rfl ?_
          refine xi_ift (pc' := 95) kc_26_88 rfl rfl ?_
          refine xi_iconst (pc' := 96) (v := 0) kc_26_95 rfl rfl ?_
          refine xi_ireturn kc_26_96 mr_26 rfl ?_
          show xw J ov 100 196 (510, [(4, .int 0), (3, .ref 167), (2, .ref 115), (1, .ref 0), (0, .ref 1000000)], [.int 0, .int 0], hh1) _
          refine xi_cmt (pc' := 1528) kc_196_510 rfl rfl ?_
          refine xi_iinc (pc' := 1531) (x := 0) (v := 6) (lv' := [(4, .int 6), (3, .ref 167), (2, .ref 115), (1, .ref 0), (0, .ref 1000000)]) kc_196_1528 rfl rfl rfl rfl (xm_lt ml_196 rfl) ?_
          refine xi_goto (pc' := 23) kc_196_1531 rfl ?_
          refine xi_iload (pc' := 25) (x := 6) kc_196_23 rfl rfl ?_
          refine xi_aload_n (pc' := 26) (x := 1000000) kc_196_25 rfl rfl ?_
          refine xi_arraylength (pc' := 27) (n := 6) (v := 6) kc_196_26 rfl (xl_lenO (by decide) hov0 rfl) rfl ?_
          refine xi_bipush (pc' := 29) (v := 6) kc_196_27 rfl rfl ?_
          refine xi_isub (pc' := 30) (v := 0) kc_196_29 rfl rfl ?_
          refine xi_cmt (pc' := 1534) kc_196_30 rfl rfl ?_
          refine xi_iconst (pc' := 1535) (v := 1) kc_196_1534 rfl rfl ?_
          refine xi_ireturn kc_196_1535 mr_196 rfl ?_
          refine ⟨rfl, ?_, ?_⟩
          · rw [eh1.2.2.1]; exact hn0
          · rw [eh1.2.2.2]; exact hz0
        by_cases c87 : a2.toInt = 3
        · refine xi_tsi (pc' := 87) (z := 3) kc_107_24 (by omega) rfl (by decide) ?_
          refine xi_aload_n (pc' := 88) (x := 0) kc_107_87 rfl rfl ?_
          refine xi_getfield (pc' := 91) (v := .ref 63) kc_107_88 rfl rfl rfl (F 0 _ hl_0) rfl ?_
          refine xi_getfield (pc' := 94) (v := .ref 65) kc_107_91 rfl rfl rfl (F 63 _ hl_63) rfl ?_
          refine xi_iload_n (pc' := 95) (x := 10) kc_107_94 rfl rfl ?_
          refine xi_iaload (pc' := 96) (v := 0) kc_107_95 rfl (F 65 _ hl_65) (by decide) rfl (xi_in (n := 12) (by decide) (by decide)) rfl ?_
          refine xi_ireturn kc_107_96 mr_107 rfl ?_
          show xw J ov 100 196 (494, [(4, .int 0), (3, .ref 167), (2, .ref 115), (1, .ref 0), (0, .ref 1000000)], [.int 0], h0) _
          refine xi_aload_n (pc' := 495) (x := 115) kc_196_494 rfl rfl ?_
          refine xi_aload_n (pc' := 496) (x := 1000000) kc_196_495 rfl rfl ?_
          refine xi_iload (pc' := 498) (x := 0) kc_196_496 rfl rfl ?_
          refine xi_iconst (pc' := 499) (v := 1) kc_196_498 rfl rfl ?_
          refine xi_iadd (pc' := 500) (v := 1) kc_196_499 rfl rfl ?_
          refine xi_ialoadO (pc' := 501) (v := 10) kc_196_500 rfl (by decide) hov0 (xi_in (n := 6) (by decide) (by decide)) rfl ?_
          refine xi_aload_n (pc' := 502) (x := 1000000) kc_196_501 rfl rfl ?_
          refine xi_iload (pc' := 504) (x := 0) kc_196_502 rfl rfl ?_
          refine xi_iconst (pc' := 505) (v := 2) kc_196_504 rfl rfl ?_
          refine xi_iadd (pc' := 506) (v := 2) kc_196_505 rfl rfl ?_
          refine xi_ialoadO (pc' := 507) (v := a2) kc_196_506 rfl (by decide) hov0 (xi_in (n := 6) (by decide) (by decide)) rfl ?_
          refine xi_virtual (mj := 26) (as := [.int 10, .int a2]) (st1 := [.int 0]) (lv0 := [(0, .ref 115), (1, .int 10), (2, .int a2)]) kc_196_507 rfl rfl rfl rfl rfl (F 115 _ hl_115) (Nat.le_of_ble_eq_true rfl) (hJ _ _ _ _ (by decide)) (xm_le ml_26 rfl) rfl ?_
          refine xi_aload_n (pc' := 1) (x := 115) kc_26_0 rfl rfl ?_
          refine xi_iconst (pc' := 2) (v := 0) kc_26_1 rfl rfl ?_
          refine xi_putfield (pc' := 5) (fs' := [.int 0, .int 0, .ref 116, .ref 117, .ref 118, .ref 119, .ref 120, .ref 121, .ref 122, .ref 123, .ref 124, .ref 125, .ref 126, .ref 127, .ref 128, .ref 129, .int 4, .ref 130, .int 0, .ref 131, .ref 132, .ref 133, .ref 134, .int 0, .ref 135, .ref 136, .ref 137, .ref 138, .ref 139, .ref 140, .ref 141, .ref 142, .int 0, .int 0, .int 0, .ref 143, .ref 144, .ref 145, .ref 146, .ref 147, .ref 148, .int 0, .ref 149, .ref 150, .ref 151, .int 0, .ref 152, .ref 153, .ref 154, .ref 155, .ref 156, .ref 157, .ref 158, .ref 159, .int 0, .ref 160, .int 0, .ref 161, .ref 162, .ref 163, .ref 164, .int 0, .ref 165, .ref 166]) kc_26_2 rfl rfl rfl (F 115 _ hl_115) rfl rfl rfl (Nat.le_of_ble_eq_true rfl) rfl (fun hh1 eh1 => ?_)
          refine xi_iload_n (pc' := 6) (x := 10) kc_26_5 rfl rfl ?_
          refine xi_static (mj := 25) (as := [.int 10]) (st1 := []) (lv0 := [(0, .int 10)]) kc_26_6 rfl rfl (Nat.le_of_ble_eq_true rfl) rfl rfl (Nat.le_of_ble_eq_true rfl) (hJ _ _ _ _ (by decide)) (xm_le ml_25 rfl) rfl ?_
          refine xi_iload_n (pc' := 1) (x := 10) kc_25_0 rfl rfl ?_
          refine xi_iconst (pc' := 2) (v := 0) kc_25_1 rfl rfl ?_
          refine xi_bipush (pc' := 4) (v := 11) kc_25_2 rfl rfl ?_
          refine xi_static (mj := 12) (as := [.int 10, .int 0, .int 11]) (st1 := []) (lv0 := [(0, .int 10), (1, .int 0), (2, .int 11)]) kc_25_4 rfl rfl (Nat.le_of_ble_eq_true rfl) rfl rfl (Nat.le_of_ble_eq_true rfl) (hJ _ _ _ _ (by decide)) (xm_le ml_12 rfl) rfl ?_
          refine xi_iload_n (pc' := 1) (x := 10) kc_12_0 rfl rfl ?_
          refine xi_iload_n (pc' := 2) (x := 0) kc_12_1 rfl rfl ?_
          refine xi_cmf (pc' := 5) kc_12_2 rfl rfl ?_
          refine xi_iload_n (pc' := 6) (x := 10) kc_12_5 rfl rfl ?_
          refine xi_iload_n (pc' := 7) (x := 11) kc_12_6 rfl rfl ?_
          refine xi_cmf (pc' := 10) kc_12_7 rfl rfl ?_
          refine xi_iconst (pc' := 11) (v := 1) kc_12_10 rfl rfl ?_
          refine xi_goto (pc' := 15) kc_12_11 rfl ?_
          refine xi_ireturn kc_12_15 mr_12 rfl ?_
          show xw J ov 98 25 (7, [(0, .int 10)], [.int 1], hh1) _
          refine xi_ireturn kc_25_7 mr_25 rfl ?_
          show xw J ov 99 26 (9, [(0, .ref 115), (1, .int 10), (2, .int a2)], [.int 1], hh1) _
          refine xi_ift (pc' := 18) kc_26_9 rfl rfl ?_
          refine xi_iload_n (pc' := 19) (x := a2) kc_26_18 rfl rfl ?_
          refine xi_iconst (pc' := 20) (v := 0) kc_26_19 rfl rfl ?_
          refine xi_iconst (pc' := 21) (v := 5) kc_26_20 rfl rfl ?_
          refine xi_static (mj := 12) (as := [.int a2, .int 0, .int 5]) (st1 := []) (lv0 := [(0, .int a2), (1, .int 0), (2, .int 5)]) kc_26_21 rfl rfl (Nat.le_of_ble_eq_true rfl) rfl rfl (Nat.le_of_ble_eq_true rfl) (hJ _ _ _ _ (by decide)) (xm_le ml_12 rfl) rfl ?_
          refine xi_iload_n (pc' := 1) (x := a2) kc_12_0 rfl rfl ?_
          refine xi_iload_n (pc' := 2) (x := 0) kc_12_1 rfl rfl ?_
          refine xi_cmf (pc' := 5) kc_12_2 rfl (xc_lt_f (X := a2.toInt) (Y := 0) rfl (by decide) (by omega)) ?_
          refine xi_iload_n (pc' := 6) (x := a2) kc_12_5 rfl rfl ?_
          refine xi_iload_n (pc' := 7) (x := 5) kc_12_6 rfl rfl ?_
          refine xi_cmf (pc' := 10) kc_12_7 rfl (xc_gt_f (X := a2.toInt) (Y := 5) rfl (by decide) (by omega)) ?_
          refine xi_iconst (pc' := 11) (v := 1) kc_12_10 rfl rfl ?_
          refine xi_goto (pc' := 15) kc_12_11 rfl ?_
          refine xi_ireturn kc_12_15 mr_12 rfl ?_
          show xw J ov 99 26 (24, [(0, .ref 115), (1, .int 10), (2, .int a2)], [.int 1], hh1) _
          refine xi_ift (pc' := 34) kc_26_24 rfl rfl ?_
          refine xi_iload_n (pc' := 35) (x := a2) kc_26_34 rfl rfl ?_
          refine xi_tsi (pc' := 97) (z := 3) kc_26_35 (by omega) rfl (by decide) ?_
          refine xi_aload_n (pc' := 98) (x := 115) kc_26_97 rfl rfl ?_
          refine xi_getfield (pc' := 101) (v := .ref 128) kc_26_98 rfl rfl rfl eh1.1 rfl ?_
          refine xi_iload_n (pc' := 102) (x := 10) kc_26_101 rfl rfl ?_
          refine xi_iaload (pc' := 103) (v := 0) kc_26_102 rfl ((eh1.2.1 128 (by decide)).trans (F 128 _ hl_128)) (by decide) rfl (xi_in (n := 12) (by decide) (by decide)) rfl ?_
          refine xi_ireturn kc_26_103 mr_26 rfl ?_
          show xw J ov 100 196 (510, [(4, .int 0), (3, .ref 167), (2, .ref 115), (1, .ref 0), (0, .ref 1000000)], [.int 0, .int 0], hh1) _
          refine xi_cmt (pc' := 1528) kc_196_510 rfl rfl ?_
          refine xi_iinc (pc' := 1531) (x := 0) (v := 6) (lv' := [(4, .int 6), (3, .ref 167), (2, .ref 115), (1, .ref 0), (0, .ref 1000000)]) kc_196_1528 rfl rfl rfl rfl (xm_lt ml_196 rfl) ?_
          refine xi_goto (pc' := 23) kc_196_1531 rfl ?_
          refine xi_iload (pc' := 25) (x := 6) kc_196_23 rfl rfl ?_
          refine xi_aload_n (pc' := 26) (x := 1000000) kc_196_25 rfl rfl ?_
          refine xi_arraylength (pc' := 27) (n := 6) (v := 6) kc_196_26 rfl (xl_lenO (by decide) hov0 rfl) rfl ?_
          refine xi_bipush (pc' := 29) (v := 6) kc_196_27 rfl rfl ?_
          refine xi_isub (pc' := 30) (v := 0) kc_196_29 rfl rfl ?_
          refine xi_cmt (pc' := 1534) kc_196_30 rfl rfl ?_
          refine xi_iconst (pc' := 1535) (v := 1) kc_196_1534 rfl rfl ?_
          refine xi_ireturn kc_196_1535 mr_196 rfl ?_
          refine ⟨rfl, ?_, ?_⟩
          · rw [eh1.2.2.1]; exact hn0
          · rw [eh1.2.2.2]; exact hz0
        by_cases c88 : a2.toInt = 4
        · refine xi_tsi (pc' := 97) (z := 4) kc_107_24 (by omega) rfl (by decide) ?_
          refine xi_aload_n (pc' := 98) (x := 49) kc_107_97 rfl rfl ?_
          refine xi_getfield (pc' := 101) (v := .int 0) kc_107_98 rfl rfl rfl (F 49 _ hl_49) rfl ?_
          refine xi_ireturn kc_107_101 mr_107 rfl ?_
          show xw J ov 100 196 (494, [(4, .int 0), (3, .ref 167), (2, .ref 115), (1, .ref 0), (0, .ref 1000000)], [.int 0], h0) _
          refine xi_aload_n (pc' := 495) (x := 115) kc_196_494 rfl rfl ?_
          refine xi_aload_n (pc' := 496) (x := 1000000) kc_196_495 rfl rfl ?_
          refine xi_iload (pc' := 498) (x := 0) kc_196_496 rfl rfl ?_
          refine xi_iconst (pc' := 499) (v := 1) kc_196_498 rfl rfl ?_
          refine xi_iadd (pc' := 500) (v := 1) kc_196_499 rfl rfl ?_
          refine xi_ialoadO (pc' := 501) (v := 10) kc_196_500 rfl (by decide) hov0 (xi_in (n := 6) (by decide) (by decide)) rfl ?_
          refine xi_aload_n (pc' := 502) (x := 1000000) kc_196_501 rfl rfl ?_
          refine xi_iload (pc' := 504) (x := 0) kc_196_502 rfl rfl ?_
          refine xi_iconst (pc' := 505) (v := 2) kc_196_504 rfl rfl ?_
          refine xi_iadd (pc' := 506) (v := 2) kc_196_505 rfl rfl ?_
          refine xi_ialoadO (pc' := 507) (v := a2) kc_196_506 rfl (by decide) hov0 (xi_in (n := 6) (by decide) (by decide)) rfl ?_
          refine xi_virtual (mj := 26) (as := [.int 10, .int a2]) (st1 := [.int 0]) (lv0 := [(0, .ref 115), (1, .int 10), (2, .int a2)]) kc_196_507 rfl rfl rfl rfl rfl (F 115 _ hl_115) (Nat.le_of_ble_eq_true rfl) (hJ _ _ _ _ (by decide)) (xm_le ml_26 rfl) rfl ?_
          refine xi_aload_n (pc' := 1) (x := 115) kc_26_0 rfl rfl ?_
          refine xi_iconst (pc' := 2) (v := 0) kc_26_1 rfl rfl ?_
          refine xi_putfield (pc' := 5) (fs' := [.int 0, .int 0, .ref 116, .ref 117, .ref 118, .ref 119, .ref 120, .ref 121, .ref 122, .ref 123, .ref 124, .ref 125, .ref 126, .ref 127, .ref 128, .ref 129, .int 4, .ref 130, .int 0, .ref 131, .ref 132, .ref 133, .ref 134, .int 0, .ref 135, .ref 136, .ref 137, .ref 138, .ref 139, .ref 140, .ref 141, .ref 142, .int 0, .int 0, .int 0, .ref 143, .ref 144, .ref 145, .ref 146, .ref 147, .ref 148, .int 0, .ref 149, .ref 150, .ref 151, .int 0, .ref 152, .ref 153, .ref 154, .ref 155, .ref 156, .ref 157, .ref 158, .ref 159, .int 0, .ref 160, .int 0, .ref 161, .ref 162, .ref 163, .ref 164, .int 0, .ref 165, .ref 166]) kc_26_2 rfl rfl rfl (F 115 _ hl_115) rfl rfl rfl (Nat.le_of_ble_eq_true rfl) rfl (fun hh1 eh1 => ?_)
          refine xi_iload_n (pc' := 6) (x := 10) kc_26_5 rfl rfl ?_
          refine xi_static (mj := 25) (as := [.int 10]) (st1 := []) (lv0 := [(0, .int 10)]) kc_26_6 rfl rfl (Nat.le_of_ble_eq_true rfl) rfl rfl (Nat.le_of_ble_eq_true rfl) (hJ _ _ _ _ (by decide)) (xm_le ml_25 rfl) rfl ?_
          refine xi_iload_n (pc' := 1) (x := 10) kc_25_0 rfl rfl ?_
          refine xi_iconst (pc' := 2) (v := 0) kc_25_1 rfl rfl ?_
          refine xi_bipush (pc' := 4) (v := 11) kc_25_2 rfl rfl ?_
          refine xi_static (mj := 12) (as := [.int 10, .int 0, .int 11]) (st1 := []) (lv0 := [(0, .int 10), (1, .int 0), (2, .int 11)]) kc_25_4 rfl rfl (Nat.le_of_ble_eq_true rfl) rfl rfl (Nat.le_of_ble_eq_true rfl) (hJ _ _ _ _ (by decide)) (xm_le ml_12 rfl) rfl ?_
          refine xi_iload_n (pc' := 1) (x := 10) kc_12_0 rfl rfl ?_
          refine xi_iload_n (pc' := 2) (x := 0) kc_12_1 rfl rfl ?_
          refine xi_cmf (pc' := 5) kc_12_2 rfl rfl ?_
          refine xi_iload_n (pc' := 6) (x := 10) kc_12_5 rfl rfl ?_
          refine xi_iload_n (pc' := 7) (x := 11) kc_12_6 rfl rfl ?_
          refine xi_cmf (pc' := 10) kc_12_7 rfl rfl ?_
          refine xi_iconst (pc' := 11) (v := 1) kc_12_10 rfl rfl ?_
          refine xi_goto (pc' := 15) kc_12_11 rfl ?_
          refine xi_ireturn kc_12_15 mr_12 rfl ?_
          show xw J ov 98 25 (7, [(0, .int 10)], [.int 1], hh1) _
          refine xi_ireturn kc_25_7 mr_25 rfl ?_
          show xw J ov 99 26 (9, [(0, .ref 115), (1, .int 10), (2, .int a2)], [.int 1], hh1) _
          refine xi_ift (pc' := 18) kc_26_9 rfl rfl ?_
          refine xi_iload_n (pc' := 19) (x := a2) kc_26_18 rfl rfl ?_
          refine xi_iconst (pc' := 20) (v := 0) kc_26_19 rfl rfl ?_
          refine xi_iconst (pc' := 21) (v := 5) kc_26_20 rfl rfl ?_
          refine xi_static (mj := 12) (as := [.int a2, .int 0, .int 5]) (st1 := []) (lv0 := [(0, .int a2), (1, .int 0), (2, .int 5)]) kc_26_21 rfl rfl (Nat.le_of_ble_eq_true rfl) rfl rfl (Nat.le_of_ble_eq_true rfl) (hJ _ _ _ _ (by decide)) (xm_le ml_12 rfl) rfl ?_
          refine xi_iload_n (pc' := 1) (x := a2) kc_12_0 rfl rfl ?_
          refine xi_iload_n (pc' := 2) (x := 0) kc_12_1 rfl rfl ?_
          refine xi_cmf (pc' := 5) kc_12_2 rfl (xc_lt_f (X := a2.toInt) (Y := 0) rfl (by decide) (by omega)) ?_
          refine xi_iload_n (pc' := 6) (x := a2) kc_12_5 rfl rfl ?_
          refine xi_iload_n (pc' := 7) (x := 5) kc_12_6 rfl rfl ?_
          refine xi_cmf (pc' := 10) kc_12_7 rfl (xc_gt_f (X := a2.toInt) (Y := 5) rfl (by decide) (by omega)) ?_
          refine xi_iconst (pc' := 11) (v := 1) kc_12_10 rfl rfl ?_
          refine xi_goto (pc' := 15) kc_12_11 rfl ?_
          refine xi_ireturn kc_12_15 mr_12 rfl ?_
          show xw J ov 99 26 (24, [(0, .ref 115), (1, .int 10), (2, .int a2)], [.int 1], hh1) _
          refine xi_ift (pc' := 34) kc_26_24 rfl rfl ?_
          refine xi_iload_n (pc' := 35) (x := a2) kc_26_34 rfl rfl ?_
          refine xi_tsi (pc' := 104) (z := 4) kc_26_35 (by omega) rfl (by decide) ?_
          refine xi_aload_n (pc' := 105) (x := 115) kc_26_104 rfl rfl ?_
          refine xi_getfield (pc' := 108) (v := .ref 129) kc_26_105 rfl rfl rfl eh1.1 rfl ?_
          refine xi_iload_n (pc' := 109) (x := 10) kc_26_108 rfl rfl ?_
          refine xi_iaload (pc' := 110) (v := 0) kc_26_109 rfl ((eh1.2.1 129 (by decide)).trans (F 129 _ hl_129)) (by decide) rfl (xi_in (n := 12) (by decide) (by decide)) rfl ?_
          refine xi_ireturn kc_26_110 mr_26 rfl ?_
          show xw J ov 100 196 (510, [(4, .int 0), (3, .ref 167), (2, .ref 115), (1, .ref 0), (0, .ref 1000000)], [.int 0, .int 0], hh1) _
          refine xi_cmt (pc' := 1528) kc_196_510 rfl rfl ?_
          refine xi_iinc (pc' := 1531) (x := 0) (v := 6) (lv' := [(4, .int 6), (3, .ref 167), (2, .ref 115), (1, .ref 0), (0, .ref 1000000)]) kc_196_1528 rfl rfl rfl rfl (xm_lt ml_196 rfl) ?_
          refine xi_goto (pc' := 23) kc_196_1531 rfl ?_
          refine xi_iload (pc' := 25) (x := 6) kc_196_23 rfl rfl ?_
          refine xi_aload_n (pc' := 26) (x := 1000000) kc_196_25 rfl rfl ?_
          refine xi_arraylength (pc' := 27) (n := 6) (v := 6) kc_196_26 rfl (xl_lenO (by decide) hov0 rfl) rfl ?_
          refine xi_bipush (pc' := 29) (v := 6) kc_196_27 rfl rfl ?_
          refine xi_isub (pc' := 30) (v := 0) kc_196_29 rfl rfl ?_
          refine xi_cmt (pc' := 1534) kc_196_30 rfl rfl ?_
          refine xi_iconst (pc' := 1535) (v := 1) kc_196_1534 rfl rfl ?_
          refine xi_ireturn kc_196_1535 mr_196 rfl ?_
          refine ⟨rfl, ?_, ?_⟩
          · rw [eh1.2.2.1]; exact hn0
          · rw [eh1.2.2.2]; exact hz0
        by_cases c89 : a2.toInt = 5
        · refine xi_tsi (pc' := 102) (z := 5) kc_107_24 (by omega) rfl (by decide) ?_
          refine xi_aload_n (pc' := 103) (x := 0) kc_107_102 rfl rfl ?_
          refine xi_getfield (pc' := 106) (v := .ref 1) kc_107_103 rfl rfl rfl (F 0 _ hl_0) rfl ?_
          refine xi_iload_n (pc' := 107) (x := 10) kc_107_106 rfl rfl ?_
          refine xi_aload_n (pc' := 108) (x := 0) kc_107_107 rfl rfl ?_
          refine xi_getfield (pc' := 111) (v := .int 0) kc_107_108 rfl rfl rfl (F 0 _ hl_0) rfl ?_
          refine xi_virtual (mj := 108) (as := [.int 10, .int 0]) (st1 := []) (lv0 := [(0, .ref 1), (1, .int 10), (2, .int 0)]) kc_107_111 rfl rfl rfl rfl rfl (F 1 _ hl_1) (Nat.le_of_ble_eq_true rfl) (hJ _ _ _ _ (by decide)) (xm_le ml_108 rfl) rfl ?_
          refine xi_aload_n (pc' := 1) (x := 1) kc_108_0 rfl rfl ?_
          refine xi_iload_n (pc' := 2) (x := 10) kc_108_1 rfl rfl ?_
          refine xi_virtual (mj := 109) (as := [.int 10]) (st1 := []) (lv0 := [(0, .ref 1), (1, .int 10)]) kc_108_2 rfl rfl rfl rfl rfl (F 1 _ hl_1) (Nat.le_of_ble_eq_true rfl) (hJ _ _ _ _ (by decide)) (xm_le ml_109 rfl) rfl ?_
          refine xi_iload_n (pc' := 1) (x := 10) kc_109_0 rfl rfl ?_
          refine xi_static (mj := 105) (as := [.int 10]) (st1 := []) (lv0 := [(0, .int 10)]) kc_109_1 rfl rfl (Nat.le_of_ble_eq_true rfl) rfl rfl (Nat.le_of_ble_eq_true rfl) (hJ _ _ _ _ (by decide)) (xm_le ml_105 rfl) rfl ?_
          refine xi_iload_n (pc' := 1) (x := 10) kc_105_0 rfl rfl ?_
          refine xi_iff (pc' := 4) kc_105_1 rfl rfl ?_
          refine xi_iload_n (pc' := 5) (x := 10) kc_105_4 rfl rfl ?_
          refine xi_bipush (pc' := 7) (v := 12) kc_105_5 rfl rfl ?_
          refine xi_cmf (pc' := 10) kc_105_7 rfl rfl ?_
          refine xi_iconst (pc' := 11) (v := 1) kc_105_10 rfl rfl ?_
          refine xi_goto (pc' := 15) kc_105_11 rfl ?_
          refine xi_ireturn kc_105_15 mr_105 rfl ?_
          show xw J ov 97 109 (4, [(0, .ref 1), (1, .int 10)], [.int 1], h0) _
          refine xi_iff (pc' := 7) kc_109_4 rfl rfl ?_
          refine xi_aload_n (pc' := 8) (x := 1) kc_109_7 rfl rfl ?_
          refine xi_getfield (pc' := 11) (v := .ref 3) kc_109_8 rfl rfl rfl (F 1 _ hl_1) rfl ?_
          refine xi_iload_n (pc' := 12) (x := 10) kc_109_11 rfl rfl ?_
          refine xi_aaload (pc' := 13) (b := 49) kc_109_12 rfl (F 3 _ hl_3) rfl (xi_in (n := 12) (by decide) (by decide)) rfl ?_
          refine xi_virtual (mj := 106) (as := []) (st1 := []) (lv0 := [(0, .ref 49)]) kc_109_13 rfl rfl rfl rfl rfl (F 49 _ hl_49) (Nat.le_of_ble_eq_true rfl) (hJ _ _ _ _ (by decide)) (xm_le ml_106 rfl) rfl ?_
          refine xi_aload_n (pc' := 1) (x := 49) kc_106_0 rfl rfl ?_
          refine xi_getfield (pc' := 4) (v := .int (-9)) kc_106_1 rfl rfl rfl (F 49 _ hl_49) rfl ?_
          refine xi_static (mj := 90) (as := [.int (-9)]) (st1 := []) (lv0 := [(0, .int (-9))]) kc_106_4 rfl rfl (Nat.le_of_ble_eq_true rfl) rfl rfl (Nat.le_of_ble_eq_true rfl) (hJ _ _ _ _ (by decide)) (xm_le ml_90 rfl) rfl ?_
          refine xi_iload_n (pc' := 1) (x := (-9)) kc_90_0 rfl rfl ?_
          refine xi_ift (pc' := 14) kc_90_1 rfl rfl ?_
          refine xi_iconst (pc' := 15) (v := 0) kc_90_14 rfl rfl ?_
          refine xi_ireturn kc_90_15 mr_90 rfl ?_
          show xw J ov 96 106 (7, [(0, .ref 49)], [.int 0], h0) _
          refine xi_ireturn kc_106_7 mr_106 rfl ?_
          show xw J ov 97 109 (16, [(0, .ref 1), (1, .int 10)], [.int 0], h0) _
          refine xi_ift (pc' := 23) kc_109_16 rfl rfl ?_
          refine xi_iconst (pc' := 24) (v := 0) kc_109_23 rfl rfl ?_
          refine xi_ireturn kc_109_24 mr_109 rfl ?_
          show xw J ov 98 108 (5, [(0, .ref 1), (1, .int 10), (2, .int 0)], [.int 0], h0) _
          refine xi_iff (pc' := 8) kc_108_5 rfl rfl ?_
          refine xi_iconst (pc' := 9) (v := 0) kc_108_8 rfl rfl ?_
          refine xi_ireturn kc_108_9 mr_108 rfl ?_
          show xw J ov 99 107 (114, [(3, .ref 49), (0, .ref 0), (1, .int 10), (2, .int a2)], [.int 0], h0) _
          refine xi_ireturn kc_107_114 mr_107 rfl ?_
          show xw J ov 100 196 (494, [(4, .int 0), (3, .ref 167), (2, .ref 115), (1, .ref 0), (0, .ref 1000000)], [.int 0], h0) _
          refine xi_aload_n (pc' := 495) (x := 115) kc_196_494 rfl rfl ?_
          refine xi_aload_n (pc' := 496) (x := 1000000) kc_196_495 rfl rfl ?_
          refine xi_iload (pc' := 498) (x := 0) kc_196_496 rfl rfl ?_
          refine xi_iconst (pc' := 499) (v := 1) kc_196_498 rfl rfl ?_
          refine xi_iadd (pc' := 500) (v := 1) kc_196_499 rfl rfl ?_
          refine xi_ialoadO (pc' := 501) (v := 10) kc_196_500 rfl (by decide) hov0 (xi_in (n := 6) (by decide) (by decide)) rfl ?_
          refine xi_aload_n (pc' := 502) (x := 1000000) kc_196_501 rfl rfl ?_
          refine xi_iload (pc' := 504) (x := 0) kc_196_502 rfl rfl ?_
          refine xi_iconst (pc' := 505) (v := 2) kc_196_504 rfl rfl ?_
          refine xi_iadd (pc' := 506) (v := 2) kc_196_505 rfl rfl ?_
          refine xi_ialoadO (pc' := 507) (v := a2) kc_196_506 rfl (by decide) hov0 (xi_in (n := 6) (by decide) (by decide)) rfl ?_
          refine xi_virtual (mj := 26) (as := [.int 10, .int a2]) (st1 := [.int 0]) (lv0 := [(0, .ref 115), (1, .int 10), (2, .int a2)]) kc_196_507 rfl rfl rfl rfl rfl (F 115 _ hl_115) (Nat.le_of_ble_eq_true rfl) (hJ _ _ _ _ (by decide)) (xm_le ml_26 rfl) rfl ?_
          refine xi_aload_n (pc' := 1) (x := 115) kc_26_0 rfl rfl ?_
          refine xi_iconst (pc' := 2) (v := 0) kc_26_1 rfl rfl ?_
          refine xi_putfield (pc' := 5) (fs' := [.int 0, .int 0, .ref 116, .ref 117, .ref 118, .ref 119, .ref 120, .ref 121, .ref 122, .ref 123, .ref 124, .ref 125, .ref 126, .ref 127, .ref 128, .ref 129, .int 4, .ref 130, .int 0, .ref 131, .ref 132, .ref 133, .ref 134, .int 0, .ref 135, .ref 136, .ref 137, .ref 138, .ref 139, .ref 140, .ref 141, .ref 142, .int 0, .int 0, .int 0, .ref 143, .ref 144, .ref 145, .ref 146, .ref 147, .ref 148, .int 0, .ref 149, .ref 150, .ref 151, .int 0, .ref 152, .ref 153, .ref 154, .ref 155, .ref 156, .ref 157, .ref 158, .ref 159, .int 0, .ref 160, .int 0, .ref 161, .ref 162, .ref 163, .ref 164, .int 0, .ref 165, .ref 166]) kc_26_2 rfl rfl rfl (F 115 _ hl_115) rfl rfl rfl (Nat.le_of_ble_eq_true rfl) rfl (fun hh1 eh1 => ?_)
          refine xi_iload_n (pc' := 6) (x := 10) kc_26_5 rfl rfl ?_
          refine xi_static (mj := 25) (as := [.int 10]) (st1 := []) (lv0 := [(0, .int 10)]) kc_26_6 rfl rfl (Nat.le_of_ble_eq_true rfl) rfl rfl (Nat.le_of_ble_eq_true rfl) (hJ _ _ _ _ (by decide)) (xm_le ml_25 rfl) rfl ?_
          refine xi_iload_n (pc' := 1) (x := 10) kc_25_0 rfl rfl ?_
          refine xi_iconst (pc' := 2) (v := 0) kc_25_1 rfl rfl ?_
          refine xi_bipush (pc' := 4) (v := 11) kc_25_2 rfl rfl ?_
          refine xi_static (mj := 12) (as := [.int 10, .int 0, .int 11]) (st1 := []) (lv0 := [(0, .int 10), (1, .int 0), (2, .int 11)]) kc_25_4 rfl rfl (Nat.le_of_ble_eq_true rfl) rfl rfl (Nat.le_of_ble_eq_true rfl) (hJ _ _ _ _ (by decide)) (xm_le ml_12 rfl) rfl ?_
          refine xi_iload_n (pc' := 1) (x := 10) kc_12_0 rfl rfl ?_
          refine xi_iload_n (pc' := 2) (x := 0) kc_12_1 rfl rfl ?_
          refine xi_cmf (pc' := 5) kc_12_2 rfl rfl ?_
          refine xi_iload_n (pc' := 6) (x := 10) kc_12_5 rfl rfl ?_
          refine xi_iload_n (pc' := 7) (x := 11) kc_12_6 rfl rfl ?_
          refine xi_cmf (pc' := 10) kc_12_7 rfl rfl ?_
          refine xi_iconst (pc' := 11) (v := 1) kc_12_10 rfl rfl ?_
          refine xi_goto (pc' := 15) kc_12_11 rfl ?_
          refine xi_ireturn kc_12_15 mr_12 rfl ?_
          show xw J ov 98 25 (7, [(0, .int 10)], [.int 1], hh1) _
          refine xi_ireturn kc_25_7 mr_25 rfl ?_
          show xw J ov 99 26 (9, [(0, .ref 115), (1, .int 10), (2, .int a2)], [.int 1], hh1) _
          refine xi_ift (pc' := 18) kc_26_9 rfl rfl ?_
          refine xi_iload_n (pc' := 19) (x := a2) kc_26_18 rfl rfl ?_
          refine xi_iconst (pc' := 20) (v := 0) kc_26_19 rfl rfl ?_
          refine xi_iconst (pc' := 21) (v := 5) kc_26_20 rfl rfl ?_
          refine xi_static (mj := 12) (as := [.int a2, .int 0, .int 5]) (st1 := []) (lv0 := [(0, .int a2), (1, .int 0), (2, .int 5)]) kc_26_21 rfl rfl (Nat.le_of_ble_eq_true rfl) rfl rfl (Nat.le_of_ble_eq_true rfl) (hJ _ _ _ _ (by decide)) (xm_le ml_12 rfl) rfl ?_
          refine xi_iload_n (pc' := 1) (x := a2) kc_12_0 rfl rfl ?_
          refine xi_iload_n (pc' := 2) (x := 0) kc_12_1 rfl rfl ?_
          refine xi_cmf (pc' := 5) kc_12_2 rfl (xc_lt_f (X := a2.toInt) (Y := 0) rfl (by decide) (by omega)) ?_
          refine xi_iload_n (pc' := 6) (x := a2) kc_12_5 rfl rfl ?_
          refine xi_iload_n (pc' := 7) (x := 5) kc_12_6 rfl rfl ?_
          refine xi_cmf (pc' := 10) kc_12_7 rfl (xc_gt_f (X := a2.toInt) (Y := 5) rfl (by decide) (by omega)) ?_
          refine xi_iconst (pc' := 11) (v := 1) kc_12_10 rfl rfl ?_
          refine xi_goto (pc' := 15) kc_12_11 rfl ?_
          refine xi_ireturn kc_12_15 mr_12 rfl ?_
          show xw J ov 99 26 (24, [(0, .ref 115), (1, .int 10), (2, .int a2)], [.int 1], hh1) _
          refine xi_ift (pc' := 34) kc_26_24 rfl rfl ?_
          refine xi_iload_n (pc' := 35) (x := a2) kc_26_34 rfl rfl ?_
          refine xi_tsd (pc' := 111) kc_26_35 rfl (by omega) ?_
          refine xi_aload_n (pc' := 112) (x := 115) kc_26_111 rfl rfl ?_
          refine xi_getfield (pc' := 115) (v := .ref 125) kc_26_112 rfl rfl rfl eh1.1 rfl ?_
          refine xi_iload_n (pc' := 116) (x := 10) kc_26_115 rfl rfl ?_
          refine xi_iaload (pc' := 117) (v := (-9)) kc_26_116 rfl ((eh1.2.1 125 (by decide)).trans (F 125 _ hl_125)) (by decide) rfl (xi_in (n := 12) (by decide) (by decide)) rfl ?_
          refine xi_iff (pc' := 120) kc_26_117 rfl rfl ?_
          refine xi_iconst (pc' := 121) (v := 0) kc_26_120 rfl rfl ?_
          refine xi_goto (pc' := 133) kc_26_121 rfl ?_
          refine xi_ireturn kc_26_133 mr_26 rfl ?_
          show xw J ov 100 196 (510, [(4, .int 0), (3, .ref 167), (2, .ref 115), (1, .ref 0), (0, .ref 1000000)], [.int 0, .int 0], hh1) _
          refine xi_cmt (pc' := 1528) kc_196_510 rfl rfl ?_
          refine xi_iinc (pc' := 1531) (x := 0) (v := 6) (lv' := [(4, .int 6), (3, .ref 167), (2, .ref 115), (1, .ref 0), (0, .ref 1000000)]) kc_196_1528 rfl rfl rfl rfl (xm_lt ml_196 rfl) ?_
          refine xi_goto (pc' := 23) kc_196_1531 rfl ?_
          refine xi_iload (pc' := 25) (x := 6) kc_196_23 rfl rfl ?_
          refine xi_aload_n (pc' := 26) (x := 1000000) kc_196_25 rfl rfl ?_
          refine xi_arraylength (pc' := 27) (n := 6) (v := 6) kc_196_26 rfl (xl_lenO (by decide) hov0 rfl) rfl ?_
          refine xi_bipush (pc' := 29) (v := 6) kc_196_27 rfl rfl ?_
          refine xi_isub (pc' := 30) (v := 0) kc_196_29 rfl rfl ?_
          refine xi_cmt (pc' := 1534) kc_196_30 rfl rfl ?_
          refine xi_iconst (pc' := 1535) (v := 1) kc_196_1534 rfl rfl ?_
          refine xi_ireturn kc_196_1535 mr_196 rfl ?_
          refine ⟨rfl, ?_, ?_⟩
          · rw [eh1.2.2.1]; exact hn0
          · rw [eh1.2.2.2]; exact hz0
        refine xi_tsd (pc' := 115) kc_107_24 rfl (by omega) ?_
        refine xi_aload_n (pc' := 116) (x := 0) kc_107_115 rfl rfl ?_
        refine xi_bipush (pc' := 118) (v := (-2)) kc_107_116 rfl rfl ?_
        refine xi_virtual (mj := 91) (as := [.int (-2)]) (st1 := []) (lv0 := [(0, .ref 0), (1, .int (-2))]) kc_107_118 rfl rfl rfl rfl rfl (F 0 _ hl_0) (Nat.le_of_ble_eq_true rfl) (hJ _ _ _ _ (by decide)) (xm_le ml_91 rfl) rfl ?_
        refine xi_iload_n (pc' := 1) (x := (-2)) kc_91_0 rfl rfl ?_
        refine xi_ineg (pc' := 2) (v := 2) kc_91_1 rfl rfl ?_
        refine xi_istore_n (pc' := 3) (lv' := [(2, .int 2), (0, .ref 0), (1, .int (-2))]) kc_91_2 rfl rfl (xm_lt ml_91 rfl) ?_
        refine xi_iload_n (pc' := 4) (x := 2) kc_91_3 rfl rfl ?_
        refine xi_iff (pc' := 7) kc_91_4 rfl rfl ?_
        refine xi_iload_n (pc' := 8) (x := 2) kc_91_7 rfl rfl ?_
        refine xi_aload_n (pc' := 9) (x := 0) kc_91_8 rfl rfl ?_
        refine xi_getfield (pc' := 12) (v := .ref 94) kc_91_9 rfl rfl rfl (F 0 _ hl_0) rfl ?_
        refine xi_arraylength (pc' := 13) (n := 7) (v := 7) kc_91_12 rfl (xl_lenI (by decide) (by decide) (F 94 _ hl_94) (by simp only [List.length_replicate, List.length_cons, List.length_nil])) rfl ?_
        refine xi_cmf (pc' := 16) kc_91_13 rfl rfl ?_
        refine xi_aload_n (pc' := 17) (x := 0) kc_91_16 rfl rfl ?_
        refine xi_getfield (pc' := 20) (v := .ref 94) kc_91_17 rfl rfl rfl (F 0 _ hl_0) rfl ?_
        refine xi_iload_n (pc' := 21) (x := 2) kc_91_20 rfl rfl ?_
        refine xi_dup2 (pc' := 22) kc_91_21 rfl ⟨rfl, rfl⟩ ?_
        refine xi_iaload (pc' := 23) (v := 0) kc_91_22 rfl (F 94 _ hl_94) (by decide) rfl (xi_in (n := 7) (by decide) (by decide)) rfl ?_
        refine xi_iconst (pc' := 24) (v := 1) kc_91_23 rfl rfl ?_
        refine xi_iadd (pc' := 25) (v := 1) kc_91_24 rfl rfl ?_
        refine xi_iastore (pc' := 26) (x' := [0, 0, 1, 0, 0, 0, 0]) kc_91_25 rfl (F 94 _ hl_94) rfl (xi_in (n := 7) (by decide) (by decide)) rfl (fun hh1 eh1 => ?_)
        refine xi_iload_n (pc' := 27) (x := (-2)) kc_91_26 rfl rfl ?_
        refine xi_ireturn kc_91_27 mr_91 rfl ?_
        show xw J ov 99 107 (121, [(3, .ref 49), (0, .ref 0), (1, .int 10), (2, .int a2)], [.int (-2)], hh1) _
        refine xi_ireturn kc_107_121 mr_107 rfl ?_
        show xw J ov 100 196 (494, [(4, .int 0), (3, .ref 167), (2, .ref 115), (1, .ref 0), (0, .ref 1000000)], [.int (-2)], hh1) _
        refine xi_aload_n (pc' := 495) (x := 115) kc_196_494 rfl rfl ?_
        refine xi_aload_n (pc' := 496) (x := 1000000) kc_196_495 rfl rfl ?_
        refine xi_iload (pc' := 498) (x := 0) kc_196_496 rfl rfl ?_
        refine xi_iconst (pc' := 499) (v := 1) kc_196_498 rfl rfl ?_
        refine xi_iadd (pc' := 500) (v := 1) kc_196_499 rfl rfl ?_
        refine xi_ialoadO (pc' := 501) (v := 10) kc_196_500 rfl (by decide) hov0 (xi_in (n := 6) (by decide) (by decide)) rfl ?_
        refine xi_aload_n (pc' := 502) (x := 1000000) kc_196_501 rfl rfl ?_
        refine xi_iload (pc' := 504) (x := 0) kc_196_502 rfl rfl ?_
        refine xi_iconst (pc' := 505) (v := 2) kc_196_504 rfl rfl ?_
        refine xi_iadd (pc' := 506) (v := 2) kc_196_505 rfl rfl ?_
        refine xi_ialoadO (pc' := 507) (v := a2) kc_196_506 rfl (by decide) hov0 (xi_in (n := 6) (by decide) (by decide)) rfl ?_
        refine xi_virtual (mj := 26) (as := [.int 10, .int a2]) (st1 := [.int (-2)]) (lv0 := [(0, .ref 115), (1, .int 10), (2, .int a2)]) kc_196_507 rfl rfl rfl rfl rfl ((eh1.2.1 115 (by decide)).trans (F 115 _ hl_115)) (Nat.le_of_ble_eq_true rfl) (hJ _ _ _ _ (by decide)) (xm_le ml_26 rfl) rfl ?_
        refine xi_aload_n (pc' := 1) (x := 115) kc_26_0 rfl rfl ?_
        refine xi_iconst (pc' := 2) (v := 0) kc_26_1 rfl rfl ?_
        refine xi_putfield (pc' := 5) (fs' := [.int 0, .int 0, .ref 116, .ref 117, .ref 118, .ref 119, .ref 120, .ref 121, .ref 122, .ref 123, .ref 124, .ref 125, .ref 126, .ref 127, .ref 128, .ref 129, .int 4, .ref 130, .int 0, .ref 131, .ref 132, .ref 133, .ref 134, .int 0, .ref 135, .ref 136, .ref 137, .ref 138, .ref 139, .ref 140, .ref 141, .ref 142, .int 0, .int 0, .int 0, .ref 143, .ref 144, .ref 145, .ref 146, .ref 147, .ref 148, .int 0, .ref 149, .ref 150, .ref 151, .int 0, .ref 152, .ref 153, .ref 154, .ref 155, .ref 156, .ref 157, .ref 158, .ref 159, .int 0, .ref 160, .int 0, .ref 161, .ref 162, .ref 163, .ref 164, .int 0, .ref 165, .ref 166]) kc_26_2 rfl rfl rfl ((eh1.2.1 115 (by decide)).trans (F 115 _ hl_115)) rfl rfl rfl (Nat.le_of_ble_eq_true rfl) rfl (fun hh2 eh2 => ?_)
        refine xi_iload_n (pc' := 6) (x := 10) kc_26_5 rfl rfl ?_
        refine xi_static (mj := 25) (as := [.int 10]) (st1 := []) (lv0 := [(0, .int 10)]) kc_26_6 rfl rfl (Nat.le_of_ble_eq_true rfl) rfl rfl (Nat.le_of_ble_eq_true rfl) (hJ _ _ _ _ (by decide)) (xm_le ml_25 rfl) rfl ?_
        refine xi_iload_n (pc' := 1) (x := 10) kc_25_0 rfl rfl ?_
        refine xi_iconst (pc' := 2) (v := 0) kc_25_1 rfl rfl ?_
        refine xi_bipush (pc' := 4) (v := 11) kc_25_2 rfl rfl ?_
        refine xi_static (mj := 12) (as := [.int 10, .int 0, .int 11]) (st1 := []) (lv0 := [(0, .int 10), (1, .int 0), (2, .int 11)]) kc_25_4 rfl rfl (Nat.le_of_ble_eq_true rfl) rfl rfl (Nat.le_of_ble_eq_true rfl) (hJ _ _ _ _ (by decide)) (xm_le ml_12 rfl) rfl ?_
        refine xi_iload_n (pc' := 1) (x := 10) kc_12_0 rfl rfl ?_
        refine xi_iload_n (pc' := 2) (x := 0) kc_12_1 rfl rfl ?_
        refine xi_cmf (pc' := 5) kc_12_2 rfl rfl ?_
        refine xi_iload_n (pc' := 6) (x := 10) kc_12_5 rfl rfl ?_
        refine xi_iload_n (pc' := 7) (x := 11) kc_12_6 rfl rfl ?_
        refine xi_cmf (pc' := 10) kc_12_7 rfl rfl ?_
        refine xi_iconst (pc' := 11) (v := 1) kc_12_10 rfl rfl ?_
        refine xi_goto (pc' := 15) kc_12_11 rfl ?_
        refine xi_ireturn kc_12_15 mr_12 rfl ?_
        show xw J ov 98 25 (7, [(0, .int 10)], [.int 1], hh2) _
        refine xi_ireturn kc_25_7 mr_25 rfl ?_
        show xw J ov 99 26 (9, [(0, .ref 115), (1, .int 10), (2, .int a2)], [.int 1], hh2) _
        refine xi_ift (pc' := 18) kc_26_9 rfl rfl ?_
        refine xi_iload_n (pc' := 19) (x := a2) kc_26_18 rfl rfl ?_
        refine xi_iconst (pc' := 20) (v := 0) kc_26_19 rfl rfl ?_
        refine xi_iconst (pc' := 21) (v := 5) kc_26_20 rfl rfl ?_
        refine xi_static (mj := 12) (as := [.int a2, .int 0, .int 5]) (st1 := []) (lv0 := [(0, .int a2), (1, .int 0), (2, .int 5)]) kc_26_21 rfl rfl (Nat.le_of_ble_eq_true rfl) rfl rfl (Nat.le_of_ble_eq_true rfl) (hJ _ _ _ _ (by decide)) (xm_le ml_12 rfl) rfl ?_
        refine xi_iload_n (pc' := 1) (x := a2) kc_12_0 rfl rfl ?_
        refine xi_iload_n (pc' := 2) (x := 0) kc_12_1 rfl rfl ?_
        by_cases c90 : a2.toInt < 0
        · refine xi_cmt (pc' := 14) kc_12_2 rfl (xc_lt_t (X := a2.toInt) (Y := 0) rfl (by decide) (by omega)) ?_
          refine xi_iconst (pc' := 15) (v := 0) kc_12_14 rfl rfl ?_
          refine xi_ireturn kc_12_15 mr_12 rfl ?_
          show xw J ov 99 26 (24, [(0, .ref 115), (1, .int 10), (2, .int a2)], [.int 0], hh2) _
          refine xi_iff (pc' := 27) kc_26_24 rfl rfl ?_
          refine xi_aload_n (pc' := 28) (x := 115) kc_26_27 rfl rfl ?_
          refine xi_bipush (pc' := 30) (v := (-2)) kc_26_28 rfl rfl ?_
          refine xi_virtual (mj := 13) (as := [.int (-2)]) (st1 := []) (lv0 := [(0, .ref 115), (1, .int (-2))]) kc_26_30 rfl rfl rfl rfl rfl eh2.1 (Nat.le_of_ble_eq_true rfl) (hJ _ _ _ _ (by decide)) (xm_le ml_13 rfl) rfl ?_
          refine xi_aload_n (pc' := 1) (x := 115) kc_13_0 rfl rfl ?_
          refine xi_getfield (pc' := 4) (v := .ref 140) kc_13_1 rfl rfl rfl eh2.1 rfl ?_
          refine xi_iload_n (pc' := 5) (x := (-2)) kc_13_4 rfl rfl ?_
          refine xi_ineg (pc' := 6) (v := 2) kc_13_5 rfl rfl ?_
          refine xi_dup2 (pc' := 7) kc_13_6 rfl ⟨rfl, rfl⟩ ?_
          refine xi_iaload (pc' := 8) (v := 0) kc_13_7 rfl ((eh2.2.1 140 (by decide)).trans ((eh1.2.1 140 (by decide)).trans (F 140 _ hl_140))) (by decide) rfl (xi_in (n := 7) (by decide) (by decide)) rfl ?_
          refine xi_iconst (pc' := 9) (v := 1) kc_13_8 rfl rfl ?_
          refine xi_iadd (pc' := 10) (v := 1) kc_13_9 rfl rfl ?_
          refine xi_iastore (pc' := 11) (x' := [0, 0, 1, 0, 0, 0, 0]) kc_13_10 rfl ((eh2.2.1 140 (by decide)).trans ((eh1.2.1 140 (by decide)).trans (F 140 _ hl_140))) rfl (xi_in (n := 7) (by decide) (by decide)) rfl (fun hh3 eh3 => ?_)
          refine xi_iload_n (pc' := 12) (x := (-2)) kc_13_11 rfl rfl ?_
          refine xi_ireturn kc_13_12 mr_13 rfl ?_
          show xw J ov 99 26 (33, [(0, .ref 115), (1, .int 10), (2, .int a2)], [.int (-2)], hh3) _
          refine xi_ireturn kc_26_33 mr_26 rfl ?_
          show xw J ov 100 196 (510, [(4, .int 0), (3, .ref 167), (2, .ref 115), (1, .ref 0), (0, .ref 1000000)], [.int (-2), .int (-2)], hh3) _
          refine xi_cmt (pc' := 1528) kc_196_510 rfl rfl ?_
          refine xi_iinc (pc' := 1531) (x := 0) (v := 6) (lv' := [(4, .int 6), (3, .ref 167), (2, .ref 115), (1, .ref 0), (0, .ref 1000000)]) kc_196_1528 rfl rfl rfl rfl (xm_lt ml_196 rfl) ?_
          refine xi_goto (pc' := 23) kc_196_1531 rfl ?_
          refine xi_iload (pc' := 25) (x := 6) kc_196_23 rfl rfl ?_
          refine xi_aload_n (pc' := 26) (x := 1000000) kc_196_25 rfl rfl ?_
          refine xi_arraylength (pc' := 27) (n := 6) (v := 6) kc_196_26 rfl (xl_lenO (by decide) hov0 rfl) rfl ?_
          refine xi_bipush (pc' := 29) (v := 6) kc_196_27 rfl rfl ?_
          refine xi_isub (pc' := 30) (v := 0) kc_196_29 rfl rfl ?_
          refine xi_cmt (pc' := 1534) kc_196_30 rfl rfl ?_
          refine xi_iconst (pc' := 1535) (v := 1) kc_196_1534 rfl rfl ?_
          refine xi_ireturn kc_196_1535 mr_196 rfl ?_
          refine ⟨rfl, ?_, ?_⟩
          · rw [eh3.2.2.1, eh2.2.2.1, eh1.2.2.1]; exact hn0
          · rw [eh3.2.2.2, eh2.2.2.2, eh1.2.2.2]; exact hz0
        · refine xi_cmf (pc' := 5) kc_12_2 rfl (xc_lt_f (X := a2.toInt) (Y := 0) rfl (by decide) (by omega)) ?_
          refine xi_iload_n (pc' := 6) (x := a2) kc_12_5 rfl rfl ?_
          refine xi_iload_n (pc' := 7) (x := 5) kc_12_6 rfl rfl ?_
          refine xi_cmt (pc' := 14) kc_12_7 rfl (xc_gt_t (X := a2.toInt) (Y := 5) rfl (by decide) (by omega)) ?_
          refine xi_iconst (pc' := 15) (v := 0) kc_12_14 rfl rfl ?_
          refine xi_ireturn kc_12_15 mr_12 rfl ?_
          show xw J ov 99 26 (24, [(0, .ref 115), (1, .int 10), (2, .int a2)], [.int 0], hh2) _
          refine xi_iff (pc' := 27) kc_26_24 rfl rfl ?_
          refine xi_aload_n (pc' := 28) (x := 115) kc_26_27 rfl rfl ?_
          refine xi_bipush (pc' := 30) (v := (-2)) kc_26_28 rfl rfl ?_
          refine xi_virtual (mj := 13) (as := [.int (-2)]) (st1 := []) (lv0 := [(0, .ref 115), (1, .int (-2))]) kc_26_30 rfl rfl rfl rfl rfl eh2.1 (Nat.le_of_ble_eq_true rfl) (hJ _ _ _ _ (by decide)) (xm_le ml_13 rfl) rfl ?_
          refine xi_aload_n (pc' := 1) (x := 115) kc_13_0 rfl rfl ?_
          refine xi_getfield (pc' := 4) (v := .ref 140) kc_13_1 rfl rfl rfl eh2.1 rfl ?_
          refine xi_iload_n (pc' := 5) (x := (-2)) kc_13_4 rfl rfl ?_
          refine xi_ineg (pc' := 6) (v := 2) kc_13_5 rfl rfl ?_
          refine xi_dup2 (pc' := 7) kc_13_6 rfl ⟨rfl, rfl⟩ ?_
          refine xi_iaload (pc' := 8) (v := 0) kc_13_7 rfl ((eh2.2.1 140 (by decide)).trans ((eh1.2.1 140 (by decide)).trans (F 140 _ hl_140))) (by decide) rfl (xi_in (n := 7) (by decide) (by decide)) rfl ?_
          refine xi_iconst (pc' := 9) (v := 1) kc_13_8 rfl rfl ?_
          refine xi_iadd (pc' := 10) (v := 1) kc_13_9 rfl rfl ?_
          refine xi_iastore (pc' := 11) (x' := [0, 0, 1, 0, 0, 0, 0]) kc_13_10 rfl ((eh2.2.1 140 (by decide)).trans ((eh1.2.1 140 (by decide)).trans (F 140 _ hl_140))) rfl (xi_in (n := 7) (by decide) (by decide)) rfl (fun hh3 eh3 => ?_)
          refine xi_iload_n (pc' := 12) (x := (-2)) kc_13_11 rfl rfl ?_
          refine xi_ireturn kc_13_12 mr_13 rfl ?_
          show xw J ov 99 26 (33, [(0, .ref 115), (1, .int 10), (2, .int a2)], [.int (-2)], hh3) _
          refine xi_ireturn kc_26_33 mr_26 rfl ?_
          show xw J ov 100 196 (510, [(4, .int 0), (3, .ref 167), (2, .ref 115), (1, .ref 0), (0, .ref 1000000)], [.int (-2), .int (-2)], hh3) _
          refine xi_cmt (pc' := 1528) kc_196_510 rfl rfl ?_
          refine xi_iinc (pc' := 1531) (x := 0) (v := 6) (lv' := [(4, .int 6), (3, .ref 167), (2, .ref 115), (1, .ref 0), (0, .ref 1000000)]) kc_196_1528 rfl rfl rfl rfl (xm_lt ml_196 rfl) ?_
          refine xi_goto (pc' := 23) kc_196_1531 rfl ?_
          refine xi_iload (pc' := 25) (x := 6) kc_196_23 rfl rfl ?_
          refine xi_aload_n (pc' := 26) (x := 1000000) kc_196_25 rfl rfl ?_
          refine xi_arraylength (pc' := 27) (n := 6) (v := 6) kc_196_26 rfl (xl_lenO (by decide) hov0 rfl) rfl ?_
          refine xi_bipush (pc' := 29) (v := 6) kc_196_27 rfl rfl ?_
          refine xi_isub (pc' := 30) (v := 0) kc_196_29 rfl rfl ?_
          refine xi_cmt (pc' := 1534) kc_196_30 rfl rfl ?_
          refine xi_iconst (pc' := 1535) (v := 1) kc_196_1534 rfl rfl ?_
          refine xi_ireturn kc_196_1535 mr_196 rfl ?_
          refine ⟨rfl, ?_, ?_⟩
          · rw [eh3.2.2.1, eh2.2.2.1, eh1.2.2.1]; exact hn0
          · rw [eh3.2.2.2, eh2.2.2.2, eh1.2.2.2]; exact hz0
      have qa1 : a1 = 11 := xc_of (Eq.trans (by omega) (show (11 : Int) = (11 : Int32).toInt by decide))
      subst qa1
      refine xi_aaload (pc' := 22) (b := 51) kc_107_21 rfl (F 3 _ hl_3) rfl (xi_in (n := 12) (by decide) (by decide)) rfl ?_
      refine xi_astore_n (pc' := 23) (lv' := [(3, .ref 51), (0, .ref 0), (1, .int 11), (2, .int a2)]) kc_107_22 rfl rfl (xm_lt ml_107 rfl) ?_
      refine xi_iload_n (pc' := 24) (x := a2) kc_107_23 rfl rfl ?_
      by_cases c91 : a2.toInt = 0
      · refine xi_tsi (pc' := 64) (z := 0) kc_107_24 (by omega) rfl (by decide) ?_
        refine xi_aload_n (pc' := 65) (x := 51) kc_107_64 rfl rfl ?_
        refine xi_getfield (pc' := 68) (v := .int (-9)) kc_107_65 rfl rfl rfl (F 51 _ hl_51) rfl ?_
        refine xi_ireturn kc_107_68 mr_107 rfl ?_
        show xw J ov 100 196 (494, [(4, .int 0), (3, .ref 167), (2, .ref 115), (1, .ref 0), (0, .ref 1000000)], [.int (-9)], h0) _
        refine xi_aload_n (pc' := 495) (x := 115) kc_196_494 rfl rfl ?_
        refine xi_aload_n (pc' := 496) (x := 1000000) kc_196_495 rfl rfl ?_
        refine xi_iload (pc' := 498) (x := 0) kc_196_496 rfl rfl ?_
        refine xi_iconst (pc' := 499) (v := 1) kc_196_498 rfl rfl ?_
        refine xi_iadd (pc' := 500) (v := 1) kc_196_499 rfl rfl ?_
        refine xi_ialoadO (pc' := 501) (v := 11) kc_196_500 rfl (by decide) hov0 (xi_in (n := 6) (by decide) (by decide)) rfl ?_
        refine xi_aload_n (pc' := 502) (x := 1000000) kc_196_501 rfl rfl ?_
        refine xi_iload (pc' := 504) (x := 0) kc_196_502 rfl rfl ?_
        refine xi_iconst (pc' := 505) (v := 2) kc_196_504 rfl rfl ?_
        refine xi_iadd (pc' := 506) (v := 2) kc_196_505 rfl rfl ?_
        refine xi_ialoadO (pc' := 507) (v := a2) kc_196_506 rfl (by decide) hov0 (xi_in (n := 6) (by decide) (by decide)) rfl ?_
        refine xi_virtual (mj := 26) (as := [.int 11, .int a2]) (st1 := [.int (-9)]) (lv0 := [(0, .ref 115), (1, .int 11), (2, .int a2)]) kc_196_507 rfl rfl rfl rfl rfl (F 115 _ hl_115) (Nat.le_of_ble_eq_true rfl) (hJ _ _ _ _ (by decide)) (xm_le ml_26 rfl) rfl ?_
        refine xi_aload_n (pc' := 1) (x := 115) kc_26_0 rfl rfl ?_
        refine xi_iconst (pc' := 2) (v := 0) kc_26_1 rfl rfl ?_
        refine xi_putfield (pc' := 5) (fs' := [.int 0, .int 0, .ref 116, .ref 117, .ref 118, .ref 119, .ref 120, .ref 121, .ref 122, .ref 123, .ref 124, .ref 125, .ref 126, .ref 127, .ref 128, .ref 129, .int 4, .ref 130, .int 0, .ref 131, .ref 132, .ref 133, .ref 134, .int 0, .ref 135, .ref 136, .ref 137, .ref 138, .ref 139, .ref 140, .ref 141, .ref 142, .int 0, .int 0, .int 0, .ref 143, .ref 144, .ref 145, .ref 146, .ref 147, .ref 148, .int 0, .ref 149, .ref 150, .ref 151, .int 0, .ref 152, .ref 153, .ref 154, .ref 155, .ref 156, .ref 157, .ref 158, .ref 159, .int 0, .ref 160, .int 0, .ref 161, .ref 162, .ref 163, .ref 164, .int 0, .ref 165, .ref 166]) kc_26_2 rfl rfl rfl (F 115 _ hl_115) rfl rfl rfl (Nat.le_of_ble_eq_true rfl) rfl (fun hh1 eh1 => ?_)
        refine xi_iload_n (pc' := 6) (x := 11) kc_26_5 rfl rfl ?_
        refine xi_static (mj := 25) (as := [.int 11]) (st1 := []) (lv0 := [(0, .int 11)]) kc_26_6 rfl rfl (Nat.le_of_ble_eq_true rfl) rfl rfl (Nat.le_of_ble_eq_true rfl) (hJ _ _ _ _ (by decide)) (xm_le ml_25 rfl) rfl ?_
        refine xi_iload_n (pc' := 1) (x := 11) kc_25_0 rfl rfl ?_
        refine xi_iconst (pc' := 2) (v := 0) kc_25_1 rfl rfl ?_
        refine xi_bipush (pc' := 4) (v := 11) kc_25_2 rfl rfl ?_
        refine xi_static (mj := 12) (as := [.int 11, .int 0, .int 11]) (st1 := []) (lv0 := [(0, .int 11), (1, .int 0), (2, .int 11)]) kc_25_4 rfl rfl (Nat.le_of_ble_eq_true rfl) rfl rfl (Nat.le_of_ble_eq_true rfl) (hJ _ _ _ _ (by decide)) (xm_le ml_12 rfl) rfl ?_
        refine xi_iload_n (pc' := 1) (x := 11) kc_12_0 rfl rfl ?_
        refine xi_iload_n (pc' := 2) (x := 0) kc_12_1 rfl rfl ?_
        refine xi_cmf (pc' := 5) kc_12_2 rfl rfl ?_
        refine xi_iload_n (pc' := 6) (x := 11) kc_12_5 rfl rfl ?_
        refine xi_iload_n (pc' := 7) (x := 11) kc_12_6 rfl rfl ?_
        refine xi_cmf (pc' := 10) kc_12_7 rfl rfl ?_
        refine xi_iconst (pc' := 11) (v := 1) kc_12_10 rfl rfl ?_
        refine xi_goto (pc' := 15) kc_12_11 rfl ?_
        refine xi_ireturn kc_12_15 mr_12 rfl ?_
        show xw J ov 98 25 (7, [(0, .int 11)], [.int 1], hh1) _
        refine xi_ireturn kc_25_7 mr_25 rfl ?_
        show xw J ov 99 26 (9, [(0, .ref 115), (1, .int 11), (2, .int a2)], [.int 1], hh1) _
        refine xi_ift (pc' := 18) kc_26_9 rfl rfl ?_
        refine xi_iload_n (pc' := 19) (x := a2) kc_26_18 rfl rfl ?_
        refine xi_iconst (pc' := 20) (v := 0) kc_26_19 rfl rfl ?_
        refine xi_iconst (pc' := 21) (v := 5) kc_26_20 rfl rfl ?_
        refine xi_static (mj := 12) (as := [.int a2, .int 0, .int 5]) (st1 := []) (lv0 := [(0, .int a2), (1, .int 0), (2, .int 5)]) kc_26_21 rfl rfl (Nat.le_of_ble_eq_true rfl) rfl rfl (Nat.le_of_ble_eq_true rfl) (hJ _ _ _ _ (by decide)) (xm_le ml_12 rfl) rfl ?_
        refine xi_iload_n (pc' := 1) (x := a2) kc_12_0 rfl rfl ?_
        refine xi_iload_n (pc' := 2) (x := 0) kc_12_1 rfl rfl ?_
        refine xi_cmf (pc' := 5) kc_12_2 rfl (xc_lt_f (X := a2.toInt) (Y := 0) rfl (by decide) (by omega)) ?_
        refine xi_iload_n (pc' := 6) (x := a2) kc_12_5 rfl rfl ?_
        refine xi_iload_n (pc' := 7) (x := 5) kc_12_6 rfl rfl ?_
        refine xi_cmf (pc' := 10) kc_12_7 rfl (xc_gt_f (X := a2.toInt) (Y := 5) rfl (by decide) (by omega)) ?_
        refine xi_iconst (pc' := 11) (v := 1) kc_12_10 rfl rfl ?_
        refine xi_goto (pc' := 15) kc_12_11 rfl ?_
        refine xi_ireturn kc_12_15 mr_12 rfl ?_
        show xw J ov 99 26 (24, [(0, .ref 115), (1, .int 11), (2, .int a2)], [.int 1], hh1) _
        refine xi_ift (pc' := 34) kc_26_24 rfl rfl ?_
        refine xi_iload_n (pc' := 35) (x := a2) kc_26_34 rfl rfl ?_
        refine xi_tsi (pc' := 68) (z := 0) kc_26_35 (by omega) rfl (by decide) ?_
        refine xi_aload_n (pc' := 69) (x := 115) kc_26_68 rfl rfl ?_
        refine xi_getfield (pc' := 72) (v := .ref 125) kc_26_69 rfl rfl rfl eh1.1 rfl ?_
        refine xi_iload_n (pc' := 73) (x := 11) kc_26_72 rfl rfl ?_
        refine xi_iaload (pc' := 74) (v := (-9)) kc_26_73 rfl ((eh1.2.1 125 (by decide)).trans (F 125 _ hl_125)) (by decide) rfl (xi_in (n := 12) (by decide) (by decide)) rfl ?_
        refine xi_ireturn kc_26_74 mr_26 rfl ?_
        show xw J ov 100 196 (510, [(4, .int 0), (3, .ref 167), (2, .ref 115), (1, .ref 0), (0, .ref 1000000)], [.int (-9), .int (-9)], hh1) _
        refine xi_cmt (pc' := 1528) kc_196_510 rfl rfl ?_
        refine xi_iinc (pc' := 1531) (x := 0) (v := 6) (lv' := [(4, .int 6), (3, .ref 167), (2, .ref 115), (1, .ref 0), (0, .ref 1000000)]) kc_196_1528 rfl rfl rfl rfl (xm_lt ml_196 rfl) ?_
        refine xi_goto (pc' := 23) kc_196_1531 rfl ?_
        refine xi_iload (pc' := 25) (x := 6) kc_196_23 rfl rfl ?_
        refine xi_aload_n (pc' := 26) (x := 1000000) kc_196_25 rfl rfl ?_
        refine xi_arraylength (pc' := 27) (n := 6) (v := 6) kc_196_26 rfl (xl_lenO (by decide) hov0 rfl) rfl ?_
        refine xi_bipush (pc' := 29) (v := 6) kc_196_27 rfl rfl ?_
        refine xi_isub (pc' := 30) (v := 0) kc_196_29 rfl rfl ?_
        refine xi_cmt (pc' := 1534) kc_196_30 rfl rfl ?_
        refine xi_iconst (pc' := 1535) (v := 1) kc_196_1534 rfl rfl ?_
        refine xi_ireturn kc_196_1535 mr_196 rfl ?_
        refine ⟨rfl, ?_, ?_⟩
        · rw [eh1.2.2.1]; exact hn0
        · rw [eh1.2.2.2]; exact hz0
      by_cases c92 : a2.toInt = 1
      · refine xi_tsi (pc' := 69) (z := 1) kc_107_24 (by omega) rfl (by decide) ?_
        refine xi_aload_n (pc' := 70) (x := 51) kc_107_69 rfl rfl ?_
        refine xi_getfield (pc' := 73) (v := .int 0) kc_107_70 rfl rfl rfl (F 51 _ hl_51) rfl ?_
        refine xi_ireturn kc_107_73 mr_107 rfl ?_
        show xw J ov 100 196 (494, [(4, .int 0), (3, .ref 167), (2, .ref 115), (1, .ref 0), (0, .ref 1000000)], [.int 0], h0) _
        refine xi_aload_n (pc' := 495) (x := 115) kc_196_494 rfl rfl ?_
        refine xi_aload_n (pc' := 496) (x := 1000000) kc_196_495 rfl rfl ?_
        refine xi_iload (pc' := 498) (x := 0) kc_196_496 rfl rfl ?_
        refine xi_iconst (pc' := 499) (v := 1) kc_196_498 rfl rfl ?_
        refine xi_iadd (pc' := 500) (v := 1) kc_196_499 rfl rfl ?_
        refine xi_ialoadO (pc' := 501) (v := 11) kc_196_500 rfl (by decide) hov0 (xi_in (n := 6) (by decide) (by decide)) rfl ?_
        refine xi_aload_n (pc' := 502) (x := 1000000) kc_196_501 rfl rfl ?_
        refine xi_iload (pc' := 504) (x := 0) kc_196_502 rfl rfl ?_
        refine xi_iconst (pc' := 505) (v := 2) kc_196_504 rfl rfl ?_
        refine xi_iadd (pc' := 506) (v := 2) kc_196_505 rfl rfl ?_
        refine xi_ialoadO (pc' := 507) (v := a2) kc_196_506 rfl (by decide) hov0 (xi_in (n := 6) (by decide) (by decide)) rfl ?_
        refine xi_virtual (mj := 26) (as := [.int 11, .int a2]) (st1 := [.int 0]) (lv0 := [(0, .ref 115), (1, .int 11), (2, .int a2)]) kc_196_507 rfl rfl rfl rfl rfl (F 115 _ hl_115) (Nat.le_of_ble_eq_true rfl) (hJ _ _ _ _ (by decide)) (xm_le ml_26 rfl) rfl ?_
        refine xi_aload_n (pc' := 1) (x := 115) kc_26_0 rfl rfl ?_
        refine xi_iconst (pc' := 2) (v := 0) kc_26_1 rfl rfl ?_
        refine xi_putfield (pc' := 5) (fs' := [.int 0, .int 0, .ref 116, .ref 117, .ref 118, .ref 119, .ref 120, .ref 121, .ref 122, .ref 123, .ref 124, .ref 125, .ref 126, .ref 127, .ref 128, .ref 129, .int 4, .ref 130, .int 0, .ref 131, .ref 132, .ref 133, .ref 134, .int 0, .ref 135, .ref 136, .ref 137, .ref 138, .ref 139, .ref 140, .ref 141, .ref 142, .int 0, .int 0, .int 0, .ref 143, .ref 144, .ref 145, .ref 146, .ref 147, .ref 148, .int 0, .ref 149, .ref 150, .ref 151, .int 0, .ref 152, .ref 153, .ref 154, .ref 155, .ref 156, .ref 157, .ref 158, .ref 159, .int 0, .ref 160, .int 0, .ref 161, .ref 162, .ref 163, .ref 164, .int 0, .ref 165, .ref 166]) kc_26_2 rfl rfl rfl (F 115 _ hl_115) rfl rfl rfl (Nat.le_of_ble_eq_true rfl) rfl (fun hh1 eh1 => ?_)
        refine xi_iload_n (pc' := 6) (x := 11) kc_26_5 rfl rfl ?_
        refine xi_static (mj := 25) (as := [.int 11]) (st1 := []) (lv0 := [(0, .int 11)]) kc_26_6 rfl rfl (Nat.le_of_ble_eq_true rfl) rfl rfl (Nat.le_of_ble_eq_true rfl) (hJ _ _ _ _ (by decide)) (xm_le ml_25 rfl) rfl ?_
        refine xi_iload_n (pc' := 1) (x := 11) kc_25_0 rfl rfl ?_
        refine xi_iconst (pc' := 2) (v := 0) kc_25_1 rfl rfl ?_
        refine xi_bipush (pc' := 4) (v := 11) kc_25_2 rfl rfl ?_
        refine xi_static (mj := 12) (as := [.int 11, .int 0, .int 11]) (st1 := []) (lv0 := [(0, .int 11), (1, .int 0), (2, .int 11)]) kc_25_4 rfl rfl (Nat.le_of_ble_eq_true rfl) rfl rfl (Nat.le_of_ble_eq_true rfl) (hJ _ _ _ _ (by decide)) (xm_le ml_12 rfl) rfl ?_
        refine xi_iload_n (pc' := 1) (x := 11) kc_12_0 rfl rfl ?_
        refine xi_iload_n (pc' := 2) (x := 0) kc_12_1 rfl rfl ?_
        refine xi_cmf (pc' := 5) kc_12_2 rfl rfl ?_
        refine xi_iload_n (pc' := 6) (x := 11) kc_12_5 rfl rfl ?_
        refine xi_iload_n (pc' := 7) (x := 11) kc_12_6 rfl rfl ?_
        refine xi_cmf (pc' := 10) kc_12_7 rfl rfl ?_
        refine xi_iconst (pc' := 11) (v := 1) kc_12_10 rfl rfl ?_
        refine xi_goto (pc' := 15) kc_12_11 rfl ?_
        refine xi_ireturn kc_12_15 mr_12 rfl ?_
        show xw J ov 98 25 (7, [(0, .int 11)], [.int 1], hh1) _
        refine xi_ireturn kc_25_7 mr_25 rfl ?_
        show xw J ov 99 26 (9, [(0, .ref 115), (1, .int 11), (2, .int a2)], [.int 1], hh1) _
        refine xi_ift (pc' := 18) kc_26_9 rfl rfl ?_
        refine xi_iload_n (pc' := 19) (x := a2) kc_26_18 rfl rfl ?_
        refine xi_iconst (pc' := 20) (v := 0) kc_26_19 rfl rfl ?_
        refine xi_iconst (pc' := 21) (v := 5) kc_26_20 rfl rfl ?_
        refine xi_static (mj := 12) (as := [.int a2, .int 0, .int 5]) (st1 := []) (lv0 := [(0, .int a2), (1, .int 0), (2, .int 5)]) kc_26_21 rfl rfl (Nat.le_of_ble_eq_true rfl) rfl rfl (Nat.le_of_ble_eq_true rfl) (hJ _ _ _ _ (by decide)) (xm_le ml_12 rfl) rfl ?_
        refine xi_iload_n (pc' := 1) (x := a2) kc_12_0 rfl rfl ?_
        refine xi_iload_n (pc' := 2) (x := 0) kc_12_1 rfl rfl ?_
        refine xi_cmf (pc' := 5) kc_12_2 rfl (xc_lt_f (X := a2.toInt) (Y := 0) rfl (by decide) (by omega)) ?_
        refine xi_iload_n (pc' := 6) (x := a2) kc_12_5 rfl rfl ?_
        refine xi_iload_n (pc' := 7) (x := 5) kc_12_6 rfl rfl ?_
        refine xi_cmf (pc' := 10) kc_12_7 rfl (xc_gt_f (X := a2.toInt) (Y := 5) rfl (by decide) (by omega)) ?_
        refine xi_iconst (pc' := 11) (v := 1) kc_12_10 rfl rfl ?_
        refine xi_goto (pc' := 15) kc_12_11 rfl ?_
        refine xi_ireturn kc_12_15 mr_12 rfl ?_
        show xw J ov 99 26 (24, [(0, .ref 115), (1, .int 11), (2, .int a2)], [.int 1], hh1) _
        refine xi_ift (pc' := 34) kc_26_24 rfl rfl ?_
        refine xi_iload_n (pc' := 35) (x := a2) kc_26_34 rfl rfl ?_
        refine xi_tsi (pc' := 75) (z := 1) kc_26_35 (by omega) rfl (by decide) ?_
        refine xi_aload_n (pc' := 76) (x := 115) kc_26_75 rfl rfl ?_
        refine xi_getfield (pc' := 79) (v := .ref 126) kc_26_76 rfl rfl rfl eh1.1 rfl ?_
        refine xi_iload_n (pc' := 80) (x := 11) kc_26_79 rfl rfl ?_
        refine xi_iaload (pc' := 81) (v := 0) kc_26_80 rfl ((eh1.2.1 126 (by decide)).trans (F 126 _ hl_126)) (by decide) rfl (xi_in (n := 12) (by decide) (by decide)) rfl ?_
        refine xi_ireturn kc_26_81 mr_26 rfl ?_
        show xw J ov 100 196 (510, [(4, .int 0), (3, .ref 167), (2, .ref 115), (1, .ref 0), (0, .ref 1000000)], [.int 0, .int 0], hh1) _
        refine xi_cmt (pc' := 1528) kc_196_510 rfl rfl ?_
        refine xi_iinc (pc' := 1531) (x := 0) (v := 6) (lv' := [(4, .int 6), (3, .ref 167), (2, .ref 115), (1, .ref 0), (0, .ref 1000000)]) kc_196_1528 rfl rfl rfl rfl (xm_lt ml_196 rfl) ?_
        refine xi_goto (pc' := 23) kc_196_1531 rfl ?_
        refine xi_iload (pc' := 25) (x := 6) kc_196_23 rfl rfl ?_
        refine xi_aload_n (pc' := 26) (x := 1000000) kc_196_25 rfl rfl ?_
        refine xi_arraylength (pc' := 27) (n := 6) (v := 6) kc_196_26 rfl (xl_lenO (by decide) hov0 rfl) rfl ?_
        refine xi_bipush (pc' := 29) (v := 6) kc_196_27 rfl rfl ?_
        refine xi_isub (pc' := 30) (v := 0) kc_196_29 rfl rfl ?_
        refine xi_cmt (pc' := 1534) kc_196_30 rfl rfl ?_
        refine xi_iconst (pc' := 1535) (v := 1) kc_196_1534 rfl rfl ?_
        refine xi_ireturn kc_196_1535 mr_196 rfl ?_
        refine ⟨rfl, ?_, ?_⟩
        · rw [eh1.2.2.1]; exact hn0
        · rw [eh1.2.2.2]; exact hz0
      by_cases c93 : a2.toInt = 2
      · refine xi_tsi (pc' := 74) (z := 2) kc_107_24 (by omega) rfl (by decide) ?_
        refine xi_aload_n (pc' := 75) (x := 51) kc_107_74 rfl rfl ?_
        refine xi_getfield (pc' := 78) (v := .int 0) kc_107_75 rfl rfl rfl (F 51 _ hl_51) rfl ?_
        refine xi_ift (pc' := 85) kc_107_78 rfl rfl ?_
        refine xi_iconst (pc' := 86) (v := 0) kc_107_85 rfl rfl ?_
        refine xi_ireturn kc_107_86 mr_107 rfl ?_
        show xw J ov 100 196 (494, [(4, .int 0), (3, .ref 167), (2, .ref 115), (1, .ref 0), (0, .ref 1000000)], [.int 0], h0) _
        refine xi_aload_n (pc' := 495) (x := 115) kc_196_494 rfl rfl ?_
        refine xi_aload_n (pc' := 496) (x := 1000000) kc_196_495 rfl rfl ?_
        refine xi_iload (pc' := 498) (x := 0) kc_196_496 rfl rfl ?_
        refine xi_iconst (pc' := 499) (v := 1) kc_196_498 rfl rfl ?_
        refine xi_iadd (pc' := 500) (v := 1) kc_196_499 rfl rfl ?_
        refine xi_ialoadO (pc' := 501) (v := 11) kc_196_500 rfl (by decide) hov0 (xi_in (n := 6) (by decide) (by decide)) rfl ?_
        refine xi_aload_n (pc' := 502) (x := 1000000) kc_196_501 rfl rfl ?_
        refine xi_iload (pc' := 504) (x := 0) kc_196_502 rfl rfl ?_
        refine xi_iconst (pc' := 505) (v := 2) kc_196_504 rfl rfl ?_
        refine xi_iadd (pc' := 506) (v := 2) kc_196_505 rfl rfl ?_
        refine xi_ialoadO (pc' := 507) (v := a2) kc_196_506 rfl (by decide) hov0 (xi_in (n := 6) (by decide) (by decide)) rfl ?_
        refine xi_virtual (mj := 26) (as := [.int 11, .int a2]) (st1 := [.int 0]) (lv0 := [(0, .ref 115), (1, .int 11), (2, .int a2)]) kc_196_507 rfl rfl rfl rfl rfl (F 115 _ hl_115) (Nat.le_of_ble_eq_true rfl) (hJ _ _ _ _ (by decide)) (xm_le ml_26 rfl) rfl ?_
        refine xi_aload_n (pc' := 1) (x := 115) kc_26_0 rfl rfl ?_
        refine xi_iconst (pc' := 2) (v := 0) kc_26_1 rfl rfl ?_
        refine xi_putfield (pc' := 5) (fs' := [.int 0, .int 0, .ref 116, .ref 117, .ref 118, .ref 119, .ref 120, .ref 121, .ref 122, .ref 123, .ref 124, .ref 125, .ref 126, .ref 127, .ref 128, .ref 129, .int 4, .ref 130, .int 0, .ref 131, .ref 132, .ref 133, .ref 134, .int 0, .ref 135, .ref 136, .ref 137, .ref 138, .ref 139, .ref 140, .ref 141, .ref 142, .int 0, .int 0, .int 0, .ref 143, .ref 144, .ref 145, .ref 146, .ref 147, .ref 148, .int 0, .ref 149, .ref 150, .ref 151, .int 0, .ref 152, .ref 153, .ref 154, .ref 155, .ref 156, .ref 157, .ref 158, .ref 159, .int 0, .ref 160, .int 0, .ref 161, .ref 162, .ref 163, .ref 164, .int 0, .ref 165, .ref 166]) kc_26_2 rfl rfl rfl (F 115 _ hl_115) rfl rfl rfl (Nat.le_of_ble_eq_true rfl) rfl (fun hh1 eh1 => ?_)
        refine xi_iload_n (pc' := 6) (x := 11) kc_26_5 rfl rfl ?_
        refine xi_static (mj := 25) (as := [.int 11]) (st1 := []) (lv0 := [(0, .int 11)]) kc_26_6 rfl rfl (Nat.le_of_ble_eq_true rfl) rfl rfl (Nat.le_of_ble_eq_true rfl) (hJ _ _ _ _ (by decide)) (xm_le ml_25 rfl) rfl ?_
        refine xi_iload_n (pc' := 1) (x := 11) kc_25_0 rfl rfl ?_
        refine xi_iconst (pc' := 2) (v := 0) kc_25_1 rfl rfl ?_
        refine xi_bipush (pc' := 4) (v := 11) kc_25_2 rfl rfl ?_
        refine xi_static (mj := 12) (as := [.int 11, .int 0, .int 11]) (st1 := []) (lv0 := [(0, .int 11), (1, .int 0), (2, .int 11)]) kc_25_4 rfl rfl (Nat.le_of_ble_eq_true rfl) rfl rfl (Nat.le_of_ble_eq_true rfl) (hJ _ _ _ _ (by decide)) (xm_le ml_12 rfl) rfl ?_
        refine xi_iload_n (pc' := 1) (x := 11) kc_12_0 rfl rfl ?_
        refine xi_iload_n (pc' := 2) (x := 0) kc_12_1 rfl rfl ?_
        refine xi_cmf (pc' := 5) kc_12_2 rfl rfl ?_
        refine xi_iload_n (pc' := 6) (x := 11) kc_12_5 rfl rfl ?_
        refine xi_iload_n (pc' := 7) (x := 11) kc_12_6 rfl rfl ?_
        refine xi_cmf (pc' := 10) kc_12_7 rfl rfl ?_
        refine xi_iconst (pc' := 11) (v := 1) kc_12_10 rfl rfl ?_
        refine xi_goto (pc' := 15) kc_12_11 rfl ?_
        refine xi_ireturn kc_12_15 mr_12 rfl ?_
        show xw J ov 98 25 (7, [(0, .int 11)], [.int 1], hh1) _
        refine xi_ireturn kc_25_7 mr_25 rfl ?_
        show xw J ov 99 26 (9, [(0, .ref 115), (1, .int 11), (2, .int a2)], [.int 1], hh1) _
        refine xi_ift (pc' := 18) kc_26_9 rfl rfl ?_
        refine xi_iload_n (pc' := 19) (x := a2) kc_26_18 rfl rfl ?_
        refine xi_iconst (pc' := 20) (v := 0) kc_26_19 rfl rfl ?_
        refine xi_iconst (pc' := 21) (v := 5) kc_26_20 rfl rfl ?_
        refine xi_static (mj := 12) (as := [.int a2, .int 0, .int 5]) (st1 := []) (lv0 := [(0, .int a2), (1, .int 0), (2, .int 5)]) kc_26_21 rfl rfl (Nat.le_of_ble_eq_true rfl) rfl rfl (Nat.le_of_ble_eq_true rfl) (hJ _ _ _ _ (by decide)) (xm_le ml_12 rfl) rfl ?_
        refine xi_iload_n (pc' := 1) (x := a2) kc_12_0 rfl rfl ?_
        refine xi_iload_n (pc' := 2) (x := 0) kc_12_1 rfl rfl ?_
        refine xi_cmf (pc' := 5) kc_12_2 rfl (xc_lt_f (X := a2.toInt) (Y := 0) rfl (by decide) (by omega)) ?_
        refine xi_iload_n (pc' := 6) (x := a2) kc_12_5 rfl rfl ?_
        refine xi_iload_n (pc' := 7) (x := 5) kc_12_6 rfl rfl ?_
        refine xi_cmf (pc' := 10) kc_12_7 rfl (xc_gt_f (X := a2.toInt) (Y := 5) rfl (by decide) (by omega)) ?_
        refine xi_iconst (pc' := 11) (v := 1) kc_12_10 rfl rfl ?_
        refine xi_goto (pc' := 15) kc_12_11 rfl ?_
        refine xi_ireturn kc_12_15 mr_12 rfl ?_
        show xw J ov 99 26 (24, [(0, .ref 115), (1, .int 11), (2, .int a2)], [.int 1], hh1) _
        refine xi_ift (pc' := 34) kc_26_24 rfl rfl ?_
        refine xi_iload_n (pc' := 35) (x := a2) kc_26_34 rfl rfl ?_
        refine xi_tsi (pc' := 82) (z := 2) kc_26_35 (by omega) rfl (by decide) ?_
        refine xi_aload_n (pc' := 83) (x := 115) kc_26_82 rfl rfl ?_
        refine xi_getfield (pc' := 86) (v := .ref 127) kc_26_83 rfl rfl rfl eh1.1 rfl ?_
        refine xi_iload_n (pc' := 87) (x := 11) kc_26_86 rfl rfl ?_
        refine xi_baload (pc' := 88) (v := 0) kc_26_87 rfl ((eh1.2.1 127 (by decide)).trans (F 127 _ hl_127)) rfl (xi_in (n := 12) (by decide) (by decide)) rfl ?_
        refine xi_ift (pc' := 95) kc_26_88 rfl rfl ?_
        refine xi_iconst (pc' := 96) (v := 0) kc_26_95 rfl rfl ?_
        refine xi_ireturn kc_26_96 mr_26 rfl ?_
        show xw J ov 100 196 (510, [(4, .int 0), (3, .ref 167), (2, .ref 115), (1, .ref 0), (0, .ref 1000000)], [.int 0, .int 0], hh1) _
        refine xi_cmt (pc' := 1528) kc_196_510 rfl rfl ?_
        refine xi_iinc (pc' := 1531) (x := 0) (v := 6) (lv' := [(4, .int 6), (3, .ref 167), (2, .ref 115), (1, .ref 0), (0, .ref 1000000)]) kc_196_1528 rfl rfl rfl rfl (xm_lt ml_196 rfl) ?_
        refine xi_goto (pc' := 23) kc_196_1531 rfl ?_
        refine xi_iload (pc' := 25) (x := 6) kc_196_23 rfl rfl ?_
        refine xi_aload_n (pc' := 26) (x := 1000000) kc_196_25 rfl rfl ?_
        refine xi_arraylength (pc' := 27) (n := 6) (v := 6) kc_196_26 rfl (xl_lenO (by decide) hov0 rfl) rfl ?_
        refine xi_bipush (pc' := 29) (v := 6) kc_196_27 rfl rfl ?_
        refine xi_isub (pc' := 30) (v := 0) kc_196_29 rfl rfl ?_
        refine xi_cmt (pc' := 1534) kc_196_30 rfl rfl ?_
        refine xi_iconst (pc' := 1535) (v := 1) kc_196_1534 rfl rfl ?_
        refine xi_ireturn kc_196_1535 mr_196 rfl ?_
        refine ⟨rfl, ?_, ?_⟩
        · rw [eh1.2.2.1]; exact hn0
        · rw [eh1.2.2.2]; exact hz0
      by_cases c94 : a2.toInt = 3
      · refine xi_tsi (pc' := 87) (z := 3) kc_107_24 (by omega) rfl (by decide) ?_
        refine xi_aload_n (pc' := 88) (x := 0) kc_107_87 rfl rfl ?_
        refine xi_getfield (pc' := 91) (v := .ref 63) kc_107_88 rfl rfl rfl (F 0 _ hl_0) rfl ?_
        refine xi_getfield (pc' := 94) (v := .ref 65) kc_107_91 rfl rfl rfl (F 63 _ hl_63) rfl ?_
        refine xi_iload_n (pc' := 95) (x := 11) kc_107_94 rfl rfl ?_
        refine xi_iaload (pc' := 96) (v := 0) kc_107_95 rfl (F 65 _ hl_65) (by decide) rfl (xi_in (n := 12) (by decide) (by decide)) rfl ?_
        refine xi_ireturn kc_107_96 mr_107 rfl ?_
        show xw J ov 100 196 (494, [(4, .int 0), (3, .ref 167), (2, .ref 115), (1, .ref 0), (0, .ref 1000000)], [.int 0], h0) _
        refine xi_aload_n (pc' := 495) (x := 115) kc_196_494 rfl rfl ?_
        refine xi_aload_n (pc' := 496) (x := 1000000) kc_196_495 rfl rfl ?_
        refine xi_iload (pc' := 498) (x := 0) kc_196_496 rfl rfl ?_
        refine xi_iconst (pc' := 499) (v := 1) kc_196_498 rfl rfl ?_
        refine xi_iadd (pc' := 500) (v := 1) kc_196_499 rfl rfl ?_
        refine xi_ialoadO (pc' := 501) (v := 11) kc_196_500 rfl (by decide) hov0 (xi_in (n := 6) (by decide) (by decide)) rfl ?_
        refine xi_aload_n (pc' := 502) (x := 1000000) kc_196_501 rfl rfl ?_
        refine xi_iload (pc' := 504) (x := 0) kc_196_502 rfl rfl ?_
        refine xi_iconst (pc' := 505) (v := 2) kc_196_504 rfl rfl ?_
        refine xi_iadd (pc' := 506) (v := 2) kc_196_505 rfl rfl ?_
        refine xi_ialoadO (pc' := 507) (v := a2) kc_196_506 rfl (by decide) hov0 (xi_in (n := 6) (by decide) (by decide)) rfl ?_
        refine xi_virtual (mj := 26) (as := [.int 11, .int a2]) (st1 := [.int 0]) (lv0 := [(0, .ref 115), (1, .int 11), (2, .int a2)]) kc_196_507 rfl rfl rfl rfl rfl (F 115 _ hl_115) (Nat.le_of_ble_eq_true rfl) (hJ _ _ _ _ (by decide)) (xm_le ml_26 rfl) rfl ?_
        refine xi_aload_n (pc' := 1) (x := 115) kc_26_0 rfl rfl ?_
        refine xi_iconst (pc' := 2) (v := 0) kc_26_1 rfl rfl ?_
        refine xi_putfield (pc' := 5) (fs' := [.int 0, .int 0, .ref 116, .ref 117, .ref 118, .ref 119, .ref 120, .ref 121, .ref 122, .ref 123, .ref 124, .ref 125, .ref 126, .ref 127, .ref 128, .ref 129, .int 4, .ref 130, .int 0, .ref 131, .ref 132, .ref 133, .ref 134, .int 0, .ref 135, .ref 136, .ref 137, .ref 138, .ref 139, .ref 140, .ref 141, .ref 142, .int 0, .int 0, .int 0, .ref 143, .ref 144, .ref 145, .ref 146, .ref 147, .ref 148, .int 0, .ref 149, .ref 150, .ref 151, .int 0, .ref 152, .ref 153, .ref 154, .ref 155, .ref 156, .ref 157, .ref 158, .ref 159, .int 0, .ref 160, .int 0, .ref 161, .ref 162, .ref 163, .ref 164, .int 0, .ref 165, .ref 166]) kc_26_2 rfl rfl rfl (F 115 _ hl_115) rfl rfl rfl (Nat.le_of_ble_eq_true rfl) rfl (fun hh1 eh1 => ?_)
        refine xi_iload_n (pc' := 6) (x := 11) kc_26_5 rfl rfl ?_
        refine xi_static (mj := 25) (as := [.int 11]) (st1 := []) (lv0 := [(0, .int 11)]) kc_26_6 rfl rfl (Nat.le_of_ble_eq_true rfl) rfl rfl (Nat.le_of_ble_eq_true rfl) (hJ _ _ _ _ (by decide)) (xm_le ml_25 rfl) rfl ?_
        refine xi_iload_n (pc' := 1) (x := 11) kc_25_0 rfl rfl ?_
        refine xi_iconst (pc' := 2) (v := 0) kc_25_1 rfl rfl ?_
        refine xi_bipush (pc' := 4) (v := 11) kc_25_2 rfl rfl ?_
        refine xi_static (mj := 12) (as := [.int 11, .int 0, .int 11]) (st1 := []) (lv0 := [(0, .int 11), (1, .int 0), (2, .int 11)]) kc_25_4 rfl rfl (Nat.le_of_ble_eq_true rfl) rfl rfl (Nat.le_of_ble_eq_true rfl) (hJ _ _ _ _ (by decide)) (xm_le ml_12 rfl) rfl ?_
        refine xi_iload_n (pc' := 1) (x := 11) kc_12_0 rfl rfl ?_
        refine xi_iload_n (pc' := 2) (x := 0) kc_12_1 rfl rfl ?_
        refine xi_cmf (pc' := 5) kc_12_2 rfl rfl ?_
        refine xi_iload_n (pc' := 6) (x := 11) kc_12_5 rfl rfl ?_
        refine xi_iload_n (pc' := 7) (x := 11) kc_12_6 rfl rfl ?_
        refine xi_cmf (pc' := 10) kc_12_7 rfl rfl ?_
        refine xi_iconst (pc' := 11) (v := 1) kc_12_10 rfl rfl ?_
        refine xi_goto (pc' := 15) kc_12_11 rfl ?_
        refine xi_ireturn kc_12_15 mr_12 rfl ?_
        show xw J ov 98 25 (7, [(0, .int 11)], [.int 1], hh1) _
        refine xi_ireturn kc_25_7 mr_25 rfl ?_
        show xw J ov 99 26 (9, [(0, .ref 115), (1, .int 11), (2, .int a2)], [.int 1], hh1) _
        refine xi_ift (pc' := 18) kc_26_9 rfl rfl ?_
        refine xi_iload_n (pc' := 19) (x := a2) kc_26_18 rfl rfl ?_
        refine xi_iconst (pc' := 20) (v := 0) kc_26_19 rfl rfl ?_
        refine xi_iconst (pc' := 21) (v := 5) kc_26_20 rfl rfl ?_
        refine xi_static (mj := 12) (as := [.int a2, .int 0, .int 5]) (st1 := []) (lv0 := [(0, .int a2), (1, .int 0), (2, .int 5)]) kc_26_21 rfl rfl (Nat.le_of_ble_eq_true rfl) rfl rfl (Nat.le_of_ble_eq_true rfl) (hJ _ _ _ _ (by decide)) (xm_le ml_12 rfl) rfl ?_
        refine xi_iload_n (pc' := 1) (x := a2) kc_12_0 rfl rfl ?_
        refine xi_iload_n (pc' := 2) (x := 0) kc_12_1 rfl rfl ?_
        refine xi_cmf (pc' := 5) kc_12_2 rfl (xc_lt_f (X := a2.toInt) (Y := 0) rfl (by decide) (by omega)) ?_
        refine xi_iload_n (pc' := 6) (x := a2) kc_12_5 rfl rfl ?_
        refine xi_iload_n (pc' := 7) (x := 5) kc_12_6 rfl rfl ?_
        refine xi_cmf (pc' := 10) kc_12_7 rfl (xc_gt_f (X := a2.toInt) (Y := 5) rfl (by decide) (by omega)) ?_
        refine xi_iconst (pc' := 11) (v := 1) kc_12_10 rfl rfl ?_
        refine xi_goto (pc' := 15) kc_12_11 rfl ?_
        refine xi_ireturn kc_12_15 mr_12 rfl ?_
        show xw J ov 99 26 (24, [(0, .ref 115), (1, .int 11), (2, .int a2)], [.int 1], hh1) _
        refine xi_ift (pc' := 34) kc_26_24 rfl rfl ?_
        refine xi_iload_n (pc' := 35) (x := a2) kc_26_34 rfl rfl ?_
        refine xi_tsi (pc' := 97) (z := 3) kc_26_35 (by omega) rfl (by decide) ?_
        refine xi_aload_n (pc' := 98) (x := 115) kc_26_97 rfl rfl ?_
        refine xi_getfield (pc' := 101) (v := .ref 128) kc_26_98 rfl rfl rfl eh1.1 rfl ?_
        refine xi_iload_n (pc' := 102) (x := 11) kc_26_101 rfl rfl ?_
        refine xi_iaload (pc' := 103) (v := 0) kc_26_102 rfl ((eh1.2.1 128 (by decide)).trans (F 128 _ hl_128)) (by decide) rfl (xi_in (n := 12) (by decide) (by decide)) rfl ?_
        refine xi_ireturn kc_26_103 mr_26 rfl ?_
        show xw J ov 100 196 (510, [(4, .int 0), (3, .ref 167), (2, .ref 115), (1, .ref 0), (0, .ref 1000000)], [.int 0, .int 0], hh1) _
        refine xi_cmt (pc' := 1528) kc_196_510 rfl rfl ?_
        refine xi_iinc (pc' := 1531) (x := 0) (v := 6) (lv' := [(4, .int 6), (3, .ref 167), (2, .ref 115), (1, .ref 0), (0, .ref 1000000)]) kc_196_1528 rfl rfl rfl rfl (xm_lt ml_196 rfl) ?_
        refine xi_goto (pc' := 23) kc_196_1531 rfl ?_
        refine xi_iload (pc' := 25) (x := 6) kc_196_23 rfl rfl ?_
        refine xi_aload_n (pc' := 26) (x := 1000000) kc_196_25 rfl rfl ?_
        refine xi_arraylength (pc' := 27) (n := 6) (v := 6) kc_196_26 rfl (xl_lenO (by decide) hov0 rfl) rfl ?_
        refine xi_bipush (pc' := 29) (v := 6) kc_196_27 rfl rfl ?_
        refine xi_isub (pc' := 30) (v := 0) kc_196_29 rfl rfl ?_
        refine xi_cmt (pc' := 1534) kc_196_30 rfl rfl ?_
        refine xi_iconst (pc' := 1535) (v := 1) kc_196_1534 rfl rfl ?_
        refine xi_ireturn kc_196_1535 mr_196 rfl ?_
        refine ⟨rfl, ?_, ?_⟩
        · rw [eh1.2.2.1]; exact hn0
        · rw [eh1.2.2.2]; exact hz0
      by_cases c95 : a2.toInt = 4
      · refine xi_tsi (pc' := 97) (z := 4) kc_107_24 (by omega) rfl (by decide) ?_
        refine xi_aload_n (pc' := 98) (x := 51) kc_107_97 rfl rfl ?_
        refine xi_getfield (pc' := 101) (v := .int 0) kc_107_98 rfl rfl rfl (F 51 _ hl_51) rfl ?_
        refine xi_ireturn kc_107_101 mr_107 rfl ?_
        show xw J ov 100 196 (494, [(4, .int 0), (3, .ref 167), (2, .ref 115), (1, .ref 0), (0, .ref 1000000)], [.int 0], h0) _
        refine xi_aload_n (pc' := 495) (x := 115) kc_196_494 rfl rfl ?_
        refine xi_aload_n (pc' := 496) (x := 1000000) kc_196_495 rfl rfl ?_
        refine xi_iload (pc' := 498) (x := 0) kc_196_496 rfl rfl ?_
        refine xi_iconst (pc' := 499) (v := 1) kc_196_498 rfl rfl ?_
        refine xi_iadd (pc' := 500) (v := 1) kc_196_499 rfl rfl ?_
        refine xi_ialoadO (pc' := 501) (v := 11) kc_196_500 rfl (by decide) hov0 (xi_in (n := 6) (by decide) (by decide)) rfl ?_
        refine xi_aload_n (pc' := 502) (x := 1000000) kc_196_501 rfl rfl ?_
        refine xi_iload (pc' := 504) (x := 0) kc_196_502 rfl rfl ?_
        refine xi_iconst (pc' := 505) (v := 2) kc_196_504 rfl rfl ?_
        refine xi_iadd (pc' := 506) (v := 2) kc_196_505 rfl rfl ?_
        refine xi_ialoadO (pc' := 507) (v := a2) kc_196_506 rfl (by decide) hov0 (xi_in (n := 6) (by decide) (by decide)) rfl ?_
        refine xi_virtual (mj := 26) (as := [.int 11, .int a2]) (st1 := [.int 0]) (lv0 := [(0, .ref 115), (1, .int 11), (2, .int a2)]) kc_196_507 rfl rfl rfl rfl rfl (F 115 _ hl_115) (Nat.le_of_ble_eq_true rfl) (hJ _ _ _ _ (by decide)) (xm_le ml_26 rfl) rfl ?_
        refine xi_aload_n (pc' := 1) (x := 115) kc_26_0 rfl rfl ?_
        refine xi_iconst (pc' := 2) (v := 0) kc_26_1 rfl rfl ?_
        refine xi_putfield (pc' := 5) (fs' := [.int 0, .int 0, .ref 116, .ref 117, .ref 118, .ref 119, .ref 120, .ref 121, .ref 122, .ref 123, .ref 124, .ref 125, .ref 126, .ref 127, .ref 128, .ref 129, .int 4, .ref 130, .int 0, .ref 131, .ref 132, .ref 133, .ref 134, .int 0, .ref 135, .ref 136, .ref 137, .ref 138, .ref 139, .ref 140, .ref 141, .ref 142, .int 0, .int 0, .int 0, .ref 143, .ref 144, .ref 145, .ref 146, .ref 147, .ref 148, .int 0, .ref 149, .ref 150, .ref 151, .int 0, .ref 152, .ref 153, .ref 154, .ref 155, .ref 156, .ref 157, .ref 158, .ref 159, .int 0, .ref 160, .int 0, .ref 161, .ref 162, .ref 163, .ref 164, .int 0, .ref 165, .ref 166]) kc_26_2 rfl rfl rfl (F 115 _ hl_115) rfl rfl rfl (Nat.le_of_ble_eq_true rfl) rfl (fun hh1 eh1 => ?_)
        refine xi_iload_n (pc' := 6) (x := 11) kc_26_5 rfl rfl ?_
        refine xi_static (mj := 25) (as := [.int 11]) (st1 := []) (lv0 := [(0, .int 11)]) kc_26_6 rfl rfl (Nat.le_of_ble_eq_true rfl) rfl rfl (Nat.le_of_ble_eq_true rfl) (hJ _ _ _ _ (by decide)) (xm_le ml_25 rfl) rfl ?_
        refine xi_iload_n (pc' := 1) (x := 11) kc_25_0 rfl rfl ?_
        refine xi_iconst (pc' := 2) (v := 0) kc_25_1 rfl rfl ?_
        refine xi_bipush (pc' := 4) (v := 11) kc_25_2 rfl rfl ?_
        refine xi_static (mj := 12) (as := [.int 11, .int 0, .int 11]) (st1 := []) (lv0 := [(0, .int 11), (1, .int 0), (2, .int 11)]) kc_25_4 rfl rfl (Nat.le_of_ble_eq_true rfl) rfl rfl (Nat.le_of_ble_eq_true rfl) (hJ _ _ _ _ (by decide)) (xm_le ml_12 rfl) rfl ?_
        refine xi_iload_n (pc' := 1) (x := 11) kc_12_0 rfl rfl ?_
        refine xi_iload_n (pc' := 2) (x := 0) kc_12_1 rfl rfl ?_
        refine xi_cmf (pc' := 5) kc_12_2 rfl rfl ?_
        refine xi_iload_n (pc' := 6) (x := 11) kc_12_5 rfl rfl ?_
        refine xi_iload_n (pc' := 7) (x := 11) kc_12_6 rfl rfl ?_
        refine xi_cmf (pc' := 10) kc_12_7 rfl rfl ?_
        refine xi_iconst (pc' := 11) (v := 1) kc_12_10 rfl rfl ?_
        refine xi_goto (pc' := 15) kc_12_11 rfl ?_
        refine xi_ireturn kc_12_15 mr_12 rfl ?_
        show xw J ov 98 25 (7, [(0, .int 11)], [.int 1], hh1) _
        refine xi_ireturn kc_25_7 mr_25 rfl ?_
        show xw J ov 99 26 (9, [(0, .ref 115), (1, .int 11), (2, .int a2)], [.int 1], hh1) _
        refine xi_ift (pc' := 18) kc_26_9 rfl rfl ?_
        refine xi_iload_n (pc' := 19) (x := a2) kc_26_18 rfl rfl ?_
        refine xi_iconst (pc' := 20) (v := 0) kc_26_19 rfl rfl ?_
        refine xi_iconst (pc' := 21) (v := 5) kc_26_20 rfl rfl ?_
        refine xi_static (mj := 12) (as := [.int a2, .int 0, .int 5]) (st1 := []) (lv0 := [(0, .int a2), (1, .int 0), (2, .int 5)]) kc_26_21 rfl rfl (Nat.le_of_ble_eq_true rfl) rfl rfl (Nat.le_of_ble_eq_true rfl) (hJ _ _ _ _ (by decide)) (xm_le ml_12 rfl) rfl ?_
        refine xi_iload_n (pc' := 1) (x := a2) kc_12_0 rfl rfl ?_
        refine xi_iload_n (pc' := 2) (x := 0) kc_12_1 rfl rfl ?_
        refine xi_cmf (pc' := 5) kc_12_2 rfl (xc_lt_f (X := a2.toInt) (Y := 0) rfl (by decide) (by omega)) ?_
        refine xi_iload_n (pc' := 6) (x := a2) kc_12_5 rfl rfl ?_
        refine xi_iload_n (pc' := 7) (x := 5) kc_12_6 rfl rfl ?_
        refine xi_cmf (pc' := 10) kc_12_7 rfl (xc_gt_f (X := a2.toInt) (Y := 5) rfl (by decide) (by omega)) ?_
        refine xi_iconst (pc' := 11) (v := 1) kc_12_10 rfl rfl ?_
        refine xi_goto (pc' := 15) kc_12_11 rfl ?_
        refine xi_ireturn kc_12_15 mr_12 rfl ?_
        show xw J ov 99 26 (24, [(0, .ref 115), (1, .int 11), (2, .int a2)], [.int 1], hh1) _
        refine xi_ift (pc' := 34) kc_26_24 rfl rfl ?_
        refine xi_iload_n (pc' := 35) (x := a2) kc_26_34 rfl rfl ?_
        refine xi_tsi (pc' := 104) (z := 4) kc_26_35 (by omega) rfl (by decide) ?_
        refine xi_aload_n (pc' := 105) (x := 115) kc_26_104 rfl rfl ?_
        refine xi_getfield (pc' := 108) (v := .ref 129) kc_26_105 rfl rfl rfl eh1.1 rfl ?_
        refine xi_iload_n (pc' := 109) (x := 11) kc_26_108 rfl rfl ?_
        refine xi_iaload (pc' := 110) (v := 0) kc_26_109 rfl ((eh1.2.1 129 (by decide)).trans (F 129 _ hl_129)) (by decide) rfl (xi_in (n := 12) (by decide) (by decide)) rfl ?_
        refine xi_ireturn kc_26_110 mr_26 rfl ?_
        show xw J ov 100 196 (510, [(4, .int 0), (3, .ref 167), (2, .ref 115), (1, .ref 0), (0, .ref 1000000)], [.int 0, .int 0], hh1) _
        refine xi_cmt (pc' := 1528) kc_196_510 rfl rfl ?_
        refine xi_iinc (pc' := 1531) (x := 0) (v := 6) (lv' := [(4, .int 6), (3, .ref 167), (2, .ref 115), (1, .ref 0), (0, .ref 1000000)]) kc_196_1528 rfl rfl rfl rfl (xm_lt ml_196 rfl) ?_
        refine xi_goto (pc' := 23) kc_196_1531 rfl ?_
        refine xi_iload (pc' := 25) (x := 6) kc_196_23 rfl rfl ?_
        refine xi_aload_n (pc' := 26) (x := 1000000) kc_196_25 rfl rfl ?_
        refine xi_arraylength (pc' := 27) (n := 6) (v := 6) kc_196_26 rfl (xl_lenO (by decide) hov0 rfl) rfl ?_
        refine xi_bipush (pc' := 29) (v := 6) kc_196_27 rfl rfl ?_
        refine xi_isub (pc' := 30) (v := 0) kc_196_29 rfl rfl ?_
        refine xi_cmt (pc' := 1534) kc_196_30 rfl rfl ?_
        refine xi_iconst (pc' := 1535) (v := 1) kc_196_1534 rfl rfl ?_
        refine xi_ireturn kc_196_1535 mr_196 rfl ?_
        refine ⟨rfl, ?_, ?_⟩
        · rw [eh1.2.2.1]; exact hn0
        · rw [eh1.2.2.2]; exact hz0
      by_cases c96 : a2.toInt = 5
      · refine xi_tsi (pc' := 102) (z := 5) kc_107_24 (by omega) rfl (by decide) ?_
        refine xi_aload_n (pc' := 103) (x := 0) kc_107_102 rfl rfl ?_
        refine xi_getfield (pc' := 106) (v := .ref 1) kc_107_103 rfl rfl rfl (F 0 _ hl_0) rfl ?_
        refine xi_iload_n (pc' := 107) (x := 11) kc_107_106 rfl rfl ?_
        refine xi_aload_n (pc' := 108) (x := 0) kc_107_107 rfl rfl ?_
        refine xi_getfield (pc' := 111) (v := .int 0) kc_107_108 rfl rfl rfl (F 0 _ hl_0) rfl ?_
        refine xi_virtual (mj := 108) (as := [.int 11, .int 0]) (st1 := []) (lv0 := [(0, .ref 1), (1, .int 11), (2, .int 0)]) kc_107_111 rfl rfl rfl rfl rfl (F 1 _ hl_1) (Nat.le_of_ble_eq_true rfl) (hJ _ _ _ _ (by decide)) (xm_le ml_108 rfl) rfl ?_
        refine xi_aload_n (pc' := 1) (x := 1) kc_108_0 rfl rfl ?_
        refine xi_iload_n (pc' := 2) (x := 11) kc_108_1 rfl rfl ?_
        refine xi_virtual (mj := 109) (as := [.int 11]) (st1 := []) (lv0 := [(0, .ref 1), (1, .int 11)]) kc_108_2 rfl rfl rfl rfl rfl (F 1 _ hl_1) (Nat.le_of_ble_eq_true rfl) (hJ _ _ _ _ (by decide)) (xm_le ml_109 rfl) rfl ?_
        refine xi_iload_n (pc' := 1) (x := 11) kc_109_0 rfl rfl ?_
        refine xi_static (mj := 105) (as := [.int 11]) (st1 := []) (lv0 := [(0, .int 11)]) kc_109_1 rfl rfl (Nat.le_of_ble_eq_true rfl) rfl rfl (Nat.le_of_ble_eq_true rfl) (hJ _ _ _ _ (by decide)) (xm_le ml_105 rfl) rfl ?_
        refine xi_iload_n (pc' := 1) (x := 11) kc_105_0 rfl rfl ?_
        refine xi_iff (pc' := 4) kc_105_1 rfl rfl ?_
        refine xi_iload_n (pc' := 5) (x := 11) kc_105_4 rfl rfl ?_
        refine xi_bipush (pc' := 7) (v := 12) kc_105_5 rfl rfl ?_
        refine xi_cmf (pc' := 10) kc_105_7 rfl rfl ?_
        refine xi_iconst (pc' := 11) (v := 1) kc_105_10 rfl rfl ?_
        refine xi_goto (pc' := 15) kc_105_11 rfl ?_
        refine xi_ireturn kc_105_15 mr_105 rfl ?_
        show xw J ov 97 109 (4, [(0, .ref 1), (1, .int 11)], [.int 1], h0) _
        refine xi_iff (pc' := 7) kc_109_4 rfl rfl ?_
        refine xi_aload_n (pc' := 8) (x := 1) kc_109_7 rfl rfl ?_
        refine xi_getfield (pc' := 11) (v := .ref 3) kc_109_8 rfl rfl rfl (F 1 _ hl_1) rfl ?_
        refine xi_iload_n (pc' := 12) (x := 11) kc_109_11 rfl rfl ?_
        refine xi_aaload (pc' := 13) (b := 51) kc_109_12 rfl (F 3 _ hl_3) rfl (xi_in (n := 12) (by decide) (by decide)) rfl ?_
        refine xi_virtual (mj := 106) (as := []) (st1 := []) (lv0 := [(0, .ref 51)]) kc_109_13 rfl rfl rfl rfl rfl (F 51 _ hl_51) (Nat.le_of_ble_eq_true rfl) (hJ _ _ _ _ (by decide)) (xm_le ml_106 rfl) rfl ?_
        refine xi_aload_n (pc' := 1) (x := 51) kc_106_0 rfl rfl ?_
        refine xi_getfield (pc' := 4) (v := .int (-9)) kc_106_1 rfl rfl rfl (F 51 _ hl_51) rfl ?_
        refine xi_static (mj := 90) (as := [.int (-9)]) (st1 := []) (lv0 := [(0, .int (-9))]) kc_106_4 rfl rfl (Nat.le_of_ble_eq_true rfl) rfl rfl (Nat.le_of_ble_eq_true rfl) (hJ _ _ _ _ (by decide)) (xm_le ml_90 rfl) rfl ?_
        refine xi_iload_n (pc' := 1) (x := (-9)) kc_90_0 rfl rfl ?_
        refine xi_ift (pc' := 14) kc_90_1 rfl rfl ?_
        refine xi_iconst (pc' := 15) (v := 0) kc_90_14 rfl rfl ?_
        refine xi_ireturn kc_90_15 mr_90 rfl ?_
        show xw J ov 96 106 (7, [(0, .ref 51)], [.int 0], h0) _
        refine xi_ireturn kc_106_7 mr_106 rfl ?_
        show xw J ov 97 109 (16, [(0, .ref 1), (1, .int 11)], [.int 0], h0) _
        refine xi_ift (pc' := 23) kc_109_16 rfl rfl ?_
        refine xi_iconst (pc' := 24) (v := 0) kc_109_23 rfl rfl ?_
        refine xi_ireturn kc_109_24 mr_109 rfl ?_
        show xw J ov 98 108 (5, [(0, .ref 1), (1, .int 11), (2, .int 0)], [.int 0], h0) _
        refine xi_iff (pc' := 8) kc_108_5 rfl rfl ?_
        refine xi_iconst (pc' := 9) (v := 0) kc_108_8 rfl rfl ?_
        refine xi_ireturn kc_108_9 mr_108 rfl ?_
        show xw J ov 99 107 (114, [(3, .ref 51), (0, .ref 0), (1, .int 11), (2, .int a2)], [.int 0], h0) _
        refine xi_ireturn kc_107_114 mr_107 rfl ?_
        show xw J ov 100 196 (494, [(4, .int 0), (3, .ref 167), (2, .ref 115), (1, .ref 0), (0, .ref 1000000)], [.int 0], h0) _
        refine xi_aload_n (pc' := 495) (x := 115) kc_196_494 rfl rfl ?_
        refine xi_aload_n (pc' := 496) (x := 1000000) kc_196_495 rfl rfl ?_
        refine xi_iload (pc' := 498) (x := 0) kc_196_496 rfl rfl ?_
        refine xi_iconst (pc' := 499) (v := 1) kc_196_498 rfl rfl ?_
        refine xi_iadd (pc' := 500) (v := 1) kc_196_499 rfl rfl ?_
        refine xi_ialoadO (pc' := 501) (v := 11) kc_196_500 rfl (by decide) hov0 (xi_in (n := 6) (by decide) (by decide)) rfl ?_
        refine xi_aload_n (pc' := 502) (x := 1000000) kc_196_501 rfl rfl ?_
        refine xi_iload (pc' := 504) (x := 0) kc_196_502 rfl rfl ?_
        refine xi_iconst (pc' := 505) (v := 2) kc_196_504 rfl rfl ?_
        refine xi_iadd (pc' := 506) (v := 2) kc_196_505 rfl rfl ?_
        refine xi_ialoadO (pc' := 507) (v := a2) kc_196_506 rfl (by decide) hov0 (xi_in (n := 6) (by decide) (by decide)) rfl ?_
        refine xi_virtual (mj := 26) (as := [.int 11, .int a2]) (st1 := [.int 0]) (lv0 := [(0, .ref 115), (1, .int 11), (2, .int a2)]) kc_196_507 rfl rfl rfl rfl rfl (F 115 _ hl_115) (Nat.le_of_ble_eq_true rfl) (hJ _ _ _ _ (by decide)) (xm_le ml_26 rfl) rfl ?_
        refine xi_aload_n (pc' := 1) (x := 115) kc_26_0 rfl rfl ?_
        refine xi_iconst (pc' := 2) (v := 0) kc_26_1 rfl rfl ?_
        refine xi_putfield (pc' := 5) (fs' := [.int 0, .int 0, .ref 116, .ref 117, .ref 118, .ref 119, .ref 120, .ref 121, .ref 122, .ref 123, .ref 124, .ref 125, .ref 126, .ref 127, .ref 128, .ref 129, .int 4, .ref 130, .int 0, .ref 131, .ref 132, .ref 133, .ref 134, .int 0, .ref 135, .ref 136, .ref 137, .ref 138, .ref 139, .ref 140, .ref 141, .ref 142, .int 0, .int 0, .int 0, .ref 143, .ref 144, .ref 145, .ref 146, .ref 147, .ref 148, .int 0, .ref 149, .ref 150, .ref 151, .int 0, .ref 152, .ref 153, .ref 154, .ref 155, .ref 156, .ref 157, .ref 158, .ref 159, .int 0, .ref 160, .int 0, .ref 161, .ref 162, .ref 163, .ref 164, .int 0, .ref 165, .ref 166]) kc_26_2 rfl rfl rfl (F 115 _ hl_115) rfl rfl rfl (Nat.le_of_ble_eq_true rfl) rfl (fun hh1 eh1 => ?_)
        refine xi_iload_n (pc' := 6) (x := 11) kc_26_5 rfl rfl ?_
        refine xi_static (mj := 25) (as := [.int 11]) (st1 := []) (lv0 := [(0, .int 11)]) kc_26_6 rfl rfl (Nat.le_of_ble_eq_true rfl) rfl rfl (Nat.le_of_ble_eq_true rfl) (hJ _ _ _ _ (by decide)) (xm_le ml_25 rfl) rfl ?_
        refine xi_iload_n (pc' := 1) (x := 11) kc_25_0 rfl rfl ?_
        refine xi_iconst (pc' := 2) (v := 0) kc_25_1 rfl rfl ?_
        refine xi_bipush (pc' := 4) (v := 11) kc_25_2 rfl rfl ?_
        refine xi_static (mj := 12) (as := [.int 11, .int 0, .int 11]) (st1 := []) (lv0 := [(0, .int 11), (1, .int 0), (2, .int 11)]) kc_25_4 rfl rfl (Nat.le_of_ble_eq_true rfl) rfl rfl (Nat.le_of_ble_eq_true rfl) (hJ _ _ _ _ (by decide)) (xm_le ml_12 rfl) rfl ?_
        refine xi_iload_n (pc' := 1) (x := 11) kc_12_0 rfl rfl ?_
        refine xi_iload_n (pc' := 2) (x := 0) kc_12_1 rfl rfl ?_
        refine xi_cmf (pc' := 5) kc_12_2 rfl rfl ?_
        refine xi_iload_n (pc' := 6) (x := 11) kc_12_5 rfl rfl ?_
        refine xi_iload_n (pc' := 7) (x := 11) kc_12_6 rfl rfl ?_
        refine xi_cmf (pc' := 10) kc_12_7 rfl rfl ?_
        refine xi_iconst (pc' := 11) (v := 1) kc_12_10 rfl rfl ?_
        refine xi_goto (pc' := 15) kc_12_11 rfl ?_
        refine xi_ireturn kc_12_15 mr_12 rfl ?_
        show xw J ov 98 25 (7, [(0, .int 11)], [.int 1], hh1) _
        refine xi_ireturn kc_25_7 mr_25 rfl ?_
        show xw J ov 99 26 (9, [(0, .ref 115), (1, .int 11), (2, .int a2)], [.int 1], hh1) _
        refine xi_ift (pc' := 18) kc_26_9 rfl rfl ?_
        refine xi_iload_n (pc' := 19) (x := a2) kc_26_18 rfl rfl ?_
        refine xi_iconst (pc' := 20) (v := 0) kc_26_19 rfl rfl ?_
        refine xi_iconst (pc' := 21) (v := 5) kc_26_20 rfl rfl ?_
        refine xi_static (mj := 12) (as := [.int a2, .int 0, .int 5]) (st1 := []) (lv0 := [(0, .int a2), (1, .int 0), (2, .int 5)]) kc_26_21 rfl rfl (Nat.le_of_ble_eq_true rfl) rfl rfl (Nat.le_of_ble_eq_true rfl) (hJ _ _ _ _ (by decide)) (xm_le ml_12 rfl) rfl ?_
        refine xi_iload_n (pc' := 1) (x := a2) kc_12_0 rfl rfl ?_
        refine xi_iload_n (pc' := 2) (x := 0) kc_12_1 rfl rfl ?_
        refine xi_cmf (pc' := 5) kc_12_2 rfl (xc_lt_f (X := a2.toInt) (Y := 0) rfl (by decide) (by omega)) ?_
        refine xi_iload_n (pc' := 6) (x := a2) kc_12_5 rfl rfl ?_
        refine xi_iload_n (pc' := 7) (x := 5) kc_12_6 rfl rfl ?_
        refine xi_cmf (pc' := 10) kc_12_7 rfl (xc_gt_f (X := a2.toInt) (Y := 5) rfl (by decide) (by omega)) ?_
        refine xi_iconst (pc' := 11) (v := 1) kc_12_10 rfl rfl ?_
        refine xi_goto (pc' := 15) kc_12_11 rfl ?_
        refine xi_ireturn kc_12_15 mr_12 rfl ?_
        show xw J ov 99 26 (24, [(0, .ref 115), (1, .int 11), (2, .int a2)], [.int 1], hh1) _
        refine xi_ift (pc' := 34) kc_26_24 rfl rfl ?_
        refine xi_iload_n (pc' := 35) (x := a2) kc_26_34 rfl rfl ?_
        refine xi_tsd (pc' := 111) kc_26_35 rfl (by omega) ?_
        refine xi_aload_n (pc' := 112) (x := 115) kc_26_111 rfl rfl ?_
        refine xi_getfield (pc' := 115) (v := .ref 125) kc_26_112 rfl rfl rfl eh1.1 rfl ?_
        refine xi_iload_n (pc' := 116) (x := 11) kc_26_115 rfl rfl ?_
        refine xi_iaload (pc' := 117) (v := (-9)) kc_26_116 rfl ((eh1.2.1 125 (by decide)).trans (F 125 _ hl_125)) (by decide) rfl (xi_in (n := 12) (by decide) (by decide)) rfl ?_
        refine xi_iff (pc' := 120) kc_26_117 rfl rfl ?_
        refine xi_iconst (pc' := 121) (v := 0) kc_26_120 rfl rfl ?_
        refine xi_goto (pc' := 133) kc_26_121 rfl ?_
        refine xi_ireturn kc_26_133 mr_26 rfl ?_
        show xw J ov 100 196 (510, [(4, .int 0), (3, .ref 167), (2, .ref 115), (1, .ref 0), (0, .ref 1000000)], [.int 0, .int 0], hh1) _
        refine xi_cmt (pc' := 1528) kc_196_510 rfl rfl ?_
        refine xi_iinc (pc' := 1531) (x := 0) (v := 6) (lv' := [(4, .int 6), (3, .ref 167), (2, .ref 115), (1, .ref 0), (0, .ref 1000000)]) kc_196_1528 rfl rfl rfl rfl (xm_lt ml_196 rfl) ?_
        refine xi_goto (pc' := 23) kc_196_1531 rfl ?_
        refine xi_iload (pc' := 25) (x := 6) kc_196_23 rfl rfl ?_
        refine xi_aload_n (pc' := 26) (x := 1000000) kc_196_25 rfl rfl ?_
        refine xi_arraylength (pc' := 27) (n := 6) (v := 6) kc_196_26 rfl (xl_lenO (by decide) hov0 rfl) rfl ?_
        refine xi_bipush (pc' := 29) (v := 6) kc_196_27 rfl rfl ?_
        refine xi_isub (pc' := 30) (v := 0) kc_196_29 rfl rfl ?_
        refine xi_cmt (pc' := 1534) kc_196_30 rfl rfl ?_
        refine xi_iconst (pc' := 1535) (v := 1) kc_196_1534 rfl rfl ?_
        refine xi_ireturn kc_196_1535 mr_196 rfl ?_
        refine ⟨rfl, ?_, ?_⟩
        · rw [eh1.2.2.1]; exact hn0
        · rw [eh1.2.2.2]; exact hz0
      refine xi_tsd (pc' := 115) kc_107_24 rfl (by omega) ?_
      refine xi_aload_n (pc' := 116) (x := 0) kc_107_115 rfl rfl ?_
      refine xi_bipush (pc' := 118) (v := (-2)) kc_107_116 rfl rfl ?_
      refine xi_virtual (mj := 91) (as := [.int (-2)]) (st1 := []) (lv0 := [(0, .ref 0), (1, .int (-2))]) kc_107_118 rfl rfl rfl rfl rfl (F 0 _ hl_0) (Nat.le_of_ble_eq_true rfl) (hJ _ _ _ _ (by decide)) (xm_le ml_91 rfl) rfl ?_
      refine xi_iload_n (pc' := 1) (x := (-2)) kc_91_0 rfl rfl ?_
      refine xi_ineg (pc' := 2) (v := 2) kc_91_1 rfl rfl ?_
      refine xi_istore_n (pc' := 3) (lv' := [(2, .int 2), (0, .ref 0), (1, .int (-2))]) kc_91_2 rfl rfl (xm_lt ml_91 rfl) ?_
      refine xi_iload_n (pc' := 4) (x := 2) kc_91_3 rfl rfl ?_
      refine xi_iff (pc' := 7) kc_91_4 rfl rfl ?_
      refine xi_iload_n (pc' := 8) (x := 2) kc_91_7 rfl rfl ?_
      refine xi_aload_n (pc' := 9) (x := 0) kc_91_8 rfl rfl ?_
      refine xi_getfield (pc' := 12) (v := .ref 94) kc_91_9 rfl rfl rfl (F 0 _ hl_0) rfl ?_
      refine xi_arraylength (pc' := 13) (n := 7) (v := 7) kc_91_12 rfl (xl_lenI (by decide) (by decide) (F 94 _ hl_94) (by simp only [List.length_replicate, List.length_cons, List.length_nil])) rfl ?_
      refine xi_cmf (pc' := 16) kc_91_13 rfl rfl ?_
      refine xi_aload_n (pc' := 17) (x := 0) kc_91_16 rfl rfl ?_
      refine xi_getfield (pc' := 20) (v := .ref 94) kc_91_17 rfl rfl rfl (F 0 _ hl_0) rfl ?_
      refine xi_iload_n (pc' := 21) (x := 2) kc_91_20 rfl rfl ?_
      refine xi_dup2 (pc' := 22) kc_91_21 rfl ⟨rfl, rfl⟩ ?_
      refine xi_iaload (pc' := 23) (v := 0) kc_91_22 rfl (F 94 _ hl_94) (by decide) rfl (xi_in (n := 7) (by decide) (by decide)) rfl ?_
      refine xi_iconst (pc' := 24) (v := 1) kc_91_23 rfl rfl ?_
      refine xi_iadd (pc' := 25) (v := 1) kc_91_24 rfl rfl ?_
      refine xi_iastore (pc' := 26) (x' := [0, 0, 1, 0, 0, 0, 0]) kc_91_25 rfl (F 94 _ hl_94) rfl (xi_in (n := 7) (by decide) (by decide)) rfl (fun hh1 eh1 => ?_)
      refine xi_iload_n (pc' := 27) (x := (-2)) kc_91_26 rfl rfl ?_
      refine xi_ireturn kc_91_27 mr_91 rfl ?_
      show xw J ov 99 107 (121, [(3, .ref 51), (0, .ref 0), (1, .int 11), (2, .int a2)], [.int (-2)], hh1) _
      refine xi_ireturn kc_107_121 mr_107 rfl ?_
      show xw J ov 100 196 (494, [(4, .int 0), (3, .ref 167), (2, .ref 115), (1, .ref 0), (0, .ref 1000000)], [.int (-2)], hh1) _
      refine xi_aload_n (pc' := 495) (x := 115) kc_196_494 rfl rfl ?_
      refine xi_aload_n (pc' := 496) (x := 1000000) kc_196_495 rfl rfl ?_
      refine xi_iload (pc' := 498) (x := 0) kc_196_496 rfl rfl ?_
      refine xi_iconst (pc' := 499) (v := 1) kc_196_498 rfl rfl ?_
      refine xi_iadd (pc' := 500) (v := 1) kc_196_499 rfl rfl ?_
      refine xi_ialoadO (pc' := 501) (v := 11) kc_196_500 rfl (by decide) hov0 (xi_in (n := 6) (by decide) (by decide)) rfl ?_
      refine xi_aload_n (pc' := 502) (x := 1000000) kc_196_501 rfl rfl ?_
      refine xi_iload (pc' := 504) (x := 0) kc_196_502 rfl rfl ?_
      refine xi_iconst (pc' := 505) (v := 2) kc_196_504 rfl rfl ?_
      refine xi_iadd (pc' := 506) (v := 2) kc_196_505 rfl rfl ?_
      refine xi_ialoadO (pc' := 507) (v := a2) kc_196_506 rfl (by decide) hov0 (xi_in (n := 6) (by decide) (by decide)) rfl ?_
      refine xi_virtual (mj := 26) (as := [.int 11, .int a2]) (st1 := [.int (-2)]) (lv0 := [(0, .ref 115), (1, .int 11), (2, .int a2)]) kc_196_507 rfl rfl rfl rfl rfl ((eh1.2.1 115 (by decide)).trans (F 115 _ hl_115)) (Nat.le_of_ble_eq_true rfl) (hJ _ _ _ _ (by decide)) (xm_le ml_26 rfl) rfl ?_
      refine xi_aload_n (pc' := 1) (x := 115) kc_26_0 rfl rfl ?_
      refine xi_iconst (pc' := 2) (v := 0) kc_26_1 rfl rfl ?_
      refine xi_putfield (pc' := 5) (fs' := [.int 0, .int 0, .ref 116, .ref 117, .ref 118, .ref 119, .ref 120, .ref 121, .ref 122, .ref 123, .ref 124, .ref 125, .ref 126, .ref 127, .ref 128, .ref 129, .int 4, .ref 130, .int 0, .ref 131, .ref 132, .ref 133, .ref 134, .int 0, .ref 135, .ref 136, .ref 137, .ref 138, .ref 139, .ref 140, .ref 141, .ref 142, .int 0, .int 0, .int 0, .ref 143, .ref 144, .ref 145, .ref 146, .ref 147, .ref 148, .int 0, .ref 149, .ref 150, .ref 151, .int 0, .ref 152, .ref 153, .ref 154, .ref 155, .ref 156, .ref 157, .ref 158, .ref 159, .int 0, .ref 160, .int 0, .ref 161, .ref 162, .ref 163, .ref 164, .int 0, .ref 165, .ref 166]) kc_26_2 rfl rfl rfl ((eh1.2.1 115 (by decide)).trans (F 115 _ hl_115)) rfl rfl rfl (Nat.le_of_ble_eq_true rfl) rfl (fun hh2 eh2 => ?_)
      refine xi_iload_n (pc' := 6) (x := 11) kc_26_5 rfl rfl ?_
      refine xi_static (mj := 25) (as := [.int 11]) (st1 := []) (lv0 := [(0, .int 11)]) kc_26_6 rfl rfl (Nat.le_of_ble_eq_true rfl) rfl rfl (Nat.le_of_ble_eq_true rfl) (hJ _ _ _ _ (by decide)) (xm_le ml_25 rfl) rfl ?_
      refine xi_iload_n (pc' := 1) (x := 11) kc_25_0 rfl rfl ?_
      refine xi_iconst (pc' := 2) (v := 0) kc_25_1 rfl rfl ?_
      refine xi_bipush (pc' := 4) (v := 11) kc_25_2 rfl rfl ?_
      refine xi_static (mj := 12) (as := [.int 11, .int 0, .int 11]) (st1 := []) (lv0 := [(0, .int 11), (1, .int 0), (2, .int 11)]) kc_25_4 rfl rfl (Nat.le_of_ble_eq_true rfl) rfl rfl (Nat.le_of_ble_eq_true rfl) (hJ _ _ _ _ (by decide)) (xm_le ml_12 rfl) rfl ?_
      refine xi_iload_n (pc' := 1) (x := 11) kc_12_0 rfl rfl ?_
      refine xi_iload_n (pc' := 2) (x := 0) kc_12_1 rfl rfl ?_
      refine xi_cmf (pc' := 5) kc_12_2 rfl rfl ?_
      refine xi_iload_n (pc' := 6) (x := 11) kc_12_5 rfl rfl ?_
      refine xi_iload_n (pc' := 7) (x := 11) kc_12_6 rfl rfl ?_
      refine xi_cmf (pc' := 10) kc_12_7 rfl rfl ?_
      refine xi_iconst (pc' := 11) (v := 1) kc_12_10 rfl rfl ?_
      refine xi_goto (pc' := 15) kc_12_11 rfl ?_
      refine xi_ireturn kc_12_15 mr_12 rfl ?_
      show xw J ov 98 25 (7, [(0, .int 11)], [.int 1], hh2) _
      refine xi_ireturn kc_25_7 mr_25 rfl ?_
      show xw J ov 99 26 (9, [(0, .ref 115), (1, .int 11), (2, .int a2)], [.int 1], hh2) _
      refine xi_ift (pc' := 18) kc_26_9 rfl rfl ?_
      refine xi_iload_n (pc' := 19) (x := a2) kc_26_18 rfl rfl ?_
      refine xi_iconst (pc' := 20) (v := 0) kc_26_19 rfl rfl ?_
      refine xi_iconst (pc' := 21) (v := 5) kc_26_20 rfl rfl ?_
      refine xi_static (mj := 12) (as := [.int a2, .int 0, .int 5]) (st1 := []) (lv0 := [(0, .int a2), (1, .int 0), (2, .int 5)]) kc_26_21 rfl rfl (Nat.le_of_ble_eq_true rfl) rfl rfl (Nat.le_of_ble_eq_true rfl) (hJ _ _ _ _ (by decide)) (xm_le ml_12 rfl) rfl ?_
      refine xi_iload_n (pc' := 1) (x := a2) kc_12_0 rfl rfl ?_
      refine xi_iload_n (pc' := 2) (x := 0) kc_12_1 rfl rfl ?_
      by_cases c97 : a2.toInt < 0
      · refine xi_cmt (pc' := 14) kc_12_2 rfl (xc_lt_t (X := a2.toInt) (Y := 0) rfl (by decide) (by omega)) ?_
        refine xi_iconst (pc' := 15) (v := 0) kc_12_14 rfl rfl ?_
        refine xi_ireturn kc_12_15 mr_12 rfl ?_
        show xw J ov 99 26 (24, [(0, .ref 115), (1, .int 11), (2, .int a2)], [.int 0], hh2) _
        refine xi_iff (pc' := 27) kc_26_24 rfl rfl ?_
        refine xi_aload_n (pc' := 28) (x := 115) kc_26_27 rfl rfl ?_
        refine xi_bipush (pc' := 30) (v := (-2)) kc_26_28 rfl rfl ?_
        refine xi_virtual (mj := 13) (as := [.int (-2)]) (st1 := []) (lv0 := [(0, .ref 115), (1, .int (-2))]) kc_26_30 rfl rfl rfl rfl rfl eh2.1 (Nat.le_of_ble_eq_true rfl) (hJ _ _ _ _ (by decide)) (xm_le ml_13 rfl) rfl ?_
        refine xi_aload_n (pc' := 1) (x := 115) kc_13_0 rfl rfl ?_
        refine xi_getfield (pc' := 4) (v := .ref 140) kc_13_1 rfl rfl rfl eh2.1 rfl ?_
        refine xi_iload_n (pc' := 5) (x := (-2)) kc_13_4 rfl rfl ?_
        refine xi_ineg (pc' := 6) (v := 2) kc_13_5 rfl rfl ?_
        refine xi_dup2 (pc' := 7) kc_13_6 rfl ⟨rfl, rfl⟩ ?_
        refine xi_iaload (pc' := 8) (v := 0) kc_13_7 rfl ((eh2.2.1 140 (by decide)).trans ((eh1.2.1 140 (by decide)).trans (F 140 _ hl_140))) (by decide) rfl (xi_in (n := 7) (by decide) (by decide)) rfl ?_
        refine xi_iconst (pc' := 9) (v := 1) kc_13_8 rfl rfl ?_
        refine xi_iadd (pc' := 10) (v := 1) kc_13_9 rfl rfl ?_
        refine xi_iastore (pc' := 11) (x' := [0, 0, 1, 0, 0, 0, 0]) kc_13_10 rfl ((eh2.2.1 140 (by decide)).trans ((eh1.2.1 140 (by decide)).trans (F 140 _ hl_140))) rfl (xi_in (n := 7) (by decide) (by decide)) rfl (fun hh3 eh3 => ?_)
        refine xi_iload_n (pc' := 12) (x := (-2)) kc_13_11 rfl rfl ?_
        refine xi_ireturn kc_13_12 mr_13 rfl ?_
        show xw J ov 99 26 (33, [(0, .ref 115), (1, .int 11), (2, .int a2)], [.int (-2)], hh3) _
        refine xi_ireturn kc_26_33 mr_26 rfl ?_
        show xw J ov 100 196 (510, [(4, .int 0), (3, .ref 167), (2, .ref 115), (1, .ref 0), (0, .ref 1000000)], [.int (-2), .int (-2)], hh3) _
        refine xi_cmt (pc' := 1528) kc_196_510 rfl rfl ?_
        refine xi_iinc (pc' := 1531) (x := 0) (v := 6) (lv' := [(4, .int 6), (3, .ref 167), (2, .ref 115), (1, .ref 0), (0, .ref 1000000)]) kc_196_1528 rfl rfl rfl rfl (xm_lt ml_196 rfl) ?_
        refine xi_goto (pc' := 23) kc_196_1531 rfl ?_
        refine xi_iload (pc' := 25) (x := 6) kc_196_23 rfl rfl ?_
        refine xi_aload_n (pc' := 26) (x := 1000000) kc_196_25 rfl rfl ?_
        refine xi_arraylength (pc' := 27) (n := 6) (v := 6) kc_196_26 rfl (xl_lenO (by decide) hov0 rfl) rfl ?_
        refine xi_bipush (pc' := 29) (v := 6) kc_196_27 rfl rfl ?_
        refine xi_isub (pc' := 30) (v := 0) kc_196_29 rfl rfl ?_
        refine xi_cmt (pc' := 1534) kc_196_30 rfl rfl ?_
        refine xi_iconst (pc' := 1535) (v := 1) kc_196_1534 rfl rfl ?_
        refine xi_ireturn kc_196_1535 mr_196 rfl ?_
        refine ⟨rfl, ?_, ?_⟩
        · rw [eh3.2.2.1, eh2.2.2.1, eh1.2.2.1]; exact hn0
        · rw [eh3.2.2.2, eh2.2.2.2, eh1.2.2.2]; exact hz0
      · refine xi_cmf (pc' := 5) kc_12_2 rfl (xc_lt_f (X := a2.toInt) (Y := 0) rfl (by decide) (by omega)) ?_
        refine xi_iload_n (pc' := 6) (x := a2) kc_12_5 rfl rfl ?_
        refine xi_iload_n (pc' := 7) (x := 5) kc_12_6 rfl rfl ?_
        refine xi_cmt (pc' := 14) kc_12_7 rfl (xc_gt_t (X := a2.toInt) (Y := 5) rfl (by decide) (by omega)) ?_
        refine xi_iconst (pc' := 15) (v := 0) kc_12_14 rfl rfl ?_
        refine xi_ireturn kc_12_15 mr_12 rfl ?_
        show xw J ov 99 26 (24, [(0, .ref 115), (1, .int 11), (2, .int a2)], [.int 0], hh2) _
        refine xi_iff (pc' := 27) kc_26_24 rfl rfl ?_
        refine xi_aload_n (pc' := 28) (x := 115) kc_26_27 rfl rfl ?_
        refine xi_bipush (pc' := 30) (v := (-2)) kc_26_28 rfl rfl ?_
        refine xi_virtual (mj := 13) (as := [.int (-2)]) (st1 := []) (lv0 := [(0, .ref 115), (1, .int (-2))]) kc_26_30 rfl rfl rfl rfl rfl eh2.1 (Nat.le_of_ble_eq_true rfl) (hJ _ _ _ _ (by decide)) (xm_le ml_13 rfl) rfl ?_
        refine xi_aload_n (pc' := 1) (x := 115) kc_13_0 rfl rfl ?_
        refine xi_getfield (pc' := 4) (v := .ref 140) kc_13_1 rfl rfl rfl eh2.1 rfl ?_
        refine xi_iload_n (pc' := 5) (x := (-2)) kc_13_4 rfl rfl ?_
        refine xi_ineg (pc' := 6) (v := 2) kc_13_5 rfl rfl ?_
        refine xi_dup2 (pc' := 7) kc_13_6 rfl ⟨rfl, rfl⟩ ?_
        refine xi_iaload (pc' := 8) (v := 0) kc_13_7 rfl ((eh2.2.1 140 (by decide)).trans ((eh1.2.1 140 (by decide)).trans (F 140 _ hl_140))) (by decide) rfl (xi_in (n := 7) (by decide) (by decide)) rfl ?_
        refine xi_iconst (pc' := 9) (v := 1) kc_13_8 rfl rfl ?_
        refine xi_iadd (pc' := 10) (v := 1) kc_13_9 rfl rfl ?_
        refine xi_iastore (pc' := 11) (x' := [0, 0, 1, 0, 0, 0, 0]) kc_13_10 rfl ((eh2.2.1 140 (by decide)).trans ((eh1.2.1 140 (by decide)).trans (F 140 _ hl_140))) rfl (xi_in (n := 7) (by decide) (by decide)) rfl (fun hh3 eh3 => ?_)
        refine xi_iload_n (pc' := 12) (x := (-2)) kc_13_11 rfl rfl ?_
        refine xi_ireturn kc_13_12 mr_13 rfl ?_
        show xw J ov 99 26 (33, [(0, .ref 115), (1, .int 11), (2, .int a2)], [.int (-2)], hh3) _
        refine xi_ireturn kc_26_33 mr_26 rfl ?_
        show xw J ov 100 196 (510, [(4, .int 0), (3, .ref 167), (2, .ref 115), (1, .ref 0), (0, .ref 1000000)], [.int (-2), .int (-2)], hh3) _
        refine xi_cmt (pc' := 1528) kc_196_510 rfl rfl ?_
        refine xi_iinc (pc' := 1531) (x := 0) (v := 6) (lv' := [(4, .int 6), (3, .ref 167), (2, .ref 115), (1, .ref 0), (0, .ref 1000000)]) kc_196_1528 rfl rfl rfl rfl (xm_lt ml_196 rfl) ?_
        refine xi_goto (pc' := 23) kc_196_1531 rfl ?_
        refine xi_iload (pc' := 25) (x := 6) kc_196_23 rfl rfl ?_
        refine xi_aload_n (pc' := 26) (x := 1000000) kc_196_25 rfl rfl ?_
        refine xi_arraylength (pc' := 27) (n := 6) (v := 6) kc_196_26 rfl (xl_lenO (by decide) hov0 rfl) rfl ?_
        refine xi_bipush (pc' := 29) (v := 6) kc_196_27 rfl rfl ?_
        refine xi_isub (pc' := 30) (v := 0) kc_196_29 rfl rfl ?_
        refine xi_cmt (pc' := 1534) kc_196_30 rfl rfl ?_
        refine xi_iconst (pc' := 1535) (v := 1) kc_196_1534 rfl rfl ?_
        refine xi_ireturn kc_196_1535 mr_196 rfl ?_
        refine ⟨rfl, ?_, ?_⟩
        · rw [eh3.2.2.1, eh2.2.2.1, eh1.2.2.1]; exact hn0
        · rw [eh3.2.2.2, eh2.2.2.2, eh1.2.2.2]; exact hz0
