set_option maxHeartbeats 8000000 in
theorem lc_5 {J : xe_J} {ov : List (List Int32)} (hJ : ∀ d mj as h, mj ≠ xe_loff → J d mj as h = none) {a0 a1 a2 a3 a4 a5 : Int32} (hov0 : ov[0]? = some [a0, a1, a2, a3, a4, a5]) (hov1 : ov[1]? = some [10, 0, 0, 0, 0, 0]) (hov2 : ov[2]? = some [99, 30, 50, 50, 1, 99999]) {h0 : xe_H} (F : xf_fr h0) (hn0 : h0.length ≤ 600002) (hz0 : xe_sz h0 ≤ 7302232) : xw J ov 100 196 (401, [(4, .int 0), (3, .ref 167), (2, .ref 115), (1, .ref 0), (0, .ref 1000000)], [], h0) xf_Q := by
  have rr1 := xc_rng a1
  have rr2 := xc_rng a2
  have rr3 := xc_rng a3
  have rr4 := xc_rng a4
  have rr5 := xc_rng a5
  refine xi_aload_n (pc' := 402) (x := 0) kc_196_401 rfl rfl ?_
  refine xi_aload_n (pc' := 403) (x := 1000000) kc_196_402 rfl rfl ?_
  refine xi_iload (pc' := 405) (x := 0) kc_196_403 rfl rfl ?_
  refine xi_iconst (pc' := 406) (v := 1) kc_196_405 rfl rfl ?_
  refine xi_iadd (pc' := 407) (v := 1) kc_196_406 rfl rfl ?_
  refine xi_ialoadO (pc' := 408) (v := a1) kc_196_407 rfl (by decide) hov0 (xi_in (n := 6) (by decide) (by decide)) rfl ?_
  refine xi_aload_n (pc' := 409) (x := 1000000) kc_196_408 rfl rfl ?_
  refine xi_iload (pc' := 411) (x := 0) kc_196_409 rfl rfl ?_
  refine xi_iconst (pc' := 412) (v := 2) kc_196_411 rfl rfl ?_
  refine xi_iadd (pc' := 413) (v := 2) kc_196_412 rfl rfl ?_
  refine xi_ialoadO (pc' := 414) (v := a2) kc_196_413 rfl (by decide) hov0 (xi_in (n := 6) (by decide) (by decide)) rfl ?_
  refine xi_aload_n (pc' := 415) (x := 1000000) kc_196_414 rfl rfl ?_
  refine xi_iload (pc' := 417) (x := 0) kc_196_415 rfl rfl ?_
  refine xi_iconst (pc' := 418) (v := 3) kc_196_417 rfl rfl ?_
  refine xi_iadd (pc' := 419) (v := 3) kc_196_418 rfl rfl ?_
  refine xi_ialoadO (pc' := 420) (v := a3) kc_196_419 rfl (by decide) hov0 (xi_in (n := 6) (by decide) (by decide)) rfl ?_
  refine xi_aload_n (pc' := 421) (x := 1000000) kc_196_420 rfl rfl ?_
  refine xi_iload (pc' := 423) (x := 0) kc_196_421 rfl rfl ?_
  refine xi_iconst (pc' := 424) (v := 4) kc_196_423 rfl rfl ?_
  refine xi_iadd (pc' := 425) (v := 4) kc_196_424 rfl rfl ?_
  refine xi_ialoadO (pc' := 426) (v := a4) kc_196_425 rfl (by decide) hov0 (xi_in (n := 6) (by decide) (by decide)) rfl ?_
  by_cases c1 : a4.toInt = 0
  · refine xi_ift (pc' := 433) kc_196_426 rfl (xc_eq_t (X := a4.toInt) (Y := 0) rfl (by decide) (by omega)) ?_
    refine xi_iconst (pc' := 434) (v := 0) kc_196_433 rfl rfl ?_
    refine xi_virtual (mj := 104) (as := [.int a1, .int a2, .int a3, .int 0]) (st1 := []) (lv0 := [(0, .ref 0), (1, .int a1), (2, .int a2), (3, .int a3), (4, .int 0)]) kc_196_434 rfl rfl rfl rfl rfl (F 0 _ hl_0) (Nat.le_of_ble_eq_true rfl) (hJ _ _ _ _ (by decide)) (xm_le ml_104 rfl) rfl ?_
    refine xi_iload_n (pc' := 1) (x := a1) kc_104_0 rfl rfl ?_
    refine xi_static (mj := 105) (as := [.int a1]) (st1 := []) (lv0 := [(0, .int a1)]) kc_104_1 rfl rfl (Nat.le_of_ble_eq_true rfl) rfl rfl (Nat.le_of_ble_eq_true rfl) (hJ _ _ _ _ (by decide)) (xm_le ml_105 rfl) rfl ?_
    refine xi_iload_n (pc' := 1) (x := a1) kc_105_0 rfl rfl ?_
    by_cases c2 : a1.toInt < 0
    · refine xi_ift (pc' := 14) kc_105_1 rfl (xc_lt_t (X := a1.toInt) (Y := 0) rfl (by decide) (by omega)) ?_
      refine xi_iconst (pc' := 15) (v := 0) kc_105_14 rfl rfl ?_
      refine xi_ireturn kc_105_15 mr_105 rfl ?_
      show xw J ov 99 104 (4, [(0, .ref 0), (1, .int a1), (2, .int a2), (3, .int a3), (4, .int 0)], [.int 0], h0) _
      refine xi_ift (pc' := 14) kc_104_4 rfl rfl ?_
      refine xi_aload_n (pc' := 15) (x := 0) kc_104_14 rfl rfl ?_
      refine xi_iconst (pc' := 16) (v := (-1)) kc_104_15 rfl rfl ?_
      refine xi_virtual (mj := 91) (as := [.int (-1)]) (st1 := []) (lv0 := [(0, .ref 0), (1, .int (-1))]) kc_104_16 rfl rfl rfl rfl rfl (F 0 _ hl_0) (Nat.le_of_ble_eq_true rfl) (hJ _ _ _ _ (by decide)) (xm_le ml_91 rfl) rfl ?_
      refine xi_iload_n (pc' := 1) (x := (-1)) kc_91_0 rfl rfl ?_
      refine xi_ineg (pc' := 2) (v := 1) kc_91_1 rfl rfl ?_
      refine xi_istore_n (pc' := 3) (lv' := [(2, .int 1), (0, .ref 0), (1, .int (-1))]) kc_91_2 rfl rfl (xm_lt ml_91 rfl) ?_
      refine xi_iload_n (pc' := 4) (x := 1) kc_91_3 rfl rfl ?_
      refine xi_iff (pc' := 7) kc_91_4 rfl rfl ?_
      refine xi_iload_n (pc' := 8) (x := 1) kc_91_7 rfl rfl ?_
      refine xi_aload_n (pc' := 9) (x := 0) kc_91_8 rfl rfl ?_
      refine xi_getfield (pc' := 12) (v := .ref 94) kc_91_9 rfl rfl rfl (F 0 _ hl_0) rfl ?_
      refine xi_arraylength (pc' := 13) (n := 7) (v := 7) kc_91_12 rfl (xl_lenI (by decide) (by decide) (F 94 _ hl_94) (by simp only [List.length_replicate, List.length_cons, List.length_nil])) rfl ?_
      refine xi_cmf (pc' := 16) kc_91_13 rfl rfl ?_
      refine xi_aload_n (pc' := 17) (x := 0) kc_91_16 rfl rfl ?_
      refine xi_getfield (pc' := 20) (v := .ref 94) kc_91_17 rfl rfl rfl (F 0 _ hl_0) rfl ?_
      refine xi_iload_n (pc' := 21) (x := 1) kc_91_20 rfl rfl ?_
      refine xi_dup2 (pc' := 22) kc_91_21 rfl ⟨rfl, rfl⟩ ?_
      refine xi_iaload (pc' := 23) (v := 0) kc_91_22 rfl (F 94 _ hl_94) (by decide) rfl (xi_in (n := 7) (by decide) (by decide)) rfl ?_
      refine xi_iconst (pc' := 24) (v := 1) kc_91_23 rfl rfl ?_
      refine xi_iadd (pc' := 25) (v := 1) kc_91_24 rfl rfl ?_
      refine xi_iastore (pc' := 26) (x' := [0, 1, 0, 0, 0, 0, 0]) kc_91_25 rfl (F 94 _ hl_94) rfl (xi_in (n := 7) (by decide) (by decide)) rfl (fun hh1 eh1 => ?_)
      refine xi_iload_n (pc' := 27) (x := (-1)) kc_91_26 rfl rfl ?_
      refine xi_ireturn kc_91_27 mr_91 rfl ?_
      show xw J ov 99 104 (19, [(0, .ref 0), (1, .int a1), (2, .int a2), (3, .int a3), (4, .int 0)], [.int (-1)], hh1) _
      refine xi_ireturn kc_104_19 mr_104 rfl ?_
      show xw J ov 100 196 (437, [(4, .int 0), (3, .ref 167), (2, .ref 115), (1, .ref 0), (0, .ref 1000000)], [.int (-1)], hh1) _
      refine xi_aload_n (pc' := 438) (x := 115) kc_196_437 rfl rfl ?_
      refine xi_aload_n (pc' := 439) (x := 1000000) kc_196_438 rfl rfl ?_
      refine xi_iload (pc' := 441) (x := 0) kc_196_439 rfl rfl ?_
      refine xi_iconst (pc' := 442) (v := 1) kc_196_441 rfl rfl ?_
      refine xi_iadd (pc' := 443) (v := 1) kc_196_442 rfl rfl ?_
      refine xi_ialoadO (pc' := 444) (v := a1) kc_196_443 rfl (by decide) hov0 (xi_in (n := 6) (by decide) (by decide)) rfl ?_
      refine xi_aload_n (pc' := 445) (x := 1000000) kc_196_444 rfl rfl ?_
      refine xi_iload (pc' := 447) (x := 0) kc_196_445 rfl rfl ?_
      refine xi_iconst (pc' := 448) (v := 2) kc_196_447 rfl rfl ?_
      refine xi_iadd (pc' := 449) (v := 2) kc_196_448 rfl rfl ?_
      refine xi_ialoadO (pc' := 450) (v := a2) kc_196_449 rfl (by decide) hov0 (xi_in (n := 6) (by decide) (by decide)) rfl ?_
      refine xi_aload_n (pc' := 451) (x := 1000000) kc_196_450 rfl rfl ?_
      refine xi_iload (pc' := 453) (x := 0) kc_196_451 rfl rfl ?_
      refine xi_iconst (pc' := 454) (v := 3) kc_196_453 rfl rfl ?_
      refine xi_iadd (pc' := 455) (v := 3) kc_196_454 rfl rfl ?_
      refine xi_ialoadO (pc' := 456) (v := a3) kc_196_455 rfl (by decide) hov0 (xi_in (n := 6) (by decide) (by decide)) rfl ?_
      refine xi_aload_n (pc' := 457) (x := 1000000) kc_196_456 rfl rfl ?_
      refine xi_iload (pc' := 459) (x := 0) kc_196_457 rfl rfl ?_
      refine xi_iconst (pc' := 460) (v := 4) kc_196_459 rfl rfl ?_
      refine xi_iadd (pc' := 461) (v := 4) kc_196_460 rfl rfl ?_
      refine xi_ialoadO (pc' := 462) (v := a4) kc_196_461 rfl (by decide) hov0 (xi_in (n := 6) (by decide) (by decide)) rfl ?_
      refine xi_ift (pc' := 469) kc_196_462 rfl (xc_eq_t (X := a4.toInt) (Y := 0) rfl (by decide) (by omega)) ?_
      refine xi_iconst (pc' := 470) (v := 0) kc_196_469 rfl rfl ?_
      refine xi_virtual (mj := 24) (as := [.int a1, .int a2, .int a3, .int 0]) (st1 := [.int (-1)]) (lv0 := [(0, .ref 115), (1, .int a1), (2, .int a2), (3, .int a3), (4, .int 0)]) kc_196_470 rfl rfl rfl rfl rfl ((eh1.2.1 115 (by decide)).trans (F 115 _ hl_115)) (Nat.le_of_ble_eq_true rfl) (hJ _ _ _ _ (by decide)) (xm_le ml_24 rfl) rfl ?_
      refine xi_aload_n (pc' := 1) (x := 115) kc_24_0 rfl rfl ?_
      refine xi_iconst (pc' := 2) (v := 0) kc_24_1 rfl rfl ?_
      refine xi_putfield (pc' := 5) (fs' := [.int 0, .int 0, .ref 116, .ref 117, .ref 118, .ref 119, .ref 120, .ref 121, .ref 122, .ref 123, .ref 124, .ref 125, .ref 126, .ref 127, .ref 128, .ref 129, .int 4, .ref 130, .int 0, .ref 131, .ref 132, .ref 133, .ref 134, .int 0, .ref 135, .ref 136, .ref 137, .ref 138, .ref 139, .ref 140, .ref 141, .ref 142, .int 0, .int 0, .int 0, .ref 143, .ref 144, .ref 145, .ref 146, .ref 147, .ref 148, .int 0, .ref 149, .ref 150, .ref 151, .int 0, .ref 152, .ref 153, .ref 154, .ref 155, .ref 156, .ref 157, .ref 158, .ref 159, .int 0, .ref 160, .int 0, .ref 161, .ref 162, .ref 163, .ref 164, .int 0, .ref 165, .ref 166]) kc_24_2 rfl rfl rfl ((eh1.2.1 115 (by decide)).trans (F 115 _ hl_115)) rfl rfl rfl (Nat.le_of_ble_eq_true rfl) rfl (fun hh2 eh2 => ?_)
      refine xi_iload_n (pc' := 6) (x := a1) kc_24_5 rfl rfl ?_
      refine xi_static (mj := 25) (as := [.int a1]) (st1 := []) (lv0 := [(0, .int a1)]) kc_24_6 rfl rfl (Nat.le_of_ble_eq_true rfl) rfl rfl (Nat.le_of_ble_eq_true rfl) (hJ _ _ _ _ (by decide)) (xm_le ml_25 rfl) rfl ?_
      refine xi_iload_n (pc' := 1) (x := a1) kc_25_0 rfl rfl ?_
      refine xi_iconst (pc' := 2) (v := 0) kc_25_1 rfl rfl ?_
      refine xi_bipush (pc' := 4) (v := 11) kc_25_2 rfl rfl ?_
      refine xi_static (mj := 12) (as := [.int a1, .int 0, .int 11]) (st1 := []) (lv0 := [(0, .int a1), (1, .int 0), (2, .int 11)]) kc_25_4 rfl rfl (Nat.le_of_ble_eq_true rfl) rfl rfl (Nat.le_of_ble_eq_true rfl) (hJ _ _ _ _ (by decide)) (xm_le ml_12 rfl) rfl ?_
      refine xi_iload_n (pc' := 1) (x := a1) kc_12_0 rfl rfl ?_
      refine xi_iload_n (pc' := 2) (x := 0) kc_12_1 rfl rfl ?_
      refine xi_cmt (pc' := 14) kc_12_2 rfl (xc_lt_t (X := a1.toInt) (Y := 0) rfl (by decide) (by omega)) ?_
      refine xi_iconst (pc' := 15) (v := 0) kc_12_14 rfl rfl ?_
      refine xi_ireturn kc_12_15 mr_12 rfl ?_
      show xw J ov 98 25 (7, [(0, .int a1)], [.int 0], hh2) _
      refine xi_ireturn kc_25_7 mr_25 rfl ?_
      show xw J ov 99 24 (9, [(0, .ref 115), (1, .int a1), (2, .int a2), (3, .int a3), (4, .int 0)], [.int 0], hh2) _
      refine xi_ift (pc' := 19) kc_24_9 rfl rfl ?_
      refine xi_aload_n (pc' := 20) (x := 115) kc_24_19 rfl rfl ?_
      refine xi_iconst (pc' := 21) (v := (-1)) kc_24_20 rfl rfl ?_
      refine xi_virtual (mj := 13) (as := [.int (-1)]) (st1 := []) (lv0 := [(0, .ref 115), (1, .int (-1))]) kc_24_21 rfl rfl rfl rfl rfl eh2.1 (Nat.le_of_ble_eq_true rfl) (hJ _ _ _ _ (by decide)) (xm_le ml_13 rfl) rfl ?_
      refine xi_aload_n (pc' := 1) (x := 115) kc_13_0 rfl rfl ?_
      refine xi_getfield (pc' := 4) (v := .ref 140) kc_13_1 rfl rfl rfl eh2.1 rfl ?_
      refine xi_iload_n (pc' := 5) (x := (-1)) kc_13_4 rfl rfl ?_
      refine xi_ineg (pc' := 6) (v := 1) kc_13_5 rfl rfl ?_
      refine xi_dup2 (pc' := 7) kc_13_6 rfl ⟨rfl, rfl⟩ ?_
      refine xi_iaload (pc' := 8) (v := 0) kc_13_7 rfl ((eh2.2.1 140 (by decide)).trans ((eh1.2.1 140 (by decide)).trans (F 140 _ hl_140))) (by decide) rfl (xi_in (n := 7) (by decide) (by decide)) rfl ?_
      refine xi_iconst (pc' := 9) (v := 1) kc_13_8 rfl rfl ?_
      refine xi_iadd (pc' := 10) (v := 1) kc_13_9 rfl rfl ?_
      refine xi_iastore (pc' := 11) (x' := [0, 1, 0, 0, 0, 0, 0]) kc_13_10 rfl ((eh2.2.1 140 (by decide)).trans ((eh1.2.1 140 (by decide)).trans (F 140 _ hl_140))) rfl (xi_in (n := 7) (by decide) (by decide)) rfl (fun hh3 eh3 => ?_)
      refine xi_iload_n (pc' := 12) (x := (-1)) kc_13_11 rfl rfl ?_
      refine xi_ireturn kc_13_12 mr_13 rfl ?_
      show xw J ov 99 24 (24, [(0, .ref 115), (1, .int a1), (2, .int a2), (3, .int a3), (4, .int 0)], [.int (-1)], hh3) _
      refine xi_ireturn kc_24_24 mr_24 rfl ?_
      show xw J ov 100 196 (473, [(4, .int 0), (3, .ref 167), (2, .ref 115), (1, .ref 0), (0, .ref 1000000)], [.int (-1), .int (-1)], hh3) _
      refine xi_cmt (pc' := 1528) kc_196_473 rfl rfl ?_
      refine xi_iinc (pc' := 1531) (x := 0) (v := 6) (lv' := [(4, .int 6), (3, .ref 167), (2, .ref 115), (1, .ref 0), (0, .ref 1000000)]) kc_196_1528 rfl rfl rfl rfl (xm_lt ml_196 rfl) ?_
      refine xi_goto (pc' := 23) kc_196_1531 rfl ?_
      refine xi_iload (pc' := 25) (x := 6) kc_196_23 rfl rfl ?_
      refine xi_aload_n (pc' := 26) (x := 1000000) kc_196_25 rfl rfl ?_
      refine xi_arraylength (pc' := 27) (n := 6) (v := 6) kc_196_26 rfl (xl_lenO (by decide) hov0 rfl) rfl ?_
      refine xi_bipush (pc' := 29) (v := 6) kc_196_27 rfl rfl ?_
      refine xi_isub (pc' := 30) (v := 0) kc_196_29 rfl rfl ?_
      refine xi_cmt (pc' := 1534) kc_196_30 rfl rfl ?_
      refine xi_iconst (pc' := 1535) (v := 1) kc_196_1534 rfl rfl ?_
      refine xi_ireturn kc_196_1535 mr_196 rfl ?_
      refine ⟨rfl, ?_, ?_⟩
      · rw [eh3.2.2.1, eh2.2.2.1, eh1.2.2.1]; exact hn0
      · rw [eh3.2.2.2, eh2.2.2.2, eh1.2.2.2]; exact hz0
    · refine xi_iff (pc' := 4) kc_105_1 rfl (xc_lt_f (X := a1.toInt) (Y := 0) rfl (by decide) (by omega)) ?_
      refine xi_iload_n (pc' := 5) (x := a1) kc_105_4 rfl rfl ?_
      refine xi_bipush (pc' := 7) (v := 12) kc_105_5 rfl rfl ?_
      by_cases c3 : 12 ≤ a1.toInt
      · refine xi_cmt (pc' := 14) kc_105_7 rfl (xc_ge_t (X := a1.toInt) (Y := 12) rfl (by decide) (by omega)) ?_
        refine xi_iconst (pc' := 15) (v := 0) kc_105_14 rfl rfl ?_
        refine xi_ireturn kc_105_15 mr_105 rfl ?_
        show xw J ov 99 104 (4, [(0, .ref 0), (1, .int a1), (2, .int a2), (3, .int a3), (4, .int 0)], [.int 0], h0) _
        refine xi_ift (pc' := 14) kc_104_4 rfl rfl ?_
        refine xi_aload_n (pc' := 15) (x := 0) kc_104_14 rfl rfl ?_
        refine xi_iconst (pc' := 16) (v := (-1)) kc_104_15 rfl rfl ?_
        refine xi_virtual (mj := 91) (as := [.int (-1)]) (st1 := []) (lv0 := [(0, .ref 0), (1, .int (-1))]) kc_104_16 rfl rfl rfl rfl rfl (F 0 _ hl_0) (Nat.le_of_ble_eq_true rfl) (hJ _ _ _ _ (by decide)) (xm_le ml_91 rfl) rfl ?_
        refine xi_iload_n (pc' := 1) (x := (-1)) kc_91_0 rfl rfl ?_
        refine xi_ineg (pc' := 2) (v := 1) kc_91_1 rfl rfl ?_
        refine xi_istore_n (pc' := 3) (lv' := [(2, .int 1), (0, .ref 0), (1, .int (-1))]) kc_91_2 rfl rfl (xm_lt ml_91 rfl) ?_
        refine xi_iload_n (pc' := 4) (x := 1) kc_91_3 rfl rfl ?_
        refine xi_iff (pc' := 7) kc_91_4 rfl rfl ?_
        refine xi_iload_n (pc' := 8) (x := 1) kc_91_7 rfl rfl ?_
        refine xi_aload_n (pc' := 9) (x := 0) kc_91_8 rfl rfl ?_
        refine xi_getfield (pc' := 12) (v := .ref 94) kc_91_9 rfl rfl rfl (F 0 _ hl_0) rfl ?_
        refine xi_arraylength (pc' := 13) (n := 7) (v := 7) kc_91_12 rfl (xl_lenI (by decide) (by decide) (F 94 _ hl_94) (by simp only [List.length_replicate, List.length_cons, List.length_nil])) rfl ?_
        refine xi_cmf (pc' := 16) kc_91_13 rfl rfl ?_
        refine xi_aload_n (pc' := 17) (x := 0) kc_91_16 rfl rfl ?_
        refine xi_getfield (pc' := 20) (v := .ref 94) kc_91_17 rfl rfl rfl (F 0 _ hl_0) rfl ?_
        refine xi_iload_n (pc' := 21) (x := 1) kc_91_20 rfl rfl ?_
        refine xi_dup2 (pc' := 22) kc_91_21 rfl ⟨rfl, rfl⟩ ?_
        refine xi_iaload (pc' := 23) (v := 0) kc_91_22 rfl (F 94 _ hl_94) (by decide) rfl (xi_in (n := 7) (by decide) (by decide)) rfl ?_
        refine xi_iconst (pc' := 24) (v := 1) kc_91_23 rfl rfl ?_
        refine xi_iadd (pc' := 25) (v := 1) kc_91_24 rfl rfl ?_
        refine xi_iastore (pc' := 26) (x' := [0, 1, 0, 0, 0, 0, 0]) kc_91_25 rfl (F 94 _ hl_94) rfl (xi_in (n := 7) (by decide) (by decide)) rfl (fun hh1 eh1 => ?_)
        refine xi_iload_n (pc' := 27) (x := (-1)) kc_91_26 rfl rfl ?_
        refine xi_ireturn kc_91_27 mr_91 rfl ?_
        show xw J ov 99 104 (19, [(0, .ref 0), (1, .int a1), (2, .int a2), (3, .int a3), (4, .int 0)], [.int (-1)], hh1) _
        refine xi_ireturn kc_104_19 mr_104 rfl ?_
        show xw J ov 100 196 (437, [(4, .int 0), (3, .ref 167), (2, .ref 115), (1, .ref 0), (0, .ref 1000000)], [.int (-1)], hh1) _
        refine xi_aload_n (pc' := 438) (x := 115) kc_196_437 rfl rfl ?_
        refine xi_aload_n (pc' := 439) (x := 1000000) kc_196_438 rfl rfl ?_
        refine xi_iload (pc' := 441) (x := 0) kc_196_439 rfl rfl ?_
        refine xi_iconst (pc' := 442) (v := 1) kc_196_441 rfl rfl ?_
        refine xi_iadd (pc' := 443) (v := 1) kc_196_442 rfl rfl ?_
        refine xi_ialoadO (pc' := 444) (v := a1) kc_196_443 rfl (by decide) hov0 (xi_in (n := 6) (by decide) (by decide)) rfl ?_
        refine xi_aload_n (pc' := 445) (x := 1000000) kc_196_444 rfl rfl ?_
        refine xi_iload (pc' := 447) (x := 0) kc_196_445 rfl rfl ?_
        refine xi_iconst (pc' := 448) (v := 2) kc_196_447 rfl rfl ?_
        refine xi_iadd (pc' := 449) (v := 2) kc_196_448 rfl rfl ?_
        refine xi_ialoadO (pc' := 450) (v := a2) kc_196_449 rfl (by decide) hov0 (xi_in (n := 6) (by decide) (by decide)) rfl ?_
        refine xi_aload_n (pc' := 451) (x := 1000000) kc_196_450 rfl rfl ?_
        refine xi_iload (pc' := 453) (x := 0) kc_196_451 rfl rfl ?_
        refine xi_iconst (pc' := 454) (v := 3) kc_196_453 rfl rfl ?_
        refine xi_iadd (pc' := 455) (v := 3) kc_196_454 rfl rfl ?_
        refine xi_ialoadO (pc' := 456) (v := a3) kc_196_455 rfl (by decide) hov0 (xi_in (n := 6) (by decide) (by decide)) rfl ?_
        refine xi_aload_n (pc' := 457) (x := 1000000) kc_196_456 rfl rfl ?_
        refine xi_iload (pc' := 459) (x := 0) kc_196_457 rfl rfl ?_
        refine xi_iconst (pc' := 460) (v := 4) kc_196_459 rfl rfl ?_
        refine xi_iadd (pc' := 461) (v := 4) kc_196_460 rfl rfl ?_
        refine xi_ialoadO (pc' := 462) (v := a4) kc_196_461 rfl (by decide) hov0 (xi_in (n := 6) (by decide) (by decide)) rfl ?_
        refine xi_ift (pc' := 469) kc_196_462 rfl (xc_eq_t (X := a4.toInt) (Y := 0) rfl (by decide) (by omega)) ?_
        refine xi_iconst (pc' := 470) (v := 0) kc_196_469 rfl rfl ?_
        refine xi_virtual (mj := 24) (as := [.int a1, .int a2, .int a3, .int 0]) (st1 := [.int (-1)]) (lv0 := [(0, .ref 115), (1, .int a1), (2, .int a2), (3, .int a3), (4, .int 0)]) kc_196_470 rfl rfl rfl rfl rfl ((eh1.2.1 115 (by decide)).trans (F 115 _ hl_115)) (Nat.le_of_ble_eq_true rfl) (hJ _ _ _ _ (by decide)) (xm_le ml_24 rfl) rfl ?_
        refine xi_aload_n (pc' := 1) (x := 115) kc_24_0 rfl rfl ?_
        refine xi_iconst (pc' := 2) (v := 0) kc_24_1 rfl rfl ?_
        refine xi_putfield (pc' := 5) (fs' := [.int 0, .int 0, .ref 116, .ref 117, .ref 118, .ref 119, .ref 120, .ref 121, .ref 122, .ref 123, .ref 124, .ref 125, .ref 126, .ref 127, .ref 128, .ref 129, .int 4, .ref 130, .int 0, .ref 131, .ref 132, .ref 133, .ref 134, .int 0, .ref 135, .ref 136, .ref 137, .ref 138, .ref 139, .ref 140, .ref 141, .ref 142, .int 0, .int 0, .int 0, .ref 143, .ref 144, .ref 145, .ref 146, .ref 147, .ref 148, .int 0, .ref 149, .ref 150, .ref 151, .int 0, .ref 152, .ref 153, .ref 154, .ref 155, .ref 156, .ref 157, .ref 158, .ref 159, .int 0, .ref 160, .int 0, .ref 161, .ref 162, .ref 163, .ref 164, .int 0, .ref 165, .ref 166]) kc_24_2 rfl rfl rfl ((eh1.2.1 115 (by decide)).trans (F 115 _ hl_115)) rfl rfl rfl (Nat.le_of_ble_eq_true rfl) rfl (fun hh2 eh2 => ?_)
        refine xi_iload_n (pc' := 6) (x := a1) kc_24_5 rfl rfl ?_
        refine xi_static (mj := 25) (as := [.int a1]) (st1 := []) (lv0 := [(0, .int a1)]) kc_24_6 rfl rfl (Nat.le_of_ble_eq_true rfl) rfl rfl (Nat.le_of_ble_eq_true rfl) (hJ _ _ _ _ (by decide)) (xm_le ml_25 rfl) rfl ?_
        refine xi_iload_n (pc' := 1) (x := a1) kc_25_0 rfl rfl ?_
        refine xi_iconst (pc' := 2) (v := 0) kc_25_1 rfl rfl ?_
        refine xi_bipush (pc' := 4) (v := 11) kc_25_2 rfl rfl ?_
        refine xi_static (mj := 12) (as := [.int a1, .int 0, .int 11]) (st1 := []) (lv0 := [(0, .int a1), (1, .int 0), (2, .int 11)]) kc_25_4 rfl rfl (Nat.le_of_ble_eq_true rfl) rfl rfl (Nat.le_of_ble_eq_true rfl) (hJ _ _ _ _ (by decide)) (xm_le ml_12 rfl) rfl ?_
        refine xi_iload_n (pc' := 1) (x := a1) kc_12_0 rfl rfl ?_
        refine xi_iload_n (pc' := 2) (x := 0) kc_12_1 rfl rfl ?_
        refine xi_cmf (pc' := 5) kc_12_2 rfl (xc_lt_f (X := a1.toInt) (Y := 0) rfl (by decide) (by omega)) ?_
        refine xi_iload_n (pc' := 6) (x := a1) kc_12_5 rfl rfl ?_
        refine xi_iload_n (pc' := 7) (x := 11) kc_12_6 rfl rfl ?_
        refine xi_cmt (pc' := 14) kc_12_7 rfl (xc_gt_t (X := a1.toInt) (Y := 11) rfl (by decide) (by omega)) ?_
        refine xi_iconst (pc' := 15) (v := 0) kc_12_14 rfl rfl ?_
        refine xi_ireturn kc_12_15 mr_12 rfl ?_
        show xw J ov 98 25 (7, [(0, .int a1)], [.int 0], hh2) _
        refine xi_ireturn kc_25_7 mr_25 rfl ?_
        show xw J ov 99 24 (9, [(0, .ref 115), (1, .int a1), (2, .int a2), (3, .int a3), (4, .int 0)], [.int 0], hh2) _
        refine xi_ift (pc' := 19) kc_24_9 rfl rfl ?_
        refine xi_aload_n (pc' := 20) (x := 115) kc_24_19 rfl rfl ?_
        refine xi_iconst (pc' := 21) (v := (-1)) kc_24_20 rfl rfl ?_
        refine xi_virtual (mj := 13) (as := [.int (-1)]) (st1 := []) (lv0 := [(0, .ref 115), (1, .int (-1))]) kc_24_21 rfl rfl rfl rfl rfl eh2.1 (Nat.le_of_ble_eq_true rfl) (hJ _ _ _ _ (by decide)) (xm_le ml_13 rfl) rfl ?_
        refine xi_aload_n (pc' := 1) (x := 115) kc_13_0 rfl rfl ?_
        refine xi_getfield (pc' := 4) (v := .ref 140) kc_13_1 rfl rfl rfl eh2.1 rfl ?_
        refine xi_iload_n (pc' := 5) (x := (-1)) kc_13_4 rfl rfl ?_
        refine xi_ineg (pc' := 6) (v := 1) kc_13_5 rfl rfl ?_
        refine xi_dup2 (pc' := 7) kc_13_6 rfl ⟨rfl, rfl⟩ ?_
        refine xi_iaload (pc' := 8) (v := 0) kc_13_7 rfl ((eh2.2.1 140 (by decide)).trans ((eh1.2.1 140 (by decide)).trans (F 140 _ hl_140))) (by decide) rfl (xi_in (n := 7) (by decide) (by decide)) rfl ?_
        refine xi_iconst (pc' := 9) (v := 1) kc_13_8 rfl rfl ?_
        refine xi_iadd (pc' := 10) (v := 1) kc_13_9 rfl rfl ?_
        refine xi_iastore (pc' := 11) (x' := [0, 1, 0, 0, 0, 0, 0]) kc_13_10 rfl ((eh2.2.1 140 (by decide)).trans ((eh1.2.1 140 (by decide)).trans (F 140 _ hl_140))) rfl (xi_in (n := 7) (by decide) (by decide)) rfl (fun hh3 eh3 => ?_)
        refine xi_iload_n (pc' := 12) (x := (-1)) kc_13_11 rfl rfl ?_
        refine xi_ireturn kc_13_12 mr_13 rfl ?_
        show xw J ov 99 24 (24, [(0, .ref 115), (1, .int a1), (2, .int a2), (3, .int a3), (4, .int 0)], [.int (-1)], hh3) _
        refine xi_ireturn kc_24_24 mr_24 rfl ?_
        show xw J ov 100 196 (473, [(4, .int 0), (3, .ref 167), (2, .ref 115), (1, .ref 0), (0, .ref 1000000)], [.int (-1), .int (-1)], hh3) _
        refine xi_cmt (pc' := 1528) kc_196_473 rfl rfl ?_
        refine xi_iinc (pc' := 1531) (x := 0) (v := 6) (lv' := [(4, .int 6), (3, .ref 167), (2, .ref 115), (1, .ref 0), (0, .ref 1000000)]) kc_196_1528 rfl rfl rfl rfl (xm_lt ml_196 rfl) ?_
        refine xi_goto (pc' := 23) kc_196_1531 rfl ?_
        refine xi_iload (pc' := 25) (x := 6) kc_196_23 rfl rfl ?_
        refine xi_aload_n (pc' := 26) (x := 1000000) kc_196_25 rfl rfl ?_
        refine xi_arraylength (pc' := 27) (n := 6) (v := 6) kc_196_26 rfl (xl_lenO (by decide) hov0 rfl) rfl ?_
        refine xi_bipush (pc' := 29) (v := 6) kc_196_27 rfl rfl ?_
        refine xi_isub (pc' := 30) (v := 0) kc_196_29 rfl rfl ?_
        refine xi_cmt (pc' := 1534) kc_196_30 rfl rfl ?_
        refine xi_iconst (pc' := 1535) (v := 1) kc_196_1534 rfl rfl ?_
        refine xi_ireturn kc_196_1535 mr_196 rfl ?_
        refine ⟨rfl, ?_, ?_⟩
        · rw [eh3.2.2.1, eh2.2.2.1, eh1.2.2.1]; exact hn0
        · rw [eh3.2.2.2, eh2.2.2.2, eh1.2.2.2]; exact hz0
      · refine xi_cmf (pc' := 10) kc_105_7 rfl (xc_ge_f (X := a1.toInt) (Y := 12) rfl (by decide) (by omega)) ?_
        refine xi_iconst (pc' := 11) (v := 1) kc_105_10 rfl rfl ?_
        refine xi_goto (pc' := 15) kc_105_11 rfl ?_
        refine xi_ireturn kc_105_15 mr_105 rfl ?_
        show xw J ov 99 104 (4, [(0, .ref 0), (1, .int a1), (2, .int a2), (3, .int a3), (4, .int 0)], [.int 1], h0) _
        refine xi_iff (pc' := 7) kc_104_4 rfl rfl ?_
        refine xi_iload_n (pc' := 8) (x := a2) kc_104_7 rfl rfl ?_
        refine xi_static (mj := 90) (as := [.int a2]) (st1 := []) (lv0 := [(0, .int a2)]) kc_104_8 rfl rfl (Nat.le_of_ble_eq_true rfl) rfl rfl (Nat.le_of_ble_eq_true rfl) (hJ _ _ _ _ (by decide)) (xm_le ml_90 rfl) rfl ?_
        refine xi_iload_n (pc' := 1) (x := a2) kc_90_0 rfl rfl ?_
        by_cases c4 : a2.toInt < 0
        · refine xi_ift (pc' := 14) kc_90_1 rfl (xc_lt_t (X := a2.toInt) (Y := 0) rfl (by decide) (by omega)) ?_
          refine xi_iconst (pc' := 15) (v := 0) kc_90_14 rfl rfl ?_
          refine xi_ireturn kc_90_15 mr_90 rfl ?_
          show xw J ov 99 104 (11, [(0, .ref 0), (1, .int a1), (2, .int a2), (3, .int a3), (4, .int 0)], [.int 0], h0) _
          refine xi_iff (pc' := 14) kc_104_11 rfl rfl ?_
          refine xi_aload_n (pc' := 15) (x := 0) kc_104_14 rfl rfl ?_
          refine xi_iconst (pc' := 16) (v := (-1)) kc_104_15 rfl rfl ?_
          refine xi_virtual (mj := 91) (as := [.int (-1)]) (st1 := []) (lv0 := [(0, .ref 0), (1, .int (-1))]) kc_104_16 rfl rfl rfl rfl rfl (F 0 _ hl_0) (Nat.le_of_ble_eq_true rfl) (hJ _ _ _ _ (by decide)) (xm_le ml_91 rfl) rfl ?_
          refine xi_iload_n (pc' := 1) (x := (-1)) kc_91_0 rfl rfl ?_
          refine xi_ineg (pc' := 2) (v := 1) kc_91_1 rfl rfl ?_
          refine xi_istore_n (pc' := 3) (lv' := [(2, .int 1), (0, .ref 0), (1, .int (-1))]) kc_91_2 rfl rfl (xm_lt ml_91 rfl) ?_
          refine xi_iload_n (pc' := 4) (x := 1) kc_91_3 rfl rfl ?_
          refine xi_iff (pc' := 7) kc_91_4 rfl rfl ?_
          refine xi_iload_n (pc' := 8) (x := 1) kc_91_7 rfl rfl ?_
          refine xi_aload_n (pc' := 9) (x := 0) kc_91_8 rfl rfl ?_
          refine xi_getfield (pc' := 12) (v := .ref 94) kc_91_9 rfl rfl rfl (F 0 _ hl_0) rfl ?_
          refine xi_arraylength (pc' := 13) (n := 7) (v := 7) kc_91_12 rfl (xl_lenI (by decide) (by decide) (F 94 _ hl_94) (by simp only [List.length_replicate, List.length_cons, List.length_nil])) rfl ?_
          refine xi_cmf (pc' := 16) kc_91_13 rfl rfl ?_
          refine xi_aload_n (pc' := 17) (x := 0) kc_91_16 rfl rfl ?_
          refine xi_getfield (pc' := 20) (v := .ref 94) kc_91_17 rfl rfl rfl (F 0 _ hl_0) rfl ?_
          refine xi_iload_n (pc' := 21) (x := 1) kc_91_20 rfl rfl ?_
          refine xi_dup2 (pc' := 22) kc_91_21 rfl ⟨rfl, rfl⟩ ?_
          refine xi_iaload (pc' := 23) (v := 0) kc_91_22 rfl (F 94 _ hl_94) (by decide) rfl (xi_in (n := 7) (by decide) (by decide)) rfl ?_
          refine xi_iconst (pc' := 24) (v := 1) kc_91_23 rfl rfl ?_
          refine xi_iadd (pc' := 25) (v := 1) kc_91_24 rfl rfl ?_
          refine xi_iastore (pc' := 26) (x' := [0, 1, 0, 0, 0, 0, 0]) kc_91_25 rfl (F 94 _ hl_94) rfl (xi_in (n := 7) (by decide) (by decide)) rfl (fun hh1 eh1 => ?_)
          refine xi_iload_n (pc' := 27) (x := (-1)) kc_91_26 rfl rfl ?_
          refine xi_ireturn kc_91_27 mr_91 rfl ?_
          show xw J ov 99 104 (19, [(0, .ref 0), (1, .int a1), (2, .int a2), (3, .int a3), (4, .int 0)], [.int (-1)], hh1) _
          refine xi_ireturn kc_104_19 mr_104 rfl ?_
          show xw J ov 100 196 (437, [(4, .int 0), (3, .ref 167), (2, .ref 115), (1, .ref 0), (0, .ref 1000000)], [.int (-1)], hh1) _
          refine xi_aload_n (pc' := 438) (x := 115) kc_196_437 rfl rfl ?_
          refine xi_aload_n (pc' := 439) (x := 1000000) kc_196_438 rfl rfl ?_
          refine xi_iload (pc' := 441) (x := 0) kc_196_439 rfl rfl ?_
          refine xi_iconst (pc' := 442) (v := 1) kc_196_441 rfl rfl ?_
          refine xi_iadd (pc' := 443) (v := 1) kc_196_442 rfl rfl ?_
          refine xi_ialoadO (pc' := 444) (v := a1) kc_196_443 rfl (by decide) hov0 (xi_in (n := 6) (by decide) (by decide)) rfl ?_
          refine xi_aload_n (pc' := 445) (x := 1000000) kc_196_444 rfl rfl ?_
          refine xi_iload (pc' := 447) (x := 0) kc_196_445 rfl rfl ?_
          refine xi_iconst (pc' := 448) (v := 2) kc_196_447 rfl rfl ?_
          refine xi_iadd (pc' := 449) (v := 2) kc_196_448 rfl rfl ?_
          refine xi_ialoadO (pc' := 450) (v := a2) kc_196_449 rfl (by decide) hov0 (xi_in (n := 6) (by decide) (by decide)) rfl ?_
          refine xi_aload_n (pc' := 451) (x := 1000000) kc_196_450 rfl rfl ?_
          refine xi_iload (pc' := 453) (x := 0) kc_196_451 rfl rfl ?_
          refine xi_iconst (pc' := 454) (v := 3) kc_196_453 rfl rfl ?_
          refine xi_iadd (pc' := 455) (v := 3) kc_196_454 rfl rfl ?_
          refine xi_ialoadO (pc' := 456) (v := a3) kc_196_455 rfl (by decide) hov0 (xi_in (n := 6) (by decide) (by decide)) rfl ?_
          refine xi_aload_n (pc' := 457) (x := 1000000) kc_196_456 rfl rfl ?_
          refine xi_iload (pc' := 459) (x := 0) kc_196_457 rfl rfl ?_
          refine xi_iconst (pc' := 460) (v := 4) kc_196_459 rfl rfl ?_
          refine xi_iadd (pc' := 461) (v := 4) kc_196_460 rfl rfl ?_
          refine xi_ialoadO (pc' := 462) (v := a4) kc_196_461 rfl (by decide) hov0 (xi_in (n := 6) (by decide) (by decide)) rfl ?_
          refine xi_ift (pc' := 469) kc_196_462 rfl (xc_eq_t (X := a4.toInt) (Y := 0) rfl (by decide) (by omega)) ?_
          refine xi_iconst (pc' := 470) (v := 0) kc_196_469 rfl rfl ?_
          refine xi_virtual (mj := 24) (as := [.int a1, .int a2, .int a3, .int 0]) (st1 := [.int (-1)]) (lv0 := [(0, .ref 115), (1, .int a1), (2, .int a2), (3, .int a3), (4, .int 0)]) kc_196_470 rfl rfl rfl rfl rfl ((eh1.2.1 115 (by decide)).trans (F 115 _ hl_115)) (Nat.le_of_ble_eq_true rfl) (hJ _ _ _ _ (by decide)) (xm_le ml_24 rfl) rfl ?_
          refine xi_aload_n (pc' := 1) (x := 115) kc_24_0 rfl rfl ?_
          refine xi_iconst (pc' := 2) (v := 0) kc_24_1 rfl rfl ?_
          refine xi_putfield (pc' := 5) (fs' := [.int 0, .int 0, .ref 116, .ref 117, .ref 118, .ref 119, .ref 120, .ref 121, .ref 122, .ref 123, .ref 124, .ref 125, .ref 126, .ref 127, .ref 128, .ref 129, .int 4, .ref 130, .int 0, .ref 131, .ref 132, .ref 133, .ref 134, .int 0, .ref 135, .ref 136, .ref 137, .ref 138, .ref 139, .ref 140, .ref 141, .ref 142, .int 0, .int 0, .int 0, .ref 143, .ref 144, .ref 145, .ref 146, .ref 147, .ref 148, .int 0, .ref 149, .ref 150, .ref 151, .int 0, .ref 152, .ref 153, .ref 154, .ref 155, .ref 156, .ref 157, .ref 158, .ref 159, .int 0, .ref 160, .int 0, .ref 161, .ref 162, .ref 163, .ref 164, .int 0, .ref 165, .ref 166]) kc_24_2 rfl rfl rfl ((eh1.2.1 115 (by decide)).trans (F 115 _ hl_115)) rfl rfl rfl (Nat.le_of_ble_eq_true rfl) rfl (fun hh2 eh2 => ?_)
          refine xi_iload_n (pc' := 6) (x := a1) kc_24_5 rfl rfl ?_
          refine xi_static (mj := 25) (as := [.int a1]) (st1 := []) (lv0 := [(0, .int a1)]) kc_24_6 rfl rfl (Nat.le_of_ble_eq_true rfl) rfl rfl (Nat.le_of_ble_eq_true rfl) (hJ _ _ _ _ (by decide)) (xm_le ml_25 rfl) rfl ?_
          refine xi_iload_n (pc' := 1) (x := a1) kc_25_0 rfl rfl ?_
          refine xi_iconst (pc' := 2) (v := 0) kc_25_1 rfl rfl ?_
          refine xi_bipush (pc' := 4) (v := 11) kc_25_2 rfl rfl ?_
          refine xi_static (mj := 12) (as := [.int a1, .int 0, .int 11]) (st1 := []) (lv0 := [(0, .int a1), (1, .int 0), (2, .int 11)]) kc_25_4 rfl rfl (Nat.le_of_ble_eq_true rfl) rfl rfl (Nat.le_of_ble_eq_true rfl) (hJ _ _ _ _ (by decide)) (xm_le ml_12 rfl) rfl ?_
          refine xi_iload_n (pc' := 1) (x := a1) kc_12_0 rfl rfl ?_
          refine xi_iload_n (pc' := 2) (x := 0) kc_12_1 rfl rfl ?_
          refine xi_cmf (pc' := 5) kc_12_2 rfl (xc_lt_f (X := a1.toInt) (Y := 0) rfl (by decide) (by omega)) ?_
          refine xi_iload_n (pc' := 6) (x := a1) kc_12_5 rfl rfl ?_
          refine xi_iload_n (pc' := 7) (x := 11) kc_12_6 rfl rfl ?_
          refine xi_cmf (pc' := 10) kc_12_7 rfl (xc_gt_f (X := a1.toInt) (Y := 11) rfl (by decide) (by omega)) ?_
          refine xi_iconst (pc' := 11) (v := 1) kc_12_10 rfl rfl ?_
          refine xi_goto (pc' := 15) kc_12_11 rfl ?_
          refine xi_ireturn kc_12_15 mr_12 rfl ?_
          show xw J ov 98 25 (7, [(0, .int a1)], [.int 1], hh2) _
          refine xi_ireturn kc_25_7 mr_25 rfl ?_
          show xw J ov 99 24 (9, [(0, .ref 115), (1, .int a1), (2, .int a2), (3, .int a3), (4, .int 0)], [.int 1], hh2) _
          refine xi_iff (pc' := 12) kc_24_9 rfl rfl ?_
          refine xi_iload_n (pc' := 13) (x := a2) kc_24_12 rfl rfl ?_
          refine xi_static (mj := 11) (as := [.int a2]) (st1 := []) (lv0 := [(0, .int a2)]) kc_24_13 rfl rfl (Nat.le_of_ble_eq_true rfl) rfl rfl (Nat.le_of_ble_eq_true rfl) (hJ _ _ _ _ (by decide)) (xm_le ml_11 rfl) rfl ?_
          refine xi_iload_n (pc' := 1) (x := a2) kc_11_0 rfl rfl ?_
          refine xi_iconst (pc' := 2) (v := 0) kc_11_1 rfl rfl ?_
          refine xi_iconst (pc' := 3) (v := 5) kc_11_2 rfl rfl ?_
          refine xi_static (mj := 12) (as := [.int a2, .int 0, .int 5]) (st1 := []) (lv0 := [(0, .int a2), (1, .int 0), (2, .int 5)]) kc_11_3 rfl rfl (Nat.le_of_ble_eq_true rfl) rfl rfl (Nat.le_of_ble_eq_true rfl) (hJ _ _ _ _ (by decide)) (xm_le ml_12 rfl) rfl ?_
          refine xi_iload_n (pc' := 1) (x := a2) kc_12_0 rfl rfl ?_
          refine xi_iload_n (pc' := 2) (x := 0) kc_12_1 rfl rfl ?_
          refine xi_cmt (pc' := 14) kc_12_2 rfl (xc_lt_t (X := a2.toInt) (Y := 0) rfl (by decide) (by omega)) ?_
          refine xi_iconst (pc' := 15) (v := 0) kc_12_14 rfl rfl ?_
          refine xi_ireturn kc_12_15 mr_12 rfl ?_
          show xw J ov 98 11 (6, [(0, .int a2)], [.int 0], hh2) _
          refine xi_ireturn kc_11_6 mr_11 rfl ?_
          show xw J ov 99 24 (16, [(0, .ref 115), (1, .int a1), (2, .int a2), (3, .int a3), (4, .int 0)], [.int 0], hh2) _
          refine xi_iff (pc' := 19) kc_24_16 rfl rfl ?_
          refine xi_aload_n (pc' := 20) (x := 115) kc_24_19 rfl rfl ?_
          refine xi_iconst (pc' := 21) (v := (-1)) kc_24_20 rfl rfl ?_
          refine xi_virtual (mj := 13) (as := [.int (-1)]) (st1 := []) (lv0 := [(0, .ref 115), (1, .int (-1))]) kc_24_21 rfl rfl rfl rfl rfl eh2.1 (Nat.le_of_ble_eq_true rfl) (hJ _ _ _ _ (by decide)) (xm_le ml_13 rfl) rfl ?_
          refine xi_aload_n (pc' := 1) (x := 115) kc_13_0 rfl rfl ?_
          refine xi_getfield (pc' := 4) (v := .ref 140) kc_13_1 rfl rfl rfl eh2.1 rfl ?_
          refine xi_iload_n (pc' := 5) (x := (-1)) kc_13_4 rfl rfl ?_
          refine xi_ineg (pc' := 6) (v := 1) kc_13_5 rfl rfl ?_
          refine xi_dup2 (pc' := 7) kc_13_6 rfl ⟨rfl, rfl⟩ ?_
          refine xi_iaload (pc' := 8) (v := 0) kc_13_7 rfl ((eh2.2.1 140 (by decide)).trans ((eh1.2.1 140 (by decide)).trans (F 140 _ hl_140))) (by decide) rfl (xi_in (n := 7) (by decide) (by decide)) rfl ?_
          refine xi_iconst (pc' := 9) (v := 1) kc_13_8 rfl rfl ?_
          refine xi_iadd (pc' := 10) (v := 1) kc_13_9 rfl rfl ?_
          refine xi_iastore (pc' := 11) (x' := [0, 1, 0, 0, 0, 0, 0]) kc_13_10 rfl ((eh2.2.1 140 (by decide)).trans ((eh1.2.1 140 (by decide)).trans (F 140 _ hl_140))) rfl (xi_in (n := 7) (by decide) (by decide)) rfl (fun hh3 eh3 => ?_)
          refine xi_iload_n (pc' := 12) (x := (-1)) kc_13_11 rfl rfl ?_
          refine xi_ireturn kc_13_12 mr_13 rfl ?_
          show xw J ov 99 24 (24, [(0, .ref 115), (1, .int a1), (2, .int a2), (3, .int a3), (4, .int 0)], [.int (-1)], hh3) _
          refine xi_ireturn kc_24_24 mr_24 rfl ?_
          show xw J ov 100 196 (473, [(4, .int 0), (3, .ref 167), (2, .ref 115), (1, .ref 0), (0, .ref 1000000)], [.int (-1), .int (-1)], hh3) _
          refine xi_cmt (pc' := 1528) kc_196_473 rfl rfl ?_
          refine xi_iinc (pc' := 1531) (x := 0) (v := 6) (lv' := [(4, .int 6), (3, .ref 167), (2, .ref 115), (1, .ref 0), (0, .ref 1000000)]) kc_196_1528 rfl rfl rfl rfl (xm_lt ml_196 rfl) ?_
          refine xi_goto (pc' := 23) kc_196_1531 rfl ?_
          refine xi_iload (pc' := 25) (x := 6) kc_196_23 rfl rfl ?_
          refine xi_aload_n (pc' := 26) (x := 1000000) kc_196_25 rfl rfl ?_
          refine xi_arraylength (pc' := 27) (n := 6) (v := 6) kc_196_26 rfl (xl_lenO (by decide) hov0 rfl) rfl ?_
          refine xi_bipush (pc' := 29) (v := 6) kc_196_27 rfl rfl ?_
          refine xi_isub (pc' := 30) (v := 0) kc_196_29 rfl rfl ?_
          refine xi_cmt (pc' := 1534) kc_196_30 rfl rfl ?_
          refine xi_iconst (pc' := 1535) (v := 1) kc_196_1534 rfl rfl ?_
          refine xi_ireturn kc_196_1535 mr_196 rfl ?_
          refine ⟨rfl, ?_, ?_⟩
          · rw [eh3.2.2.1, eh2.2.2.1, eh1.2.2.1]; exact hn0
          · rw [eh3.2.2.2, eh2.2.2.2, eh1.2.2.2]; exact hz0
        · refine xi_iff (pc' := 4) kc_90_1 rfl (xc_lt_f (X := a2.toInt) (Y := 0) rfl (by decide) (by omega)) ?_
          refine xi_iload_n (pc' := 5) (x := a2) kc_90_4 rfl rfl ?_
          refine xi_bipush (pc' := 7) (v := 6) kc_90_5 rfl rfl ?_
          by_cases c5 : 6 ≤ a2.toInt
          · refine xi_cmt (pc' := 14) kc_90_7 rfl (xc_ge_t (X := a2.toInt) (Y := 6) rfl (by decide) (by omega)) ?_
            refine xi_iconst (pc' := 15) (v := 0) kc_90_14 rfl rfl ?_
            refine xi_ireturn kc_90_15 mr_90 rfl ?_
            show xw J ov 99 104 (11, [(0, .ref 0), (1, .int a1), (2, .int a2), (3, .int a3), (4, .int 0)], [.int 0], h0) _
            refine xi_iff (pc' := 14) kc_104_11 rfl rfl ?_
            refine xi_aload_n (pc' := 15) (x := 0) kc_104_14 rfl rfl ?_
            refine xi_iconst (pc' := 16) (v := (-1)) kc_104_15 rfl rfl ?_
            refine xi_virtual (mj := 91) (as := [.int (-1)]) (st1 := []) (lv0 := [(0, .ref 0), (1, .int (-1))]) kc_104_16 rfl rfl rfl rfl rfl (F 0 _ hl_0) (Nat.le_of_ble_eq_true rfl) (hJ _ _ _ _ (by decide)) (xm_le ml_91 rfl) rfl ?_
            refine xi_iload_n (pc' := 1) (x := (-1)) kc_91_0 rfl rfl ?_
            refine xi_ineg (pc' := 2) (v := 1) kc_91_1 rfl rfl ?_
            refine xi_istore_n (pc' := 3) (lv' := [(2, .int 1), (0, .ref 0), (1, .int (-1))]) kc_91_2 rfl rfl (xm_lt ml_91 rfl) ?_
            refine xi_iload_n (pc' := 4) (x := 1) kc_91_3 rfl rfl ?_
            refine xi_iff (pc' := 7) kc_91_4 rfl rfl ?_
            refine xi_iload_n (pc' := 8) (x := 1) kc_91_7 rfl rfl ?_
            refine xi_aload_n (pc' := 9) (x := 0) kc_91_8 rfl rfl ?_
            refine xi_getfield (pc' := 12) (v := .ref 94) kc_91_9 rfl rfl rfl (F 0 _ hl_0) rfl ?_
            refine xi_arraylength (pc' := 13) (n := 7) (v := 7) kc_91_12 rfl (xl_lenI (by decide) (by decide) (F 94 _ hl_94) (by simp only [List.length_replicate, List.length_cons, List.length_nil])) rfl ?_
            refine xi_cmf (pc' := 16) kc_91_13 rfl rfl ?_
            refine xi_aload_n (pc' := 17) (x := 0) kc_91_16 rfl rfl ?_
            refine xi_getfield (pc' := 20) (v := .ref 94) kc_91_17 rfl rfl rfl (F 0 _ hl_0) rfl ?_
            refine xi_iload_n (pc' := 21) (x := 1) kc_91_20 rfl rfl ?_
            refine xi_dup2 (pc' := 22) kc_91_21 rfl ⟨rfl, rfl⟩ ?_
            refine xi_iaload (pc' := 23) (v := 0) kc_91_22 rfl (F 94 _ hl_94) (by decide) rfl (xi_in (n := 7) (by decide) (by decide)) rfl ?_
            refine xi_iconst (pc' := 24) (v := 1) kc_91_23 rfl rfl ?_
            refine xi_iadd (pc' := 25) (v := 1) kc_91_24 rfl rfl ?_
            refine xi_iastore (pc' := 26) (x' := [0, 1, 0, 0, 0, 0, 0]) kc_91_25 rfl (F 94 _ hl_94) rfl (xi_in (n := 7) (by decide) (by decide)) rfl (fun hh1 eh1 => ?_)
            refine xi_iload_n (pc' := 27) (x := (-1)) kc_91_26 rfl rfl ?_
            refine xi_ireturn kc_91_27 mr_91 rfl ?_
            show xw J ov 99 104 (19, [(0, .ref 0), (1, .int a1), (2, .int a2), (3, .int a3), (4, .int 0)], [.int (-1)], hh1) _
            refine xi_ireturn kc_104_19 mr_104 rfl ?_
            show xw J ov 100 196 (437, [(4, .int 0), (3, .ref 167), (2, .ref 115), (1, .ref 0), (0, .ref 1000000)], [.int (-1)], hh1) _
            refine xi_aload_n (pc' := 438) (x := 115) kc_196_437 rfl rfl ?_
            refine xi_aload_n (pc' := 439) (x := 1000000) kc_196_438 rfl rfl ?_
            refine xi_iload (pc' := 441) (x := 0) kc_196_439 rfl rfl ?_
            refine xi_iconst (pc' := 442) (v := 1) kc_196_441 rfl rfl ?_
            refine xi_iadd (pc' := 443) (v := 1) kc_196_442 rfl rfl ?_
            refine xi_ialoadO (pc' := 444) (v := a1) kc_196_443 rfl (by decide) hov0 (xi_in (n := 6) (by decide) (by decide)) rfl ?_
            refine xi_aload_n (pc' := 445) (x := 1000000) kc_196_444 rfl rfl ?_
            refine xi_iload (pc' := 447) (x := 0) kc_196_445 rfl rfl ?_
            refine xi_iconst (pc' := 448) (v := 2) kc_196_447 rfl rfl ?_
            refine xi_iadd (pc' := 449) (v := 2) kc_196_448 rfl rfl ?_
            refine xi_ialoadO (pc' := 450) (v := a2) kc_196_449 rfl (by decide) hov0 (xi_in (n := 6) (by decide) (by decide)) rfl ?_
            refine xi_aload_n (pc' := 451) (x := 1000000) kc_196_450 rfl rfl ?_
            refine xi_iload (pc' := 453) (x := 0) kc_196_451 rfl rfl ?_
            refine xi_iconst (pc' := 454) (v := 3) kc_196_453 rfl rfl ?_
            refine xi_iadd (pc' := 455) (v := 3) kc_196_454 rfl rfl ?_
            refine xi_ialoadO (pc' := 456) (v := a3) kc_196_455 rfl (by decide) hov0 (xi_in (n := 6) (by decide) (by decide)) rfl ?_
            refine xi_aload_n (pc' := 457) (x := 1000000) kc_196_456 rfl rfl ?_
            refine xi_iload (pc' := 459) (x := 0) kc_196_457 rfl rfl ?_
            refine xi_iconst (pc' := 460) (v := 4) kc_196_459 rfl rfl ?_
            refine xi_iadd (pc' := 461) (v := 4) kc_196_460 rfl rfl ?_
            refine xi_ialoadO (pc' := 462) (v := a4) kc_196_461 rfl (by decide) hov0 (xi_in (n := 6) (by decide) (by decide)) rfl ?_
            refine xi_ift (pc' := 469) kc_196_462 rfl (xc_eq_t (X := a4.toInt) (Y := 0) rfl (by decide) (by omega)) ?_
            refine xi_iconst (pc' := 470) (v := 0) kc_196_469 rfl rfl ?_
            refine xi_virtual (mj := 24) (as := [.int a1, .int a2, .int a3, .int 0]) (st1 := [.int (-1)]) (lv0 := [(0, .ref 115), (1, .int a1), (2, .int a2), (3, .int a3), (4, .int 0)]) kc_196_470 rfl rfl rfl rfl rfl ((eh1.2.1 115 (by decide)).trans (F 115 _ hl_115)) (Nat.le_of_ble_eq_true rfl) (hJ _ _ _ _ (by decide)) (xm_le ml_24 rfl) rfl ?_
            refine xi_aload_n (pc' := 1) (x := 115) kc_24_0 rfl rfl ?_
            refine xi_iconst (pc' := 2) (v := 0) kc_24_1 rfl rfl ?_
            refine xi_putfield (pc' := 5) (fs' := [.int 0, .int 0, .ref 116, .ref 117, .ref 118, .ref 119, .ref 120, .ref 121, .ref 122, .ref 123, .ref 124, .ref 125, .ref 126, .ref 127, .ref 128, .ref 129, .int 4, .ref 130, .int 0, .ref 131, .ref 132, .ref 133, .ref 134, .int 0, .ref 135, .ref 136, .ref 137, .ref 138, .ref 139, .ref 140, .ref 141, .ref 142, .int 0, .int 0, .int 0, .ref 143, .ref 144, .ref 145, .ref 146, .ref 147, .ref 148, .int 0, .ref 149, .ref 150, .ref 151, .int 0, .ref 152, .ref 153, .ref 154, .ref 155, .ref 156, .ref 157, .ref 158, .ref 159, .int 0, .ref 160, .int 0, .ref 161, .ref 162, .ref 163, .ref 164, .int 0, .ref 165, .ref 166]) kc_24_2 rfl rfl rfl ((eh1.2.1 115 (by decide)).trans (F 115 _ hl_115)) rfl rfl rfl (Nat.le_of_ble_eq_true rfl) rfl (fun hh2 eh2 => ?_)
            refine xi_iload_n (pc' := 6) (x := a1) kc_24_5 rfl rfl ?_
            refine xi_static (mj := 25) (as := [.int a1]) (st1 := []) (lv0 := [(0, .int a1)]) kc_24_6 rfl rfl (Nat.le_of_ble_eq_true rfl) rfl rfl (Nat.le_of_ble_eq_true rfl) (hJ _ _ _ _ (by decide)) (xm_le ml_25 rfl) rfl ?_
            refine xi_iload_n (pc' := 1) (x := a1) kc_25_0 rfl rfl ?_
            refine xi_iconst (pc' := 2) (v := 0) kc_25_1 rfl rfl ?_
            refine xi_bipush (pc' := 4) (v := 11) kc_25_2 rfl rfl ?_
            refine xi_static (mj := 12) (as := [.int a1, .int 0, .int 11]) (st1 := []) (lv0 := [(0, .int a1), (1, .int 0), (2, .int 11)]) kc_25_4 rfl rfl (Nat.le_of_ble_eq_true rfl) rfl rfl (Nat.le_of_ble_eq_true rfl) (hJ _ _ _ _ (by decide)) (xm_le ml_12 rfl) rfl ?_
            refine xi_iload_n (pc' := 1) (x := a1) kc_12_0 rfl rfl ?_
            refine xi_iload_n (pc' := 2) (x := 0) kc_12_1 rfl rfl ?_
            refine xi_cmf (pc' := 5) kc_12_2 rfl (xc_lt_f (X := a1.toInt) (Y := 0) rfl (by decide) (by omega)) ?_
            refine xi_iload_n (pc' := 6) (x := a1) kc_12_5 rfl rfl ?_
            refine xi_iload_n (pc' := 7) (x := 11) kc_12_6 rfl rfl ?_
            refine xi_cmf (pc' := 10) kc_12_7 rfl (xc_gt_f (X := a1.toInt) (Y := 11) rfl (by decide) (by omega)) ?_
            refine xi_iconst (pc' := 11) (v := 1) kc_12_10 rfl rfl ?_
            refine xi_goto (pc' := 15) kc_12_11 rfl ?_
            refine xi_ireturn kc_12_15 mr_12 rfl ?_
            show xw J ov 98 25 (7, [(0, .int a1)], [.int 1], hh2) _
            refine xi_ireturn kc_25_7 mr_25 rfl ?_
            show xw J ov 99 24 (9, [(0, .ref 115), (1, .int a1), (2, .int a2), (3, .int a3), (4, .int 0)], [.int 1], hh2) _
            refine xi_iff (pc' := 12) kc_24_9 rfl rfl ?_
            refine xi_iload_n (pc' := 13) (x := a2) kc_24_12 rfl rfl ?_
            refine xi_static (mj := 11) (as := [.int a2]) (st1 := []) (lv0 := [(0, .int a2)]) kc_24_13 rfl rfl (Nat.le_of_ble_eq_true rfl) rfl rfl (Nat.le_of_ble_eq_true rfl) (hJ _ _ _ _ (by decide)) (xm_le ml_11 rfl) rfl ?_
            refine xi_iload_n (pc' := 1) (x := a2) kc_11_0 rfl rfl ?_
            refine xi_iconst (pc' := 2) (v := 0) kc_11_1 rfl rfl ?_
            refine xi_iconst (pc' := 3) (v := 5) kc_11_2 rfl rfl ?_
            refine xi_static (mj := 12) (as := [.int a2, .int 0, .int 5]) (st1 := []) (lv0 := [(0, .int a2), (1, .int 0), (2, .int 5)]) kc_11_3 rfl rfl (Nat.le_of_ble_eq_true rfl) rfl rfl (Nat.le_of_ble_eq_true rfl) (hJ _ _ _ _ (by decide)) (xm_le ml_12 rfl) rfl ?_
            refine xi_iload_n (pc' := 1) (x := a2) kc_12_0 rfl rfl ?_
            refine xi_iload_n (pc' := 2) (x := 0) kc_12_1 rfl rfl ?_
            refine xi_cmf (pc' := 5) kc_12_2 rfl (xc_lt_f (X := a2.toInt) (Y := 0) rfl (by decide) (by omega)) ?_
            refine xi_iload_n (pc' := 6) (x := a2) kc_12_5 rfl rfl ?_
            refine xi_iload_n (pc' := 7) (x := 5) kc_12_6 rfl rfl ?_
            refine xi_cmt (pc' := 14) kc_12_7 rfl (xc_gt_t (X := a2.toInt) (Y := 5) rfl (by decide) (by omega)) ?_
            refine xi_iconst (pc' := 15) (v := 0) kc_12_14 rfl rfl ?_
            refine xi_ireturn kc_12_15 mr_12 rfl ?_
            show xw J ov 98 11 (6, [(0, .int a2)], [.int 0], hh2) _
            refine xi_ireturn kc_11_6 mr_11 rfl ?_
            show xw J ov 99 24 (16, [(0, .ref 115), (1, .int a1), (2, .int a2), (3, .int a3), (4, .int 0)], [.int 0], hh2) _
            refine xi_iff (pc' := 19) kc_24_16 rfl rfl ?_
            refine xi_aload_n (pc' := 20) (x := 115) kc_24_19 rfl rfl ?_
            refine xi_iconst (pc' := 21) (v := (-1)) kc_24_20 rfl rfl ?_
            refine xi_virtual (mj := 13) (as := [.int (-1)]) (st1 := []) (lv0 := [(0, .ref 115), (1, .int (-1))]) kc_24_21 rfl rfl rfl rfl rfl eh2.1 (Nat.le_of_ble_eq_true rfl) (hJ _ _ _ _ (by decide)) (xm_le ml_13 rfl) rfl ?_
            refine xi_aload_n (pc' := 1) (x := 115) kc_13_0 rfl rfl ?_
            refine xi_getfield (pc' := 4) (v := .ref 140) kc_13_1 rfl rfl rfl eh2.1 rfl ?_
            refine xi_iload_n (pc' := 5) (x := (-1)) kc_13_4 rfl rfl ?_
            refine xi_ineg (pc' := 6) (v := 1) kc_13_5 rfl rfl ?_
            refine xi_dup2 (pc' := 7) kc_13_6 rfl ⟨rfl, rfl⟩ ?_
            refine xi_iaload (pc' := 8) (v := 0) kc_13_7 rfl ((eh2.2.1 140 (by decide)).trans ((eh1.2.1 140 (by decide)).trans (F 140 _ hl_140))) (by decide) rfl (xi_in (n := 7) (by decide) (by decide)) rfl ?_
            refine xi_iconst (pc' := 9) (v := 1) kc_13_8 rfl rfl ?_
            refine xi_iadd (pc' := 10) (v := 1) kc_13_9 rfl rfl ?_
            refine xi_iastore (pc' := 11) (x' := [0, 1, 0, 0, 0, 0, 0]) kc_13_10 rfl ((eh2.2.1 140 (by decide)).trans ((eh1.2.1 140 (by decide)).trans (F 140 _ hl_140))) rfl (xi_in (n := 7) (by decide) (by decide)) rfl (fun hh3 eh3 => ?_)
            refine xi_iload_n (pc' := 12) (x := (-1)) kc_13_11 rfl rfl ?_
            refine xi_ireturn kc_13_12 mr_13 rfl ?_
            show xw J ov 99 24 (24, [(0, .ref 115), (1, .int a1), (2, .int a2), (3, .int a3), (4, .int 0)], [.int (-1)], hh3) _
            refine xi_ireturn kc_24_24 mr_24 rfl ?_
            show xw J ov 100 196 (473, [(4, .int 0), (3, .ref 167), (2, .ref 115), (1, .ref 0), (0, .ref 1000000)], [.int (-1), .int (-1)], hh3) _
            refine xi_cmt (pc' := 1528) kc_196_473 rfl rfl ?_
            refine xi_iinc (pc' := 1531) (x := 0) (v := 6) (lv' := [(4, .int 6), (3, .ref 167), (2, .ref 115), (1, .ref 0), (0, .ref 1000000)]) kc_196_1528 rfl rfl rfl rfl (xm_lt ml_196 rfl) ?_
            refine xi_goto (pc' := 23) kc_196_1531 rfl ?_
            refine xi_iload (pc' := 25) (x := 6) kc_196_23 rfl rfl ?_
            refine xi_aload_n (pc' := 26) (x := 1000000) kc_196_25 rfl rfl ?_
            refine xi_arraylength (pc' := 27) (n := 6) (v := 6) kc_196_26 rfl (xl_lenO (by decide) hov0 rfl) rfl ?_
            refine xi_bipush (pc' := 29) (v := 6) kc_196_27 rfl rfl ?_
            refine xi_isub (pc' := 30) (v := 0) kc_196_29 rfl rfl ?_
            refine xi_cmt (pc' := 1534) kc_196_30 rfl rfl ?_
            refine xi_iconst (pc' := 1535) (v := 1) kc_196_1534 rfl rfl ?_
            refine xi_ireturn kc_196_1535 mr_196 rfl ?_
            refine ⟨rfl, ?_, ?_⟩
            · rw [eh3.2.2.1, eh2.2.2.1, eh1.2.2.1]; exact hn0
            · rw [eh3.2.2.2, eh2.2.2.2, eh1.2.2.2]; exact hz0
          · refine xi_cmf (pc' := 10) kc_90_7 rfl (xc_ge_f (X := a2.toInt) (Y := 6) rfl (by decide) (by omega)) ?_
            refine xi_iconst (pc' := 11) (v := 1) kc_90_10 rfl rfl ?_
            refine xi_goto (pc' := 15) kc_90_11 rfl ?_
            refine xi_ireturn kc_90_15 mr_90 rfl ?_
            show xw J ov 99 104 (11, [(0, .ref 0), (1, .int a1), (2, .int a2), (3, .int a3), (4, .int 0)], [.int 1], h0) _
            refine xi_ift (pc' := 20) kc_104_11 rfl rfl ?_
            refine xi_iload_n (pc' := 21) (x := a3) kc_104_20 rfl rfl ?_
            by_cases c6 : 0 ≤ a3.toInt
            · refine xi_ift (pc' := 31) kc_104_21 rfl (xc_ge_t (X := a3.toInt) (Y := 0) rfl (by decide) (by omega)) ?_
              refine xi_iload_n (pc' := 32) (x := a3) kc_104_31 rfl rfl ?_
              refine xi_bipush (pc' := 34) (v := 100) kc_104_32 rfl rfl ?_
              by_cases c7 : a3.toInt ≤ 100
              · refine xi_cmt (pc' := 44) kc_104_34 rfl (xc_le_t (X := a3.toInt) (Y := 100) rfl (by decide) (by omega)) ?_
                refine xi_aload_n (pc' := 45) (x := 0) kc_104_44 rfl rfl ?_
                refine xi_getfield (pc' := 48) (v := .ref 66) kc_104_45 rfl rfl rfl (F 0 _ hl_0) rfl ?_
                refine xi_virtual (mj := 92) (as := []) (st1 := []) (lv0 := [(0, .ref 66)]) kc_104_48 rfl rfl rfl rfl rfl (F 66 _ hl_66) (Nat.le_of_ble_eq_true rfl) (hJ _ _ _ _ (by decide)) (xm_le ml_92 rfl) rfl ?_
                refine xi_aload_n (pc' := 1) (x := 66) kc_92_0 rfl rfl ?_
                refine xi_lconst (pc' := 2) (v := 0) kc_92_1 rfl rfl ?_
                refine xi_putfield (pc' := 5) (fs' := [.ref 1, .ref 67, .ref 70, .ref 71, .ref 72, .ref 73, .ref 74, .long 0, .int 0]) kc_92_2 rfl rfl rfl (F 66 _ hl_66) rfl rfl rfl (Nat.le_of_ble_eq_true rfl) rfl (fun hh1 eh1 => ?_)
                refine xi_return kc_92_5 mr_92 ?_
                show xw J ov 99 104 (51, [(0, .ref 0), (1, .int a1), (2, .int a2), (3, .int a3), (4, .int 0)], [], hh1) _
                refine xi_aload_n (pc' := 52) (x := 0) kc_104_51 rfl rfl ?_
                refine xi_getfield (pc' := 55) (v := .ref 1) kc_104_52 rfl rfl rfl ((eh1.2.1 0 (by decide)).trans (F 0 _ hl_0)) rfl ?_
                refine xi_getfield (pc' := 58) (v := .ref 3) kc_104_55 rfl rfl rfl ((eh1.2.1 1 (by decide)).trans (F 1 _ hl_1)) rfl ?_
                refine xi_iload_n (pc' := 59) (x := a1) kc_104_58 rfl rfl ?_
                by_cases c8 : a1.toInt = 0
                · have qa1 : a1 = 0 := xc_of (Eq.trans (by omega) (show (0 : Int) = (0 : Int32).toInt by decide))
                  subst qa1
                  refine xi_aaload (pc' := 60) (b := 29) kc_104_59 rfl ((eh1.2.1 3 (by decide)).trans (F 3 _ hl_3)) rfl (xi_in (n := 12) (by decide) (by decide)) rfl ?_
                  refine xi_astore (pc' := 62) (lv' := [(5, .ref 29), (0, .ref 0), (1, .int 0), (2, .int a2), (3, .int a3), (4, .int 0)]) kc_104_60 rfl rfl (xm_lt ml_104 rfl) ?_
                  refine xi_aload (pc' := 64) (x := 29) kc_104_62 rfl rfl ?_
                  refine xi_virtual (mj := 106) (as := []) (st1 := []) (lv0 := [(0, .ref 29)]) kc_104_64 rfl rfl rfl rfl rfl ((eh1.2.1 29 (by decide)).trans (F 29 _ hl_29)) (Nat.le_of_ble_eq_true rfl) (hJ _ _ _ _ (by decide)) (xm_le ml_106 rfl) rfl ?_
                  refine xi_aload_n (pc' := 1) (x := 29) kc_106_0 rfl rfl ?_
                  refine xi_getfield (pc' := 4) (v := .int (-9)) kc_106_1 rfl rfl rfl ((eh1.2.1 29 (by decide)).trans (F 29 _ hl_29)) rfl ?_
                  refine xi_static (mj := 90) (as := [.int (-9)]) (st1 := []) (lv0 := [(0, .int (-9))]) kc_106_4 rfl rfl (Nat.le_of_ble_eq_true rfl) rfl rfl (Nat.le_of_ble_eq_true rfl) (hJ _ _ _ _ (by decide)) (xm_le ml_90 rfl) rfl ?_
                  refine xi_iload_n (pc' := 1) (x := (-9)) kc_90_0 rfl rfl ?_
                  refine xi_ift (pc' := 14) kc_90_1 rfl rfl ?_
                  refine xi_iconst (pc' := 15) (v := 0) kc_90_14 rfl rfl ?_
                  refine xi_ireturn kc_90_15 mr_90 rfl ?_
                  show xw J ov 98 106 (7, [(0, .ref 29)], [.int 0], hh1) _
                  refine xi_ireturn kc_106_7 mr_106 rfl ?_
                  show xw J ov 99 104 (67, [(5, .ref 29), (0, .ref 0), (1, .int 0), (2, .int a2), (3, .int a3), (4, .int 0)], [.int 0], hh1) _
                  refine xi_ift (pc' := 74) kc_104_67 rfl rfl ?_
                  refine xi_iconst (pc' := 75) (v := 1) kc_104_74 rfl rfl ?_
                  refine xi_istore (pc' := 77) (lv' := [(6, .int 1), (5, .ref 29), (0, .ref 0), (1, .int 0), (2, .int a2), (3, .int a3), (4, .int 0)]) kc_104_75 rfl rfl (xm_lt ml_104 rfl) ?_
                  refine xi_aload (pc' := 79) (x := 29) kc_104_77 rfl rfl ?_
                  refine xi_iload_n (pc' := 80) (x := a2) kc_104_79 rfl rfl ?_
                  refine xi_putfield (pc' := 83) (fs' := [.int a2, .int 0, .int 0, .int 0, .ref 30]) kc_104_80 rfl rfl rfl ((eh1.2.1 29 (by decide)).trans (F 29 _ hl_29)) rfl rfl rfl (Nat.le_of_ble_eq_true rfl) rfl (fun hh2 eh2 => ?_)
                  refine xi_aload (pc' := 85) (x := 29) kc_104_83 rfl rfl ?_
                  refine xi_iload_n (pc' := 86) (x := a3) kc_104_85 rfl rfl ?_
                  refine xi_putfield (pc' := 89) (fs' := [.int a2, .int a3, .int 0, .int 0, .ref 30]) kc_104_86 rfl rfl rfl eh2.1 rfl rfl rfl (Nat.le_of_ble_eq_true rfl) rfl (fun hh3 eh3 => ?_)
                  refine xi_aload (pc' := 91) (x := 29) kc_104_89 rfl rfl ?_
                  refine xi_iload (pc' := 93) (x := 0) kc_104_91 rfl rfl ?_
                  refine xi_putfield (pc' := 96) (fs' := [.int a2, .int a3, .int 0, .int 0, .ref 30]) kc_104_93 rfl rfl rfl eh3.1 rfl rfl rfl (Nat.le_of_ble_eq_true rfl) rfl (fun hh4 eh4 => ?_)
                  refine xi_iload (pc' := 98) (x := 1) kc_104_96 rfl rfl ?_
                  refine xi_ireturn kc_104_98 mr_104 rfl ?_
                  show xw J ov 100 196 (437, [(4, .int 0), (3, .ref 167), (2, .ref 115), (1, .ref 0), (0, .ref 1000000)], [.int 1], hh4) _
                  refine xi_aload_n (pc' := 438) (x := 115) kc_196_437 rfl rfl ?_
                  refine xi_aload_n (pc' := 439) (x := 1000000) kc_196_438 rfl rfl ?_
                  refine xi_iload (pc' := 441) (x := 0) kc_196_439 rfl rfl ?_
                  refine xi_iconst (pc' := 442) (v := 1) kc_196_441 rfl rfl ?_
                  refine xi_iadd (pc' := 443) (v := 1) kc_196_442 rfl rfl ?_
                  refine xi_ialoadO (pc' := 444) (v := 0) kc_196_443 rfl (by decide) hov0 (xi_in (n := 6) (by decide) (by decide)) rfl ?_
                  refine xi_aload_n (pc' := 445) (x := 1000000) kc_196_444 rfl rfl ?_
                  refine xi_iload (pc' := 447) (x := 0) kc_196_445 rfl rfl ?_
                  refine xi_iconst (pc' := 448) (v := 2) kc_196_447 rfl rfl ?_
                  refine xi_iadd (pc' := 449) (v := 2) kc_196_448 rfl rfl ?_
                  refine xi_ialoadO (pc' := 450) (v := a2) kc_196_449 rfl (by decide) hov0 (xi_in (n := 6) (by decide) (by decide)) rfl ?_
                  refine xi_aload_n (pc' := 451) (x := 1000000) kc_196_450 rfl rfl ?_
                  refine xi_iload (pc' := 453) (x := 0) kc_196_451 rfl rfl ?_
                  refine xi_iconst (pc' := 454) (v := 3) kc_196_453 rfl rfl ?_
                  refine xi_iadd (pc' := 455) (v := 3) kc_196_454 rfl rfl ?_
                  refine xi_ialoadO (pc' := 456) (v := a3) kc_196_455 rfl (by decide) hov0 (xi_in (n := 6) (by decide) (by decide)) rfl ?_
                  refine xi_aload_n (pc' := 457) (x := 1000000) kc_196_456 rfl rfl ?_
                  refine xi_iload (pc' := 459) (x := 0) kc_196_457 rfl rfl ?_
                  refine xi_iconst (pc' := 460) (v := 4) kc_196_459 rfl rfl ?_
                  refine xi_iadd (pc' := 461) (v := 4) kc_196_460 rfl rfl ?_
                  refine xi_ialoadO (pc' := 462) (v := a4) kc_196_461 rfl (by decide) hov0 (xi_in (n := 6) (by decide) (by decide)) rfl ?_
                  refine xi_ift (pc' := 469) kc_196_462 rfl (xc_eq_t (X := a4.toInt) (Y := 0) rfl (by decide) (by omega)) ?_
                  refine xi_iconst (pc' := 470) (v := 0) kc_196_469 rfl rfl ?_
                  refine xi_virtual (mj := 24) (as := [.int 0, .int a2, .int a3, .int 0]) (st1 := [.int 1]) (lv0 := [(0, .ref 115), (1, .int 0), (2, .int a2), (3, .int a3), (4, .int 0)]) kc_196_470 rfl rfl rfl rfl rfl ((eh4.2.1 115 (by decide)).trans ((eh3.2.1 115 (by decide)).trans ((eh2.2.1 115 (by decide)).trans ((eh1.2.1 115 (by decide)).trans (F 115 _ hl_115))))) (Nat.le_of_ble_eq_true rfl) (hJ _ _ _ _ (by decide)) (xm_le ml_24 rfl) rfl ?_
                  refine xi_aload_n (pc' := 1) (x := 115) kc_24_0 rfl rfl ?_
                  refine xi_iconst (pc' := 2) (v := 0) kc_24_1 rfl rfl ?_
                  refine xi_putfield (pc' := 5) (fs' := [.int 0, .int 0, .ref 116, .ref 117, .ref 118, .ref 119, .ref 120, .ref 121, .ref 122, .ref 123, .ref 124, .ref 125, .ref 126, .ref 127, .ref 128, .ref 129, .int 4, .ref 130, .int 0, .ref 131, .ref 132, .ref 133, .ref 134, .int 0, .ref 135, .ref 136, .ref 137, .ref 138, .ref 139, .ref 140, .ref 141, .ref 142, .int 0, .int 0, .int 0, .ref 143, .ref 144, .ref 145, .ref 146, .ref 147, .ref 148, .int 0, .ref 149, .ref 150, .ref 151, .int 0, .ref 152, .ref 153, .ref 154, .ref 155, .ref 156, .ref 157, .ref 158, .ref 159, .int 0, .ref 160, .int 0, .ref 161, .ref 162, .ref 163, .ref 164, .int 0, .ref 165, .ref 166]) kc_24_2 rfl rfl rfl ((eh4.2.1 115 (by decide)).trans ((eh3.2.1 115 (by decide)).trans ((eh2.2.1 115 (by decide)).trans ((eh1.2.1 115 (by decide)).trans (F 115 _ hl_115))))) rfl rfl rfl (Nat.le_of_ble_eq_true rfl) rfl (fun hh5 eh5 => ?_)
                  refine xi_iload_n (pc' := 6) (x := 0) kc_24_5 rfl rfl ?_
                  refine xi_static (mj := 25) (as := [.int 0]) (st1 := []) (lv0 := [(0, .int 0)]) kc_24_6 rfl rfl (Nat.le_of_ble_eq_true rfl) rfl rfl (Nat.le_of_ble_eq_true rfl) (hJ _ _ _ _ (by decide)) (xm_le ml_25 rfl) rfl ?_
                  refine xi_iload_n (pc' := 1) (x := 0) kc_25_0 rfl rfl ?_
                  refine xi_iconst (pc' := 2) (v := 0) kc_25_1 rfl rfl ?_
                  refine xi_bipush (pc' := 4) (v := 11) kc_25_2 rfl rfl ?_
                  refine xi_static (mj := 12) (as := [.int 0, .int 0, .int 11]) (st1 := []) (lv0 := [(0, .int 0), (1, .int 0), (2, .int 11)]) kc_25_4 rfl rfl (Nat.le_of_ble_eq_true rfl) rfl rfl (Nat.le_of_ble_eq_true rfl) (hJ _ _ _ _ (by decide)) (xm_le ml_12 rfl) rfl ?_
                  refine xi_iload_n (pc' := 1) (x := 0) kc_12_0 rfl rfl ?_
                  refine xi_iload_n (pc' := 2) (x := 0) kc_12_1 rfl rfl ?_
                  refine xi_cmf (pc' := 5) kc_12_2 rfl rfl ?_
                  refine xi_iload_n (pc' := 6) (x := 0) kc_12_5 rfl rfl ?_
                  refine xi_iload_n (pc' := 7) (x := 11) kc_12_6 rfl rfl ?_
                  refine xi_cmf (pc' := 10) kc_12_7 rfl rfl ?_
                  refine xi_iconst (pc' := 11) (v := 1) kc_12_10 rfl rfl ?_
                  refine xi_goto (pc' := 15) kc_12_11 rfl ?_
                  refine xi_ireturn kc_12_15 mr_12 rfl ?_
                  show xw J ov 98 25 (7, [(0, .int 0)], [.int 1], hh5) _
                  refine xi_ireturn kc_25_7 mr_25 rfl ?_
                  show xw J ov 99 24 (9, [(0, .ref 115), (1, .int 0), (2, .int a2), (3, .int a3), (4, .int 0)], [.int 1], hh5) _
                  refine xi_iff (pc' := 12) kc_24_9 rfl rfl ?_
                  refine xi_iload_n (pc' := 13) (x := a2) kc_24_12 rfl rfl ?_
                  refine xi_static (mj := 11) (as := [.int a2]) (st1 := []) (lv0 := [(0, .int a2)]) kc_24_13 rfl rfl (Nat.le_of_ble_eq_true rfl) rfl rfl (Nat.le_of_ble_eq_true rfl) (hJ _ _ _ _ (by decide)) (xm_le ml_11 rfl) rfl ?_
                  refine xi_iload_n (pc' := 1) (x := a2) kc_11_0 rfl rfl ?_
                  refine xi_iconst (pc' := 2) (v := 0) kc_11_1 rfl rfl ?_
                  refine xi_iconst (pc' := 3) (v := 5) kc_11_2 rfl rfl ?_
                  refine xi_static (mj := 12) (as := [.int a2, .int 0, .int 5]) (st1 := []) (lv0 := [(0, .int a2), (1, .int 0), (2, .int 5)]) kc_11_3 rfl rfl (Nat.le_of_ble_eq_true rfl) rfl rfl (Nat.le_of_ble_eq_true rfl) (hJ _ _ _ _ (by decide)) (xm_le ml_12 rfl) rfl ?_
                  refine xi_iload_n (pc' := 1) (x := a2) kc_12_0 rfl rfl ?_
                  refine xi_iload_n (pc' := 2) (x := 0) kc_12_1 rfl rfl ?_
                  refine xi_cmf (pc' := 5) kc_12_2 rfl (xc_lt_f (X := a2.toInt) (Y := 0) rfl (by decide) (by omega)) ?_
                  refine xi_iload_n (pc' := 6) (x := a2) kc_12_5 rfl rfl ?_
                  refine xi_iload_n (pc' := 7) (x := 5) kc_12_6 rfl rfl ?_
                  refine xi_cmf (pc' := 10) kc_12_7 rfl (xc_gt_f (X := a2.toInt) (Y := 5) rfl (by decide) (by omega)) ?_
                  refine xi_iconst (pc' := 11) (v := 1) kc_12_10 rfl rfl ?_
                  refine xi_goto (pc' := 15) kc_12_11 rfl ?_
                  refine xi_ireturn kc_12_15 mr_12 rfl ?_
                  show xw J ov 98 11 (6, [(0, .int a2)], [.int 1], hh5) _
                  refine xi_ireturn kc_11_6 mr_11 rfl ?_
                  show xw J ov 99 24 (16, [(0, .ref 115), (1, .int 0), (2, .int a2), (3, .int a3), (4, .int 0)], [.int 1], hh5) _
                  refine xi_ift (pc' := 25) kc_24_16 rfl rfl ?_
                  refine xi_iload_n (pc' := 26) (x := a3) kc_24_25 rfl rfl ?_
                  refine xi_ift (pc' := 36) kc_24_26 rfl (xc_ge_t (X := a3.toInt) (Y := 0) rfl (by decide) (by omega)) ?_
                  refine xi_iload_n (pc' := 37) (x := a3) kc_24_36 rfl rfl ?_
                  refine xi_bipush (pc' := 39) (v := 100) kc_24_37 rfl rfl ?_
                  refine xi_cmt (pc' := 49) kc_24_39 rfl (xc_le_t (X := a3.toInt) (Y := 100) rfl (by decide) (by omega)) ?_
                  refine xi_aload_n (pc' := 50) (x := 115) kc_24_49 rfl rfl ?_
                  refine xi_getfield (pc' := 53) (v := .ref 125) kc_24_50 rfl rfl rfl eh5.1 rfl ?_
                  refine xi_iload_n (pc' := 54) (x := 0) kc_24_53 rfl rfl ?_
                  refine xi_iaload (pc' := 55) (v := (-9)) kc_24_54 rfl ((eh5.2.1 125 (by decide)).trans ((eh4.2.1 125 (by decide)).trans ((eh3.2.1 125 (by decide)).trans ((eh2.2.1 125 (by decide)).trans ((eh1.2.1 125 (by decide)).trans (F 125 _ hl_125)))))) (by decide) rfl (xi_in (n := 12) (by decide) (by decide)) rfl ?_
                  refine xi_ift (pc' := 62) kc_24_55 rfl rfl ?_
                  refine xi_iconst (pc' := 63) (v := 0) kc_24_62 rfl rfl ?_
                  refine xi_istore (pc' := 65) (lv' := [(5, .int 0), (0, .ref 115), (1, .int 0), (2, .int a2), (3, .int a3), (4, .int 0)]) kc_24_63 rfl rfl (xm_lt ml_24 rfl) ?_
                  refine xi_aload_n (pc' := 66) (x := 115) kc_24_65 rfl rfl ?_
                  refine xi_getfield (pc' := 69) (v := .ref 125) kc_24_66 rfl rfl rfl eh5.1 rfl ?_
                  refine xi_iload_n (pc' := 70) (x := 0) kc_24_69 rfl rfl ?_
                  refine xi_iload_n (pc' := 71) (x := a2) kc_24_70 rfl rfl ?_
                  refine xi_iastore (pc' := 72) (x' := [a2, (-9), (-9), (-9), (-9), (-9), (-9), (-9), (-9), (-9), (-9), (-9)]) kc_24_71 rfl ((eh5.2.1 125 (by decide)).trans ((eh4.2.1 125 (by decide)).trans ((eh3.2.1 125 (by decide)).trans ((eh2.2.1 125 (by decide)).trans ((eh1.2.1 125 (by decide)).trans (F 125 _ hl_125)))))) rfl (xi_in (n := 12) (by decide) (by decide)) rfl (fun hh6 eh6 => ?_)
                  refine xi_aload_n (pc' := 73) (x := 115) kc_24_72 rfl rfl ?_
                  refine xi_getfield (pc' := 76) (v := .ref 126) kc_24_73 rfl rfl rfl ((eh6.2.1 115 (by decide)).trans eh5.1) rfl ?_
                  refine xi_iload_n (pc' := 77) (x := 0) kc_24_76 rfl rfl ?_
                  refine xi_iload_n (pc' := 78) (x := a3) kc_24_77 rfl rfl ?_
                  refine xi_iastore (pc' := 79) (x' := [a3, 0, 0, 0, 0, 0, 0, 0, 0, 0, 0, 0]) kc_24_78 rfl ((eh6.2.1 126 (by decide)).trans ((eh5.2.1 126 (by decide)).trans ((eh4.2.1 126 (by decide)).trans ((eh3.2.1 126 (by decide)).trans ((eh2.2.1 126 (by decide)).trans ((eh1.2.1 126 (by decide)).trans (F 126 _ hl_126))))))) rfl (xi_in (n := 12) (by decide) (by decide)) rfl (fun hh7 eh7 => ?_)
                  refine xi_aload_n (pc' := 80) (x := 115) kc_24_79 rfl rfl ?_
                  refine xi_getfield (pc' := 83) (v := .ref 127) kc_24_80 rfl rfl rfl ((eh7.2.1 115 (by decide)).trans ((eh6.2.1 115 (by decide)).trans eh5.1)) rfl ?_
                  refine xi_iload_n (pc' := 84) (x := 0) kc_24_83 rfl rfl ?_
                  refine xi_iload (pc' := 86) (x := 0) kc_24_84 rfl rfl ?_
                  refine xi_bastore (pc' := 87) (x' := [0, 0, 0, 0, 0, 0, 0, 0, 0, 0, 0, 0]) kc_24_86 rfl ((eh7.2.1 127 (by decide)).trans ((eh6.2.1 127 (by decide)).trans ((eh5.2.1 127 (by decide)).trans ((eh4.2.1 127 (by decide)).trans ((eh3.2.1 127 (by decide)).trans ((eh2.2.1 127 (by decide)).trans ((eh1.2.1 127 (by decide)).trans (F 127 _ hl_127)))))))) rfl (xi_in (n := 12) (by decide) (by decide)) rfl (fun hh8 eh8 => ?_)
                  refine xi_aload_n (pc' := 88) (x := 115) kc_24_87 rfl rfl ?_
                  refine xi_iconst (pc' := 89) (v := 0) kc_24_88 rfl rfl ?_
                  refine xi_putfield (pc' := 92) (fs' := [.int 0, .int 0, .ref 116, .ref 117, .ref 118, .ref 119, .ref 120, .ref 121, .ref 122, .ref 123, .ref 124, .ref 125, .ref 126, .ref 127, .ref 128, .ref 129, .int 4, .ref 130, .int 0, .ref 131, .ref 132, .ref 133, .ref 134, .int 0, .ref 135, .ref 136, .ref 137, .ref 138, .ref 139, .ref 140, .ref 141, .ref 142, .int 0, .int 0, .int 0, .ref 143, .ref 144, .ref 145, .ref 146, .ref 147, .ref 148, .int 0, .ref 149, .ref 150, .ref 151, .int 0, .ref 152, .ref 153, .ref 154, .ref 155, .ref 156, .ref 157, .ref 158, .ref 159, .int 0, .ref 160, .int 0, .ref 161, .ref 162, .ref 163, .ref 164, .int 0, .ref 165, .ref 166]) kc_24_89 rfl rfl rfl ((eh8.2.1 115 (by decide)).trans ((eh7.2.1 115 (by decide)).trans ((eh6.2.1 115 (by decide)).trans eh5.1))) rfl rfl rfl (Nat.le_of_ble_eq_true rfl) rfl (fun hh9 eh9 => ?_)
                  refine xi_iload (pc' := 94) (x := 0) kc_24_92 rfl rfl ?_
                  refine xi_ift (pc' := 101) kc_24_94 rfl rfl ?_
                  refine xi_iconst (pc' := 102) (v := 1) kc_24_101 rfl rfl ?_
                  refine xi_ireturn kc_24_102 mr_24 rfl ?_
                  show xw J ov 100 196 (473, [(4, .int 0), (3, .ref 167), (2, .ref 115), (1, .ref 0), (0, .ref 1000000)], [.int 1, .int 1], hh9) _
                  refine xi_cmt (pc' := 1528) kc_196_473 rfl rfl ?_
                  refine xi_iinc (pc' := 1531) (x := 0) (v := 6) (lv' := [(4, .int 6), (3, .ref 167), (2, .ref 115), (1, .ref 0), (0, .ref 1000000)]) kc_196_1528 rfl rfl rfl rfl (xm_lt ml_196 rfl) ?_
                  refine xi_goto (pc' := 23) kc_196_1531 rfl ?_
                  refine xi_iload (pc' := 25) (x := 6) kc_196_23 rfl rfl ?_
                  refine xi_aload_n (pc' := 26) (x := 1000000) kc_196_25 rfl rfl ?_
                  refine xi_arraylength (pc' := 27) (n := 6) (v := 6) kc_196_26 rfl (xl_lenO (by decide) hov0 rfl) rfl ?_
                  refine xi_bipush (pc' := 29) (v := 6) kc_196_27 rfl rfl ?_
                  refine xi_isub (pc' := 30) (v := 0) kc_196_29 rfl rfl ?_
                  refine xi_cmt (pc' := 1534) kc_196_30 rfl rfl ?_
                  refine xi_iconst (pc' := 1535) (v := 1) kc_196_1534 rfl rfl ?_
                  refine xi_ireturn kc_196_1535 mr_196 rfl ?_
                  refine ⟨rfl, ?_, ?_⟩
                  · rw [eh9.2.2.1, eh8.2.2.1, eh7.2.2.1, eh6.2.2.1, eh5.2.2.1, eh4.2.2.1, eh3.2.2.1, eh2.2.2.1, eh1.2.2.1]; exact hn0
                  · rw [eh9.2.2.2, eh8.2.2.2, eh7.2.2.2, eh6.2.2.2, eh5.2.2.2, eh4.2.2.2, eh3.2.2.2, eh2.2.2.2, eh1.2.2.2]; exact hz0
                by_cases c9 : a1.toInt = 1
                · have qa1 : a1 = 1 := xc_of (Eq.trans (by omega) (show (1 : Int) = (1 : Int32).toInt by decide))
                  subst qa1
                  refine xi_aaload (pc' := 60) (b := 31) kc_104_59 rfl ((eh1.2.1 3 (by decide)).trans (F 3 _ hl_3)) rfl (xi_in (n := 12) (by decide) (by decide)) rfl ?_
                  refine xi_astore (pc' := 62) (lv' := [(5, .ref 31), (0, .ref 0), (1, .int 1), (2, .int a2), (3, .int a3), (4, .int 0)]) kc_104_60 rfl rfl (xm_lt ml_104 rfl) ?_
                  refine xi_aload (pc' := 64) (x := 31) kc_104_62 rfl rfl ?_
                  refine xi_virtual (mj := 106) (as := []) (st1 := []) (lv0 := [(0, .ref 31)]) kc_104_64 rfl rfl rfl rfl rfl ((eh1.2.1 31 (by decide)).trans (F 31 _ hl_31)) (Nat.le_of_ble_eq_true rfl) (hJ _ _ _ _ (by decide)) (xm_le ml_106 rfl) rfl ?_
                  refine xi_aload_n (pc' := 1) (x := 31) kc_106_0 rfl rfl ?_
                  refine xi_getfield (pc' := 4) (v := .int (-9)) kc_106_1 rfl rfl rfl ((eh1.2.1 31 (by decide)).trans (F 31 _ hl_31)) rfl ?_
                  refine xi_static (mj := 90) (as := [.int (-9)]) (st1 := []) (lv0 := [(0, .int (-9))]) kc_106_4 rfl rfl (Nat.le_of_ble_eq_true rfl) rfl rfl (Nat.le_of_ble_eq_true rfl) (hJ _ _ _ _ (by decide)) (xm_le ml_90 rfl) rfl ?_
                  refine xi_iload_n (pc' := 1) (x := (-9)) kc_90_0 rfl rfl ?_
                  refine xi_ift (pc' := 14) kc_90_1 rfl rfl ?_
                  refine xi_iconst (pc' := 15) (v := 0) kc_90_14 rfl rfl ?_
                  refine xi_ireturn kc_90_15 mr_90 rfl ?_
                  show xw J ov 98 106 (7, [(0, .ref 31)], [.int 0], hh1) _
                  refine xi_ireturn kc_106_7 mr_106 rfl ?_
                  show xw J ov 99 104 (67, [(5, .ref 31), (0, .ref 0), (1, .int 1), (2, .int a2), (3, .int a3), (4, .int 0)], [.int 0], hh1) _
                  refine xi_ift (pc' := 74) kc_104_67 rfl rfl ?_
                  refine xi_iconst (pc' := 75) (v := 1) kc_104_74 rfl rfl ?_
                  refine xi_istore (pc' := 77) (lv' := [(6, .int 1), (5, .ref 31), (0, .ref 0), (1, .int 1), (2, .int a2), (3, .int a3), (4, .int 0)]) kc_104_75 rfl rfl (xm_lt ml_104 rfl) ?_
                  refine xi_aload (pc' := 79) (x := 31) kc_104_77 rfl rfl ?_
                  refine xi_iload_n (pc' := 80) (x := a2) kc_104_79 rfl rfl ?_
                  refine xi_putfield (pc' := 83) (fs' := [.int a2, .int 0, .int 0, .int 0, .ref 32]) kc_104_80 rfl rfl rfl ((eh1.2.1 31 (by decide)).trans (F 31 _ hl_31)) rfl rfl rfl (Nat.le_of_ble_eq_true rfl) rfl (fun hh2 eh2 => ?_)
                  refine xi_aload (pc' := 85) (x := 31) kc_104_83 rfl rfl ?_
                  refine xi_iload_n (pc' := 86) (x := a3) kc_104_85 rfl rfl ?_
                  refine xi_putfield (pc' := 89) (fs' := [.int a2, .int a3, .int 0, .int 0, .ref 32]) kc_104_86 rfl rfl rfl eh2.1 rfl rfl rfl (Nat.le_of_ble_eq_true rfl) rfl (fun hh3 eh3 => ?_)
                  refine xi_aload (pc' := 91) (x := 31) kc_104_89 rfl rfl ?_
                  refine xi_iload (pc' := 93) (x := 0) kc_104_91 rfl rfl ?_
                  refine xi_putfield (pc' := 96) (fs' := [.int a2, .int a3, .int 0, .int 0, .ref 32]) kc_104_93 rfl rfl rfl eh3.1 rfl rfl rfl (Nat.le_of_ble_eq_true rfl) rfl (fun hh4 eh4 => ?_)
                  refine xi_iload (pc' := 98) (x := 1) kc_104_96 rfl rfl ?_
                  refine xi_ireturn kc_104_98 mr_104 rfl ?_
                  show xw J ov 100 196 (437, [(4, .int 0), (3, .ref 167), (2, .ref 115), (1, .ref 0), (0, .ref 1000000)], [.int 1], hh4) _
                  refine xi_aload_n (pc' := 438) (x := 115) kc_196_437 rfl rfl ?_
                  refine xi_aload_n (pc' := 439) (x := 1000000) kc_196_438 rfl rfl ?_
                  refine xi_iload (pc' := 441) (x := 0) kc_196_439 rfl rfl ?_
                  refine xi_iconst (pc' := 442) (v := 1) kc_196_441 rfl rfl ?_
                  refine xi_iadd (pc' := 443) (v := 1) kc_196_442 rfl rfl ?_
                  refine xi_ialoadO (pc' := 444) (v := 1) kc_196_443 rfl (by decide) hov0 (xi_in (n := 6) (by decide) (by decide)) rfl ?_
                  refine xi_aload_n (pc' := 445) (x := 1000000) kc_196_444 rfl rfl ?_
                  refine xi_iload (pc' := 447) (x := 0) kc_196_445 rfl rfl ?_
                  refine xi_iconst (pc' := 448) (v := 2) kc_196_447 rfl rfl ?_
                  refine xi_iadd (pc' := 449) (v := 2) kc_196_448 rfl rfl ?_
                  refine xi_ialoadO (pc' := 450) (v := a2) kc_196_449 rfl (by decide) hov0 (xi_in (n := 6) (by decide) (by decide)) rfl ?_
                  refine xi_aload_n (pc' := 451) (x := 1000000) kc_196_450 rfl rfl ?_
                  refine xi_iload (pc' := 453) (x := 0) kc_196_451 rfl rfl ?_
                  refine xi_iconst (pc' := 454) (v := 3) kc_196_453 rfl rfl ?_
                  refine xi_iadd (pc' := 455) (v := 3) kc_196_454 rfl rfl ?_
                  refine xi_ialoadO (pc' := 456) (v := a3) kc_196_455 rfl (by decide) hov0 (xi_in (n := 6) (by decide) (by decide)) rfl ?_
                  refine xi_aload_n (pc' := 457) (x := 1000000) kc_196_456 rfl rfl ?_
                  refine xi_iload (pc' := 459) (x := 0) kc_196_457 rfl rfl ?_
                  refine xi_iconst (pc' := 460) (v := 4) kc_196_459 rfl rfl ?_
                  refine xi_iadd (pc' := 461) (v := 4) kc_196_460 rfl rfl ?_
                  refine xi_ialoadO (pc' := 462) (v := a4) kc_196_461 rfl (by decide) hov0 (xi_in (n := 6) (by decide) (by decide)) rfl ?_
                  refine xi_ift (pc' := 469) kc_196_462 rfl (xc_eq_t (X := a4.toInt) (Y := 0) rfl (by decide) (by omega)) ?_
                  refine xi_iconst (pc' := 470) (v := 0) kc_196_469 rfl rfl ?_
                  refine xi_virtual (mj := 24) (as := [.int 1, .int a2, .int a3, .int 0]) (st1 := [.int 1]) (lv0 := [(0, .ref 115), (1, .int 1), (2, .int a2), (3, .int a3), (4, .int 0)]) kc_196_470 rfl rfl rfl rfl rfl ((eh4.2.1 115 (by decide)).trans ((eh3.2.1 115 (by decide)).trans ((eh2.2.1 115 (by decide)).trans ((eh1.2.1 115 (by decide)).trans (F 115 _ hl_115))))) (Nat.le_of_ble_eq_true rfl) (hJ _ _ _ _ (by decide)) (xm_le ml_24 rfl) rfl ?_
                  refine xi_aload_n (pc' := 1) (x := 115) kc_24_0 rfl rfl ?_
                  refine xi_iconst (pc' := 2) (v := 0) kc_24_1 rfl rfl ?_
                  refine xi_putfield (pc' := 5) (fs' := [.int 0, .int 0, .ref 116, .ref 117, .ref 118, .ref 119, .ref 120, .ref 121, .ref 122, .ref 123, .ref 124, .ref 125, .ref 126, .ref 127, .ref 128, .ref 129, .int 4, .ref 130, .int 0, .ref 131, .ref 132, .ref 133, .ref 134, .int 0, .ref 135, .ref 136, .ref 137, .ref 138, .ref 139, .ref 140, .ref 141, .ref 142, .int 0, .int 0, .int 0, .ref 143, .ref 144, .ref 145, .ref 146, .ref 147, .ref 148, .int 0, .ref 149, .ref 150, .ref 151, .int 0, .ref 152, .ref 153, .ref 154, .ref 155, .ref 156, .ref 157, .ref 158, .ref 159, .int 0, .ref 160, .int 0, .ref 161, .ref 162, .ref 163, .ref 164, .int 0, .ref 165, .ref 166]) kc_24_2 rfl rfl rfl ((eh4.2.1 115 (by decide)).trans ((eh3.2.1 115 (by decide)).trans ((eh2.2.1 115 (by decide)).trans ((eh1.2.1 115 (by decide)).trans (F 115 _ hl_115))))) rfl rfl rfl (Nat.le_of_ble_eq_true rfl) rfl (fun hh5 eh5 => ?_)
                  refine xi_iload_n (pc' := 6) (x := 1) kc_24_5 rfl rfl ?_
                  refine xi_static (mj := 25) (as := [.int 1]) (st1 := []) (lv0 := [(0, .int 1)]) kc_24_6 rfl rfl (Nat.le_of_ble_eq_true rfl) rfl rfl (Nat.le_of_ble_eq_true rfl) (hJ _ _ _ _ (by decide)) (xm_le ml_25 rfl) rfl ?_
                  refine xi_iload_n (pc' := 1) (x := 1) kc_25_0 rfl rfl ?_
                  refine xi_iconst (pc' := 2) (v := 0) kc_25_1 rfl rfl ?_
                  refine xi_bipush (pc' := 4) (v := 11) kc_25_2 rfl rfl ?_
                  refine xi_static (mj := 12) (as := [.int 1, .int 0, .int 11]) (st1 := []) (lv0 := [(0, .int 1), (1, .int 0), (2, .int 11)]) kc_25_4 rfl rfl (Nat.le_of_ble_eq_true rfl) rfl rfl (Nat.le_of_ble_eq_true rfl) (hJ _ _ _ _ (by decide)) (xm_le ml_12 rfl) rfl ?_
                  refine xi_iload_n (pc' := 1) (x := 1) kc_12_0 rfl rfl ?_
                  refine xi_iload_n (pc' := 2) (x := 0) kc_12_1 rfl rfl ?_
                  refine xi_cmf (pc' := 5) kc_12_2 rfl rfl ?_
                  refine xi_iload_n (pc' := 6) (x := 1) kc_12_5 rfl rfl ?_
                  refine xi_iload_n (pc' := 7) (x := 11) kc_12_6 rfl rfl ?_
                  refine xi_cmf (pc' := 10) kc_12_7 rfl rfl ?_
                  refine xi_iconst (pc' := 11) (v := 1) kc_12_10 rfl rfl ?_
                  refine xi_goto (pc' := 15) kc_12_11 rfl ?_
                  refine xi_ireturn kc_12_15 mr_12 rfl ?_
                  show xw J ov 98 25 (7, [(0, .int 1)], [.int 1], hh5) _
                  refine xi_ireturn kc_25_7 mr_25 rfl ?_
                  show xw J ov 99 24 (9, [(0, .ref 115), (1, .int 1), (2, .int a2), (3, .int a3), (4, .int 0)], [.int 1], hh5) _
                  refine xi_iff (pc' := 12) kc_24_9 rfl rfl ?_
                  refine xi_iload_n (pc' := 13) (x := a2) kc_24_12 rfl rfl ?_
                  refine xi_static (mj := 11) (as := [.int a2]) (st1 := []) (lv0 := [(0, .int a2)]) kc_24_13 rfl rfl (Nat.le_of_ble_eq_true rfl) rfl rfl (Nat.le_of_ble_eq_true rfl) (hJ _ _ _ _ (by decide)) (xm_le ml_11 rfl) rfl ?_
                  refine xi_iload_n (pc' := 1) (x := a2) kc_11_0 rfl rfl ?_
                  refine xi_iconst (pc' := 2) (v := 0) kc_11_1 rfl rfl ?_
                  refine xi_iconst (pc' := 3) (v := 5) kc_11_2 rfl rfl ?_
                  refine xi_static (mj := 12) (as := [.int a2, .int 0, .int 5]) (st1 := []) (lv0 := [(0, .int a2), (1, .int 0), (2, .int 5)]) kc_11_3 rfl rfl (Nat.le_of_ble_eq_true rfl) rfl rfl (Nat.le_of_ble_eq_true rfl) (hJ _ _ _ _ (by decide)) (xm_le ml_12 rfl) rfl ?_
                  refine xi_iload_n (pc' := 1) (x := a2) kc_12_0 rfl rfl ?_
                  refine xi_iload_n (pc' := 2) (x := 0) kc_12_1 rfl rfl ?_
                  refine xi_cmf (pc' := 5) kc_12_2 rfl (xc_lt_f (X := a2.toInt) (Y := 0) rfl (by decide) (by omega)) ?_
                  refine xi_iload_n (pc' := 6) (x := a2) kc_12_5 rfl rfl ?_
                  refine xi_iload_n (pc' := 7) (x := 5) kc_12_6 rfl rfl ?_
                  refine xi_cmf (pc' := 10) kc_12_7 rfl (xc_gt_f (X := a2.toInt) (Y := 5) rfl (by decide) (by omega)) ?_
                  refine xi_iconst (pc' := 11) (v := 1) kc_12_10 rfl rfl ?_
                  refine xi_goto (pc' := 15) kc_12_11 rfl ?_
                  refine xi_ireturn kc_12_15 mr_12 rfl ?_
                  show xw J ov 98 11 (6, [(0, .int a2)], [.int 1], hh5) _
                  refine xi_ireturn kc_11_6 mr_11 rfl ?_
                  show xw J ov 99 24 (16, [(0, .ref 115), (1, .int 1), (2, .int a2), (3, .int a3), (4, .int 0)], [.int 1], hh5) _
                  refine xi_ift (pc' := 25) kc_24_16 rfl rfl ?_
                  refine xi_iload_n (pc' := 26) (x := a3) kc_24_25 rfl rfl ?_
                  refine xi_ift (pc' := 36) kc_24_26 rfl (xc_ge_t (X := a3.toInt) (Y := 0) rfl (by decide) (by omega)) ?_
                  refine xi_iload_n (pc' := 37) (x := a3) kc_24_36 rfl rfl ?_
                  refine xi_bipush (pc' := 39) (v := 100) kc_24_37 rfl rfl ?_
                  refine xi_cmt (pc' := 49) kc_24_39 rfl (xc_le_t (X := a3.toInt) (Y := 100) rfl (by decide) (by omega)) ?_
                  refine xi_aload_n (pc' := 50) (x := 115) kc_24_49 rfl rfl ?_
                  refine xi_getfield (pc' := 53) (v := .ref 125) kc_24_50 rfl rfl rfl eh5.1 rfl ?_
                  refine xi_iload_n (pc' := 54) (x := 1) kc_24_53 rfl rfl ?_
                  refine xi_iaload (pc' := 55) (v := (-9)) kc_24_54 rfl ((eh5.2.1 125 (by decide)).trans ((eh4.2.1 125 (by decide)).trans ((eh3.2.1 125 (by decide)).trans ((eh2.2.1 125 (by decide)).trans ((eh1.2.1 125 (by decide)).trans (F 125 _ hl_125)))))) (by decide) rfl (xi_in (n := 12) (by decide) (by decide)) rfl ?_
                  refine xi_ift (pc' := 62) kc_24_55 rfl rfl ?_
                  refine xi_iconst (pc' := 63) (v := 0) kc_24_62 rfl rfl ?_
                  refine xi_istore (pc' := 65) (lv' := [(5, .int 0), (0, .ref 115), (1, .int 1), (2, .int a2), (3, .int a3), (4, .int 0)]) kc_24_63 rfl rfl (xm_lt ml_24 rfl) ?_
                  refine xi_aload_n (pc' := 66) (x := 115) kc_24_65 rfl rfl ?_
                  refine xi_getfield (pc' := 69) (v := .ref 125) kc_24_66 rfl rfl rfl eh5.1 rfl ?_
                  refine xi_iload_n (pc' := 70) (x := 1) kc_24_69 rfl rfl ?_
                  refine xi_iload_n (pc' := 71) (x := a2) kc_24_70 rfl rfl ?_
                  refine xi_iastore (pc' := 72) (x' := [(-9), a2, (-9), (-9), (-9), (-9), (-9), (-9), (-9), (-9), (-9), (-9)]) kc_24_71 rfl ((eh5.2.1 125 (by decide)).trans ((eh4.2.1 125 (by decide)).trans ((eh3.2.1 125 (by decide)).trans ((eh2.2.1 125 (by decide)).trans ((eh1.2.1 125 (by decide)).trans (F 125 _ hl_125)))))) rfl (xi_in (n := 12) (by decide) (by decide)) rfl (fun hh6 eh6 => ?_)
                  refine xi_aload_n (pc' := 73) (x := 115) kc_24_72 rfl rfl ?_
                  refine xi_getfield (pc' := 76) (v := .ref 126) kc_24_73 rfl rfl rfl ((eh6.2.1 115 (by decide)).trans eh5.1) rfl ?_
                  refine xi_iload_n (pc' := 77) (x := 1) kc_24_76 rfl rfl ?_
                  refine xi_iload_n (pc' := 78) (x := a3) kc_24_77 rfl rfl ?_
                  refine xi_iastore (pc' := 79) (x' := [0, a3, 0, 0, 0, 0, 0, 0, 0, 0, 0, 0]) kc_24_78 rfl ((eh6.2.1 126 (by decide)).trans ((eh5.2.1 126 (by decide)).trans ((eh4.2.1 126 (by decide)).trans ((eh3.2.1 126 (by decide)).trans ((eh2.2.1 126 (by decide)).trans ((eh1.2.1 126 (by decide)).trans (F 126 _ hl_126))))))) rfl (xi_in (n := 12) (by decide) (by decide)) rfl (fun hh7 eh7 => ?_)
                  refine xi_aload_n (pc' := 80) (x := 115) kc_24_79 rfl rfl ?_
                  refine xi_getfield (pc' := 83) (v := .ref 127) kc_24_80 rfl rfl rfl ((eh7.2.1 115 (by decide)).trans ((eh6.2.1 115 (by decide)).trans eh5.1)) rfl ?_
                  refine xi_iload_n (pc' := 84) (x := 1) kc_24_83 rfl rfl ?_
                  refine xi_iload (pc' := 86) (x := 0) kc_24_84 rfl rfl ?_
                  refine xi_bastore (pc' := 87) (x' := [0, 0, 0, 0, 0, 0, 0, 0, 0, 0, 0, 0]) kc_24_86 rfl ((eh7.2.1 127 (by decide)).trans ((eh6.2.1 127 (by decide)).trans ((eh5.2.1 127 (by decide)).trans ((eh4.2.1 127 (by decide)).trans ((eh3.2.1 127 (by decide)).trans ((eh2.2.1 127 (by decide)).trans ((eh1.2.1 127 (by decide)).trans (F 127 _ hl_127)))))))) rfl (xi_in (n := 12) (by decide) (by decide)) rfl (fun hh8 eh8 => ?_)
                  refine xi_aload_n (pc' := 88) (x := 115) kc_24_87 rfl rfl ?_
                  refine xi_iconst (pc' := 89) (v := 0) kc_24_88 rfl rfl ?_
                  refine xi_putfield (pc' := 92) (fs' := [.int 0, .int 0, .ref 116, .ref 117, .ref 118, .ref 119, .ref 120, .ref 121, .ref 122, .ref 123, .ref 124, .ref 125, .ref 126, .ref 127, .ref 128, .ref 129, .int 4, .ref 130, .int 0, .ref 131, .ref 132, .ref 133, .ref 134, .int 0, .ref 135, .ref 136, .ref 137, .ref 138, .ref 139, .ref 140, .ref 141, .ref 142, .int 0, .int 0, .int 0, .ref 143, .ref 144, .ref 145, .ref 146, .ref 147, .ref 148, .int 0, .ref 149, .ref 150, .ref 151, .int 0, .ref 152, .ref 153, .ref 154, .ref 155, .ref 156, .ref 157, .ref 158, .ref 159, .int 0, .ref 160, .int 0, .ref 161, .ref 162, .ref 163, .ref 164, .int 0, .ref 165, .ref 166]) kc_24_89 rfl rfl rfl ((eh8.2.1 115 (by decide)).trans ((eh7.2.1 115 (by decide)).trans ((eh6.2.1 115 (by decide)).trans eh5.1))) rfl rfl rfl (Nat.le_of_ble_eq_true rfl) rfl (fun hh9 eh9 => ?_)
                  refine xi_iload (pc' := 94) (x := 0) kc_24_92 rfl rfl ?_
                  refine xi_ift (pc' := 101) kc_24_94 rfl rfl ?_
                  refine xi_iconst (pc' := 102) (v := 1) kc_24_101 rfl rfl ?_
                  refine xi_ireturn kc_24_102 mr_24 rfl ?_
                  show xw J ov 100 196 (473, [(4, .int 0), (3, .ref 167), (2, .ref 115), (1, .ref 0), (0, .ref 1000000)], [.int 1, .int 1], hh9) _
                  refine xi_cmt (pc' := 1528) kc_196_473 rfl rfl ?_
                  refine xi_iinc (pc' := 1531) (x := 0) (v := 6) (lv' := [(4, .int 6), (3, .ref 167), (2, .ref 115), (1, .ref 0), (0, .ref 1000000)]) kc_196_1528 rfl rfl rfl rfl (xm_lt ml_196 rfl) ?_
                  refine xi_goto (pc' := 23) kc_196_1531 rfl ?_
                  refine xi_iload (pc' := 25) (x := 6) kc_196_23 rfl rfl ?_
                  refine xi_aload_n (pc' := 26) (x := 1000000) kc_196_25 rfl rfl ?_
                  refine xi_arraylength (pc' := 27) (n := 6) (v := 6) kc_196_26 rfl (xl_lenO (by decide) hov0 rfl) rfl ?_
                  refine xi_bipush (pc' := 29) (v := 6) kc_196_27 rfl rfl ?_
                  refine xi_isub (pc' := 30) (v := 0) kc_196_29 rfl rfl ?_
                  refine xi_cmt (pc' := 1534) kc_196_30 rfl rfl ?_
                  refine xi_iconst (pc' := 1535) (v := 1) kc_196_1534 rfl rfl ?_
                  refine xi_ireturn kc_196_1535 mr_196 rfl ?_
                  refine ⟨rfl, ?_, ?_⟩
                  · rw [eh9.2.2.1, eh8.2.2.1, eh7.2.2.1, eh6.2.2.1, eh5.2.2.1, eh4.2.2.1, eh3.2.2.1, eh2.2.2.1, eh1.2.2.1]; exact hn0
                  · rw [eh9.2.2.2, eh8.2.2.2, eh7.2.2.2, eh6.2.2.2, eh5.2.2.2, eh4.2.2.2, eh3.2.2.2, eh2.2.2.2, eh1.2.2.2]; exact hz0
                by_cases c10 : a1.toInt = 2
                · have qa1 : a1 = 2 := xc_of (Eq.trans (by omega) (show (2 : Int) = (2 : Int32).toInt by decide))
                  subst qa1
                  refine xi_aaload (pc' := 60) (b := 33) kc_104_59 rfl ((eh1.2.1 3 (by decide)).trans (F 3 _ hl_3)) rfl (xi_in (n := 12) (by decide) (by decide)) rfl ?_
                  refine xi_astore (pc' := 62) (lv' := [(5, .ref 33), (0, .ref 0), (1, .int 2), (2, .int a2), (3, .int a3), (4, .int 0)]) kc_104_60 rfl rfl (xm_lt ml_104 rfl) ?_
                  refine xi_aload (pc' := 64) (x := 33) kc_104_62 rfl rfl ?_
                  refine xi_virtual (mj := 106) (as := []) (st1 := []) (lv0 := [(0, .ref 33)]) kc_104_64 rfl rfl rfl rfl rfl ((eh1.2.1 33 (by decide)).trans (F 33 _ hl_33)) (Nat.le_of_ble_eq_true rfl) (hJ _ _ _ _ (by decide)) (xm_le ml_106 rfl) rfl ?_
                  refine xi_aload_n (pc' := 1) (x := 33) kc_106_0 rfl rfl ?_
                  refine xi_getfield (pc' := 4) (v := .int (-9)) kc_106_1 rfl rfl rfl ((eh1.2.1 33 (by decide)).trans (F 33 _ hl_33)) rfl ?_
                  refine xi_static (mj := 90) (as := [.int (-9)]) (st1 := []) (lv0 := [(0, .int (-9))]) kc_106_4 rfl rfl (Nat.le_of_ble_eq_true rfl) rfl rfl (Nat.le_of_ble_eq_true rfl) (hJ _ _ _ _ (by decide)) (xm_le ml_90 rfl) rfl ?_
                  refine xi_iload_n (pc' := 1) (x := (-9)) kc_90_0 rfl rfl ?_
                  refine xi_ift (pc' := 14) kc_90_1 rfl rfl ?_
                  refine xi_iconst (pc' := 15) (v := 0) kc_90_14 rfl rfl ?_
                  refine xi_ireturn kc_90_15 mr_90 rfl ?_
                  show xw J ov 98 106 (7, [(0, .ref 33)], [.int 0], hh1) _
                  refine xi_ireturn kc_106_7 mr_106 rfl ?_
                  show xw J ov 99 104 (67, [(5, .ref 33), (0, .ref 0), (1, .int 2), (2, .int a2), (3, .int a3), (4, .int 0)], [.int 0], hh1) _
                  refine xi_ift (pc' := 74) kc_104_67 rfl rfl ?_
                  refine xi_iconst (pc' := 75) (v := 1) kc_104_74 rfl rfl ?_
                  refine xi_istore (pc' := 77) (lv' := [(6, .int 1), (5, .ref 33), (0, .ref 0), (1, .int 2), (2, .int a2), (3, .int a3), (4, .int 0)]) kc_104_75 rfl rfl (xm_lt ml_104 rfl) ?_
                  refine xi_aload (pc' := 79) (x := 33) kc_104_77 rfl rfl ?_
                  refine xi_iload_n (pc' := 80) (x := a2) kc_104_79 rfl rfl ?_
                  refine xi_putfield (pc' := 83) (fs' := [.int a2, .int 0, .int 0, .int 0, .ref 34]) kc_104_80 rfl rfl rfl ((eh1.2.1 33 (by decide)).trans (F 33 _ hl_33)) rfl rfl rfl (Nat.le_of_ble_eq_true rfl) rfl (fun hh2 eh2 => ?_)
                  refine xi_aload (pc' := 85) (x := 33) kc_104_83 rfl rfl ?_
                  refine xi_iload_n (pc' := 86) (x := a3) kc_104_85 rfl rfl ?_
                  refine xi_putfield (pc' := 89) (fs' := [.int a2, .int a3, .int 0, .int 0, .ref 34]) kc_104_86 rfl rfl rfl eh2.1 rfl rfl rfl (Nat.le_of_ble_eq_true rfl) rfl (fun hh3 eh3 => ?_)
                  refine xi_aload (pc' := 91) (x := 33) kc_104_89 rfl rfl ?_
                  refine xi_iload (pc' := 93) (x := 0) kc_104_91 rfl rfl ?_
                  refine xi_putfield (pc' := 96) (fs' := [.int a2, .int a3, .int 0, .int 0, .ref 34]) kc_104_93 rfl rfl rfl eh3.1 rfl rfl rfl (Nat.le_of_ble_eq_true rfl) rfl (fun hh4 eh4 => ?_)
                  refine xi_iload (pc' := 98) (x := 1) kc_104_96 rfl rfl ?_
                  refine xi_ireturn kc_104_98 mr_104 rfl ?_
                  show xw J ov 100 196 (437, [(4, .int 0), (3, .ref 167), (2, .ref 115), (1, .ref 0), (0, .ref 1000000)], [.int 1], hh4) _
                  refine xi_aload_n (pc' := 438) (x := 115) kc_196_437 rfl rfl ?_
                  refine xi_aload_n (pc' := 439) (x := 1000000) kc_196_438 rfl rfl ?_
                  refine xi_iload (pc' := 441) (x := 0) kc_196_439 rfl rfl ?_
                  refine xi_iconst (pc' := 442) (v := 1) kc_196_441 rfl rfl ?_
                  refine xi_iadd (pc' := 443) (v := 1) kc_196_442 rfl rfl ?_
                  refine xi_ialoadO (pc' := 444) (v := 2) kc_196_443 rfl (by decide) hov0 (xi_in (n := 6) (by decide) (by decide)) rfl ?_
                  refine xi_aload_n (pc' := 445) (x := 1000000) kc_196_444 rfl rfl ?_
                  refine xi_iload (pc' := 447) (x := 0) kc_196_445 rfl rfl ?_
                  refine xi_iconst (pc' := 448) (v := 2) kc_196_447 rfl rfl ?_
                  refine xi_iadd (pc' := 449) (v := 2) kc_196_448 rfl rfl ?_
                  refine xi_ialoadO (pc' := 450) (v := a2) kc_196_449 rfl (by decide) hov0 (xi_in (n := 6) (by decide) (by decide)) rfl ?_
                  refine xi_aload_n (pc' := 451) (x := 1000000) kc_196_450 rfl rfl ?_
                  refine xi_iload (pc' := 453) (x := 0) kc_196_451 rfl rfl ?_
                  refine xi_iconst (pc' := 454) (v := 3) kc_196_453 rfl rfl ?_
                  refine xi_iadd (pc' := 455) (v := 3) kc_196_454 rfl rfl ?_
                  refine xi_ialoadO (pc' := 456) (v := a3) kc_196_455 rfl (by decide) hov0 (xi_in (n := 6) (by decide) (by decide)) rfl ?_
                  refine xi_aload_n (pc' := 457) (x := 1000000) kc_196_456 rfl rfl ?_
                  refine xi_iload (pc' := 459) (x := 0) kc_196_457 rfl rfl ?_
                  refine xi_iconst (pc' := 460) (v := 4) kc_196_459 rfl rfl ?_
                  refine xi_iadd (pc' := 461) (v := 4) kc_196_460 rfl rfl ?_
                  refine xi_ialoadO (pc' := 462) (v := a4) kc_196_461 rfl (by decide) hov0 (xi_in (n := 6) (by decide) (by decide)) rfl ?_
                  refine xi_ift (pc' := 469) kc_196_462 rfl (xc_eq_t (X := a4.toInt) (Y := 0) rfl (by decide) (by omega)) ?_
                  refine xi_iconst (pc' := 470) (v := 0) kc_196_469 rfl rfl ?_
                  refine xi_virtual (mj := 24) (as := [.int 2, .int a2, .int a3, .int 0]) (st1 := [.int 1]) (lv0 := [(0, .ref 115), (1, .int 2), (2, .int a2), (3, .int a3), (4, .int 0)]) kc_196_470 rfl rfl rfl rfl rfl ((eh4.2.1 115 (by decide)).trans ((eh3.2.1 115 (by decide)).trans ((eh2.2.1 115 (by decide)).trans ((eh1.2.1 115 (by decide)).trans (F 115 _ hl_115))))) (Nat.le_of_ble_eq_true rfl) (hJ _ _ _ _ (by decide)) (xm_le ml_24 rfl) rfl ?_
                  refine xi_aload_n (pc' := 1) (x := 115) kc_24_0 rfl rfl ?_
                  refine xi_iconst (pc' := 2) (v := 0) kc_24_1 rfl rfl ?_
                  refine xi_putfield (pc' := 5) (fs' := [.int 0, .int 0, .ref 116, .ref 117, .ref 118, .ref 119, .ref 120, .ref 121, .ref 122, .ref 123, .ref 124, .ref 125, .ref 126, .ref 127, .ref 128, .ref 129, .int 4, .ref 130, .int 0, .ref 131, .ref 132, .ref 133, .ref 134, .int 0, .ref 135, .ref 136, .ref 137, .ref 138, .ref 139, .ref 140, .ref 141, .ref 142, .int 0, .int 0, .int 0, .ref 143, .ref 144, .ref 145, .ref 146, .ref 147, .ref 148, .int 0, .ref 149, .ref 150, .ref 151, .int 0, .ref 152, .ref 153, .ref 154, .ref 155, .ref 156, .ref 157, .ref 158, .ref 159, .int 0, .ref 160, .int 0, .ref 161, .ref 162, .ref 163, .ref 164, .int 0, .ref 165, .ref 166]) kc_24_2 rfl rfl rfl ((eh4.2.1 115 (by decide)).trans ((eh3.2.1 115 (by decide)).trans ((eh2.2.1 115 (by decide)).trans ((eh1.2.1 115 (by decide)).trans (F 115 _ hl_115))))) rfl rfl rfl (Nat.le_of_ble_eq_true rfl) rfl (fun hh5 eh5 => ?_)
                  refine xi_iload_n (pc' := 6) (x := 2) kc_24_5 rfl rfl ?_
                  refine xi_static (mj := 25) (as := [.int 2]) (st1 := []) (lv0 := [(0, .int 2)]) kc_24_6 rfl rfl (Nat.le_of_ble_eq_true rfl) rfl rfl (Nat.le_of_ble_eq_true rfl) (hJ _ _ _ _ (by decide)) (xm_le ml_25 rfl) rfl ?_
                  refine xi_iload_n (pc' := 1) (x := 2) kc_25_0 rfl rfl ?_
                  refine xi_iconst (pc' := 2) (v := 0) kc_25_1 rfl rfl ?_
                  refine xi_bipush (pc' := 4) (v := 11) kc_25_2 rfl rfl ?_
                  refine xi_static (mj := 12) (as := [.int 2, .int 0, .int 11]) (st1 := []) (lv0 := [(0, .int 2), (1, .int 0), (2, .int 11)]) kc_25_4 rfl rfl (Nat.le_of_ble_eq_true rfl) rfl rfl (Nat.le_of_ble_eq_true rfl) (hJ _ _ _ _ (by decide)) (xm_le ml_12 rfl) rfl ?_
                  refine xi_iload_n (pc' := 1) (x := 2) kc_12_0 rfl rfl ?_
                  refine xi_iload_n (pc' := 2) (x := 0) kc_12_1 rfl rfl ?_
                  refine xi_cmf (pc' := 5) kc_12_2 rfl rfl ?_
                  refine xi_iload_n (pc' := 6) (x := 2) kc_12_5 rfl rfl ?_
                  refine xi_iload_n (pc' := 7) (x := 11) kc_12_6 rfl rfl ?_
                  refine xi_cmf (pc' := 10) kc_12_7 rfl rfl ?_
                  refine xi_iconst (pc' := 11) (v := 1) kc_12_10 rfl rfl ?_
                  refine xi_goto (pc' := 15) kc_12_11 rfl ?_
                  refine xi_ireturn kc_12_15 mr_12 rfl ?_
                  show xw J ov 98 25 (7, [(0, .int 2)], [.int 1], hh5) _
                  refine xi_ireturn kc_25_7 mr_25 rfl ?_
                  show xw J ov 99 24 (9, [(0, .ref 115), (1, .int 2), (2, .int a2), (3, .int a3), (4, .int 0)], [.int 1], hh5) _
                  refine xi_iff (pc' := 12) kc_24_9 rfl rfl ?_
                  refine xi_iload_n (pc' := 13) (x := a2) kc_24_12 rfl rfl ?_
                  refine xi_static (mj := 11) (as := [.int a2]) (st1 := []) (lv0 := [(0, .int a2)]) kc_24_13 rfl rfl (Nat.le_of_ble_eq_true rfl) rfl rfl (Nat.le_of_ble_eq_true rfl) (hJ _ _ _ _ (by decide)) (xm_le ml_11 rfl) rfl ?_
                  refine xi_iload_n (pc' := 1) (x := a2) kc_11_0 rfl rfl ?_
                  refine xi_iconst (pc' := 2) (v := 0) kc_11_1 rfl rfl ?_
                  refine xi_iconst (pc' := 3) (v := 5) kc_11_2 rfl rfl ?_
                  refine xi_static (mj := 12) (as := [.int a2, .int 0, .int 5]) (st1 := []) (lv0 := [(0, .int a2), (1, .int 0), (2, .int 5)]) kc_11_3 rfl rfl (Nat.le_of_ble_eq_true rfl) rfl rfl (Nat.le_of_ble_eq_true rfl) (hJ _ _ _ _ (by decide)) (xm_le ml_12 rfl) rfl ?_
                  refine xi_iload_n (pc' := 1) (x := a2) kc_12_0 rfl rfl ?_
                  refine xi_iload_n (pc' := 2) (x := 0) kc_12_1 rfl rfl ?_
                  refine xi_cmf (pc' := 5) kc_12_2 rfl (xc_lt_f (X := a2.toInt) (Y := 0) rfl (by decide) (by omega)) ?_
                  refine xi_iload_n (pc' := 6) (x := a2) kc_12_5 rfl rfl ?_
                  refine xi_iload_n (pc' := 7) (x := 5) kc_12_6 rfl rfl ?_
                  refine xi_cmf (pc' := 10) kc_12_7 rfl (xc_gt_f (X := a2.toInt) (Y := 5) rfl (by decide) (by omega)) ?_
                  refine xi_iconst (pc' := 11) (v := 1) kc_12_10 rfl rfl ?_
                  refine xi_goto (pc' := 15) kc_12_11 rfl ?_
                  refine xi_ireturn kc_12_15 mr_12 rfl ?_
                  show xw J ov 98 11 (6, [(0, .int a2)], [.int 1], hh5) _
                  refine xi_ireturn kc_11_6 mr_11 rfl ?_
                  show xw J ov 99 24 (16, [(0, .ref 115), (1, .int 2), (2, .int a2), (3, .int a3), (4, .int 0)], [.int 1], hh5) _
                  refine xi_ift (pc' := 25) kc_24_16 rfl rfl ?_
                  refine xi_iload_n (pc' := 26) (x := a3) kc_24_25 rfl rfl ?_
                  refine xi_ift (pc' := 36) kc_24_26 rfl (xc_ge_t (X := a3.toInt) (Y := 0) rfl (by decide) (by omega)) ?_
                  refine xi_iload_n (pc' := 37) (x := a3) kc_24_36 rfl rfl ?_
                  refine xi_bipush (pc' := 39) (v := 100) kc_24_37 rfl rfl ?_
                  refine xi_cmt (pc' := 49) kc_24_39 rfl (xc_le_t (X := a3.toInt) (Y := 100) rfl (by decide) (by omega)) ?_
                  refine xi_aload_n (pc' := 50) (x := 115) kc_24_49 rfl rfl ?_
                  refine xi_getfield (pc' := 53) (v := .ref 125) kc_24_50 rfl rfl rfl eh5.1 rfl ?_
                  refine xi_iload_n (pc' := 54) (x := 2) kc_24_53 rfl rfl ?_
                  refine xi_iaload (pc' := 55) (v := (-9)) kc_24_54 rfl ((eh5.2.1 125 (by decide)).trans ((eh4.2.1 125 (by decide)).trans ((eh3.2.1 125 (by decide)).trans ((eh2.2.1 125 (by decide)).trans ((eh1.2.1 125 (by decide)).trans (F 125 _ hl_125)))))) (by decide) rfl (xi_in (n := 12) (by decide) (by decide)) rfl ?_
                  refine xi_ift (pc' := 62) kc_24_55 rfl rfl ?_
                  refine xi_iconst (pc' := 63) (v := 0) kc_24_62 rfl rfl ?_
                  refine xi_istore (pc' := 65) (lv' := [(5, .int 0), (0, .ref 115), (1, .int 2), (2, .int a2), (3, .int a3), (4, .int 0)]) kc_24_63 rfl rfl (xm_lt ml_24 rfl) ?_
                  refine xi_aload_n (pc' := 66) (x := 115) kc_24_65 rfl rfl ?_
                  refine xi_getfield (pc' := 69) (v := .ref 125) kc_24_66 rfl rfl rfl eh5.1 rfl ?_
                  refine xi_iload_n (pc' := 70) (x := 2) kc_24_69 rfl rfl ?_
                  refine xi_iload_n (pc' := 71) (x := a2) kc_24_70 rfl rfl ?_
                  refine xi_iastore (pc' := 72) (x' := [(-9), (-9), a2, (-9), (-9), (-9), (-9), (-9), (-9), (-9), (-9), (-9)]) kc_24_71 rfl ((eh5.2.1 125 (by decide)).trans ((eh4.2.1 125 (by decide)).trans ((eh3.2.1 125 (by decide)).trans ((eh2.2.1 125 (by decide)).trans ((eh1.2.1 125 (by decide)).trans (F 125 _ hl_125)))))) rfl (xi_in (n := 12) (by decide) (by decide)) rfl (fun hh6 eh6 => ?_)
                  refine xi_aload_n (pc' := 73) (x := 115) kc_24_72 rfl rfl ?_
                  refine xi_getfield (pc' := 76) (v := .ref 126) kc_24_73 rfl rfl rfl ((eh6.2.1 115 (by decide)).trans eh5.1) rfl ?_
                  refine xi_iload_n (pc' := 77) (x := 2) kc_24_76 rfl rfl ?_
                  refine xi_iload_n (pc' := 78) (x := a3) kc_24_77 rfl rfl ?_
                  refine xi_iastore (pc' := 79) (x' := [0, 0, a3, 0, 0, 0, 0, 0, 0, 0, 0, 0]) kc_24_78 rfl ((eh6.2.1 126 (by decide)).trans ((eh5.2.1 126 (by decide)).trans ((eh4.2.1 126 (by decide)).trans ((eh3.2.1 126 (by decide)).trans ((eh2.2.1 126 (by decide)).trans ((eh1.2.1 126 (by decide)).trans (F 126 _ hl_126))))))) rfl (xi_in (n := 12) (by decide) (by decide)) rfl (fun hh7 eh7 => ?_)
                  refine xi_aload_n (pc' := 80) (x := 115) kc_24_79 rfl rfl ?_
                  refine xi_getfield (pc' := 83) (v := .ref 127) kc_24_80 rfl rfl rfl ((eh7.2.1 115 (by decide)).trans ((eh6.2.1 115 (by decide)).trans eh5.1)) rfl ?_
                  refine xi_iload_n (pc' := 84) (x := 2) kc_24_83 rfl rfl ?_
                  refine xi_iload (pc' := 86) (x := 0) kc_24_84 rfl rfl ?_
                  refine xi_bastore (pc' := 87) (x' := [0, 0, 0, 0, 0, 0, 0, 0, 0, 0, 0, 0]) kc_24_86 rfl ((eh7.2.1 127 (by decide)).trans ((eh6.2.1 127 (by decide)).trans ((eh5.2.1 127 (by decide)).trans ((eh4.2.1 127 (by decide)).trans ((eh3.2.1 127 (by decide)).trans ((eh2.2.1 127 (by decide)).trans ((eh1.2.1 127 (by decide)).trans (F 127 _ hl_127)))))))) rfl (xi_in (n := 12) (by decide) (by decide)) rfl (fun hh8 eh8 => ?_)
                  refine xi_aload_n (pc' := 88) (x := 115) kc_24_87 rfl rfl ?_
                  refine xi_iconst (pc' := 89) (v := 0) kc_24_88 rfl rfl ?_
                  refine xi_putfield (pc' := 92) (fs' := [.int 0, .int 0, .ref 116, .ref 117, .ref 118, .ref 119, .ref 120, .ref 121, .ref 122, .ref 123, .ref 124, .ref 125, .ref 126, .ref 127, .ref 128, .ref 129, .int 4, .ref 130, .int 0, .ref 131, .ref 132, .ref 133, .ref 134, .int 0, .ref 135, .ref 136, .ref 137, .ref 138, .ref 139, .ref 140, .ref 141, .ref 142, .int 0, .int 0, .int 0, .ref 143, .ref 144, .ref 145, .ref 146, .ref 147, .ref 148, .int 0, .ref 149, .ref 150, .ref 151, .int 0, .ref 152, .ref 153, .ref 154, .ref 155, .ref 156, .ref 157, .ref 158, .ref 159, .int 0, .ref 160, .int 0, .ref 161, .ref 162, .ref 163, .ref 164, .int 0, .ref 165, .ref 166]) kc_24_89 rfl rfl rfl ((eh8.2.1 115 (by decide)).trans ((eh7.2.1 115 (by decide)).trans ((eh6.2.1 115 (by decide)).trans eh5.1))) rfl rfl rfl (Nat.le_of_ble_eq_true rfl) rfl (fun hh9 eh9 => ?_)
                  refine xi_iload (pc' := 94) (x := 0) kc_24_92 rfl rfl ?_
                  refine xi_ift (pc' := 101) kc_24_94 rfl rfl ?_
                  refine xi_iconst (pc' := 102) (v := 1) kc_24_101 rfl rfl ?_
                  refine xi_ireturn kc_24_102 mr_24 rfl ?_
                  show xw J ov 100 196 (473, [(4, .int 0), (3, .ref 167), (2, .ref 115), (1, .ref 0), (0, .ref 1000000)], [.int 1, .int 1], hh9) _
                  refine xi_cmt (pc' := 1528) kc_196_473 rfl rfl ?_
                  refine xi_iinc (pc' := 1531) (x := 0) (v := 6) (lv' := [(4, .int 6), (3, .ref 167), (2, .ref 115), (1, .ref 0), (0, .ref 1000000)]) kc_196_1528 rfl rfl rfl rfl (xm_lt ml_196 rfl) ?_
                  refine xi_goto (pc' := 23) kc_196_1531 rfl ?_
                  refine xi_iload (pc' := 25) (x := 6) kc_196_23 rfl rfl ?_
                  refine xi_aload_n (pc' := 26) (x := 1000000) kc_196_25 rfl rfl ?_
                  refine xi_arraylength (pc' := 27) (n := 6) (v := 6) kc_196_26 rfl (xl_lenO (by decide) hov0 rfl) rfl ?_
                  refine xi_bipush (pc' := 29) (v := 6) kc_196_27 rfl rfl ?_
                  refine xi_isub (pc' := 30) (v := 0) kc_196_29 rfl rfl ?_
                  refine xi_cmt (pc' := 1534) kc_196_30 rfl rfl ?_
                  refine xi_iconst (pc' := 1535) (v := 1) kc_196_1534 rfl rfl ?_
                  refine xi_ireturn kc_196_1535 mr_196 rfl ?_
                  refine ⟨rfl, ?_, ?_⟩
                  · rw [eh9.2.2.1, eh8.2.2.1, eh7.2.2.1, eh6.2.2.1, eh5.2.2.1, eh4.2.2.1, eh3.2.2.1, eh2.2.2.1, eh1.2.2.1]; exact hn0
                  · rw [eh9.2.2.2, eh8.2.2.2, eh7.2.2.2, eh6.2.2.2, eh5.2.2.2, eh4.2.2.2, eh3.2.2.2, eh2.2.2.2, eh1.2.2.2]; exact hz0
                by_cases c11 : a1.toInt = 3
                · have qa1 : a1 = 3 := xc_of (Eq.trans (by omega) (show (3 : Int) = (3 : Int32).toInt by decide))
                  subst qa1
                  refine xi_aaload (pc' := 60) (b := 35) kc_104_59 rfl ((eh1.2.1 3 (by decide)).trans (F 3 _ hl_3)) rfl (xi_in (n := 12) (by decide) (by decide)) rfl ?_
                  refine xi_astore (pc' := 62) (lv' := [(5, .ref 35), (0, .ref 0), (1, .int 3), (2, .int a2), (3, .int a3), (4, .int 0)]) kc_104_60 rfl rfl (xm_lt ml_104 rfl) ?_
                  refine xi_aload (pc' := 64) (x := 35) kc_104_62 rfl rfl ?_
                  refine xi_virtual (mj := 106) (as := []) (st1 := []) (lv0 := [(0, .ref 35)]) kc_104_64 rfl rfl rfl rfl rfl ((eh1.2.1 35 (by decide)).trans (F 35 _ hl_35)) (Nat.le_of_ble_eq_true rfl) (hJ _ _ _ _ (by decide)) (xm_le ml_106 rfl) rfl ?_
                  refine xi_aload_n (pc' := 1) (x := 35) kc_106_0 rfl rfl ?_
                  refine xi_getfield (pc' := 4) (v := .int (-9)) kc_106_1 rfl rfl rfl ((eh1.2.1 35 (by decide)).trans (F 35 _ hl_35)) rfl ?_
                  refine xi_static (mj := 90) (as := [.int (-9)]) (st1 := []) (lv0 := [(0, .int (-9))]) kc_106_4 rfl rfl (Nat.le_of_ble_eq_true rfl) rfl rfl (Nat.le_of_ble_eq_true rfl) (hJ _ _ _ _ (by decide)) (xm_le ml_90 rfl) rfl ?_
                  refine xi_iload_n (pc' := 1) (x := (-9)) kc_90_0 rfl rfl ?_
                  refine xi_ift (pc' := 14) kc_90_1 rfl rfl ?_
                  refine xi_iconst (pc' := 15) (v := 0) kc_90_14 rfl rfl ?_
                  refine xi_ireturn kc_90_15 mr_90 rfl ?_
                  show xw J ov 98 106 (7, [(0, .ref 35)], [.int 0], hh1) _
                  refine xi_ireturn kc_106_7 mr_106 rfl ?_
                  show xw J ov 99 104 (67, [(5, .ref 35), (0, .ref 0), (1, .int 3), (2, .int a2), (3, .int a3), (4, .int 0)], [.int 0], hh1) _
                  refine xi_ift (pc' := 74) kc_104_67 rfl rfl ?_
                  refine xi_iconst (pc' := 75) (v := 1) kc_104_74 rfl rfl ?_
                  refine xi_istore (pc' := 77) (lv' := [(6, .int 1), (5, .ref 35), (0, .ref 0), (1, .int 3), (2, .int a2), (3, .int a3), (4, .int 0)]) kc_104_75 rfl rfl (xm_lt ml_104 rfl) ?_
                  refine xi_aload (pc' := 79) (x := 35) kc_104_77 rfl rfl ?_
                  refine xi_iload_n (pc' := 80) (x := a2) kc_104_79 rfl rfl ?_
                  refine xi_putfield (pc' := 83) (fs' := [.int a2, .int 0, .int 0, .int 0, .ref 36]) kc_104_80 rfl rfl rfl ((eh1.2.1 35 (by decide)).trans (F 35 _ hl_35)) rfl rfl rfl (Nat.le_of_ble_eq_true rfl) rfl (fun hh2 eh2 => ?_)
                  refine xi_aload (pc' := 85) (x := 35) kc_104_83 rfl rfl ?_
                  refine xi_iload_n (pc' := 86) (x := a3) kc_104_85 rfl rfl ?_
                  refine xi_putfield (pc' := 89) (fs' := [.int a2, .int a3, .int 0, .int 0, .ref 36]) kc_104_86 rfl rfl rfl eh2.1 rfl rfl rfl (Nat.le_of_ble_eq_true rfl) rfl (fun hh3 eh3 => ?_)
                  refine xi_aload (pc' := 91) (x := 35) kc_104_89 rfl rfl ?_
                  refine xi_iload (pc' := 93) (x := 0) kc_104_91 rfl rfl ?_
                  refine xi_putfield (pc' := 96) (fs' := [.int a2, .int a3, .int 0, .int 0, .ref 36]) kc_104_93 rfl rfl rfl eh3.1 rfl rfl rfl (Nat.le_of_ble_eq_true rfl) rfl (fun hh4 eh4 => ?_)
                  refine xi_iload (pc' := 98) (x := 1) kc_104_96 rfl rfl ?_
                  refine xi_ireturn kc_104_98 mr_104 rfl ?_
                  show xw J ov 100 196 (437, [(4, .int 0), (3, .ref 167), (2, .ref 115), (1, .ref 0), (0, .ref 1000000)], [.int 1], hh4) _
                  refine xi_aload_n (pc' := 438) (x := 115) kc_196_437 rfl rfl ?_
                  refine xi_aload_n (pc' := 439) (x := 1000000) kc_196_438 rfl rfl ?_
                  refine xi_iload (pc' := 441) (x := 0) kc_196_439 rfl rfl ?_
                  refine xi_iconst (pc' := 442) (v := 1) kc_196_441 rfl rfl ?_
                  refine xi_iadd (pc' := 443) (v := 1) kc_196_442 rfl rfl ?_
                  refine xi_ialoadO (pc' := 444) (v := 3) kc_196_443 rfl (by decide) hov0 (xi_in (n := 6) (by decide) (by decide)) rfl ?_
                  refine xi_aload_n (pc' := 445) (x := 1000000) kc_196_444 rfl rfl ?_
                  refine xi_iload (pc' := 447) (x := 0) kc_196_445 rfl rfl ?_
                  refine xi_iconst (pc' := 448) (v := 2) kc_196_447 rfl rfl ?_
                  refine xi_iadd (pc' := 449) (v := 2) kc_196_448 rfl rfl ?_
                  refine xi_ialoadO (pc' := 450) (v := a2) kc_196_449 rfl (by decide) hov0 (xi_in (n := 6) (by decide) (by decide)) rfl ?_
                  refine xi_aload_n (pc' := 451) (x := 1000000) kc_196_450 rfl rfl ?_
                  refine xi_iload (pc' := 453) (x := 0) kc_196_451 rfl rfl ?_
                  refine xi_iconst (pc' := 454) (v := 3) kc_196_453 rfl rfl ?_
                  refine xi_iadd (pc' := 455) (v := 3) kc_196_454 rfl rfl ?_
                  refine xi_ialoadO (pc' := 456) (v := a3) kc_196_455 rfl (by decide) hov0 (xi_in (n := 6) (by decide) (by decide)) rfl ?_
                  refine xi_aload_n (pc' := 457) (x := 1000000) kc_196_456 rfl rfl ?_
                  refine xi_iload (pc' := 459) (x := 0) kc_196_457 rfl rfl ?_
                  refine xi_iconst (pc' := 460) (v := 4) kc_196_459 rfl rfl ?_
                  refine xi_iadd (pc' := 461) (v := 4) kc_196_460 rfl rfl ?_
                  refine xi_ialoadO (pc' := 462) (v := a4) kc_196_461 rfl (by decide) hov0 (xi_in (n := 6) (by decide) (by decide)) rfl ?_
                  refine xi_ift (pc' := 469) kc_196_462 rfl (xc_eq_t (X := a4.toInt) (Y := 0) rfl (by decide) (by omega)) ?_
                  refine xi_iconst (pc' := 470) (v := 0) kc_196_469 rfl rfl ?_
                  refine xi_virtual (mj := 24) (as := [.int 3, .int a2, .int a3, .int 0]) (st1 := [.int 1]) (lv0 := [(0, .ref 115), (1, .int 3), (2, .int a2), (3, .int a3), (4, .int 0)]) kc_196_470 rfl rfl rfl rfl rfl ((eh4.2.1 115 (by decide)).trans ((eh3.2.1 115 (by decide)).trans ((eh2.2.1 115 (by decide)).trans ((eh1.2.1 115 (by decide)).trans (F 115 _ hl_115))))) (Nat.le_of_ble_eq_true rfl) (hJ _ _ _ _ (by decide)) (xm_le ml_24 rfl) rfl ?_
                  refine xi_aload_n (pc' := 1) (x := 115) kc_24_0 rfl rfl ?_
                  refine xi_iconst (pc' := 2) (v := 0) kc_24_1 rfl rfl ?_
                  refine xi_putfield (pc' := 5) (fs' := [.int 0, .int 0, .ref 116, .ref 117, .ref 118, .ref 119, .ref 120, .ref 121, .ref 122, .ref 123, .ref 124, .ref 125, .ref 126, .ref 127, .ref 128, .ref 129, .int 4, .ref 130, .int 0, .ref 131, .ref 132, .ref 133, .ref 134, .int 0, .ref 135, .ref 136, .ref 137, .ref 138, .ref 139, .ref 140, .ref 141, .ref 142, .int 0, .int 0, .int 0, .ref 143, .ref 144, .ref 145, .ref 146, .ref 147, .ref 148, .int 0, .ref 149, .ref 150, .ref 151, .int 0, .ref 152, .ref 153, .ref 154, .ref 155, .ref 156, .ref 157, .ref 158, .ref 159, .int 0, .ref 160, .int 0, .ref 161, .ref 162, .ref 163, .ref 164, .int 0, .ref 165, .ref 166]) kc_24_2 rfl rfl rfl ((eh4.2.1 115 (by decide)).trans ((eh3.2.1 115 (by decide)).trans ((eh2.2.1 115 (by decide)).trans ((eh1.2.1 115 (by decide)).trans (F 115 _ hl_115))))) rfl rfl rfl (Nat.le_of_ble_eq_true rfl) rfl (fun hh5 eh5 => ?_)
                  refine xi_iload_n (pc' := 6) (x := 3) kc_24_5 rfl rfl ?_
                  refine xi_static (mj := 25) (as := [.int 3]) (st1 := []) (lv0 := [(0, .int 3)]) kc_24_6 rfl rfl (Nat.le_of_ble_eq_true rfl) rfl rfl (Nat.le_of_ble_eq_true rfl) (hJ _ _ _ _ (by decide)) (xm_le ml_25 rfl) rfl ?_
                  refine xi_iload_n (pc' := 1) (x := 3) kc_25_0 rfl rfl ?_
                  refine xi_iconst (pc' := 2) (v := 0) kc_25_1 rfl rfl ?_
                  refine xi_bipush (pc' := 4) (v := 11) kc_25_2 rfl rfl ?_
                  refine xi_static (mj := 12) (as := [.int 3, .int 0, .int 11]) (st1 := []) (lv0 := [(0, .int 3), (1, .int 0), (2, .int 11)]) kc_25_4 rfl rfl (Nat.le_of_ble_eq_true rfl) rfl rfl (Nat.le_of_ble_eq_true rfl) (hJ _ _ _ _ (by decide)) (xm_le ml_12 rfl) rfl ?_
                  refine xi_iload_n (pc' := 1) (x := 3) kc_12_0 rfl rfl ?_
                  refine xi_iload_n (pc' := 2) (x := 0) kc_12_1 rfl rfl ?_
                  refine xi_cmf (pc' := 5) kc_12_2 rfl rfl ?_
                  refine xi_iload_n (pc' := 6) (x := 3) kc_12_5 rfl rfl ?_
                  refine xi_iload_n (pc' := 7) (x := 11) kc_12_6 rfl rfl ?_
                  refine xi_cmf (pc' := 10) kc_12_7 rfl rfl ?_
                  refine xi_iconst (pc' := 11) (v := 1) kc_12_10 rfl rfl ?_
                  refine xi_goto (pc' := 15) kc_12_11 rfl ?_
                  refine xi_ireturn kc_12_15 mr_12 rfl ?_
                  show xw J ov 98 25 (7, [(0, .int 3)], [.int 1], hh5) _
                  refine xi_ireturn kc_25_7 mr_25 rfl ?_
                  show xw J ov 99 24 (9, [(0, .ref 115), (1, .int 3), (2, .int a2), (3, .int a3), (4, .int 0)], [.int 1], hh5) _
                  refine xi_iff (pc' := 12) kc_24_9 rfl rfl ?_
                  refine xi_iload_n (pc' := 13) (x := a2) kc_24_12 rfl rfl ?_
                  refine xi_static (mj := 11) (as := [.int a2]) (st1 := []) (lv0 := [(0, .int a2)]) kc_24_13 rfl rfl (Nat.le_of_ble_eq_true rfl) rfl rfl (Nat.le_of_ble_eq_true rfl) (hJ _ _ _ _ (by decide)) (xm_le ml_11 rfl) rfl ?_
                  refine xi_iload_n (pc' := 1) (x := a2) kc_11_0 rfl rfl ?_
                  refine xi_iconst (pc' := 2) (v := 0) kc_11_1 rfl rfl ?_
                  refine xi_iconst (pc' := 3) (v := 5) kc_11_2 rfl rfl ?_
                  refine xi_static (mj := 12) (as := [.int a2, .int 0, .int 5]) (st1 := []) (lv0 := [(0, .int a2), (1, .int 0), (2, .int 5)]) kc_11_3 rfl rfl (Nat.le_of_ble_eq_true rfl) rfl rfl (Nat.le_of_ble_eq_true rfl) (hJ _ _ _ _ (by decide)) (xm_le ml_12 rfl) rfl ?_
                  refine xi_iload_n (pc' := 1) (x := a2) kc_12_0 rfl rfl ?_
                  refine xi_iload_n (pc' := 2) (x := 0) kc_12_1 rfl rfl ?_
                  refine xi_cmf (pc' := 5) kc_12_2 rfl (xc_lt_f (X := a2.toInt) (Y := 0) rfl (by decide) (by omega)) ?_
                  refine xi_iload_n (pc' := 6) (x := a2) kc_12_5 rfl rfl ?_
                  refine xi_iload_n (pc' := 7) (x := 5) kc_12_6 rfl rfl ?_
                  refine xi_cmf (pc' := 10) kc_12_7 rfl (xc_gt_f (X := a2.toInt) (Y := 5) rfl (by decide) (by omega)) ?_
                  refine xi_iconst (pc' := 11) (v := 1) kc_12_10 rfl rfl ?_
                  refine xi_goto (pc' := 15) kc_12_11 rfl ?_
                  refine xi_ireturn kc_12_15 mr_12 rfl ?_
                  show xw J ov 98 11 (6, [(0, .int a2)], [.int 1], hh5) _
                  refine xi_ireturn kc_11_6 mr_11 rfl ?_
                  show xw J ov 99 24 (16, [(0, .ref 115), (1, .int 3), (2, .int a2), (3, .int a3), (4, .int 0)], [.int 1], hh5) _
                  refine xi_ift (pc' := 25) kc_24_16 rfl rfl ?_
                  refine xi_iload_n (pc' := 26) (x := a3) kc_24_25 rfl rfl ?_
                  refine xi_ift (pc' := 36) kc_24_26 rfl (xc_ge_t (X := a3.toInt) (Y := 0) rfl (by decide) (by omega)) ?_
                  refine xi_iload_n (pc' := 37) (x := a3) kc_24_36 rfl rfl ?_
                  refine xi_bipush (pc' := 39) (v := 100) kc_24_37 rfl rfl ?_
                  refine xi_cmt (pc' := 49) kc_24_39 rfl (xc_le_t (X := a3.toInt) (Y := 100) rfl (by decide) (by omega)) ?_
                  refine xi_aload_n (pc' := 50) (x := 115) kc_24_49 rfl rfl ?_
                  refine xi_getfield (pc' := 53) (v := .ref 125) kc_24_50 rfl rfl rfl eh5.1 rfl ?_
                  refine xi_iload_n (pc' := 54) (x := 3) kc_24_53 rfl rfl ?_
                  refine xi_iaload (pc' := 55) (v := (-9)) kc_24_54 rfl ((eh5.2.1 125 (by decide)).trans ((eh4.2.1 125 (by decide)).trans ((eh3.2.1 125 (by decide)).trans ((eh2.2.1 125 (by decide)).trans ((eh1.2.1 125 (by decide)).trans (F 125 _ hl_125)))))) (by decide) rfl (xi_in (n := 12) (by decide) (by decide)) rfl ?_
                  refine xi_ift (pc' := 62) kc_24_55 rfl rfl ?_
                  refine xi_iconst (pc' := 63) (v := 0) kc_24_62 rfl rfl ?_
                  refine xi_istore (pc' := 65) (lv' := [(5, .int 0), (0, .ref 115), (1, .int 3), (2, .int a2), (3, .int a3), (4, .int 0)]) kc_24_63 rfl rfl (xm_lt ml_24 rfl) ?_
                  refine xi_aload_n (pc' := 66) (x := 115) kc_24_65 rfl rfl ?_
                  refine xi_getfield (pc' := 69) (v := .ref 125) kc_24_66 rfl rfl rfl eh5.1 rfl ?_
                  refine xi_iload_n (pc' := 70) (x := 3) kc_24_69 rfl rfl ?_
                  refine xi_iload_n (pc' := 71) (x := a2) kc_24_70 rfl rfl ?_
                  refine xi_iastore (pc' := 72) (x' := [(-9), (-9), (-9), a2, (-9), (-9), (-9), (-9), (-9), (-9), (-9), (-9)]) kc_24_71 rfl ((eh5.2.1 125 (by decide)).trans ((eh4.2.1 125 (by decide)).trans ((eh3.2.1 125 (by decide)).trans ((eh2.2.1 125 (by decide)).trans ((eh1.2.1 125 (by decide)).trans (F 125 _ hl_125)))))) rfl (xi_in (n := 12) (by decide) (by decide)) rfl (fun hh6 eh6 => ?_)
                  refine xi_aload_n (pc' := 73) (x := 115) kc_24_72 rfl rfl ?_
                  refine xi_getfield (pc' := 76) (v := .ref 126) kc_24_73 rfl rfl rfl ((eh6.2.1 115 (by decide)).trans eh5.1) rfl ?_
                  refine xi_iload_n (pc' := 77) (x := 3) kc_24_76 rfl rfl ?_
                  refine xi_iload_n (pc' := 78) (x := a3) kc_24_77 rfl rfl ?_
                  refine xi_iastore (pc' := 79) (x' := [0, 0, 0, a3, 0, 0, 0, 0, 0, 0, 0, 0]) kc_24_78 rfl ((eh6.2.1 126 (by decide)).trans ((eh5.2.1 126 (by decide)).trans ((eh4.2.1 126 (by decide)).trans ((eh3.2.1 126 (by decide)).trans ((eh2.2.1 126 (by decide)).trans ((eh1.2.1 126 (by decide)).trans (F 126 _ hl_126))))))) rfl (xi_in (n := 12) (by decide) (by decide)) rfl (fun hh7 eh7 => ?_)
                  refine xi_aload_n (pc' := 80) (x := 115) kc_24_79 rfl rfl ?_
                  refine xi_getfield (pc' := 83) (v := .ref 127) kc_24_80 rfl rfl rfl ((eh7.2.1 115 (by decide)).trans ((eh6.2.1 115 (by decide)).trans eh5.1)) rfl ?_
                  refine xi_iload_n (pc' := 84) (x := 3) kc_24_83 rfl rfl ?_
                  refine xi_iload (pc' := 86) (x := 0) kc_24_84 rfl rfl ?_
                  refine xi_bastore (pc' := 87) (x' := [0, 0, 0, 0, 0, 0, 0, 0, 0, 0, 0, 0]) kc_24_86 rfl ((eh7.2.1 127 (by decide)).trans ((eh6.2.1 127 (by decide)).trans ((eh5.2.1 127 (by decide)).trans ((eh4.2.1 127 (by decide)).trans ((eh3.2.1 127 (by decide)).trans ((eh2.2.1 127 (by decide)).trans ((eh1.2.1 127 (by decide)).trans (F 127 _ hl_127)))))))) rfl (xi_in (n := 12) (by decide) (by decide)) rfl (fun hh8 eh8 => ?_)
                  refine xi_aload_n (pc' := 88) (x := 115) kc_24_87 rfl rfl ?_
                  refine xi_iconst (pc' := 89) (v := 0) kc_24_88 rfl rfl ?_
                  refine xi_putfield (pc' := 92) (fs' := [.int 0, .int 0, .ref 116, .ref 117, .ref 118, .ref 119, .ref 120, .ref 121, .ref 122, .ref 123, .ref 124, .ref 125, .ref 126, .ref 127, .ref 128, .ref 129, .int 4, .ref 130, .int 0, .ref 131, .ref 132, .ref 133, .ref 134, .int 0, .ref 135, .ref 136, .ref 137, .ref 138, .ref 139, .ref 140, .ref 141, .ref 142, .int 0, .int 0, .int 0, .ref 143, .ref 144, .ref 145, .ref 146, .ref 147, .ref 148, .int 0, .ref 149, .ref 150, .ref 151, .int 0, .ref 152, .ref 153, .ref 154, .ref 155, .ref 156, .ref 157, .ref 158, .ref 159, .int 0, .ref 160, .int 0, .ref 161, .ref 162, .ref 163, .ref 164, .int 0, .ref 165, .ref 166]) kc_24_89 rfl rfl rfl ((eh8.2.1 115 (by decide)).trans ((eh7.2.1 115 (by decide)).trans ((eh6.2.1 115 (by decide)).trans eh5.1))) rfl rfl rfl (Nat.le_of_ble_eq_true rfl) rfl (fun hh9 eh9 => ?_)
                  refine xi_iload (pc' := 94) (x := 0) kc_24_92 rfl rfl ?_
                  refine xi_ift (pc' := 101) kc_24_94 rfl rfl ?_
                  refine xi_iconst (pc' := 102) (v := 1) kc_24_101 rfl rfl ?_
                  refine xi_ireturn kc_24_102 mr_24 rfl ?_
                  show xw J ov 100 196 (473, [(4, .int 0), (3, .ref 167), (2, .ref 115), (1, .ref 0), (0, .ref 1000000)], [.int 1, .int 1], hh9) _
                  refine xi_cmt (pc' := 1528) kc_196_473 rfl rfl ?_
                  refine xi_iinc (pc' := 1531) (x := 0) (v := 6) (lv' := [(4, .int 6), (3, .ref 167), (2, .ref 115), (1, .ref 0), (0, .ref 1000000)]) kc_196_1528 rfl rfl rfl rfl (xm_lt ml_196 rfl) ?_
                  refine xi_goto (pc' := 23) kc_196_1531 rfl ?_
                  refine xi_iload (pc' := 25) (x := 6) kc_196_23 rfl rfl ?_
                  refine xi_aload_n (pc' := 26) (x := 1000000) kc_196_25 rfl rfl ?_
                  refine xi_arraylength (pc' := 27) (n := 6) (v := 6) kc_196_26 rfl (xl_lenO (by decide) hov0 rfl) rfl ?_
                  refine xi_bipush (pc' := 29) (v := 6) kc_196_27 rfl rfl ?_
                  refine xi_isub (pc' := 30) (v := 0) kc_196_29 rfl rfl ?_
                  refine xi_cmt (pc' := 1534) kc_196_30 rfl rfl ?_
                  refine xi_iconst (pc' := 1535) (v := 1) kc_196_1534 rfl rfl ?_
                  refine xi_ireturn kc_196_1535 mr_196 rfl ?_
                  refine ⟨rfl, ?_, ?_⟩
                  · rw [eh9.2.2.1, eh8.2.2.1, eh7.2.2.1, eh6.2.2.1, eh5.2.2.1, eh4.2.2.1, eh3.2.2.1, eh2.2.2.1, eh1.2.2.1]; exact hn0
                  · rw [eh9.2.2.2, eh8.2.2.2, eh7.2.2.2, eh6.2.2.2, eh5.2.2.2, eh4.2.2.2, eh3.2.2.2, eh2.2.2.2, eh1.2.2.2]; exact hz0
                by_cases c12 : a1.toInt = 4
                · have qa1 : a1 = 4 := xc_of (Eq.trans (by omega) (show (4 : Int) = (4 : Int32).toInt by decide))
                  subst qa1
                  refine xi_aaload (pc' := 60) (b := 37) kc_104_59 rfl ((eh1.2.1 3 (by decide)).trans (F 3 _ hl_3)) rfl (xi_in (n := 12) (by decide) (by decide)) rfl ?_
                  refine xi_astore (pc' := 62) (lv' := [(5, .ref 37), (0, .ref 0), (1, .int 4), (2, .int a2), (3, .int a3), (4, .int 0)]) kc_104_60 rfl rfl (xm_lt ml_104 rfl) ?_
                  refine xi_aload (pc' := 64) (x := 37) kc_104_62 rfl rfl ?_
                  refine xi_virtual (mj := 106) (as := []) (st1 := []) (lv0 := [(0, .ref 37)]) kc_104_64 rfl rfl rfl rfl rfl ((eh1.2.1 37 (by decide)).trans (F 37 _ hl_37)) (Nat.le_of_ble_eq_true rfl) (hJ _ _ _ _ (by decide)) (xm_le ml_106 rfl) rfl ?_
                  refine xi_aload_n (pc' := 1) (x := 37) kc_106_0 rfl rfl ?_
                  refine xi_getfield (pc' := 4) (v := .int (-9)) kc_106_1 rfl rfl rfl ((eh1.2.1 37 (by decide)).trans (F 37 _ hl_37)) rfl ?_
                  refine xi_static (mj := 90) (as := [.int (-9)]) (st1 := []) (lv0 := [(0, .int (-9))]) kc_106_4 rfl rfl (Nat.le_of_ble_eq_true rfl) rfl rfl (Nat.le_of_ble_eq_true rfl) (hJ _ _ _ _ (by decide)) (xm_le ml_90 rfl) rfl ?_
                  refine xi_iload_n (pc' := 1) (x := (-9)) kc_90_0 rfl rfl ?_
                  refine xi_ift (pc' := 14) kc_90_1 rfl rfl ?_
                  refine xi_iconst (pc' := 15) (v := 0) kc_90_14 rfl rfl ?_
                  refine xi_ireturn kc_90_15 mr_90 rfl ?_
                  show xw J ov 98 106 (7, [(0, .ref 37)], [.int 0], hh1) _
                  refine xi_ireturn kc_106_7 mr_106 rfl ?_
                  show xw J ov 99 104 (67, [(5, .ref 37), (0, .ref 0), (1, .int 4), (2, .int a2), (3, .int a3), (4, .int 0)], [.int 0], hh1) _
                  refine xi_ift (pc' := 74) kc_104_67 rfl rfl ?_
                  refine xi_iconst (pc' := 75) (v := 1) kc_104_74 rfl rfl ?_
                  refine xi_istore (pc' := 77) (lv' := [(6, .int 1), (5, .ref 37), (0, .ref 0), (1, .int 4), (2, .int a2), (3, .int a3), (4, .int 0)]) kc_104_75 rfl rfl (xm_lt ml_104 rfl) ?_
                  refine xi_aload (pc' := 79) (x := 37) kc_104_77 rfl rfl ?_
                  refine xi_iload_n (pc' := 80) (x := a2) kc_104_79 rfl rfl ?_
                  refine xi_putfield (pc' := 83) (fs' := [.int a2, .int 0, .int 0, .int 0, .ref 38]) kc_104_80 rfl rfl rfl ((eh1.2.1 37 (by decide)).trans (F 37 _ hl_37)) rfl rfl rfl (Nat.le_of_ble_eq_true rfl) rfl (fun hh2 eh2 => ?_)
                  refine xi_aload (pc' := 85) (x := 37) kc_104_83 rfl rfl ?_
                  refine xi_iload_n (pc' := 86) (x := a3) kc_104_85 rfl rfl ?_
                  refine xi_putfield (pc' := 89) (fs' := [.int a2, .int a3, .int 0, .int 0, .ref 38]) kc_104_86 rfl rfl rfl eh2.1 rfl rfl rfl (Nat.le_of_ble_eq_true rfl) rfl (fun hh3 eh3 => ?_)
                  refine xi_aload (pc' := 91) (x := 37) kc_104_89 rfl rfl ?_
                  refine xi_iload (pc' := 93) (x := 0) kc_104_91 rfl rfl ?_
                  refine xi_putfield (pc' := 96) (fs' := [.int a2, .int a3, .int 0, .int 0, .ref 38]) kc_104_93 rfl rfl rfl eh3.1 rfl rfl rfl (Nat.le_of_ble_eq_true rfl) rfl (fun hh4 eh4 => ?_)
                  refine xi_iload (pc' := 98) (x := 1) kc_104_96 rfl rfl ?_
                  refine xi_ireturn kc_104_98 mr_104 rfl ?_
                  show xw J ov 100 196 (437, [(4, .int 0), (3, .ref 167), (2, .ref 115), (1, .ref 0), (0, .ref 1000000)], [.int 1], hh4) _
                  refine xi_aload_n (pc' := 438) (x := 115) kc_196_437 rfl rfl ?_
                  refine xi_aload_n (pc' := 439) (x := 1000000) kc_196_438 rfl rfl ?_
                  refine xi_iload (pc' := 441) (x := 0) kc_196_439 rfl rfl ?_
                  refine xi_iconst (pc' := 442) (v := 1) kc_196_441 rfl rfl ?_
                  refine xi_iadd (pc' := 443) (v := 1) kc_196_442 rfl rfl ?_
                  refine xi_ialoadO (pc' := 444) (v := 4) kc_196_443 rfl (by decide) hov0 (xi_in (n := 6) (by decide) (by decide)) rfl ?_
                  refine xi_aload_n (pc' := 445) (x := 1000000) kc_196_444 rfl rfl ?_
                  refine xi_iload (pc' := 447) (x := 0) kc_196_445 rfl rfl ?_
                  refine xi_iconst (pc' := 448) (v := 2) kc_196_447 rfl rfl ?_
                  refine xi_iadd (pc' := 449) (v := 2) kc_196_448 rfl rfl ?_
                  refine xi_ialoadO (pc' := 450) (v := a2) kc_196_449 rfl (by decide) hov0 (xi_in (n := 6) (by decide) (by decide)) rfl ?_
                  refine xi_aload_n (pc' := 451) (x := 1000000) kc_196_450 rfl rfl ?_
                  refine xi_iload (pc' := 453) (x := 0) kc_196_451 rfl rfl ?_
                  refine xi_iconst (pc' := 454) (v := 3) kc_196_453 rfl rfl ?_
                  refine xi_iadd (pc' := 455) (v := 3) kc_196_454 rfl rfl ?_
                  refine xi_ialoadO (pc' := 456) (v := a3) kc_196_455 rfl (by decide) hov0 (xi_in (n := 6) (by decide) (by decide)) rfl ?_
                  refine xi_aload_n (pc' := 457) (x := 1000000) kc_196_456 rfl rfl ?_
                  refine xi_iload (pc' := 459) (x := 0) kc_196_457 rfl rfl ?_
                  refine xi_iconst (pc' := 460) (v := 4) kc_196_459 rfl rfl ?_
                  refine xi_iadd (pc' := 461) (v := 4) kc_196_460 rfl rfl ?_
                  refine xi_ialoadO (pc' := 462) (v := a4) kc_196_461 rfl (by decide) hov0 (xi_in (n := 6) (by decide) (by decide)) rfl ?_
                  refine xi_ift (pc' := 469) kc_196_462 rfl (xc_eq_t (X := a4.toInt) (Y := 0) rfl (by decide) (by omega)) ?_
                  refine xi_iconst (pc' := 470) (v := 0) kc_196_469 rfl rfl ?_
                  refine xi_virtual (mj := 24) (as := [.int 4, .int a2, .int a3, .int 0]) (st1 := [.int 1]) (lv0 := [(0, .ref 115), (1, .int 4), (2, .int a2), (3, .int a3), (4, .int 0)]) kc_196_470 rfl rfl rfl rfl rfl ((eh4.2.1 115 (by decide)).trans ((eh3.2.1 115 (by decide)).trans ((eh2.2.1 115 (by decide)).trans ((eh1.2.1 115 (by decide)).trans (F 115 _ hl_115))))) (Nat.le_of_ble_eq_true rfl) (hJ _ _ _ _ (by decide)) (xm_le ml_24 rfl) rfl ?_
                  refine xi_aload_n (pc' := 1) (x := 115) kc_24_0 rfl rfl ?_
                  refine xi_iconst (pc' := 2) (v := 0) kc_24_1 rfl rfl ?_
                  refine xi_putfield (pc' := 5) (fs' := [.int 0, .int 0, .ref 116, .ref 117, .ref 118, .ref 119, .ref 120, .ref 121, .ref 122, .ref 123, .ref 124, .ref 125, .ref 126, .ref 127, .ref 128, .ref 129, .int 4, .ref 130, .int 0, .ref 131, .ref 132, .ref 133, .ref 134, .int 0, .ref 135, .ref 136, .ref 137, .ref 138, .ref 139, .ref 140, .ref 141, .ref 142, .int 0, .int 0, .int 0, .ref 143, .ref 144, .ref 145, .ref 146, .ref 147, .ref 148, .int 0, .ref 149, .ref 150, .ref 151, .int 0, .ref 152, .ref 153, .ref 154, .ref 155, .ref 156, .ref 157, .ref 158, .ref 159, .int 0, .ref 160, .int 0, .ref 161, .ref 162, .ref 163, .ref 164, .int 0, .ref 165, .ref 166]) kc_24_2 rfl rfl rfl ((eh4.2.1 115 (by decide)).trans ((eh3.2.1 115 (by decide)).trans ((eh2.2.1 115 (by decide)).trans ((eh1.2.1 115 (by decide)).trans (F 115 _ hl_115))))) rfl rfl rfl (Nat.le_of_ble_eq_true rfl) rfl (fun hh5 eh5 => ?_)
                  refine xi_iload_n (pc' := 6) (x := 4) kc_24_5 rfl rfl ?_
                  refine xi_static (mj := 25) (as := [.int 4]) (st1 := []) (lv0 := [(0, .int 4)]) kc_24_6 rfl rfl (Nat.le_of_ble_eq_true rfl) rfl rfl (Nat.le_of_ble_eq_true rfl) (hJ _ _ _ _ (by decide)) (xm_le ml_25 rfl) rfl ?_
                  refine xi_iload_n (pc' := 1) (x := 4) kc_25_0 rfl rfl ?_
                  refine xi_iconst (pc' := 2) (v := 0) kc_25_1 rfl rfl ?_
                  refine xi_bipush (pc' := 4) (v := 11) kc_25_2 rfl rfl ?_
                  refine xi_static (mj := 12) (as := [.int 4, .int 0, .int 11]) (st1 := []) (lv0 := [(0, .int 4), (1, .int 0), (2, .int 11)]) kc_25_4 rfl rfl (Nat.le_of_ble_eq_true rfl) rfl rfl (Nat.le_of_ble_eq_true rfl) (hJ _ _ _ _ (by decide)) (xm_le ml_12 rfl) rfl ?_
                  refine xi_iload_n (pc' := 1) (x := 4) kc_12_0 rfl rfl ?_
                  refine xi_iload_n (pc' := 2) (x := 0) kc_12_1 rfl rfl ?_
                  refine xi_cmf (pc' := 5) kc_12_2 rfl rfl ?_
                  refine xi_iload_n (pc' := 6) (x := 4) kc_12_5 rfl rfl ?_
                  refine xi_iload_n (pc' := 7) (x := 11) kc_12_6 rfl rfl ?_
                  refine xi_cmf (pc' := 10) kc_12_7 rfl rfl ?_
                  refine xi_iconst (pc' := 11) (v := 1) kc_12_10 rfl rfl ?_
                  refine xi_goto (pc' := 15) kc_12_11 rfl ?_
                  refine xi_ireturn kc_12_15 mr_12 rfl ?_
                  show xw J ov 98 25 (7, [(0, .int 4)], [.int 1], hh5) _
                  refine xi_ireturn kc_25_7 mr_25 rfl ?_
                  show xw J ov 99 24 (9, [(0, .ref 115), (1, .int 4), (2, .int a2), (3, .int a3), (4, .int 0)], [.int 1], hh5) _
                  refine xi_iff (pc' := 12) kc_24_9 rfl rfl ?_
                  refine xi_iload_n (pc' := 13) (x := a2) kc_24_12 rfl rfl ?_
                  refine xi_static (mj := 11) (as := [.int a2]) (st1 := []) (lv0 := [(0, .int a2)]) kc_24_13 rfl rfl (Nat.le_of_ble_eq_true rfl) rfl rfl (Nat.le_of_ble_eq_true rfl) (hJ _ _ _ _ (by decide)) (xm_le ml_11 rfl) rfl ?_
                  refine xi_iload_n (pc' := 1) (x := a2) kc_11_0 rfl rfl ?_
                  refine xi_iconst (pc' := 2) (v := 0) kc_11_1 rfl rfl ?_
                  refine xi_iconst (pc' := 3) (v := 5) kc_11_2 rfl rfl ?_
                  refine xi_static (mj := 12) (as := [.int a2, .int 0, .int 5]) (st1 := []) (lv0 := [(0, .int a2), (1, .int 0), (2, .int 5)]) kc_11_3 rfl rfl (Nat.le_of_ble_eq_true rfl) rfl rfl (Nat.le_of_ble_eq_true rfl) (hJ _ _ _ _ (by decide)) (xm_le ml_12 rfl) rfl ?_
                  refine xi_iload_n (pc' := 1) (x := a2) kc_12_0 rfl rfl ?_
                  refine xi_iload_n (pc' := 2) (x := 0) kc_12_1 rfl rfl ?_
                  refine xi_cmf (pc' := 5) kc_12_2 rfl (xc_lt_f (X := a2.toInt) (Y := 0) rfl (by decide) (by omega)) ?_
                  refine xi_iload_n (pc' := 6) (x := a2) kc_12_5 rfl rfl ?_
                  refine xi_iload_n (pc' := 7) (x := 5) kc_12_6 rfl rfl ?_
                  refine xi_cmf (pc' := 10) kc_12_7 rfl (xc_gt_f (X := a2.toInt) (Y := 5) rfl (by decide) (by omega)) ?_
                  refine xi_iconst (pc' := 11) (v := 1) kc_12_10 rfl rfl ?_
                  refine xi_goto (pc' := 15) kc_12_11 rfl ?_
                  refine xi_ireturn kc_12_15 mr_12 rfl ?_
                  show xw J ov 98 11 (6, [(0, .int a2)], [.int 1], hh5) _
                  refine xi_ireturn kc_11_6 mr_11 rfl ?_
                  show xw J ov 99 24 (16, [(0, .ref 115), (1, .int 4), (2, .int a2), (3, .int a3), (4, .int 0)], [.int 1], hh5) _
                  refine xi_ift (pc' := 25) kc_24_16 rfl rfl ?_
                  refine xi_iload_n (pc' := 26) (x := a3) kc_24_25 rfl rfl ?_
                  refine xi_ift (pc' := 36) kc_24_26 rfl (xc_ge_t (X := a3.toInt) (Y := 0) rfl (by decide) (by omega)) ?_
                  refine xi_iload_n (pc' := 37) (x := a3) kc_24_36 rfl rfl ?_
                  refine xi_bipush (pc' := 39) (v := 100) kc_24_37 rfl rfl ?_
                  refine xi_cmt (pc' := 49) kc_24_39 rfl (xc_le_t (X := a3.toInt) (Y := 100) rfl (by decide) (by omega)) ?_
                  refine xi_aload_n (pc' := 50) (x := 115) kc_24_49 rfl rfl ?_
                  refine xi_getfield (pc' := 53) (v := .ref 125) kc_24_50 rfl rfl rfl eh5.1 rfl ?_
                  refine xi_iload_n (pc' := 54) (x := 4) kc_24_53 rfl rfl ?_
                  refine xi_iaload (pc' := 55) (v := (-9)) kc_24_54 rfl ((eh5.2.1 125 (by decide)).trans ((eh4.2.1 125 (by decide)).trans ((eh3.2.1 125 (by decide)).trans ((eh2.2.1 125 (by decide)).trans ((eh1.2.1 125 (by decide)).trans (F 125 _ hl_125)))))) (by decide) rfl (xi_in (n := 12) (by decide) (by decide)) rfl ?_
                  refine xi_ift (pc' := 62) kc_24_55 rfl rfl ?_
                  refine xi_iconst (pc' := 63) (v := 0) kc_24_62 rfl rfl ?_
                  refine xi_istore (pc' := 65) (lv' := [(5, .int 0), (0, .ref 115), (1, .int 4), (2, .int a2), (3, .int a3), (4, .int 0)]) kc_24_63 rfl rfl (xm_lt ml_24 rfl) ?_
                  refine xi_aload_n (pc' := 66) (x := 115) kc_24_65 rfl rfl ?_
                  refine xi_getfield (pc' := 69) (v := .ref 125) kc_24_66 rfl rfl rfl eh5.1 rfl ?_
                  refine xi_iload_n (pc' := 70) (x := 4) kc_24_69 rfl rfl ?_
                  refine xi_iload_n (pc' := 71) (x := a2) kc_24_70 rfl rfl ?_
                  refine xi_iastore (pc' := 72) (x' := [(-9), (-9), (-9), (-9), a2, (-9), (-9), (-9), (-9), (-9), (-9), (-9)]) kc_24_71 rfl ((eh5.2.1 125 (by decide)).trans ((eh4.2.1 125 (by decide)).trans ((eh3.2.1 125 (by decide)).trans ((eh2.2.1 125 (by decide)).trans ((eh1.2.1 125 (by decide)).trans (F 125 _ hl_125)))))) rfl (xi_in (n := 12) (by decide) (by decide)) rfl (fun hh6 eh6 => ?_)
                  refine xi_aload_n (pc' := 73) (x := 115) kc_24_72 rfl rfl ?_
                  refine xi_getfield (pc' := 76) (v := .ref 126) kc_24_73 rfl rfl rfl ((eh6.2.1 115 (by decide)).trans eh5.1) rfl ?_
                  refine xi_iload_n (pc' := 77) (x := 4) kc_24_76 rfl rfl ?_
                  refine xi_iload_n (pc' := 78) (x := a3) kc_24_77 rfl rfl ?_
                  refine xi_iastore (pc' := 79) (x' := [0, 0, 0, 0, a3, 0, 0, 0, 0, 0, 0, 0]) kc_24_78 rfl ((eh6.2.1 126 (by decide)).trans ((eh5.2.1 126 (by decide)).trans ((eh4.2.1 126 (by decide)).trans ((eh3.2.1 126 (by decide)).trans ((eh2.2.1 126 (by decide)).trans ((eh1.2.1 126 (by decide)).trans (F 126 _ hl_126))))))) rfl (xi_in (n := 12) (by decide) (by decide)) rfl (fun hh7 eh7 => ?_)
                  refine xi_aload_n (pc' := 80) (x := 115) kc_24_79 rfl rfl ?_
                  refine xi_getfield (pc' := 83) (v := .ref 127) kc_24_80 rfl rfl rfl ((eh7.2.1 115 (by decide)).trans ((eh6.2.1 115 (by decide)).trans eh5.1)) rfl ?_
                  refine xi_iload_n (pc' := 84) (x := 4) kc_24_83 rfl rfl ?_
                  refine xi_iload (pc' := 86) (x := 0) kc_24_84 rfl rfl ?_
                  refine xi_bastore (pc' := 87) (x' := [0, 0, 0, 0, 0, 0, 0, 0, 0, 0, 0, 0]) kc_24_86 rfl ((eh7.2.1 127 (by decide)).trans ((eh6.2.1 127 (by decide)).trans ((eh5.2.1 127 (by decide)).trans ((eh4.2.1 127 (by decide)).trans ((eh3.2.1 127 (by decide)).trans ((eh2.2.1 127 (by decide)).trans ((eh1.2.1 127 (by decide)).trans (F 127 _ hl_127)))))))) rfl (xi_in (n := 12) (by decide) (by decide)) rfl (fun hh8 eh8 => ?_)
                  refine xi_aload_n (pc' := 88) (x := 115) kc_24_87 rfl rfl ?_
                  refine xi_iconst (pc' := 89) (v := 0) kc_24_88 rfl rfl ?_
                  refine xi_putfield (pc' := 92) (fs' := [.int 0, .int 0, .ref 116, .ref 117, .ref 118, .ref 119, .ref 120, .ref 121, .ref 122, .ref 123, .ref 124, .ref 125, .ref 126, .ref 127, .ref 128, .ref 129, .int 4, .ref 130, .int 0, .ref 131, .ref 132, .ref 133, .ref 134, .int 0, .ref 135, .ref 136, .ref 137, .ref 138, .ref 139, .ref 140, .ref 141, .ref 142, .int 0, .int 0, .int 0, .ref 143, .ref 144, .ref 145, .ref 146, .ref 147, .ref 148, .int 0, .ref 149, .ref 150, .ref 151, .int 0, .ref 152, .ref 153, .ref 154, .ref 155, .ref 156, .ref 157, .ref 158, .ref 159, .int 0, .ref 160, .int 0, .ref 161, .ref 162, .ref 163, .ref 164, .int 0, .ref 165, .ref 166]) kc_24_89 rfl rfl rfl ((eh8.2.1 115 (by decide)).trans ((eh7.2.1 115 (by decide)).trans ((eh6.2.1 115 (by decide)).trans eh5.1))) rfl rfl rfl (Nat.le_of_ble_eq_true rfl) rfl (fun hh9 eh9 => ?_)
                  refine xi_iload (pc' := 94) (x := 0) kc_24_92 rfl rfl ?_
                  refine xi_ift (pc' := 101) kc_24_94 rfl rfl ?_
                  refine xi_iconst (pc' := 102) (v := 1) kc_24_101 rfl rfl ?_
                  refine xi_ireturn kc_24_102 mr_24 rfl ?_
                  show xw J ov 100 196 (473, [(4, .int 0), (3, .ref 167), (2, .ref 115), (1, .ref 0), (0, .ref 1000000)], [.int 1, .int 1], hh9) _
                  refine xi_cmt (pc' := 1528) kc_196_473 rfl rfl ?_
                  refine xi_iinc (pc' := 1531) (x := 0) (v := 6) (lv' := [(4, .int 6), (3, .ref 167), (2, .ref 115), (1, .ref 0), (0, .ref 1000000)]) kc_196_1528 rfl rfl rfl rfl (xm_lt ml_196 rfl) ?_
                  refine xi_goto (pc' := 23) kc_196_1531 rfl ?_
                  refine xi_iload (pc' := 25) (x := 6) kc_196_23 rfl rfl ?_
                  refine xi_aload_n (pc' := 26) (x := 1000000) kc_196_25 rfl rfl ?_
                  refine xi_arraylength (pc' := 27) (n := 6) (v := 6) kc_196_26 rfl (xl_lenO (by decide) hov0 rfl) rfl ?_
                  refine xi_bipush (pc' := 29) (v := 6) kc_196_27 rfl rfl ?_
                  refine xi_isub (pc' := 30) (v := 0) kc_196_29 rfl rfl ?_
                  refine xi_cmt (pc' := 1534) kc_196_30 rfl rfl ?_
                  refine xi_iconst (pc' := 1535) (v := 1) kc_196_1534 rfl rfl ?_
                  refine xi_ireturn kc_196_1535 mr_196 rfl ?_
                  refine ⟨rfl, ?_, ?_⟩
                  · rw [eh9.2.2.1, eh8.2.2.1, eh7.2.2.1, eh6.2.2.1, eh5.2.2.1, eh4.2.2.1, eh3.2.2.1, eh2.2.2.1, eh1.2.2.1]; exact hn0
                  · rw [eh9.2.2.2, eh8.2.2.2, eh7.2.2.2, eh6.2.2.2, eh5.2.2.2, eh4.2.2.2, eh3.2.2.2, eh2.2.2.2, eh1.2.2.2]; exact hz0
                by_cases c13 : a1.toInt = 5
                · have qa1 : a1 = 5 := xc_of (Eq.trans (by omega) (show (5 : Int) = (5 : Int32).toInt by decide))
                  subst qa1
                  refine xi_aaload (pc' := 60) (b := 39) kc_104_59 rfl ((eh1.2.1 3 (by decide)).trans (F 3 _ hl_3)) rfl (xi_in (n := 12) (by decide) (by decide)) rfl ?_
                  refine xi_astore (pc' := 62) (lv' := [(5, .ref 39), (0, .ref 0), (1, .int 5), (2, .int a2), (3, .int a3), (4, .int 0)]) kc_104_60 rfl rfl (xm_lt ml_104 rfl) ?_
                  refine xi_aload (pc' := 64) (x := 39) kc_104_62 rfl rfl ?_
                  refine xi_virtual (mj := 106) (as := []) (st1 := []) (lv0 := [(0, .ref 39)]) kc_104_64 rfl rfl rfl rfl rfl ((eh1.2.1 39 (by decide)).trans (F 39 _ hl_39)) (Nat.le_of_ble_eq_true rfl) (hJ _ _ _ _ (by decide)) (xm_le ml_106 rfl) rfl ?_
                  refine xi_aload_n (pc' := 1) (x := 39) kc_106_0 rfl rfl ?_
                  refine xi_getfield (pc' := 4) (v := .int (-9)) kc_106_1 rfl rfl rfl ((eh1.2.1 39 (by decide)).trans (F 39 _ hl_39)) rfl ?_
                  refine xi_static (mj := 90) (as := [.int (-9)]) (st1 := []) (lv0 := [(0, .int (-9))]) kc_106_4 rfl rfl (Nat.le_of_ble_eq_true rfl) rfl rfl (Nat.le_of_ble_eq_true rfl) (hJ _ _ _ _ (by decide)) (xm_le ml_90 rfl) rfl ?_
                  refine xi_iload_n (pc' := 1) (x := (-9)) kc_90_0 rfl rfl ?_
                  refine xi_ift (pc' := 14) kc_90_1 rfl rfl ?_
                  refine xi_iconst (pc' := 15) (v := 0) kc_90_14 rfl rfl ?_
                  refine xi_ireturn kc_90_15 mr_90 rfl ?_
                  show xw J ov 98 106 (7, [(0, .ref 39)], [.int 0], hh1) _
                  refine xi_ireturn kc_106_7 mr_106 rfl ?_
                  show xw J ov 99 104 (67, [(5, .ref 39), (0, .ref 0), (1, .int 5), (2, .int a2), (3, .int a3), (4, .int 0)], [.int 0], hh1) _
                  refine xi_ift (pc' := 74) kc_104_67 rfl rfl ?_
                  refine xi_iconst (pc' := 75) (v := 1) kc_104_74 rfl rfl ?_
                  refine xi_istore (pc' := 77) (lv' := [(6, .int 1), (5, .ref 39), (0, .ref 0), (1, .int 5), (2, .int a2), (3, .int a3), (4, .int 0)]) kc_104_75 rfl rfl (xm_lt ml_104 rfl) ?_
                  refine xi_aload (pc' := 79) (x := 39) kc_104_77 rfl rfl ?_
                  refine xi_iload_n (pc' := 80) (x := a2) kc_104_79 rfl rfl ?_
                  refine xi_putfield (pc' := 83) (fs' := [.int a2, .int 0, .int 0, .int 0, .ref 40]) kc_104_80 rfl rfl rfl ((eh1.2.1 39 (by decide)).trans (F 39 _ hl_39)) rfl rfl rfl (Nat.le_of_ble_eq_true rfl) rfl (fun hh2 eh2 => ?_)
                  refine xi_aload (pc' := 85) (x := 39) kc_104_83 rfl rfl ?_
                  refine xi_iload_n (pc' := 86) (x := a3) kc_104_85 rfl rfl ?_
                  refine xi_putfield (pc' := 89) (fs' := [.int a2, .int a3, .int 0, .int 0, .ref 40]) kc_104_86 rfl rfl rfl eh2.1 rfl rfl rfl (Nat.le_of_ble_eq_true rfl) rfl (fun hh3 eh3 => ?_)
                  refine xi_aload (pc' := 91) (x := 39) kc_104_89 rfl rfl ?_
                  refine xi_iload (pc' := 93) (x := 0) kc_104_91 rfl rfl ?_
                  refine xi_putfield (pc' := 96) (fs' := [.int a2, .int a3, .int 0, .int 0, .ref 40]) kc_104_93 rfl rfl rfl eh3.1 rfl rfl rfl (Nat.le_of_ble_eq_true rfl) rfl (fun hh4 eh4 => ?_)
                  refine xi_iload (pc' := 98) (x := 1) kc_104_96 rfl rfl ?_
                  refine xi_ireturn kc_104_98 mr_104 rfl ?_
                  show xw J ov 100 196 (437, [(4, .int 0), (3, .ref 167), (2, .ref 115), (1, .ref 0), (0, .ref 1000000)], [.int 1], hh4) _
                  refine xi_aload_n (pc' := 438) (x := 115) kc_196_437 rfl rfl ?_
                  refine xi_aload_n (pc' := 439) (x := 1000000) kc_196_438 rfl rfl ?_
                  refine xi_iload (pc' := 441) (x := 0) kc_196_439 rfl rfl ?_
                  refine xi_iconst (pc' := 442) (v := 1) kc_196_441 rfl rfl ?_
                  refine xi_iadd (pc' := 443) (v := 1) kc_196_442 rfl rfl ?_
                  refine xi_ialoadO (pc' := 444) (v := 5) kc_196_443 rfl (by decide) hov0 (xi_in (n := 6) (by decide) (by decide)) rfl ?_
                  refine xi_aload_n (pc' := 445) (x := 1000000) kc_196_444 rfl rfl ?_
                  refine xi_iload (pc' := 447) (x := 0) kc_196_445 rfl rfl ?_
                  refine xi_iconst (pc' := 448) (v := 2) kc_196_447 rfl rfl ?_
                  refine xi_iadd (pc' := 449) (v := 2) kc_196_448 rfl rfl ?_
                  refine xi_ialoadO (pc' := 450) (v := a2) kc_196_449 rfl (by decide) hov0 (xi_in (n := 6) (by decide) (by decide)) rfl ?_
                  refine xi_aload_n (pc' := 451) (x := 1000000) kc_196_450 rfl rfl ?_
                  refine xi_iload (pc' := 453) (x := 0) kc_196_451 rfl rfl ?_
                  refine xi_iconst (pc' := 454) (v := 3) kc_196_453 rfl rfl ?_
                  refine xi_iadd (pc' := 455) (v := 3) kc_196_454 rfl rfl ?_
                  refine xi_ialoadO (pc' := 456) (v := a3) kc_196_455 rfl (by decide) hov0 (xi_in (n := 6) (by decide) (by decide)) rfl ?_
                  refine xi_aload_n (pc' := 457) (x := 1000000) kc_196_456 rfl rfl ?_
                  refine xi_iload (pc' := 459) (x := 0) kc_196_457 rfl rfl ?_
                  refine xi_iconst (pc' := 460) (v := 4) kc_196_459 rfl rfl ?_
                  refine xi_iadd (pc' := 461) (v := 4) kc_196_460 rfl rfl ?_
                  refine xi_ialoadO (pc' := 462) (v := a4) kc_196_461 rfl (by decide) hov0 (xi_in (n := 6) (by decide) (by decide)) rfl ?_
                  refine xi_ift (pc' := 469) kc_196_462 rfl (xc_eq_t (X := a4.toInt) (Y := 0) rfl (by decide) (by omega)) ?_
                  refine xi_iconst (pc' := 470) (v := 0) kc_196_469 rfl rfl ?_
                  refine xi_virtual (mj := 24) (as := [.int 5, .int a2, .int a3, .int 0]) (st1 := [.int 1]) (lv0 := [(0, .ref 115), (1, .int 5), (2, .int a2), (3, .int a3), (4, .int 0)]) kc_196_470 rfl rfl rfl rfl rfl ((eh4.2.1 115 (by decide)).trans ((eh3.2.1 115 (by decide)).trans ((eh2.2.1 115 (by decide)).trans ((eh1.2.1 115 (by decide)).trans (F 115 _ hl_115))))) (Nat.le_of_ble_eq_true rfl) (hJ _ _ _ _ (by decide)) (xm_le ml_24 rfl) rfl ?_
                  refine xi_aload_n (pc' := 1) (x := 115) kc_24_0 rfl rfl ?_
                  refine xi_iconst (pc' := 2) (v := 0) kc_24_1 rfl rfl ?_
                  refine xi_putfield (pc' := 5) (fs' := [.int 0, .int 0, .ref 116, .ref 117, .ref 118, .ref 119, .ref 120, .ref 121, .ref 122, .ref 123, .ref 124, .ref 125, .ref 126, .ref 127, .ref 128, .ref 129, .int 4, .ref 130, .int 0, .ref 131, .ref 132, .ref 133, .ref 134, .int 0, .ref 135, .ref 136, .ref 137, .ref 138, .ref 139, .ref 140, .ref 141, .ref 142, .int 0, .int 0, .int 0, .ref 143, .ref 144, .ref 145, .ref 146, .ref 147, .ref 148, .int 0, .ref 149, .ref 150, .ref 151, .int 0, .ref 152, .ref 153, .ref 154, .ref 155, .ref 156, .ref 157, .ref 158, .ref 159, .int 0, .ref 160, .int 0, .ref 161, .ref 162, .ref 163, .ref 164, .int 0, .ref 165, .ref 166]) kc_24_2 rfl rfl rfl ((eh4.2.1 115 (by decide)).trans ((eh3.2.1 115 (by decide)).trans ((eh2.2.1 115 (by decide)).trans ((eh1.2.1 115 (by decide)).trans (F 115 _ hl_115))))) rfl rfl rfl (Nat.le_of_ble_eq_true rfl) rfl (fun hh5 eh5 => ?_)
                  refine xi_iload_n (pc' := 6) (x := 5) kc_24_5 rfl rfl ?_
                  refine xi_static (mj := 25) (as := [.int 5]) (st1 := []) (lv0 := [(0, .int 5)]) kc_24_6 rfl rfl (Nat.le_of_ble_eq_true rfl) rfl rfl (Nat.le_of_ble_eq_true rfl) (hJ _ _ _ _ (by decide)) (xm_le ml_25 rfl) rfl ?_
                  refine xi_iload_n (pc' := 1) (x := 5) kc_25_0 rfl rfl ?_
                  refine xi_iconst (pc' := 2) (v := 0) kc_25_1 rfl rfl ?_
                  refine xi_bipush (pc' := 4) (v := 11) kc_25_2 rfl rfl ?_
                  refine xi_static (mj := 12) (as := [.int 5, .int 0, .int 11]) (st1 := []) (lv0 := [(0, .int 5), (1, .int 0), (2, .int 11)]) kc_25_4 rfl rfl (Nat.le_of_ble_eq_true rfl) rfl rfl (Nat.le_of_ble_eq_true rfl) (hJ _ _ _ _ (by decide)) (xm_le ml_12 rfl) rfl ?_
                  refine xi_iload_n (pc' := 1) (x := 5) kc_12_0 rfl rfl ?_
                  refine xi_iload_n (pc' := 2) (x := 0) kc_12_1 rfl rfl ?_
                  refine xi_cmf (pc' := 5) kc_12_2 rfl rfl ?_
                  refine xi_iload_n (pc' := 6) (x := 5) kc_12_5 rfl rfl ?_
                  refine xi_iload_n (pc' := 7) (x := 11) kc_12_6 rfl rfl ?_
                  refine xi_cmf (pc' := 10) kc_12_7 rfl rfl ?_
                  refine xi_iconst (pc' := 11) (v := 1) kc_12_10 rfl rfl ?_
                  refine xi_goto (pc' := 15) kc_12_11 rfl ?_
                  refine xi_ireturn kc_12_15 mr_12 rfl ?_
                  show xw J ov 98 25 (7, [(0, .int 5)], [.int 1], hh5) _
                  refine xi_ireturn kc_25_7 mr_25 rfl ?_
                  show xw J ov 99 24 (9, [(0, .ref 115), (1, .int 5), (2, .int a2), (3, .int a3), (4, .int 0)], [.int 1], hh5) _
                  refine xi_iff (pc' := 12) kc_24_9 rfl rfl ?_
                  refine xi_iload_n (pc' := 13) (x := a2) kc_24_12 rfl rfl ?_
                  refine xi_static (mj := 11) (as := [.int a2]) (st1 := []) (lv0 := [(0, .int a2)]) kc_24_13 rfl rfl (Nat.le_of_ble_eq_true rfl) rfl rfl (Nat.le_of_ble_eq_true rfl) (hJ _ _ _ _ (by decide)) (xm_le ml_11 rfl) rfl ?_
                  refine xi_iload_n (pc' := 1) (x := a2) kc_11_0 rfl rfl ?_
                  refine xi_iconst (pc' := 2) (v := 0) kc_11_1 rfl rfl ?_
                  refine xi_iconst (pc' := 3) (v := 5) kc_11_2 rfl rfl ?_
                  refine xi_static (mj := 12) (as := [.int a2, .int 0, .int 5]) (st1 := []) (lv0 := [(0, .int a2), (1, .int 0), (2, .int 5)]) kc_11_3 rfl rfl (Nat.le_of_ble_eq_true rfl) rfl rfl (Nat.le_of_ble_eq_true rfl) (hJ _ _ _ _ (by decide)) (xm_le ml_12 rfl) rfl ?_
                  refine xi_iload_n (pc' := 1) (x := a2) kc_12_0 rfl rfl ?_
                  refine xi_iload_n (pc' := 2) (x := 0) kc_12_1 rfl rfl ?_
                  refine xi_cmf (pc' := 5) kc_12_2 rfl (xc_lt_f (X := a2.toInt) (Y := 0) rfl (by decide) (by omega)) ?_
                  refine xi_iload_n (pc' := 6) (x := a2) kc_12_5 rfl rfl ?_
                  refine xi_iload_n (pc' := 7) (x := 5) kc_12_6 rfl rfl ?_
                  refine xi_cmf (pc' := 10) kc_12_7 rfl (xc_gt_f (X := a2.toInt) (Y := 5) rfl (by decide) (by omega)) ?_
                  refine xi_iconst (pc' := 11) (v := 1) kc_12_10 rfl rfl ?_
                  refine xi_goto (pc' := 15) kc_12_11 rfl ?_
                  refine xi_ireturn kc_12_15 mr_12 rfl ?_
                  show xw J ov 98 11 (6, [(0, .int a2)], [.int 1], hh5) _
                  refine xi_ireturn kc_11_6 mr_11 rfl ?_
                  show xw J ov 99 24 (16, [(0, .ref 115), (1, .int 5), (2, .int a2), (3, .int a3), (4, .int 0)], [.int 1], hh5) _
                  refine xi_ift (pc' := 25) kc_24_16 rfl rfl ?_
                  refine xi_iload_n (pc' := 26) (x := a3) kc_24_25 rfl rfl ?_
                  refine xi_ift (pc' := 36) kc_24_26 rfl (xc_ge_t (X := a3.toInt) (Y := 0) rfl (by decide) (by omega)) ?_
                  refine xi_iload_n (pc' := 37) (x := a3) kc_24_36 rfl rfl ?_
                  refine xi_bipush (pc' := 39) (v := 100) kc_24_37 rfl rfl ?_
                  refine xi_cmt (pc' := 49) kc_24_39 rfl (xc_le_t (X := a3.toInt) (Y := 100) rfl (by decide) (by omega)) ?_
                  refine xi_aload_n (pc' := 50) (x := 115) kc_24_49 rfl rfl ?_
                  refine xi_getfield (pc' := 53) (v := .ref 125) kc_24_50 rfl rfl rfl eh5.1 rfl ?_
                  refine xi_iload_n (pc' := 54) (x := 5) kc_24_53 rfl rfl ?_
                  refine xi_iaload (pc' := 55) (v := (-9)) kc_24_54 rfl ((eh5.2.1 125 (by decide)).trans ((eh4.2.1 125 (by decide)).trans ((eh3.2.1 125 (by decide)).trans ((eh2.2.1 125 (by decide)).trans ((eh1.2.1 125 (by decide)).trans (F 125 _ hl_125)))))) (by decide) rfl (xi_in (n := 12) (by decide) (by decide)) rfl ?_
                  refine xi_ift (pc' := 62) kc_24_55 rfl rfl ?_
                  refine xi_iconst (pc' := 63) (v := 0) kc_24_62 rfl rfl ?_
                  refine xi_istore (pc' := 65) (lv' := [(5, .int 0), (0, .ref 115), (1, .int 5), (2, .int a2), (3, .int a3), (4, .int 0)]) kc_24_63 rfl rfl (xm_lt ml_24 rfl) ?_
                  refine xi_aload_n (pc' := 66) (x := 115) kc_24_65 rfl rfl ?_
                  refine xi_getfield (pc' := 69) (v := .ref 125) kc_24_66 rfl rfl rfl eh5.1 rfl ?_
                  refine xi_iload_n (pc' := 70) (x := 5) kc_24_69 rfl rfl ?_
                  refine xi_iload_n (pc' := 71) (x := a2) kc_24_70 rfl rfl ?_
                  refine xi_iastore (pc' := 72) (x' := [(-9), (-9), (-9), (-9), (-9), a2, (-9), (-9), (-9), (-9), (-9), (-9)]) kc_24_71 rfl ((eh5.2.1 125 (by decide)).trans ((eh4.2.1 125 (by decide)).trans ((eh3.2.1 125 (by decide)).trans ((eh2.2.1 125 (by decide)).trans ((eh1.2.1 125 (by decide)).trans (F 125 _ hl_125)))))) rfl (xi_in (n := 12) (by decide) (by decide)) rfl (fun hh6 eh6 => ?_)
                  refine xi_aload_n (pc' := 73) (x := 115) kc_24_72 rfl rfl ?_
                  refine xi_getfield (pc' := 76) (v := .ref 126) kc_24_73 rfl rfl rfl ((eh6.2.1 115 (by decide)).trans eh5.1) rfl ?_
                  refine xi_iload_n (pc' := 77) (x := 5) kc_24_76 rfl rfl ?_
                  refine xi_iload_n (pc' := 78) (x := a3) kc_24_77 rfl rfl ?_
                  refine xi_iastore (pc' := 79) (x' := [0, 0, 0, 0, 0, a3, 0, 0, 0, 0, 0, 0]) kc_24_78 rfl ((eh6.2.1 126 (by decide)).trans ((eh5.2.1 126 (by decide)).trans ((eh4.2.1 126 (by decide)).trans ((eh3.2.1 126 (by decide)).trans ((eh2.2.1 126 (by decide)).trans ((eh1.2.1 126 (by decide)).trans (F 126 _ hl_126))))))) rfl (xi_in (n := 12) (by decide) (by decide)) rfl (fun hh7 eh7 => ?_)
                  refine xi_aload_n (pc' := 80) (x := 115) kc_24_79 rfl rfl ?_
                  refine xi_getfield (pc' := 83) (v := .ref 127) kc_24_80 rfl rfl rfl ((eh7.2.1 115 (by decide)).trans ((eh6.2.1 115 (by decide)).trans eh5.1)) rfl ?_
                  refine xi_iload_n (pc' := 84) (x := 5) kc_24_83 rfl rfl ?_
                  refine xi_iload (pc' := 86) (x := 0) kc_24_84 rfl rfl ?_
                  refine xi_bastore (pc' := 87) (x' := [0, 0, 0, 0, 0, 0, 0, 0, 0, 0, 0, 0]) kc_24_86 rfl ((eh7.2.1 127 (by decide)).trans ((eh6.2.1 127 (by decide)).trans ((eh5.2.1 127 (by decide)).trans ((eh4.2.1 127 (by decide)).trans ((eh3.2.1 127 (by decide)).trans ((eh2.2.1 127 (by decide)).trans ((eh1.2.1 127 (by decide)).trans (F 127 _ hl_127)))))))) rfl (xi_in (n := 12) (by decide) (by decide)) rfl (fun hh8 eh8 => ?_)
                  refine xi_aload_n (pc' := 88) (x := 115) kc_24_87 rfl rfl ?_
                  refine xi_iconst (pc' := 89) (v := 0) kc_24_88 rfl rfl ?_
                  refine xi_putfield (pc' := 92) (fs' := [.int 0, .int 0, .ref 116, .ref 117, .ref 118, .ref 119, .ref 120, .ref 121, .ref 122, .ref 123, .ref 124, .ref 125, .ref 126, .ref 127, .ref 128, .ref 129, .int 4, .ref 130, .int 0, .ref 131, .ref 132, .ref 133, .ref 134, .int 0, .ref 135, .ref 136, .ref 137, .ref 138, .ref 139, .ref 140, .ref 141, .ref 142, .int 0, .int 0, .int 0, .ref 143, .ref 144, .ref 145, .ref 146, .ref 147, .ref 148, .int 0, .ref 149, .ref 150, .ref 151, .int 0, .ref 152, .ref 153, .ref 154, .ref 155, .ref 156, .ref 157, .ref 158, .ref 159, .int 0, .ref 160, .int 0, .ref 161, .ref 162, .ref 163, .ref 164, .int 0, .ref 165, .ref 166]) kc_24_89 rfl rfl rfl ((eh8.2.1 115 (by decide)).trans ((eh7.2.1 115 (by decide)).trans ((eh6.2.1 115 (by decide)).trans eh5.1))) rfl rfl rfl (Nat.le_of_ble_eq_true rfl) rfl (fun hh9 eh9 => ?_)
                  refine xi_iload (pc' := 94) (x := 0) kc_24_92 rfl rfl ?_
                  refine xi_ift (pc' := 101) kc_24_94 rfl rfl ?_
                  refine xi_iconst (pc' := 102) (v := 1) kc_24_101 rfl rfl ?_
                  refine xi_ireturn kc_24_102 mr_24 rfl ?_
                  show xw J ov 100 196 (473, [(4, .int 0), (3, .ref 167), (2, .ref 115), (1, .ref 0), (0, .ref 1000000)], [.int 1, .int 1], hh9) _
                  refine xi_cmt (pc' := 1528) kc_196_473 rfl rfl ?_
                  refine xi_iinc (pc' := 1531) (x := 0) (v := 6) (lv' := [(4, .int 6), (3, .ref 167), (2, .ref 115), (1, .ref 0), (0, .ref 1000000)]) kc_196_1528 rfl rfl rfl rfl (xm_lt ml_196 rfl) ?_
                  refine xi_goto (pc' := 23) kc_196_1531 rfl ?_
                  refine xi_iload (pc' := 25) (x := 6) kc_196_23 rfl rfl ?_
                  refine xi_aload_n (pc' := 26) (x := 1000000) kc_196_25 rfl rfl ?_
                  refine xi_arraylength (pc' := 27) (n := 6) (v := 6) kc_196_26 rfl (xl_lenO (by decide) hov0 rfl) rfl ?_
                  refine xi_bipush (pc' := 29) (v := 6) kc_196_27 rfl rfl ?_
                  refine xi_isub (pc' := 30) (v := 0) kc_196_29 rfl rfl ?_
                  refine xi_cmt (pc' := 1534) kc_196_30 rfl rfl ?_
                  refine xi_iconst (pc' := 1535) (v := 1) kc_196_1534 rfl rfl ?_
                  refine xi_ireturn kc_196_1535 mr_196 rfl ?_
                  refine ⟨rfl, ?_, ?_⟩
                  · rw [eh9.2.2.1, eh8.2.2.1, eh7.2.2.1, eh6.2.2.1, eh5.2.2.1, eh4.2.2.1, eh3.2.2.1, eh2.2.2.1, eh1.2.2.1]; exact hn0
                  · rw [eh9.2.2.2, eh8.2.2.2, eh7.2.2.2, eh6.2.2.2, eh5.2.2.2, eh4.2.2.2, eh3.2.2.2, eh2.2.2.2, eh1.2.2.2]; exact hz0
                by_cases c14 : a1.toInt = 6
                · have qa1 : a1 = 6 := xc_of (Eq.trans (by omega) (show (6 : Int) = (6 : Int32).toInt by decide))
                  subst qa1
                  refine xi_aaload (pc' := 60) (b := 41) kc_104_59 rfl ((eh1.2.1 3 (by decide)).trans (F 3 _ hl_3)) rfl (xi_in (n := 12) (by decide) (by decide)) rfl ?_
                  refine xi_astore (pc' := 62) (lv' := [(5, .ref 41), (0, .ref 0), (1, .int 6), (2, .int a2), (3, .int a3), (4, .int 0)]) kc_104_60 rfl rfl (xm_lt ml_104 rfl) ?_
                  refine xi_aload (pc' := 64) (x := 41) kc_104_62 rfl rfl ?_
                  refine xi_virtual (mj := 106) (as := []) (st1 := []) (lv0 := [(0, .ref 41)]) kc_104_64 rfl rfl rfl rfl rfl ((eh1.2.1 41 (by decide)).trans (F 41 _ hl_41)) (Nat.le_of_ble_eq_true rfl) (hJ _ _ _ _ (by decide)) (xm_le ml_106 rfl) rfl ?_
                  refine xi_aload_n (pc' := 1) (x := 41) kc_106_0 rfl rfl ?_
                  refine xi_getfield (pc' := 4) (v := .int (-9)) kc_106_1 rfl rfl rfl ((eh1.2.1 41 (by decide)).trans (F 41 _ hl_41)) rfl ?_
                  refine xi_static (mj := 90) (as := [.int (-9)]) (st1 := []) (lv0 := [(0, .int (-9))]) kc_106_4 rfl rfl (Nat.le_of_ble_eq_true rfl) rfl rfl (Nat.le_of_ble_eq_true rfl) (hJ _ _ _ _ (by decide)) (xm_le ml_90 rfl) rfl ?_
                  refine xi_iload_n (pc' := 1) (x := (-9)) kc_90_0 rfl rfl ?_
                  refine xi_ift (pc' := 14) kc_90_1 rfl rfl ?_
                  refine xi_iconst (pc' := 15) (v := 0) kc_90_14 rfl rfl ?_
                  refine xi_ireturn kc_90_15 mr_90 rfl ?_
                  show xw J ov 98 106 (7, [(0, .ref 41)], [.int 0], hh1) _
                  refine xi_ireturn kc_106_7 mr_106 rfl ?_
                  show xw J ov 99 104 (67, [(5, .ref 41), (0, .ref 0), (1, .int 6), (2, .int a2), (3, .int a3), (4, .int 0)], [.int 0], hh1) _
                  refine xi_ift (pc' := 74) kc_104_67 rfl rfl ?_
                  refine xi_iconst (pc' := 75) (v := 1) kc_104_74 rfl rfl ?_
                  refine xi_istore (pc' := 77) (lv' := [(6, .int 1), (5, .ref 41), (0, .ref 0), (1, .int 6), (2, .int a2), (3, .int a3), (4, .int 0)]) kc_104_75 rfl rfl (xm_lt ml_104 rfl) ?_
                  refine xi_aload (pc' := 79) (x := 41) kc_104_77 rfl rfl ?_
                  refine xi_iload_n (pc' := 80) (x := a2) kc_104_79 rfl rfl ?_
                  refine xi_putfield (pc' := 83) (fs' := [.int a2, .int 0, .int 0, .int 0, .ref 42]) kc_104_80 rfl rfl rfl ((eh1.2.1 41 (by decide)).trans (F 41 _ hl_41)) rfl rfl rfl (Nat.le_of_ble_eq_true rfl) rfl (fun hh2 eh2 => ?_)
                  refine xi_aload (pc' := 85) (x := 41) kc_104_83 rfl rfl ?_
                  refine xi_iload_n (pc' := 86) (x := a3) kc_104_85 rfl rfl ?_
                  refine xi_putfield (pc' := 89) (fs' := [.int a2, .int a3, .int 0, .int 0, .ref 42]) kc_104_86 rfl rfl rfl eh2.1 rfl rfl rfl (Nat.le_of_ble_eq_true rfl) rfl (fun hh3 eh3 => ?_)
                  refine xi_aload (pc' := 91) (x := 41) kc_104_89 rfl rfl ?_
                  refine xi_iload (pc' := 93) (x := 0) kc_104_91 rfl rfl ?_
                  refine xi_putfield (pc' := 96) (fs' := [.int a2, .int a3, .int 0, .int 0, .ref 42]) kc_104_93 rfl rfl rfl eh3.1 rfl rfl rfl (Nat.le_of_ble_eq_true rfl) rfl (fun hh4 eh4 => ?_)
                  refine xi_iload (pc' := 98) (x := 1) kc_104_96 rfl rfl ?_
                  refine xi_ireturn kc_104_98 mr_104 rfl ?_
                  show xw J ov 100 196 (437, [(4, .int 0), (3, .ref 167), (2, .ref 115), (1, .ref 0), (0, .ref 1000000)], [.int 1], hh4) _
                  refine xi_aload_n (pc' := 438) (x := 115) kc_196_437 rfl rfl ?_
                  refine xi_aload_n (pc' := 439) (x := 1000000) kc_196_438 rfl rfl ?_
                  refine xi_iload (pc' := 441) (x := 0) kc_196_439 rfl rfl ?_
                  refine xi_iconst (pc' := 442) (v := 1) kc_196_441 rfl rfl ?_
                  refine xi_iadd (pc' := 443) (v := 1) kc_196_442 rfl rfl ?_
                  refine xi_ialoadO (pc' := 444) (v := 6) kc_196_443 rfl (by decide) hov0 (xi_in (n := 6) (by decide) (by decide)) rfl ?_
                  refine xi_aload_n (pc' := 445) (x := 1000000) kc_196_444 rfl rfl ?_
                  refine xi_iload (pc' := 447) (x := 0) kc_196_445 rfl rfl ?_
                  refine xi_iconst (pc' := 448) (v := 2) kc_196_447 rfl rfl ?_
                  refine xi_iadd (pc' := 449) (v := 2) kc_196_448 rfl rfl ?_
                  refine xi_ialoadO (pc' := 450) (v := a2) kc_196_449 rfl (by decide) hov0 (xi_in (n := 6) (by decide) (by decide)) rfl ?_
                  refine xi_aload_n (pc' := 451) (x := 1000000) kc_196_450 rfl rfl ?_
                  refine xi_iload (pc' := 453) (x := 0) kc_196_451 rfl rfl ?_
                  refine xi_iconst (pc' := 454) (v := 3) kc_196_453 rfl rfl ?_
                  refine xi_iadd (pc' := 455) (v := 3) kc_196_454 rfl rfl ?_
                  refine xi_ialoadO (pc' := 456) (v := a3) kc_196_455 rfl (by decide) hov0 (xi_in (n := 6) (by decide) (by decide)) rfl ?_
                  refine xi_aload_n (pc' := 457) (x := 1000000) kc_196_456 rfl rfl ?_
                  refine xi_iload (pc' := 459) (x := 0) kc_196_457 rfl rfl ?_
                  refine xi_iconst (pc' := 460) (v := 4) kc_196_459 rfl rfl ?_
                  refine xi_iadd (pc' := 461) (v := 4) kc_196_460 rfl rfl ?_
                  refine xi_ialoadO (pc' := 462) (v := a4) kc_196_461 rfl (by decide) hov0 (xi_in (n := 6) (by decide) (by decide)) rfl ?_
                  refine xi_ift (pc' := 469) kc_196_462 rfl (xc_eq_t (X := a4.toInt) (Y := 0) rfl (by decide) (by omega)) ?_
                  refine xi_iconst (pc' := 470) (v := 0) kc_196_469 rfl rfl ?_
                  refine xi_virtual (mj := 24) (as := [.int 6, .int a2, .int a3, .int 0]) (st1 := [.int 1]) (lv0 := [(0, .ref 115), (1, .int 6), (2, .int a2), (3, .int a3), (4, .int 0)]) kc_196_470 rfl rfl rfl rfl rfl ((eh4.2.1 115 (by decide)).trans ((eh3.2.1 115 (by decide)).trans ((eh2.2.1 115 (by decide)).trans ((eh1.2.1 115 (by decide)).trans (F 115 _ hl_115))))) (Nat.le_of_ble_eq_true rfl) (hJ _ _ _ _ (by decide)) (xm_le ml_24 rfl) rfl ?_
                  refine xi_aload_n (pc' := 1) (x := 115) kc_24_0 rfl rfl ?_
                  refine xi_iconst (pc' := 2) (v := 0) kc_24_1 rfl rfl ?_
                  refine xi_putfield (pc' := 5) (fs' := [.int 0, .int 0, .ref 116, .ref 117, .ref 118, .ref 119, .ref 120, .ref 121, .ref 122, .ref 123, .ref 124, .ref 125, .ref 126, .ref 127, .ref 128, .ref 129, .int 4, .ref 130, .int 0, .ref 131, .ref 132, .ref 133, .ref 134, .int 0, .ref 135, .ref 136, .ref 137, .ref 138, .ref 139, .ref 140, .ref 141, .ref 142, .int 0, .int 0, .int 0, .ref 143, .ref 144, .ref 145, .ref 146, .ref 147, .ref 148, .int 0, .ref 149, .ref 150, .ref 151, .int 0, .ref 152, .ref 153, .ref 154, .ref 155, .ref 156, .ref 157, .ref 158, .ref 159, .int 0, .ref 160, .int 0, .ref 161, .ref 162, .ref 163, .ref 164, .int 0, .ref 165, .ref 166]) kc_24_2 rfl rfl rfl ((eh4.2.1 115 (by decide)).trans ((eh3.2.1 115 (by decide)).trans ((eh2.2.1 115 (by decide)).trans ((eh1.2.1 115 (by decide)).trans (F 115 _ hl_115))))) rfl rfl rfl (Nat.le_of_ble_eq_true rfl) rfl (fun hh5 eh5 => ?_)
                  refine xi_iload_n (pc' := 6) (x := 6) kc_24_5 rfl rfl ?_
                  refine xi_static (mj := 25) (as := [.int 6]) (st1 := []) (lv0 := [(0, .int 6)]) kc_24_6 rfl rfl (Nat.le_of_ble_eq_true rfl) rfl rfl (Nat.le_of_ble_eq_true rfl) (hJ _ _ _ _ (by decide)) (xm_le ml_25 rfl) rfl ?_
                  refine xi_iload_n (pc' := 1) (x := 6) kc_25_0 rfl rfl ?_
                  refine xi_iconst (pc' := 2) (v := 0) kc_25_1 rfl rfl ?_
                  refine xi_bipush (pc' := 4) (v := 11) kc_25_2 rfl rfl ?_
                  refine xi_static (mj := 12) (as := [.int 6, .int 0, .int 11]) (st1 := []) (lv0 := [(0, .int 6), (1, .int 0), (2, .int 11)]) kc_25_4 rfl rfl (Nat.le_of_ble_eq_true rfl) rfl rfl (Nat.le_of_ble_eq_true rfl) (hJ _ _ _ _ (by decide)) (xm_le ml_12 rfl) rfl ?_
                  refine xi_iload_n (pc' := 1) (x := 6) kc_12_0 rfl rfl ?_
                  refine xi_iload_n (pc' := 2) (x := 0) kc_12_1 rfl rfl ?_
                  refine xi_cmf (pc' := 5) kc_12_2 rfl rfl ?_
                  refine xi_iload_n (pc' := 6) (x := 6) kc_12_5 rfl rfl ?_
                  refine xi_iload_n (pc' := 7) (x := 11) kc_12_6 rfl rfl ?_
                  refine xi_cmf (pc' := 10) kc_12_7 rfl rfl ?_
                  refine xi_iconst (pc' := 11) (v := 1) kc_12_10 rfl rfl ?_
                  refine xi_goto (pc' := 15) kc_12_11 rfl ?_
                  refine xi_ireturn kc_12_15 mr_12 rfl ?_
                  show xw J ov 98 25 (7, [(0, .int 6)], [.int 1], hh5) _
                  refine xi_ireturn kc_25_7 mr_25 rfl ?_
                  show xw J ov 99 24 (9, [(0, .ref 115), (1, .int 6), (2, .int a2), (3, .int a3), (4, .int 0)], [.int 1], hh5) _
                  refine xi_iff (pc' := 12) kc_24_9 rfl rfl ?_
                  refine xi_iload_n (pc' := 13) (x := a2) kc_24_12 rfl rfl ?_
                  refine xi_static (mj := 11) (as := [.int a2]) (st1 := []) (lv0 := [(0, .int a2)]) kc_24_13 rfl rfl (Nat.le_of_ble_eq_true rfl) rfl rfl (Nat.le_of_ble_eq_true rfl) (hJ _ _ _ _ (by decide)) (xm_le ml_11 rfl) rfl ?_
                  refine xi_iload_n (pc' := 1) (x := a2) kc_11_0 rfl rfl ?_
                  refine xi_iconst (pc' := 2) (v := 0) kc_11_1 rfl rfl ?_
                  refine xi_iconst (pc' := 3) (v := 5) kc_11_2 rfl rfl ?_
                  refine xi_static (mj := 12) (as := [.int a2, .int 0, .int 5]) (st1 := []) (lv0 := [(0, .int a2), (1, .int 0), (2, .int 5)]) kc_11_3 rfl rfl (Nat.le_of_ble_eq_true rfl) rfl rfl (Nat.le_of_ble_eq_true rfl) (hJ _ _ _ _ (by decide)) (xm_le ml_12 rfl) rfl ?_
                  refine xi_iload_n (pc' := 1) (x := a2) kc_12_0 rfl rfl ?_
                  refine xi_iload_n (pc' := 2) (x := 0) kc_12_1 rfl rfl ?_
                  refine xi_cmf (pc' := 5) kc_12_2 rfl (xc_lt_f (X := a2.toInt) (Y := 0) rfl (by decide) (by omega)) ?_
                  refine xi_iload_n (pc' := 6) (x := a2) kc_12_5 rfl rfl ?_
                  refine xi_iload_n (pc' := 7) (x := 5) kc_12_6 rfl rfl ?_
                  refine xi_cmf (pc' := 10) kc_12_7 rfl (xc_gt_f (X := a2.toInt) (Y := 5) rfl (by decide) (by omega)) ?_
                  refine xi_iconst (pc' := 11) (v := 1) kc_12_10 rfl rfl ?_
                  refine xi_goto (pc' := 15) kc_12_11 rfl ?_
                  refine xi_ireturn kc_12_15 mr_12 rfl ?_
                  show xw J ov 98 11 (6, [(0, .int a2)], [.int 1], hh5) _
                  refine xi_ireturn kc_11_6 mr_11 rfl ?_
                  show xw J ov 99 24 (16, [(0, .ref 115), (1, .int 6), (2, .int a2), (3, .int a3), (4, .int 0)], [.int 1], hh5) _
                  refine xi_ift (pc' := 25) kc_24_16 rfl rfl ?_
                  refine xi_iload_n (pc' := 26) (x := a3) kc_24_25 rfl rfl ?_
                  refine xi_ift (pc' := 36) kc_24_26 rfl (xc_ge_t (X := a3.toInt) (Y := 0) rfl (by decide) (by omega)) ?_
                  refine xi_iload_n (pc' := 37) (x := a3) kc_24_36 rfl rfl ?_
                  refine xi_bipush (pc' := 39) (v := 100) kc_24_37 rfl rfl ?_
                  refine xi_cmt (pc' := 49) kc_24_39 rfl (xc_le_t (X := a3.toInt) (Y := 100) rfl (by decide) (by omega)) ?_
                  refine xi_aload_n (pc' := 50) (x := 115) kc_24_49 rfl rfl ?_
                  refine xi_getfield (pc' := 53) (v := .ref 125) kc_24_50 rfl rfl rfl eh5.1 rfl ?_
                  refine xi_iload_n (pc' := 54) (x := 6) kc_24_53 rfl rfl ?_
                  refine xi_iaload (pc' := 55) (v := (-9)) kc_24_54 rfl ((eh5.2.1 125 (by decide)).trans ((eh4.2.1 125 (by decide)).trans ((eh3.2.1 125 (by decide)).trans ((eh2.2.1 125 (by decide)).trans ((eh1.2.1 125 (by decide)).trans (F 125 _ hl_125)))))) (by decide) rfl (xi_in (n := 12) (by decide) (by decide)) rfl ?_
                  refine xi_ift (pc' := 62) kc_24_55 rfl rfl ?_
                  refine xi_iconst (pc' := 63) (v := 0) kc_24_62 rfl rfl ?_
                  refine xi_istore (pc' := 65) (lv' := [(5, .int 0), (0, .ref 115), (1, .int 6), (2, .int a2), (3, .int a3), (4, .int 0)]) kc_24_63 rfl rfl (xm_lt ml_24 rfl) ?_
                  refine xi_aload_n (pc' := 66) (x := 115) kc_24_65 rfl rfl ?_
                  refine xi_getfield (pc' := 69) (v := .ref 125) kc_24_66 rfl rfl rfl eh5.1 rfl ?_
                  refine xi_iload_n (pc' := 70) (x := 6) kc_24_69 rfl rfl ?_
                  refine xi_iload_n (pc' := 71) (x := a2) kc_24_70 rfl rfl ?_
                  refine xi_iastore (pc' := 72) (x' := [(-9), (-9), (-9), (-9), (-9), (-9), a2, (-9), (-9), (-9), (-9), (-9)]) kc_24_71 rfl ((eh5.2.1 125 (by decide)).trans ((eh4.2.1 125 (by decide)).trans ((eh3.2.1 125 (by decide)).trans ((eh2.2.1 125 (by decide)).trans ((eh1.2.1 125 (by decide)).trans (F 125 _ hl_125)))))) rfl (xi_in (n := 12) (by decide) (by decide)) rfl (fun hh6 eh6 => ?_)
                  refine xi_aload_n (pc' := 73) (x := 115) kc_24_72 rfl rfl ?_
                  refine xi_getfield (pc' := 76) (v := .ref 126) kc_24_73 rfl rfl rfl ((eh6.2.1 115 (by decide)).trans eh5.1) rfl ?_
                  refine xi_iload_n (pc' := 77) (x := 6) kc_24_76 rfl rfl ?_
                  refine xi_iload_n (pc' := 78) (x := a3) kc_24_77 rfl rfl ?_
                  refine xi_iastore (pc' := 79) (x' := [0, 0, 0, 0, 0, 0, a3, 0, 0, 0, 0, 0]) kc_24_78 rfl ((eh6.2.1 126 (by decide)).trans ((eh5.2.1 126 (by decide)).trans ((eh4.2.1 126 (by decide)).trans ((eh3.2.1 126 (by decide)).trans ((eh2.2.1 126 (by decide)).trans ((eh1.2.1 126 (by decide)).trans (F 126 _ hl_126))))))) rfl (xi_in (n := 12) (by decide) (by decide)) rfl (fun hh7 eh7 => ?_)
                  refine xi_aload_n (pc' := 80) (x := 115) kc_24_79 rfl rfl ?_
                  refine xi_getfield (pc' := 83) (v := .ref 127) kc_24_80 rfl rfl rfl ((eh7.2.1 115 (by decide)).trans ((eh6.2.1 115 (by decide)).trans eh5.1)) rfl ?_
                  refine xi_iload_n (pc' := 84) (x := 6) kc_24_83 rfl rfl ?_
                  refine xi_iload (pc' := 86) (x := 0) kc_24_84 rfl rfl ?_
                  refine xi_bastore (pc' := 87) (x' := [0, 0, 0, 0, 0, 0, 0, 0, 0, 0, 0, 0]) kc_24_86 rfl ((eh7.2.1 127 (by decide)).trans ((eh6.2.1 127 (by decide)).trans ((eh5.2.1 127 (by decide)).trans ((eh4.2.1 127 (by decide)).trans ((eh3.2.1 127 (by decide)).trans ((eh2.2.1 127 (by decide)).trans ((eh1.2.1 127 (by decide)).trans (F 127 _ hl_127)))))))) rfl (xi_in (n := 12) (by decide) (by decide)) rfl (fun hh8 eh8 => ?_)
                  refine xi_aload_n (pc' := 88) (x := 115) kc_24_87 rfl rfl ?_
                  refine xi_iconst (pc' := 89) (v := 0) kc_24_88 rfl rfl ?_
                  refine xi_putfield (pc' := 92) (fs' := [.int 0, .int 0, .ref 116, .ref 117, .ref 118, .ref 119, .ref 120, .ref 121, .ref 122, .ref 123, .ref 124, .ref 125, .ref 126, .ref 127, .ref 128, .ref 129, .int 4, .ref 130, .int 0, .ref 131, .ref 132, .ref 133, .ref 134, .int 0, .ref 135, .ref 136, .ref 137, .ref 138, .ref 139, .ref 140, .ref 141, .ref 142, .int 0, .int 0, .int 0, .ref 143, .ref 144, .ref 145, .ref 146, .ref 147, .ref 148, .int 0, .ref 149, .ref 150, .ref 151, .int 0, .ref 152, .ref 153, .ref 154, .ref 155, .ref 156, .ref 157, .ref 158, .ref 159, .int 0, .ref 160, .int 0, .ref 161, .ref 162, .ref 163, .ref 164, .int 0, .ref 165, .ref 166]) kc_24_89 rfl rfl rfl ((eh8.2.1 115 (by decide)).trans ((eh7.2.1 115 (by decide)).trans ((eh6.2.1 115 (by decide)).trans eh5.1))) rfl rfl rfl (Nat.le_of_ble_eq_true rfl) rfl (fun hh9 eh9 => ?_)
                  refine xi_iload (pc' := 94) (x := 0) kc_24_92 rfl rfl ?_
                  refine xi_ift (pc' := 101) kc_24_94 rfl rfl ?_
                  refine xi_iconst (pc' := 102) (v := 1) kc_24_101 rfl rfl ?_
                  refine xi_ireturn kc_24_102 mr_24 rfl ?_
                  show xw J ov 100 196 (473, [(4, .int 0), (3, .ref 167), (2, .ref 115), (1, .ref 0), (0, .ref 1000000)], [.int 1, .int 1], hh9) _
                  refine xi_cmt (pc' := 1528) kc_196_473 rfl rfl ?_
                  refine xi_iinc (pc' := 1531) (x := 0) (v := 6) (lv' := [(4, .int 6), (3, .ref 167), (2, .ref 115), (1, .ref 0), (0, .ref 1000000)]) kc_196_1528 rfl rfl rfl rfl (xm_lt ml_196 rfl) ?_
                  refine xi_goto (pc' := 23) kc_196_1531 rfl ?_
                  refine xi_iload (pc' := 25) (x := 6) kc_196_23 rfl rfl ?_
                  refine xi_aload_n (pc' := 26) (x := 1000000) kc_196_25 rfl rfl ?_
                  refine xi_arraylength (pc' := 27) (n := 6) (v := 6) kc_196_26 rfl (xl_lenO (by decide) hov0 rfl) rfl ?_
                  refine xi_bipush (pc' := 29) (v := 6) kc_196_27 rfl rfl ?_
                  refine xi_isub (pc' := 30) (v := 0) kc_196_29 rfl rfl ?_
                  refine xi_cmt (pc' := 1534) kc_196_30 rfl rfl ?_
                  refine xi_iconst (pc' := 1535) (v := 1) kc_196_1534 rfl rfl ?_
                  refine xi_ireturn kc_196_1535 mr_196 rfl ?_
                  refine ⟨rfl, ?_, ?_⟩
                  · rw [eh9.2.2.1, eh8.2.2.1, eh7.2.2.1, eh6.2.2.1, eh5.2.2.1, eh4.2.2.1, eh3.2.2.1, eh2.2.2.1, eh1.2.2.1]; exact hn0
                  · rw [eh9.2.2.2, eh8.2.2.2, eh7.2.2.2, eh6.2.2.2, eh5.2.2.2, eh4.2.2.2, eh3.2.2.2, eh2.2.2.2, eh1.2.2.2]; exact hz0
                by_cases c15 : a1.toInt = 7
                · have qa1 : a1 = 7 := xc_of (Eq.trans (by omega) (show (7 : Int) = (7 : Int32).toInt by decide))
                  subst qa1
                  refine xi_aaload (pc' := 60) (b := 43) kc_104_59 rfl ((eh1.2.1 3 (by decide)).trans (F 3 _ hl_3)) rfl (xi_in (n := 12) (by decide) (by decide)) rfl ?_
                  refine xi_astore (pc' := 62) (lv' := [(5, .ref 43), (0, .ref 0), (1, .int 7), (2, .int a2), (3, .int a3), (4, .int 0)]) kc_104_60 rfl rfl (xm_lt ml_104 rfl) ?_
                  refine xi_aload (pc' := 64) (x := 43) kc_104_62 rfl rfl ?_
                  refine xi_virtual (mj := 106) (as := []) (st1 := []) (lv0 := [(0, .ref 43)]) kc_104_64 rfl rfl rfl rfl rfl ((eh1.2.1 43 (by decide)).trans (F 43 _ hl_43)) (Nat.le_of_ble_eq_true rfl) (hJ _ _ _ _ (by decide)) (xm_le ml_106 rfl) rfl ?_
                  refine xi_aload_n (pc' := 1) (x := 43) kc_106_0 rfl rfl ?_
                  refine xi_getfield (pc' := 4) (v := .int (-9)) kc_106_1 rfl rfl rfl ((eh1.2.1 43 (by decide)).trans (F 43 _ hl_43)) rfl ?_
                  refine xi_static (mj := 90) (as := [.int (-9)]) (st1 := []) (lv0 := [(0, .int (-9))]) kc_106_4 rfl rfl (Nat.le_of_ble_eq_true rfl) rfl rfl (Nat.le_of_ble_eq_true rfl) (hJ _ _ _ _ (by decide)) (xm_le ml_90 rfl) rfl ?_
                  refine xi_iload_n (pc' := 1) (x := (-9)) kc_90_0 rfl rfl ?_
                  refine xi_ift (pc' := 14) kc_90_1 rfl rfl ?_
                  refine xi_iconst (pc' := 15) (v := 0) kc_90_14 rfl rfl ?_
                  refine xi_ireturn kc_90_15 mr_90 rfl ?_
                  show xw J ov 98 106 (7, [(0, .ref 43)], [.int 0], hh1) _
                  refine xi_ireturn kc_106_7 mr_106 rfl ?_
                  show xw J ov 99 104 (67, [(5, .ref 43), (0, .ref 0), (1, .int 7), (2, .int a2), (3, .int a3), (4, .int 0)], [.int 0], hh1) _
                  refine xi_ift (pc' := 74) kc_104_67 rfl rfl ?_
                  refine xi_iconst (pc' := 75) (v := 1) kc_104_74 rfl rfl ?_
                  refine xi_istore (pc' := 77) (lv' := [(6, .int 1), (5, .ref 43), (0, .ref 0), (1, .int 7), (2, .int a2), (3, .int a3), (4, .int 0)]) kc_104_75 rfl rfl (xm_lt ml_104 rfl) ?_
                  refine xi_aload (pc' := 79) (x := 43) kc_104_77 rfl rfl ?_
                  refine xi_iload_n (pc' := 80) (x := a2) kc_104_79 rfl rfl ?_
                  refine xi_putfield (pc' := 83) (fs' := [.int a2, .int 0, .int 0, .int 0, .ref 44]) kc_104_80 rfl rfl rfl ((eh1.2.1 43 (by decide)).trans (F 43 _ hl_43)) rfl rfl rfl (Nat.le_of_ble_eq_true rfl) rfl (fun hh2 eh2 => ?_)
                  refine xi_aload (pc' := 85) (x := 43) kc_104_83 rfl rfl ?_
                  refine xi_iload_n (pc' := 86) (x := a3) kc_104_85 rfl rfl ?_
                  refine xi_putfield (pc' := 89) (fs' := [.int a2, .int a3, .int 0, .int 0, .ref 44]) kc_104_86 rfl rfl rfl eh2.1 rfl rfl rfl (Nat.le_of_ble_eq_true rfl) rfl (fun hh3 eh3 => ?_)
                  refine xi_aload (pc' := 91) (x := 43) kc_104_89 rfl rfl ?_
                  refine xi_iload (pc' := 93) (x := 0) kc_104_91 rfl rfl ?_
                  refine xi_putfield (pc' := 96) (fs' := [.int a2, .int a3, .int 0, .int 0, .ref 44]) kc_104_93 rfl rfl rfl eh3.1 rfl rfl rfl (Nat.le_of_ble_eq_true rfl) rfl (fun hh4 eh4 => ?_)
                  refine xi_iload (pc' := 98) (x := 1) kc_104_96 rfl rfl ?_
                  refine xi_ireturn kc_104_98 mr_104 rfl ?_
                  show xw J ov 100 196 (437, [(4, .int 0), (3, .ref 167), (2, .ref 115), (1, .ref 0), (0, .ref 1000000)], [.int 1], hh4) _
                  refine xi_aload_n (pc' := 438) (x := 115) kc_196_437 rfl rfl ?_
                  refine xi_aload_n (pc' := 439) (x := 1000000) kc_196_438 rfl rfl ?_
                  refine xi_iload (pc' := 441) (x := 0) kc_196_439 rfl rfl ?_
                  refine xi_iconst (pc' := 442) (v := 1) kc_196_441 rfl rfl ?_
                  refine xi_iadd (pc' := 443) (v := 1) kc_196_442 rfl rfl ?_
                  refine xi_ialoadO (pc' := 444) (v := 7) kc_196_443 rfl (by decide) hov0 (xi_in (n := 6) (by decide) (by decide)) rfl ?_
                  refine xi_aload_n (pc' := 445) (x := 1000000) kc_196_444 rfl rfl ?_
                  refine xi_iload (pc' := 447) (x := 0) kc_196_445 rfl rfl ?_
                  refine xi_iconst (pc' := 448) (v := 2) kc_196_447 rfl rfl ?_
                  refine xi_iadd (pc' := 449) (v := 2) kc_196_448 rfl rfl ?_
                  refine xi_ialoadO (pc' := 450) (v := a2) kc_196_449 rfl (by decide) hov0 (xi_in (n := 6) (by decide) (by decide)) rfl ?_
                  refine xi_aload_n (pc' := 451) (x := 1000000) kc_196_450 rfl rfl ?_
                  refine xi_iload (pc' := 453) (x := 0) kc_196_451 rfl rfl ?_
                  refine xi_iconst (pc' := 454) (v := 3) kc_196_453 rfl rfl ?_
                  refine xi_iadd (pc' := 455) (v := 3) kc_196_454 rfl rfl ?_
                  refine xi_ialoadO (pc' := 456) (v := a3) kc_196_455 rfl (by decide) hov0 (xi_in (n := 6) (by decide) (by decide)) rfl ?_
                  refine xi_aload_n (pc' := 457) (x := 1000000) kc_196_456 rfl rfl ?_
                  refine xi_iload (pc' := 459) (x := 0) kc_196_457 rfl rfl ?_
                  refine xi_iconst (pc' := 460) (v := 4) kc_196_459 rfl rfl ?_
                  refine xi_iadd (pc' := 461) (v := 4) kc_196_460 rfl rfl ?_
                  refine xi_ialoadO (pc' := 462) (v := a4) kc_196_461 rfl (by decide) hov0 (xi_in (n := 6) (by decide) (by decide)) rfl ?_
                  refine xi_ift (pc' := 469) kc_196_462 rfl (xc_eq_t (X := a4.toInt) (Y := 0) rfl (by decide) (by omega)) ?_
                  refine xi_iconst (pc' := 470) (v := 0) kc_196_469 rfl rfl ?_
                  refine xi_virtual (mj := 24) (as := [.int 7, .int a2, .int a3, .int 0]) (st1 := [.int 1]) (lv0 := [(0, .ref 115), (1, .int 7), (2, .int a2), (3, .int a3), (4, .int 0)]) kc_196_470 rfl rfl rfl rfl rfl ((eh4.2.1 115 (by decide)).trans ((eh3.2.1 115 (by decide)).trans ((eh2.2.1 115 (by decide)).trans ((eh1.2.1 115 (by decide)).trans (F 115 _ hl_115))))) (Nat.le_of_ble_eq_true rfl) (hJ _ _ _ _ (by decide)) (xm_le ml_24 rfl) rfl ?_
                  refine xi_aload_n (pc' := 1) (x := 115) kc_24_0 rfl rfl ?_
                  refine xi_iconst (pc' := 2) (v := 0) kc_24_1 rfl rfl ?_
                  refine xi_putfield (pc' := 5) (fs' := [.int 0, .int 0, .ref 116, .ref 117, .ref 118, .ref 119, .ref 120, .ref 121, .ref 122, .ref 123, .ref 124, .ref 125, .ref 126, .ref 127, .ref 128, .ref 129, .int 4, .ref 130, .int 0, .ref 131, .ref 132, .ref 133, .ref 134, .int 0, .ref 135, .ref 136, .ref 137, .ref 138, .ref 139, .ref 140, .ref 141, .ref 142, .int 0, .int 0, .int 0, .ref 143, .ref 144, .ref 145, .ref 146, .ref 147, .ref 148, .int 0, .ref 149, .ref 150, .ref 151, .int 0, .ref 152, .ref 153, .ref 154, .ref 155, .ref 156, .ref 157, .ref 158, .ref 159, .int 0, .ref 160, .int 0, .ref 161, .ref 162, .ref 163, .ref 164, .int 0, .ref 165, .ref 166]) kc_24_2 rfl rfl rfl ((eh4.2.1 115 (by decide)).trans ((eh3.2.1 115 (by decide)).trans ((eh2.2.1 115 (by decide)).trans ((eh1.2.1 115 (by decide)).trans (F 115 _ hl_115))))) rfl rfl rfl (Nat.le_of_ble_eq_true rfl) rfl (fun hh5 eh5 => ?_)
                  refine xi_iload_n (pc' := 6) (x := 7) kc_24_5 rfl rfl ?_
                  refine xi_static (mj := 25) (as := [.int 7]) (st1 := []) (lv0 := [(0, .int 7)]) kc_24_6 rfl rfl (Nat.le_of_ble_eq_true rfl) rfl rfl (Nat.le_of_ble_eq_true rfl) (hJ _ _ _ _ (by decide)) (xm_le ml_25 rfl) rfl ?_
                  refine xi_iload_n (pc' := 1) (x := 7) kc_25_0 rfl rfl ?_
                  refine xi_iconst (pc' := 2) (v := 0) kc_25_1 rfl rfl ?_
                  refine xi_bipush (pc' := 4) (v := 11) kc_25_2 rfl rfl ?_
                  refine xi_static (mj := 12) (as := [.int 7, .int 0, .int 11]) (st1 := []) (lv0 := [(0, .int 7), (1, .int 0), (2, .int 11)]) kc_25_4 rfl rfl (Nat.le_of_ble_eq_true rfl) rfl rfl (Nat.le_of_ble_eq_true rfl) (hJ _ _ _ _ (by decide)) (xm_le ml_12 rfl) rfl ?_
                  refine xi_iload_n (pc' := 1) (x := 7) kc_12_0 rfl rfl ?_
                  refine xi_iload_n (pc' := 2) (x := 0) kc_12_1 rfl rfl ?_
                  refine xi_cmf (pc' := 5) kc_12_2 rfl rfl ?_
                  refine xi_iload_n (pc' := 6) (x := 7) kc_12_5 rfl rfl ?_
                  refine xi_iload_n (pc' := 7) (x := 11) kc_12_6 rfl rfl ?_
                  refine xi_cmf (pc' := 10) kc_12_7 rfl rfl ?_
                  refine xi_iconst (pc' := 11) (v := 1) kc_12_10 rfl rfl ?_
                  refine xi_goto (pc' := 15) kc_12_11 rfl ?_
                  refine xi_ireturn kc_12_15 mr_12 rfl ?_
                  show xw J ov 98 25 (7, [(0, .int 7)], [.int 1], hh5) _
                  refine xi_ireturn kc_25_7 mr_25 rfl ?_
                  show xw J ov 99 24 (9, [(0, .ref 115), (1, .int 7), (2, .int a2), (3, .int a3), (4, .int 0)], [.int 1], hh5) _
                  refine xi_iff (pc' := 12) kc_24_9 rfl rfl ?_
                  refine xi_iload_n (pc' := 13) (x := a2) kc_24_12 rfl rfl ?_
                  refine xi_static (mj := 11) (as := [.int a2]) (st1 := []) (lv0 := [(0, .int a2)]) kc_24_13 rfl rfl (Nat.le_of_ble_eq_true rfl) rfl rfl (Nat.le_of_ble_eq_true rfl) (hJ _ _ _ _ (by decide)) (xm_le ml_11 rfl) rfl ?_
                  refine xi_iload_n (pc' := 1) (x := a2) kc_11_0 rfl rfl ?_
                  refine xi_iconst (pc' := 2) (v := 0) kc_11_1 rfl rfl ?_
                  refine xi_iconst (pc' := 3) (v := 5) kc_11_2 rfl rfl ?_
                  refine xi_static (mj := 12) (as := [.int a2, .int 0, .int 5]) (st1 := []) (lv0 := [(0, .int a2), (1, .int 0), (2, .int 5)]) kc_11_3 rfl rfl (Nat.le_of_ble_eq_true rfl) rfl rfl (Nat.le_of_ble_eq_true rfl) (hJ _ _ _ _ (by decide)) (xm_le ml_12 rfl) rfl ?_
                  refine xi_iload_n (pc' := 1) (x := a2) kc_12_0 rfl rfl ?_
                  refine xi_iload_n (pc' := 2) (x := 0) kc_12_1 rfl rfl ?_
                  refine xi_cmf (pc' := 5) kc_12_2 rfl (xc_lt_f (X := a2.toInt) (Y := 0) rfl (by decide) (by omega)) ?_
                  refine xi_iload_n (pc' := 6) (x := a2) kc_12_5 rfl rfl ?_
                  refine xi_iload_n (pc' := 7) (x := 5) kc_12_6 rfl rfl ?_
                  refine xi_cmf (pc' := 10) kc_12_7 rfl (xc_gt_f (X := a2.toInt) (Y := 5) rfl (by decide) (by omega)) ?_
                  refine xi_iconst (pc' := 11) (v := 1) kc_12_10 rfl rfl ?_
                  refine xi_goto (pc' := 15) kc_12_11 rfl ?_
                  refine xi_ireturn kc_12_15 mr_12 rfl ?_
                  show xw J ov 98 11 (6, [(0, .int a2)], [.int 1], hh5) _
                  refine xi_ireturn kc_11_6 mr_11 rfl ?_
                  show xw J ov 99 24 (16, [(0, .ref 115), (1, .int 7), (2, .int a2), (3, .int a3), (4, .int 0)], [.int 1], hh5) _
                  refine xi_ift (pc' := 25) kc_24_16 rfl rfl ?_
                  refine xi_iload_n (pc' := 26) (x := a3) kc_24_25 rfl rfl ?_
                  refine xi_ift (pc' := 36) kc_24_26 rfl (xc_ge_t (X := a3.toInt) (Y := 0) rfl (by decide) (by omega)) ?_
                  refine xi_iload_n (pc' := 37) (x := a3) kc_24_36 rfl rfl ?_
                  refine xi_bipush (pc' := 39) (v := 100) kc_24_37 rfl rfl ?_
                  refine xi_cmt (pc' := 49) kc_24_39 rfl (xc_le_t (X := a3.toInt) (Y := 100) rfl (by decide) (by omega)) ?_
                  refine xi_aload_n (pc' := 50) (x := 115) kc_24_49 rfl rfl ?_
                  refine xi_getfield (pc' := 53) (v := .ref 125) kc_24_50 rfl rfl rfl eh5.1 rfl ?_
                  refine xi_iload_n (pc' := 54) (x := 7) kc_24_53 rfl rfl ?_
                  refine xi_iaload (pc' := 55) (v := (-9)) kc_24_54 rfl ((eh5.2.1 125 (by decide)).trans ((eh4.2.1 125 (by decide)).trans ((eh3.2.1 125 (by decide)).trans ((eh2.2.1 125 (by decide)).trans ((eh1.2.1 125 (by decide)).trans (F 125 _ hl_125)))))) (by decide) rfl (xi_in (n := 12) (by decide) (by decide)) rfl ?_
                  refine xi_ift (pc' := 62) kc_24_55 rfl rfl ?_
                  refine xi_iconst (pc' := 63) (v := 0) kc_24_62 rfl rfl ?_
                  refine xi_istore (pc' := 65) (lv' := [(5, .int 0), (0, .ref 115), (1, .int 7), (2, .int a2), (3, .int a3), (4, .int 0)]) kc_24_63 rfl rfl (xm_lt ml_24 rfl) ?_
                  refine xi_aload_n (pc' := 66) (x := 115) kc_24_65 rfl rfl ?_
                  refine xi_getfield (pc' := 69) (v := .ref 125) kc_24_66 rfl rfl rfl eh5.1 rfl ?_
                  refine xi_iload_n (pc' := 70) (x := 7) kc_24_69 rfl rfl ?_
                  refine xi_iload_n (pc' := 71) (x := a2) kc_24_70 rfl rfl ?_
                  refine xi_iastore (pc' := 72) (x' := [(-9), (-9), (-9), (-9), (-9), (-9), (-9), a2, (-9), (-9), (-9), (-9)]) kc_24_71 rfl ((eh5.2.1 125 (by decide)).trans ((eh4.2.1 125 (by decide)).trans ((eh3.2.1 125 (by decide)).trans ((eh2.2.1 125 (by decide)).trans ((eh1.2.1 125 (by decide)).trans (F 125 _ hl_125)))))) rfl (xi_in (n := 12) (by decide) (by decide)) rfl (fun hh6 eh6 => ?_)
                  refine xi_aload_n (pc' := 73) (x := 115) kc_24_72 rfl rfl ?_
                  refine xi_getfield (pc' := 76) (v := .ref 126) kc_24_73 rfl rfl rfl ((eh6.2.1 115 (by decide)).trans eh5.1) rfl ?_
                  refine xi_iload_n (pc' := 77) (x := 7) kc_24_76 rfl rfl ?_
                  refine xi_iload_n (pc' := 78) (x := a3) kc_24_77 rfl rfl ?_
                  refine xi_iastore (pc' := 79) (x' := [0, 0, 0, 0, 0, 0, 0, a3, 0, 0, 0, 0]) kc_24_78 rfl ((eh6.2.1 126 (by decide)).trans ((eh5.2.1 126 (by decide)).trans ((eh4.2.1 126 (by decide)).trans ((eh3.2.1 126 (by decide)).trans ((eh2.2.1 126 (by decide)).trans ((eh1.2.1 126 (by decide)).trans (F 126 _ hl_126))))))) rfl (xi_in (n := 12) (by decide) (by decide)) rfl (fun hh7 eh7 => ?_)
                  refine xi_aload_n (pc' := 80) (x := 115) kc_24_79 rfl rfl ?_
                  refine xi_getfield (pc' := 83) (v := .ref 127) kc_24_80 rfl rfl rfl ((eh7.2.1 115 (by decide)).trans ((eh6.2.1 115 (by decide)).trans eh5.1)) rfl ?_
                  refine xi_iload_n (pc' := 84) (x := 7) kc_24_83 rfl rfl ?_
                  refine xi_iload (pc' := 86) (x := 0) kc_24_84 rfl rfl ?_
                  refine xi_bastore (pc' := 87) (x' := [0, 0, 0, 0, 0, 0, 0, 0, 0, 0, 0, 0]) kc_24_86 rfl ((eh7.2.1 127 (by decide)).trans ((eh6.2.1 127 (by decide)).trans ((eh5.2.1 127 (by decide)).trans ((eh4.2.1 127 (by decide)).trans ((eh3.2.1 127 (by decide)).trans ((eh2.2.1 127 (by decide)).trans ((eh1.2.1 127 (by decide)).trans (F 127 _ hl_127)))))))) rfl (xi_in (n := 12) (by decide) (by decide)) rfl (fun hh8 eh8 => ?_)
                  refine xi_aload_n (pc' := 88) (x := 115) kc_24_87 rfl rfl ?_
                  refine xi_iconst (pc' := 89) (v := 0) kc_24_88 rfl rfl ?_
                  refine xi_putfield (pc' := 92) (fs' := [.int 0, .int 0, .ref 116, .ref 117, .ref 118, .ref 119, .ref 120, .ref 121, .ref 122, .ref 123, .ref 124, .ref 125, .ref 126, .ref 127, .ref 128, .ref 129, .int 4, .ref 130, .int 0, .ref 131, .ref 132, .ref 133, .ref 134, .int 0, .ref 135, .ref 136, .ref 137, .ref 138, .ref 139, .ref 140, .ref 141, .ref 142, .int 0, .int 0, .int 0, .ref 143, .ref 144, .ref 145, .ref 146, .ref 147, .ref 148, .int 0, .ref 149, .ref 150, .ref 151, .int 0, .ref 152, .ref 153, .ref 154, .ref 155, .ref 156, .ref 157, .ref 158, .ref 159, .int 0, .ref 160, .int 0, .ref 161, .ref 162, .ref 163, .ref 164, .int 0, .ref 165, .ref 166]) kc_24_89 rfl rfl rfl ((eh8.2.1 115 (by decide)).trans ((eh7.2.1 115 (by decide)).trans ((eh6.2.1 115 (by decide)).trans eh5.1))) rfl rfl rfl (Nat.le_of_ble_eq_true rfl) rfl (fun hh9 eh9 => ?_)
                  refine xi_iload (pc' := 94) (x := 0) kc_24_92 rfl rfl ?_
                  refine xi_ift (pc' := 101) kc_24_94 rfl rfl ?_
                  refine xi_iconst (pc' := 102) (v := 1) kc_24_101 rfl rfl ?_
                  refine xi_ireturn kc_24_102 mr_24 rfl ?_
                  show xw J ov 100 196 (473, [(4, .int 0), (3, .ref 167), (2, .ref 115), (1, .ref 0), (0, .ref 1000000)], [.int 1, .int 1], hh9) _
                  refine xi_cmt (pc' := 1528) kc_196_473 rfl rfl ?_
                  refine xi_iinc (pc' := 1531) (x := 0) (v := 6) (lv' := [(4, .int 6), (3, .ref 167), (2, .ref 115), (1, .ref 0), (0, .ref 1000000)]) kc_196_1528 rfl rfl rfl rfl (xm_lt ml_196 rfl) ?_
                  refine xi_goto (pc' := 23) kc_196_1531 rfl ?_
                  refine xi_iload (pc' := 25) (x := 6) kc_196_23 rfl rfl ?_
                  refine xi_aload_n (pc' := 26) (x := 1000000) kc_196_25 rfl rfl ?_
                  refine xi_arraylength (pc' := 27) (n := 6) (v := 6) kc_196_26 rfl (xl_lenO (by decide) hov0 rfl) rfl ?_
                  refine xi_bipush (pc' := 29) (v := 6) kc_196_27 rfl rfl ?_
                  refine xi_isub (pc' := 30) (v := 0) kc_196_29 rfl rfl ?_
                  refine xi_cmt (pc' := 1534) kc_196_30 rfl rfl ?_
                  refine xi_iconst (pc' := 1535) (v := 1) kc_196_1534 rfl rfl ?_
                  refine xi_ireturn kc_196_1535 mr_196 rfl ?_
                  refine ⟨rfl, ?_, ?_⟩
                  · rw [eh9.2.2.1, eh8.2.2.1, eh7.2.2.1, eh6.2.2.1, eh5.2.2.1, eh4.2.2.1, eh3.2.2.1, eh2.2.2.1, eh1.2.2.1]; exact hn0
                  · rw [eh9.2.2.2, eh8.2.2.2, eh7.2.2.2, eh6.2.2.2, eh5.2.2.2, eh4.2.2.2, eh3.2.2.2, eh2.2.2.2, eh1.2.2.2]; exact hz0
                by_cases c16 : a1.toInt = 8
                · have qa1 : a1 = 8 := xc_of (Eq.trans (by omega) (show (8 : Int) = (8 : Int32).toInt by decide))
                  subst qa1
                  refine xi_aaload (pc' := 60) (b := 45) kc_104_59 rfl ((eh1.2.1 3 (by decide)).trans (F 3 _ hl_3)) rfl (xi_in (n := 12) (by decide) (by decide)) rfl ?_
                  refine xi_astore (pc' := 62) (lv' := [(5, .ref 45), (0, .ref 0), (1, .int 8), (2, .int a2), (3, .int a3), (4, .int 0)]) kc_104_60 rfl rfl (xm_lt ml_104 rfl) ?_
                  refine xi_aload (pc' := 64) (x := 45) kc_104_62 rfl rfl ?_
                  refine xi_virtual (mj := 106) (as := []) (st1 := []) (lv0 := [(0, .ref 45)]) kc_104_64 rfl rfl rfl rfl rfl ((eh1.2.1 45 (by decide)).trans (F 45 _ hl_45)) (Nat.le_of_ble_eq_true rfl) (hJ _ _ _ _ (by decide)) (xm_le ml_106 rfl) rfl ?_
                  refine xi_aload_n (pc' := 1) (x := 45) kc_106_0 rfl rfl ?_
                  refine xi_getfield (pc' := 4) (v := .int (-9)) kc_106_1 rfl rfl rfl ((eh1.2.1 45 (by decide)).trans (F 45 _ hl_45)) rfl ?_
                  refine xi_static (mj := 90) (as := [.int (-9)]) (st1 := []) (lv0 := [(0, .int (-9))]) kc_106_4 rfl rfl (Nat.le_of_ble_eq_true rfl) rfl rfl (Nat.le_of_ble_eq_true rfl) (hJ _ _ _ _ (by decide)) (xm_le ml_90 rfl) rfl ?_
                  refine xi_iload_n (pc' := 1) (x := (-9)) kc_90_0 rfl rfl ?_
                  refine xi_ift (pc' := 14) kc_90_1 rfl rfl ?_
                  refine xi_iconst (pc' := 15) (v := 0) kc_90_14 rfl rfl ?_
                  refine xi_ireturn kc_90_15 mr_90 rfl ?_
                  show xw J ov 98 106 (7, [(0, .ref 45)], [.int 0], hh1) _
                  refine xi_ireturn kc_106_7 mr_106 rfl ?_
                  show xw J ov 99 104 (67, [(5, .ref 45), (0, .ref 0), (1, .int 8), (2, .int a2), (3, .int a3), (4, .int 0)], [.int 0], hh1) _
                  refine xi_ift (pc' := 74) kc_104_67 rfl rfl ?_
                  refine xi_iconst (pc' := 75) (v := 1) kc_104_74 rfl rfl ?_
                  refine xi_istore (pc' := 77) (lv' := [(6, .int 1), (5, .ref 45), (0, .ref 0), (1, .int 8), (2, .int a2), (3, .int a3), (4, .int 0)]) kc_104_75 rfl rfl (xm_lt ml_104 rfl) ?_
                  refine xi_aload (pc' := 79) (x := 45) kc_104_77 rfl rfl ?_
                  refine xi_iload_n (pc' := 80) (x := a2) kc_104_79 rfl rfl ?_
                  refine xi_putfield (pc' := 83) (fs' := [.int a2, .int 0, .int 0, .int 0, .ref 46]) kc_104_80 rfl rfl rfl ((eh1.2.1 45 (by decide)).trans (F 45 _ hl_45)) rfl rfl rfl (Nat.le_of_ble_eq_true rfl) rfl (fun hh2 eh2 => ?_)
                  refine xi_aload (pc' := 85) (x := 45) kc_104_83 rfl rfl ?_
                  refine xi_iload_n (pc' := 86) (x := a3) kc_104_85 rfl rfl ?_
                  refine xi_putfield (pc' := 89) (fs' := [.int a2, .int a3, .int 0, .int 0, .ref 46]) kc_104_86 rfl rfl rfl eh2.1 rfl rfl rfl (Nat.le_of_ble_eq_true rfl) rfl (fun hh3 eh3 => ?_)
                  refine xi_aload (pc' := 91) (x := 45) kc_104_89 rfl rfl ?_
                  refine xi_iload (pc' := 93) (x := 0) kc_104_91 rfl rfl ?_
                  refine xi_putfield (pc' := 96) (fs' := [.int a2, .int a3, .int 0, .int 0, .ref 46]) kc_104_93 rfl rfl rfl eh3.1 rfl rfl rfl (Nat.le_of_ble_eq_true rfl) rfl (fun hh4 eh4 => ?_)
                  refine xi_iload (pc' := 98) (x := 1) kc_104_96 rfl rfl ?_
                  refine xi_ireturn kc_104_98 mr_104 rfl ?_
                  show xw J ov 100 196 (437, [(4, .int 0), (3, .ref 167), (2, .ref 115), (1, .ref 0), (0, .ref 1000000)], [.int 1], hh4) _
                  refine xi_aload_n (pc' := 438) (x := 115) kc_196_437 rfl rfl ?_
                  refine xi_aload_n (pc' := 439) (x := 1000000) kc_196_438 rfl rfl ?_
                  refine xi_iload (pc' := 441) (x := 0) kc_196_439 rfl rfl ?_
                  refine xi_iconst (pc' := 442) (v := 1) kc_196_441 rfl rfl ?_
                  refine xi_iadd (pc' := 443) (v := 1) kc_196_442 rfl rfl ?_
                  refine xi_ialoadO (pc' := 444) (v := 8) kc_196_443 rfl (by decide) hov0 (xi_in (n := 6) (by decide) (by decide)) rfl ?_
                  refine xi_aload_n (pc' := 445) (x := 1000000) kc_196_444 rfl rfl ?_
                  refine xi_iload (pc' := 447) (x := 0) kc_196_445 rfl rfl ?_
                  refine xi_iconst (pc' := 448) (v := 2) kc_196_447 rfl rfl ?_
                  refine xi_iadd (pc' := 449) (v := 2) kc_196_448 rfl rfl ?_
                  refine xi_ialoadO (pc' := 450) (v := a2) kc_196_449 rfl (by decide) hov0 (xi_in (n := 6) (by decide) (by decide)) rfl ?_
                  refine xi_aload_n (pc' := 451) (x := 1000000) kc_196_450 rfl rfl ?_
                  refine xi_iload (pc' := 453) (x := 0) kc_196_451 rfl rfl ?_
                  refine xi_iconst (pc' := 454) (v := 3) kc_196_453 rfl rfl ?_
                  refine xi_iadd (pc' := 455) (v := 3) kc_196_454 rfl rfl ?_
                  refine xi_ialoadO (pc' := 456) (v := a3) kc_196_455 rfl (by decide) hov0 (xi_in (n := 6) (by decide) (by decide)) rfl ?_
                  refine xi_aload_n (pc' := 457) (x := 1000000) kc_196_456 rfl rfl ?_
                  refine xi_iload (pc' := 459) (x := 0) kc_196_457 rfl rfl ?_
                  refine xi_iconst (pc' := 460) (v := 4) kc_196_459 rfl rfl ?_
                  refine xi_iadd (pc' := 461) (v := 4) kc_196_460 rfl rfl ?_
                  refine xi_ialoadO (pc' := 462) (v := a4) kc_196_461 rfl (by decide) hov0 (xi_in (n := 6) (by decide) (by decide)) rfl ?_
                  refine xi_ift (pc' := 469) kc_196_462 rfl (xc_eq_t (X := a4.toInt) (Y := 0) rfl (by decide) (by omega)) ?_
                  refine xi_iconst (pc' := 470) (v := 0) kc_196_469 rfl rfl ?_
                  refine xi_virtual (mj := 24) (as := [.int 8, .int a2, .int a3, .int 0]) (st1 := [.int 1]) (lv0 := [(0, .ref 115), (1, .int 8), (2, .int a2), (3, .int a3), (4, .int 0)]) kc_196_470 rfl rfl rfl rfl rfl ((eh4.2.1 115 (by decide)).trans ((eh3.2.1 115 (by decide)).trans ((eh2.2.1 115 (by decide)).trans ((eh1.2.1 115 (by decide)).trans (F 115 _ hl_115))))) (Nat.le_of_ble_eq_true rfl) (hJ _ _ _ _ (by decide)) (xm_le ml_24 rfl) rfl ?_
                  refine xi_aload_n (pc' := 1) (x := 115) kc_24_0 rfl rfl ?_
                  refine xi_iconst (pc' := 2) (v := 0) kc_24_1 rfl rfl ?_
                  refine xi_putfield (pc' := 5) (fs' := [.int 0, .int 0, .ref 116, .ref 117, .ref 118, .ref 119, .ref 120, .ref 121, .ref 122, .ref 123, .ref 124, .ref 125, .ref 126, .ref 127, .ref 128, .ref 129, .int 4, .ref 130, .int 0, .ref 131, .ref 132, .ref 133, .ref 134, .int 0, .ref 135, .ref 136, .ref 137, .ref 138, .ref 139, .ref 140, .ref 141, .ref 142, .int 0, .int 0, .int 0, .ref 143, .ref 144, .ref 145, .ref 146, .ref 147, .ref 148, .int 0, .ref 149, .ref 150, .ref 151, .int 0, .ref 152, .ref 153, .ref 154, .ref 155, .ref 156, .ref 157, .ref 158, .ref 159, .int 0, .ref 160, .int 0, .ref 161, .ref 162, .ref 163, .ref 164, .int 0, .ref 165, .ref 166]) kc_24_2 rfl rfl rfl ((eh4.2.1 115 (by decide)).trans ((eh3.2.1 115 (by decide)).trans ((eh2.2.1 115 (by decide)).trans ((eh1.2.1 115 (by decide)).trans (F 115 _ hl_115))))) rfl rfl rfl (Nat.le_of_ble_eq_true rfl) rfl (fun hh5 eh5 => ?_)
                  refine xi_iload_n (pc' := 6) (x := 8) kc_24_5 rfl rfl ?_
                  refine xi_static (mj := 25) (as := [.int 8]) (st1 := []) (lv0 := [(0, .int 8)]) kc_24_6 rfl rfl (Nat.le_of_ble_eq_true rfl) rfl rfl (Nat.le_of_ble_eq_true rfl) (hJ _ _ _ _ (by decide)) (xm_le ml_25 rfl) rfl ?_
                  refine xi_iload_n (pc' := 1) (x := 8) kc_25_0 rfl rfl ?_
                  refine xi_iconst (pc' := 2) (v := 0) kc_25_1 rfl rfl ?_
                  refine xi_bipush (pc' := 4) (v := 11) kc_25_2 rfl rfl ?_
                  refine xi_static (mj := 12) (as := [.int 8, .int 0, .int 11]) (st1 := []) (lv0 := [(0, .int 8), (1, .int 0), (2, .int 11)]) kc_25_4 rfl rfl (Nat.le_of_ble_eq_true rfl) rfl rfl (Nat.le_of_ble_eq_true rfl) (hJ _ _ _ _ (by decide)) (xm_le ml_12 rfl) rfl ?_
                  refine xi_iload_n (pc' := 1) (x := 8) kc_12_0 rfl rfl ?_
                  refine xi_iload_n (pc' := 2) (x := 0) kc_12_1 rfl rfl ?_
                  refine xi_cmf (pc' := 5) kc_12_2 rfl rfl ?_
                  refine xi_iload_n (pc' := 6) (x := 8) kc_12_5 rfl rfl ?_
                  refine xi_iload_n (pc' := 7) (x := 11) kc_12_6 rfl rfl ?_
                  refine xi_cmf (pc' := 10) kc_12_7 rfl rfl ?_
                  refine xi_iconst (pc' := 11) (v := 1) kc_12_10 rfl rfl ?_
                  refine xi_goto (pc' := 15) kc_12_11 rfl ?_
                  refine xi_ireturn kc_12_15 mr_12 rfl ?_
                  show xw J ov 98 25 (7, [(0, .int 8)], [.int 1], hh5) _
                  refine xi_ireturn kc_25_7 mr_25 rfl ?_
                  show xw J ov 99 24 (9, [(0, .ref 115), (1, .int 8), (2, .int a2), (3, .int a3), (4, .int 0)], [.int 1], hh5) _
                  refine xi_iff (pc' := 12) kc_24_9 rfl rfl ?_
                  refine xi_iload_n (pc' := 13) (x := a2) kc_24_12 rfl rfl ?_
                  refine xi_static (mj := 11) (as := [.int a2]) (st1 := []) (lv0 := [(0, .int a2)]) kc_24_13 rfl rfl (Nat.le_of_ble_eq_true rfl) rfl rfl (Nat.le_of_ble_eq_true rfl) (hJ _ _ _ _ (by decide)) (xm_le ml_11 rfl) rfl ?_
                  refine xi_iload_n (pc' := 1) (x := a2) kc_11_0 rfl rfl ?_
                  refine xi_iconst (pc' := 2) (v := 0) kc_11_1 rfl rfl ?_
                  refine xi_iconst (pc' := 3) (v := 5) kc_11_2 rfl rfl ?_
                  refine xi_static (mj := 12) (as := [.int a2, .int 0, .int 5]) (st1 := []) (lv0 := [(0, .int a2), (1, .int 0), (2, .int 5)]) kc_11_3 rfl rfl (Nat.le_of_ble_eq_true rfl) rfl rfl (Nat.le_of_ble_eq_true rfl) (hJ _ _ _ _ (by decide)) (xm_le ml_12 rfl) rfl ?_
                  refine xi_iload_n (pc' := 1) (x := a2) kc_12_0 rfl rfl ?_
                  refine xi_iload_n (pc' := 2) (x := 0) kc_12_1 rfl rfl ?_
                  refine xi_cmf (pc' := 5) kc_12_2 rfl (xc_lt_f (X := a2.toInt) (Y := 0) rfl (by decide) (by omega)) ?_
                  refine xi_iload_n (pc' := 6) (x := a2) kc_12_5 rfl rfl ?_
                  refine xi_iload_n (pc' := 7) (x := 5) kc_12_6 rfl rfl ?_
                  refine xi_cmf (pc' := 10) kc_12_7 rfl (xc_gt_f (X := a2.toInt) (Y := 5) rfl (by decide) (by omega)) ?_
                  refine xi_iconst (pc' := 11) (v := 1) kc_12_10 rfl rfl ?_
                  refine xi_goto (pc' := 15) kc_12_11 rfl ?_
                  refine xi_ireturn kc_12_15 mr_12 rfl ?_
                  show xw J ov 98 11 (6, [(0, .int a2)], [.int 1], hh5) _
                  refine xi_ireturn kc_11_6 mr_11 rfl ?_
                  show xw J ov 99 24 (16, [(0, .ref 115), (1, .int 8), (2, .int a2), (3, .int a3), (4, .int 0)], [.int 1], hh5) _
                  refine xi_ift (pc' := 25) kc_24_16 rfl rfl ?_
                  refine xi_iload_n (pc' := 26) (x := a3) kc_24_25 rfl rfl ?_
                  refine xi_ift (pc' := 36) kc_24_26 rfl (xc_ge_t (X := a3.toInt) (Y := 0) rfl (by decide) (by omega)) ?_
                  refine xi_iload_n (pc' := 37) (x := a3) kc_24_36 rfl rfl ?_
                  refine xi_bipush (pc' := 39) (v := 100) kc_24_37 rfl rfl ?_
                  refine xi_cmt (pc' := 49) kc_24_39 rfl (xc_le_t (X := a3.toInt) (Y := 100) rfl (by decide) (by omega)) ?_
                  refine xi_aload_n (pc' := 50) (x := 115) kc_24_49 rfl rfl ?_
                  refine xi_getfield (pc' := 53) (v := .ref 125) kc_24_50 rfl rfl rfl eh5.1 rfl ?_
                  refine xi_iload_n (pc' := 54) (x := 8) kc_24_53 rfl rfl ?_
                  refine xi_iaload (pc' := 55) (v := (-9)) kc_24_54 rfl ((eh5.2.1 125 (by decide)).trans ((eh4.2.1 125 (by decide)).trans ((eh3.2.1 125 (by decide)).trans ((eh2.2.1 125 (by decide)).trans ((eh1.2.1 125 (by decide)).trans (F 125 _ hl_125)))))) (by decide) rfl (xi_in (n := 12) (by decide) (by decide)) rfl ?_
                  refine xi_ift (pc' := 62) kc_24_55 rfl rfl ?_
                  refine xi_iconst (pc' := 63) (v := 0) kc_24_62 rfl rfl ?_
                  refine xi_istore (pc' := 65) (lv' := [(5, .int 0), (0, .ref 115), (1, .int 8), (2, .int a2), (3, .int a3), (4, .int 0)]) kc_24_63 rfl rfl (xm_lt ml_24 rfl) ?_
                  refine xi_aload_n (pc' := 66) (x := 115) kc_24_65 rfl rfl ?_
                  refine xi_getfield (pc' := 69) (v := .ref 125) kc_24_66 rfl rfl rfl eh5.1 rfl ?_
                  refine xi_iload_n (pc' := 70) (x := 8) kc_24_69 rfl rfl ?_
                  refine xi_iload_n (pc' := 71) (x := a2) kc_24_70 rfl rfl ?_
                  refine xi_iastore (pc' := 72) (x' := [(-9), (-9), (-9), (-9), (-9), (-9), (-9), (-9), a2, (-9), (-9), (-9)]) kc_24_71 rfl ((eh5.2.1 125 (by decide)).trans ((eh4.2.1 125 (by decide)).trans ((eh3.2.1 125 (by decide)).trans ((eh2.2.1 125 (by decide)).trans ((eh1.2.1 125 (by decide)).trans (F 125 _ hl_125)))))) rfl (xi_in (n := 12) (by decide) (by decide)) rfl (fun hh6 eh6 => ?_)
                  refine xi_aload_n (pc' := 73) (x := 115) kc_24_72 rfl rfl ?_
                  refine xi_getfield (pc' := 76) (v := .ref 126) kc_24_73 rfl rfl rfl ((eh6.2.1 115 (by decide)).trans eh5.1) rfl ?_
                  refine xi_iload_n (pc' := 77) (x := 8) kc_24_76 rfl rfl ?_
                  refine xi_iload_n (pc' := 78) (x := a3) kc_24_77 rfl rfl ?_
                  refine xi_iastore (pc' := 79) (x' := [0, 0, 0, 0, 0, 0, 0, 0, a3, 0, 0, 0]) kc_24_78 rfl ((eh6.2.1 126 (by decide)).trans ((eh5.2.1 126 (by decide)).trans ((eh4.2.1 126 (by decide)).trans ((eh3.2.1 126 (by decide)).trans ((eh2.2.1 126 (by decide)).trans ((eh1.2.1 126 (by decide)).trans (F 126 _ hl_126))))))) rfl (xi_in (n := 12) (by decide) (by decide)) rfl (fun hh7 eh7 => ?_)
                  refine xi_aload_n (pc' := 80) (x := 115) kc_24_79 rfl rfl ?_
                  refine xi_getfield (pc' := 83) (v := .ref 127) kc_24_80 rfl rfl rfl ((eh7.2.1 115 (by decide)).trans ((eh6.2.1 115 (by decide)).trans eh5.1)) rfl ?_
                  refine xi_iload_n (pc' := 84) (x := 8) kc_24_83 rfl rfl ?_
                  refine xi_iload (pc' := 86) (x := 0) kc_24_84 rfl rfl ?_
                  refine xi_bastore (pc' := 87) (x' := [0, 0, 0, 0, 0, 0, 0, 0, 0, 0, 0, 0]) kc_24_86 rfl ((eh7.2.1 127 (by decide)).trans ((eh6.2.1 127 (by decide)).trans ((eh5.2.1 127 (by decide)).trans ((eh4.2.1 127 (by decide)).trans ((eh3.2.1 127 (by decide)).trans ((eh2.2.1 127 (by decide)).trans ((eh1.2.1 127 (by decide)).trans (F 127 _ hl_127)))))))) rfl (xi_in (n := 12) (by decide) (by decide)) rfl (fun hh8 eh8 => ?_)
                  refine xi_aload_n (pc' := 88) (x := 115) kc_24_87 rfl rfl ?_
                  refine xi_iconst (pc' := 89) (v := 0) kc_24_88 rfl rfl ?_
                  refine xi_putfield (pc' := 92) (fs' := [.int 0, .int 0, .ref 116, .ref 117, .ref 118, .ref 119, .ref 120, .ref 121, .ref 122, .ref 123, .ref 124, .ref 125, .ref 126, .ref 127, .ref 128, .ref 129, .int 4, .ref 130, .int 0, .ref 131, .ref 132, .ref 133, .ref 134, .int 0, .ref 135, .ref 136, .ref 137, .ref 138, .ref 139, .ref 140, .ref 141, .ref 142, .int 0, .int 0, .int 0, .ref 143, .ref 144, .ref 145, .ref 146, .ref 147, .ref 148, .int 0, .ref 149, .ref 150, .ref 151, .int 0, .ref 152, .ref 153, .ref 154, .ref 155, .ref 156, .ref 157, .ref 158, .ref 159, .int 0, .ref 160, .int 0, .ref 161, .ref 162, .ref 163, .ref 164, .int 0, .ref 165, .ref 166]) kc_24_89 rfl rfl rfl ((eh8.2.1 115 (by decide)).trans ((eh7.2.1 115 (by decide)).trans ((eh6.2.1 115 (by decide)).trans eh5.1))) rfl rfl rfl (Nat.le_of_ble_eq_true rfl) rfl (fun hh9 eh9 => ?_)
                  refine xi_iload (pc' := 94) (x := 0) kc_24_92 rfl rfl ?_
                  refine xi_ift (pc' := 101) kc_24_94 rfl rfl ?_
                  refine xi_iconst (pc' := 102) (v := 1) kc_24_101 rfl rfl ?_
                  refine xi_ireturn kc_24_102 mr_24 rfl ?_
                  show xw J ov 100 196 (473, [(4, .int 0), (3, .ref 167), (2, .ref 115), (1, .ref 0), (0, .ref 1000000)], [.int 1, .int 1], hh9) _
                  refine xi_cmt (pc' := 1528) kc_196_473 rfl rfl ?_
                  refine xi_iinc (pc' := 1531) (x := 0) (v := 6) (lv' := [(4, .int 6), (3, .ref 167), (2, .ref 115), (1, .ref 0), (0, .ref 1000000)]) kc_196_1528 rfl rfl rfl rfl (xm_lt ml_196 rfl) ?_
                  refine xi_goto (pc' := 23) kc_196_1531 rfl ?_
                  refine xi_iload (pc' := 25) (x := 6) kc_196_23 rfl rfl ?_
                  refine xi_aload_n (pc' := 26) (x := 1000000) kc_196_25 rfl rfl ?_
                  refine xi_arraylength (pc' := 27) (n := 6) (v := 6) kc_196_26 rfl (xl_lenO (by decide) hov0 rfl) rfl ?_
                  refine xi_bipush (pc' := 29) (v := 6) kc_196_27 rfl rfl ?_
                  refine xi_isub (pc' := 30) (v := 0) kc_196_29 rfl rfl ?_
                  refine xi_cmt (pc' := 1534) kc_196_30 rfl rfl ?_
                  refine xi_iconst (pc' := 1535) (v := 1) kc_196_1534 rfl rfl ?_
                  refine xi_ireturn kc_196_1535 mr_196 rfl ?_
                  refine ⟨rfl, ?_, ?_⟩
                  · rw [eh9.2.2.1, eh8.2.2.1, eh7.2.2.1, eh6.2.2.1, eh5.2.2.1, eh4.2.2.1, eh3.2.2.1, eh2.2.2.1, eh1.2.2.1]; exact hn0
                  · rw [eh9.2.2.2, eh8.2.2.2, eh7.2.2.2, eh6.2.2.2, eh5.2.2.2, eh4.2.2.2, eh3.2.2.2, eh2.2.2.2, eh1.2.2.2]; exact hz0
                by_cases c17 : a1.toInt = 9
                · have qa1 : a1 = 9 := xc_of (Eq.trans (by omega) (show (9 : Int) = (9 : Int32).toInt by decide))
                  subst qa1
                  refine xi_aaload (pc' := 60) (b := 47) kc_104_59 rfl ((eh1.2.1 3 (by decide)).trans (F 3 _ hl_3)) rfl (xi_in (n := 12) (by decide) (by decide)) rfl ?_
                  refine xi_astore (pc' := 62) (lv' := [(5, .ref 47), (0, .ref 0), (1, .int 9), (2, .int a2), (3, .int a3), (4, .int 0)]) kc_104_60 rfl rfl (xm_lt ml_104 rfl) ?_
                  refine xi_aload (pc' := 64) (x := 47) kc_104_62 rfl rfl ?_
                  refine xi_virtual (mj := 106) (as := []) (st1 := []) (lv0 := [(0, .ref 47)]) kc_104_64 rfl rfl rfl rfl rfl ((eh1.2.1 47 (by decide)).trans (F 47 _ hl_47)) (Nat.le_of_ble_eq_true rfl) (hJ _ _ _ _ (by decide)) (xm_le ml_106 rfl) rfl ?_
                  refine xi_aload_n (pc' := 1) (x := 47) kc_106_0 rfl rfl ?_
                  refine xi_getfield (pc' := 4) (v := .int (-9)) kc_106_1 rfl rfl rfl ((eh1.2.1 47 (by decide)).trans (F 47 _ hl_47)) rfl ?_
                  refine xi_static (mj := 90) (as := [.int (-9)]) (st1 := []) (lv0 := [(0, .int (-9))]) kc_106_4 rfl rfl (Nat.le_of_ble_eq_true rfl) rfl rfl (Nat.le_of_ble_eq_true rfl) (hJ _ _ _ _ (by decide)) (xm_le ml_90 rfl) rfl ?_
                  refine xi_iload_n (pc' := 1) (x := (-9)) kc_90_0 rfl rfl ?_
                  refine xi_ift (pc' := 14) kc_90_1 rfl rfl ?_
                  refine xi_iconst (pc' := 15) (v := 0) kc_90_14 rfl rfl ?_
                  refine xi_ireturn kc_90_15 mr_90 rfl ?_
                  show xw J ov 98 106 (7, [(0, .ref 47)], [.int 0], hh1) _
                  refine xi_ireturn kc_106_7 mr_106 rfl ?_
                  show xw J ov 99 104 (67, [(5, .ref 47), (0, .ref 0), (1, .int 9), (2, .int a2), (3, .int a3), (4, .int 0)], [.int 0], hh1) _
                  refine xi_ift (pc' := 74) kc_104_67 rfl rfl ?_
                  refine xi_iconst (pc' := 75) (v := 1) kc_104_74 rfl rfl ?_
                  refine xi_istore (pc' := 77) (lv' := [(6, .int 1), (5, .ref 47), (0, .ref 0), (1, .int 9), (2, .int a2), (3, .int a3), (4, .int 0)]) kc_104_75 rfl rfl (xm_lt ml_104 rfl) ?_
                  refine xi_aload (pc' := 79) (x := 47) kc_104_77 rfl rfl ?_
                  refine xi_iload_n (pc' := 80) (x := a2) kc_104_79 rfl rfl ?_
                  refine xi_putfield (pc' := 83) (fs' := [.int a2, .int 0, .int 0, .int 0, .ref 48]) kc_104_80 rfl rfl rfl ((eh1.2.1 47 (by decide)).trans (F 47 _ hl_47)) rfl rfl rfl (Nat.le_of_ble_eq_true rfl) rfl (fun hh2 eh2 => ?_)
                  refine xi_aload (pc' := 85) (x := 47) kc_104_83 rfl rfl ?_
                  refine xi_iload_n (pc' := 86) (x := a3) kc_104_85 rfl rfl ?_
                  refine xi_putfield (pc' := 89) (fs' := [.int a2, .int a3, .int 0, .int 0, .ref 48]) kc_104_86 rfl rfl rfl eh2.1 rfl rfl rfl (Nat.le_of_ble_eq_true rfl) rfl (fun hh3 eh3 => ?_)
                  refine xi_aload (pc' := 91) (x := 47) kc_104_89 rfl rfl ?_
                  refine xi_iload (pc' := 93) (x := 0) kc_104_91 rfl rfl ?_
                  refine xi_putfield (pc' := 96) (fs' := [.int a2, .int a3, .int 0, .int 0, .ref 48]) kc_104_93 rfl rfl rfl eh3.1 rfl rfl rfl (Nat.le_of_ble_eq_true rfl) rfl (fun hh4 eh4 => ?_)
                  refine xi_iload (pc' := 98) (x := 1) kc_104_96 rfl rfl ?_
                  refine xi_ireturn kc_104_98 mr_104 rfl ?_
                  show xw J ov 100 196 (437, [(4, .int 0), (3, .ref 167), (2, .ref 115), (1, .ref 0), (0, .ref 1000000)], [.int 1], hh4) _
                  refine xi_aload_n (pc' := 438) (x := 115) kc_196_437 rfl rfl ?_
                  refine xi_aload_n (pc' := 439) (x := 1000000) kc_196_438 rfl rfl ?_
                  refine xi_iload (pc' := 441) (x := 0) kc_196_439 rfl rfl ?_
                  refine xi_iconst (pc' := 442) (v := 1) kc_196_441 rfl rfl ?_
                  refine xi_iadd (pc' := 443) (v := 1) kc_196_442 rfl rfl ?_
                  refine xi_ialoadO (pc' := 444) (v := 9) kc_196_443 rfl (by decide) hov0 (xi_in (n := 6) (by decide) (by decide)) rfl ?_
                  refine xi_aload_n (pc' := 445) (x := 1000000) kc_196_444 rfl rfl ?_
                  refine xi_iload (pc' := 447) (x := 0) kc_196_445 rfl rfl ?_
                  refine xi_iconst (pc' := 448) (v := 2) kc_196_447 rfl rfl ?_
                  refine xi_iadd (pc' := 449) (v := 2) kc_196_448 rfl rfl ?_
                  refine xi_ialoadO (pc' := 450) (v := a2) kc_196_449 rfl (by decide) hov0 (xi_in (n := 6) (by decide) (by decide)) rfl ?_
                  refine xi_aload_n (pc' := 451) (x := 1000000) kc_196_450 rfl rfl ?_
                  refine xi_iload (pc' := 453) (x := 0) kc_196_451 rfl rfl ?_
                  refine xi_iconst (pc' := 454) (v := 3) kc_196_453 rfl rfl ?_
                  refine xi_iadd (pc' := 455) (v := 3) kc_196_454 rfl rfl ?_
                  refine xi_ialoadO (pc' := 456) (v := a3) kc_196_455 rfl (by decide) hov0 (xi_in (n := 6) (by decide) (by decide)) rfl ?_
                  refine xi_aload_n (pc' := 457) (x := 1000000) kc_196_456 rfl rfl ?_
                  refine xi_iload (pc' := 459) (x := 0) kc_196_457 rfl rfl ?_
                  refine xi_iconst (pc' := 460) (v := 4) kc_196_459 rfl rfl ?_
                  refine xi_iadd (pc' := 461) (v := 4) kc_196_460 rfl rfl ?_
                  refine xi_ialoadO (pc' := 462) (v := a4) kc_196_461 rfl (by decide) hov0 (xi_in (n := 6) (by decide) (by decide)) rfl ?_
                  refine xi_ift (pc' := 469) kc_196_462 rfl (xc_eq_t (X := a4.toInt) (Y := 0) rfl (by decide) (by omega)) ?_
                  refine xi_iconst (pc' := 470) (v := 0) kc_196_469 rfl rfl ?_
                  refine xi_virtual (mj := 24) (as := [.int 9, .int a2, .int a3, .int 0]) (st1 := [.int 1]) (lv0 := [(0, .ref 115), (1, .int 9), (2, .int a2), (3, .int a3), (4, .int 0)]) kc_196_470 rfl rfl rfl rfl rfl ((eh4.2.1 115 (by decide)).trans ((eh3.2.1 115 (by decide)).trans ((eh2.2.1 115 (by decide)).trans ((eh1.2.1 115 (by decide)).trans (F 115 _ hl_115))))) (Nat.le_of_ble_eq_true rfl) (hJ _ _ _ _ (by decide)) (xm_le ml_24 rfl) rfl ?_
                  refine xi_aload_n (pc' := 1) (x := 115) kc_24_0 rfl rfl ?_
                  refine xi_iconst (pc' := 2) (v := 0) kc_24_1 rfl rfl ?_
                  refine xi_putfield (pc' := 5) (fs' := [.int 0, .int 0, .ref 116, .ref 117, .ref 118, .ref 119, .ref 120, .ref 121, .ref 122, .ref 123, .ref 124, .ref 125, .ref 126, .ref 127, .ref 128, .ref 129, .int 4, .ref 130, .int 0, .ref 131, .ref 132, .ref 133, .ref 134, .int 0, .ref 135, .ref 136, .ref 137, .ref 138, .ref 139, .ref 140, .ref 141, .ref 142, .int 0, .int 0, .int 0, .ref 143, .ref 144, .ref 145, .ref 146, .ref 147, .ref 148, .int 0, .ref 149, .ref 150, .ref 151, .int 0, .ref 152, .ref 153, .ref 154, .ref 155, .ref 156, .ref 157, .ref 158, .ref 159, .int 0, .ref 160, .int 0, .ref 161, .ref 162, .ref 163, .ref 164, .int 0, .ref 165, .ref 166]) kc_24_2 rfl rfl rfl ((eh4.2.1 115 (by decide)).trans ((eh3.2.1 115 (by decide)).trans ((eh2.2.1 115 (by decide)).trans ((eh1.2.1 115 (by decide)).trans (F 115 _ hl_115))))) rfl rfl rfl (Nat.le_of_ble_eq_true rfl) rfl (fun hh5 eh5 => ?_)
                  refine xi_iload_n (pc' := 6) (x := 9) kc_24_5 rfl rfl ?_
                  refine xi_static (mj := 25) (as := [.int 9]) (st1 := []) (lv0 := [(0, .int 9)]) kc_24_6 rfl rfl (Nat.le_of_ble_eq_true rfl) rfl rfl (Nat.le_of_ble_eq_true rfl) (hJ _ _ _ _ (by decide)) (xm_le ml_25 rfl) rfl ?_
                  refine xi_iload_n (pc' := 1) (x := 9) kc_25_0 rfl rfl ?_
                  refine xi_iconst (pc' := 2) (v := 0) kc_25_1 rfl rfl ?_
                  refine xi_bipush (pc' := 4) (v := 11) kc_25_2 rfl rfl ?_
                  refine xi_static (mj := 12) (as := [.int 9, .int 0, .int 11]) (st1 := []) (lv0 := [(0, .int 9), (1, .int 0), (2, .int 11)]) kc_25_4 rfl rfl (Nat.le_of_ble_eq_true rfl) rfl rfl (Nat.le_of_ble_eq_true rfl) (hJ _ _ _ _ (by decide)) (xm_le ml_12 rfl) rfl ?_
                  refine xi_iload_n (pc' := 1) (x := 9) kc_12_0 rfl rfl ?_
                  refine xi_iload_n (pc' := 2) (x := 0) kc_12_1 rfl rfl ?_
                  refine xi_cmf (pc' := 5) kc_12_2 rfl rfl ?_
                  refine xi_iload_n (pc' := 6) (x := 9) kc_12_5 rfl rfl ?_
                  refine xi_iload_n (pc' := 7) (x := 11) kc_12_6 rfl rfl ?_
                  refine xi_cmf (pc' := 10) kc_12_7 rfl rfl ?_
                  refine xi_iconst (pc' := 11) (v := 1) kc_12_10 rfl rfl ?_
                  refine xi_goto (pc' := 15) kc_12_11 rfl ?_
                  refine xi_ireturn kc_12_15 mr_12 rfl ?_
                  show xw J ov 98 25 (7, [(0, .int 9)], [.int 1], hh5) _
                  refine xi_ireturn kc_25_7 mr_25 rfl ?_
                  show xw J ov 99 24 (9, [(0, .ref 115), (1, .int 9), (2, .int a2), (3, .int a3), (4, .int 0)], [.int 1], hh5) _
                  refine xi_iff (pc' := 12) kc_24_9 rfl rfl ?_
                  refine xi_iload_n (pc' := 13) (x := a2) kc_24_12 rfl rfl ?_
                  refine xi_static (mj := 11) (as := [.int a2]) (st1 := []) (lv0 := [(0, .int a2)]) kc_24_13 rfl rfl (Nat.le_of_ble_eq_true rfl) rfl rfl (Nat.le_of_ble_eq_true rfl) (hJ _ _ _ _ (by decide)) (xm_le ml_11 rfl) rfl ?_
                  refine xi_iload_n (pc' := 1) (x := a2) kc_11_0 rfl rfl ?_
                  refine xi_iconst (pc' := 2) (v := 0) kc_11_1 rfl rfl ?_
                  refine xi_iconst (pc' := 3) (v := 5) kc_11_2 rfl rfl ?_
                  refine xi_static (mj := 12) (as := [.int a2, .int 0, .int 5]) (st1 := []) (lv0 := [(0, .int a2), (1, .int 0), (2, .int 5)]) kc_11_3 rfl rfl (Nat.le_of_ble_eq_true rfl) rfl rfl (Nat.le_of_ble_eq_true rfl) (hJ _ _ _ _ (by decide)) (xm_le ml_12 rfl) rfl ?_
                  refine xi_iload_n (pc' := 1) (x := a2) kc_12_0 rfl rfl ?_
                  refine xi_iload_n (pc' := 2) (x := 0) kc_12_1 rfl rfl ?_
                  refine xi_cmf (pc' := 5) kc_12_2 rfl (xc_lt_f (X := a2.toInt) (Y := 0) rfl (by decide) (by omega)) ?_
                  refine xi_iload_n (pc' := 6) (x := a2) kc_12_5 rfl rfl ?_
                  refine xi_iload_n (pc' := 7) (x := 5) kc_12_6 rfl rfl ?_
                  refine xi_cmf (pc' := 10) kc_12_7 rfl (xc_gt_f (X := a2.toInt) (Y := 5) rfl (by decide) (by omega)) ?_
                  refine xi_iconst (pc' := 11) (v := 1) kc_12_10 rfl rfl ?_
                  refine xi_goto (pc' := 15) kc_12_11 rfl ?_
                  refine xi_ireturn kc_12_15 mr_12 rfl ?_
                  show xw J ov 98 11 (6, [(0, .int a2)], [.int 1], hh5) _
                  refine xi_ireturn kc_11_6 mr_11 rfl ?_
                  show xw J ov 99 24 (16, [(0, .ref 115), (1, .int 9), (2, .int a2), (3, .int a3), (4, .int 0)], [.int 1], hh5) _
                  refine xi_ift (pc' := 25) kc_24_16 rfl rfl ?_
                  refine xi_iload_n (pc' := 26) (x := a3) kc_24_25 rfl rfl ?_
                  refine xi_ift (pc' := 36) kc_24_26 rfl (xc_ge_t (X := a3.toInt) (Y := 0) rfl (by decide) (by omega)) ?_
                  refine xi_iload_n (pc' := 37) (x := a3) kc_24_36 rfl rfl ?_
                  refine xi_bipush (pc' := 39) (v := 100) kc_24_37 rfl rfl ?_
                  refine xi_cmt (pc' := 49) kc_24_39 rfl (xc_le_t (X := a3.toInt) (Y := 100) rfl (by decide) (by omega)) ?_
                  refine xi_aload_n (pc' := 50) (x := 115) kc_24_49 rfl rfl ?_
                  refine xi_getfield (pc' := 53) (v := .ref 125) kc_24_50 rfl rfl rfl eh5.1 rfl ?_
                  refine xi_iload_n (pc' := 54) (x := 9) kc_24_53 rfl rfl ?_
                  refine xi_iaload (pc' := 55) (v := (-9)) kc_24_54 rfl ((eh5.2.1 125 (by decide)).trans ((eh4.2.1 125 (by decide)).trans ((eh3.2.1 125 (by decide)).trans ((eh2.2.1 125 (by decide)).trans ((eh1.2.1 125 (by decide)).trans (F 125 _ hl_125)))))) (by decide) rfl (xi_in (n := 12) (by decide) (by decide)) rfl ?_
                  refine xi_ift (pc' := 62) kc_24_55 rfl rfl ?_
                  refine xi_iconst (pc' := 63) (v := 0) kc_24_62 rfl rfl ?_
                  refine xi_istore (pc' := 65) (lv' := [(5, .int 0), (0, .ref 115), (1, .int 9), (2, .int a2), (3, .int a3), (4, .int 0)]) kc_24_63 rfl rfl (xm_lt ml_24 rfl) ?_
                  refine xi_aload_n (pc' := 66) (x := 115) kc_24_65 rfl rfl ?_
                  refine xi_getfield (pc' := 69) (v := .ref 125) kc_24_66 rfl rfl rfl eh5.1 rfl ?_
                  refine xi_iload_n (pc' := 70) (x := 9) kc_24_69 rfl rfl ?_
                  refine xi_iload_n (pc' := 71) (x := a2) kc_24_70 rfl rfl ?_
                  refine xi_iastore (pc' := 72) (x' := [(-9), (-9), (-9), (-9), (-9), (-9), (-9), (-9), (-9), a2, (-9), (-9)]) kc_24_71 rfl ((eh5.2.1 125 (by decide)).trans ((eh4.2.1 125 (by decide)).trans ((eh3.2.1 125 (by decide)).trans ((eh2.2.1 125 (by decide)).trans ((eh1.2.1 125 (by decide)).trans (F 125 _ hl_125)))))) rfl (xi_in (n := 12) (by decide) (by decide)) rfl (fun hh6 eh6 => ?_)
                  refine xi_aload_n (pc' := 73) (x := 115) kc_24_72 rfl rfl ?_
                  refine xi_getfield (pc' := 76) (v := .ref 126) kc_24_73 rfl rfl rfl ((eh6.2.1 115 (by decide)).trans eh5.1) rfl ?_
                  refine xi_iload_n (pc' := 77) (x := 9) kc_24_76 rfl rfl ?_
                  refine xi_iload_n (pc' := 78) (x := a3) kc_24_77 rfl rfl ?_
                  refine xi_iastore (pc' := 79) (x' := [0, 0, 0, 0, 0, 0, 0, 0, 0, a3, 0, 0]) kc_24_78 rfl ((eh6.2.1 126 (by decide)).trans ((eh5.2.1 126 (by decide)).trans ((eh4.2.1 126 (by decide)).trans ((eh3.2.1 126 (by decide)).trans ((eh2.2.1 126 (by decide)).trans ((eh1.2.1 126 (by decide)).trans (F 126 _ hl_126))))))) rfl (xi_in (n := 12) (by decide) (by decide)) rfl (fun hh7 eh7 => ?_)
                  refine xi_aload_n (pc' := 80) (x := 115) kc_24_79 rfl rfl ?_
                  refine xi_getfield (pc' := 83) (v := .ref 127) kc_24_80 rfl rfl rfl ((eh7.2.1 115 (by decide)).trans ((eh6.2.1 115 (by decide)).trans eh5.1)) rfl ?_
                  refine xi_iload_n (pc' := 84) (x := 9) kc_24_83 rfl rfl ?_
                  refine xi_iload (pc' := 86) (x := 0) kc_24_84 rfl rfl ?_
                  refine xi_bastore (pc' := 87) (x' := [0, 0, 0, 0, 0, 0, 0, 0, 0, 0, 0, 0]) kc_24_86 rfl ((eh7.2.1 127 (by decide)).trans ((eh6.2.1 127 (by decide)).trans ((eh5.2.1 127 (by decide)).trans ((eh4.2.1 127 (by decide)).trans ((eh3.2.1 127 (by decide)).trans ((eh2.2.1 127 (by decide)).trans ((eh1.2.1 127 (by decide)).trans (F 127 _ hl_127)))))))) rfl (xi_in (n := 12) (by decide) (by decide)) rfl (fun hh8 eh8 => ?_)
                  refine xi_aload_n (pc' := 88) (x := 115) kc_24_87 rfl rfl ?_
                  refine xi_iconst (pc' := 89) (v := 0) kc_24_88 rfl rfl ?_
                  refine xi_putfield (pc' := 92) (fs' := [.int 0, .int 0, .ref 116, .ref 117, .ref 118, .ref 119, .ref 120, .ref 121, .ref 122, .ref 123, .ref 124, .ref 125, .ref 126, .ref 127, .ref 128, .ref 129, .int 4, .ref 130, .int 0, .ref 131, .ref 132, .ref 133, .ref 134, .int 0, .ref 135, .ref 136, .ref 137, .ref 138, .ref 139, .ref 140, .ref 141, .ref 142, .int 0, .int 0, .int 0, .ref 143, .ref 144, .ref 145, .ref 146, .ref 147, .ref 148, .int 0, .ref 149, .ref 150, .ref 151, .int 0, .ref 152, .ref 153, .ref 154, .ref 155, .ref 156, .ref 157, .ref 158, .ref 159, .int 0, .ref 160, .int 0, .ref 161, .ref 162, .ref 163, .ref 164, .int 0, .ref 165, .ref 166]) kc_24_89 rfl rfl rfl ((eh8.2.1 115 (by decide)).trans ((eh7.2.1 115 (by decide)).trans ((eh6.2.1 115 (by decide)).trans eh5.1))) rfl rfl rfl (Nat.le_of_ble_eq_true rfl) rfl (fun hh9 eh9 => ?_)
                  refine xi_iload (pc' := 94) (x := 0) kc_24_92 rfl rfl ?_
                  refine xi_ift (pc' := 101) kc_24_94 rfl rfl ?_
                  refine xi_iconst (pc' := 102) (v := 1) kc_24_101 rfl rfl ?_
                  refine xi_ireturn kc_24_102 mr_24 rfl ?_
                  show xw J ov 100 196 (473, [(4, .int 0), (3, .ref 167), (2, .ref 115), (1, .ref 0), (0, .ref 1000000)], [.int 1, .int 1], hh9) _
                  refine xi_cmt (pc' := 1528) kc_196_473 rfl rfl ?_
                  refine xi_iinc (pc' := 1531) (x := 0) (v := 6) (lv' := [(4, .int 6), (3, .ref 167), (2, .ref 115), (1, .ref 0), (0, .ref 1000000)]) kc_196_1528 rfl rfl rfl rfl (xm_lt ml_196 rfl) ?_
                  refine xi_goto (pc' := 23) kc_196_1531 rfl ?_
                  refine xi_iload (pc' := 25) (x := 6) kc_196_23 rfl rfl ?_
                  refine xi_aload_n (pc' := 26) (x := 1000000) kc_196_25 rfl rfl ?_
                  refine xi_arraylength (pc' := 27) (n := 6) (v := 6) kc_196_26 rfl (xl_lenO (by decide) hov0 rfl) rfl ?_
                  refine xi_bipush (pc' := 29) (v := 6) kc_196_27 rfl rfl ?_
                  refine xi_isub (pc' := 30) (v := 0) kc_196_29 rfl rfl ?_
                  refine xi_cmt (pc' := 1534) kc_196_30 rfl rfl ?_
                  refine xi_iconst (pc' := 1535) (v := 1) kc_196_1534 rfl rfl ?_
                  refine xi_ireturn kc_196_1535 mr_196 rfl ?_
                  refine ⟨rfl, ?_, ?_⟩
                  · rw [eh9.2.2.1, eh8.2.2.1, eh7.2.2.1, eh6.2.2.1, eh5.2.2.1, eh4.2.2.1, eh3.2.2.1, eh2.2.2.1, eh1.2.2.1]; exact hn0
                  · rw [eh9.2.2.2, eh8.2.2.2, eh7.2.2.2, eh6.2.2.2, eh5.2.2.2, eh4.2.2.2, eh3.2.2.2, eh2.2.2.2, eh1.2.2.2]; exact hz0
                by_cases c18 : a1.toInt = 10
                · have qa1 : a1 = 10 := xc_of (Eq.trans (by omega) (show (10 : Int) = (10 : Int32).toInt by decide))
                  subst qa1
                  refine xi_aaload (pc' := 60) (b := 49) kc_104_59 rfl ((eh1.2.1 3 (by decide)).trans (F 3 _ hl_3)) rfl (xi_in (n := 12) (by decide) (by decide)) rfl ?_
                  refine xi_astore (pc' := 62) (lv' := [(5, .ref 49), (0, .ref 0), (1, .int 10), (2, .int a2), (3, .int a3), (4, .int 0)]) kc_104_60 rfl rfl (xm_lt ml_104 rfl) ?_
                  refine xi_aload (pc' := 64) (x := 49) kc_104_62 rfl rfl ?_
                  refine xi_virtual (mj := 106) (as := []) (st1 := []) (lv0 := [(0, .ref 49)]) kc_104_64 rfl rfl rfl rfl rfl ((eh1.2.1 49 (by decide)).trans (F 49 _ hl_49)) (Nat.le_of_ble_eq_true rfl) (hJ _ _ _ _ (by decide)) (xm_le ml_106 rfl) rfl ?_
                  refine xi_aload_n (pc' := 1) (x := 49) kc_106_0 rfl rfl ?_
                  refine xi_getfield (pc' := 4) (v := .int (-9)) kc_106_1 rfl rfl rfl ((eh1.2.1 49 (by decide)).trans (F 49 _ hl_49)) rfl ?_
                  refine xi_static (mj := 90) (as := [.int (-9)]) (st1 := []) (lv0 := [(0, .int (-9))]) kc_106_4 rfl rfl (Nat.le_of_ble_eq_true rfl) rfl rfl (Nat.le_of_ble_eq_true rfl) (hJ _ _ _ _ (by decide)) (xm_le ml_90 rfl) rfl ?_
                  refine xi_iload_n (pc' := 1) (x := (-9)) kc_90_0 rfl rfl ?_
                  refine xi_ift (pc' := 14) kc_90_1 rfl rfl ?_
                  refine xi_iconst (pc' := 15) (v := 0) kc_90_14 rfl rfl ?_
                  refine xi_ireturn kc_90_15 mr_90 rfl ?_
                  show xw J ov 98 106 (7, [(0, .ref 49)], [.int 0], hh1) _
                  refine xi_ireturn kc_106_7 mr_106 rfl ?_
                  show xw J ov 99 104 (67, [(5, .ref 49), (0, .ref 0), (1, .int 10), (2, .int a2), (3, .int a3), (4, .int 0)], [.int 0], hh1) _
                  refine xi_ift (pc' := 74) kc_104_67 rfl rfl ?_
                  refine xi_iconst (pc' := 75) (v := 1) kc_104_74 rfl rfl ?_
                  refine xi_istore (pc' := 77) (lv' := [(6, .int 1), (5, .ref 49), (0, .ref 0), (1, .int 10), (2, .int a2), (3, .int a3), (4, .int 0)]) kc_104_75 rfl rfl (xm_lt ml_104 rfl) ?_
                  refine xi_aload (pc' := 79) (x := 49) kc_104_77 rfl rfl ?_
                  refine xi_iload_n (pc' := 80) (x := a2) kc_104_79 rfl rfl ?_
                  refine xi_putfield (pc' := 83) (fs' := [.int a2, .int 0, .int 0, .int 0, .ref 50]) kc_104_80 rfl rfl rfl ((eh1.2.1 49 (by decide)).trans (F 49 _ hl_49)) rfl rfl rfl (Nat.le_of_ble_eq_true rfl) rfl (fun hh2 eh2 => ?_)
                  refine xi_aload (pc' := 85) (x := 49) kc_104_83 rfl rfl ?_
                  refine xi_iload_n (pc' := 86) (x := a3) kc_104_85 rfl rfl ?_
                  refine xi_putfield (pc' := 89) (fs' := [.int a2, .int a3, .int 0, .int 0, .ref 50]) kc_104_86 rfl rfl rfl eh2.1 rfl rfl rfl (Nat.le_of_ble_eq_true rfl) rfl (fun hh3 eh3 => ?_)
                  refine xi_aload (pc' := 91) (x := 49) kc_104_89 rfl rfl ?_
                  refine xi_iload (pc' := 93) (x := 0) kc_104_91 rfl rfl ?_
                  refine xi_putfield (pc' := 96) (fs' := [.int a2, .int a3, .int 0, .int 0, .ref 50]) kc_104_93 rfl rfl rfl eh3.1 rfl rfl rfl (Nat.le_of_ble_eq_true rfl) rfl (fun hh4 eh4 => ?_)
                  refine xi_iload (pc' := 98) (x := 1) kc_104_96 rfl rfl ?_
                  refine xi_ireturn kc_104_98 mr_104 rfl ?_
                  show xw J ov 100 196 (437, [(4, .int 0), (3, .ref 167), (2, .ref 115), (1, .ref 0), (0, .ref 1000000)], [.int 1], hh4) _
                  refine xi_aload_n (pc' := 438) (x := 115) kc_196_437 rfl rfl ?_
                  refine xi_aload_n (pc' := 439) (x := 1000000) kc_196_438 rfl rfl ?_
                  refine xi_iload (pc' := 441) (x := 0) kc_196_439 rfl rfl ?_
                  refine xi_iconst (pc' := 442) (v := 1) kc_196_441 rfl rfl ?_
                  refine xi_iadd (pc' := 443) (v := 1) kc_196_442 rfl rfl ?_
                  refine xi_ialoadO (pc' := 444) (v := 10) kc_196_443 rfl (by decide) hov0 (xi_in (n := 6) (by decide) (by decide)) rfl ?_
                  refine xi_aload_n (pc' := 445) (x := 1000000) kc_196_444 rfl rfl ?_
                  refine xi_iload (pc' := 447) (x := 0) kc_196_445 rfl rfl ?_
                  refine xi_iconst (pc' := 448) (v := 2) kc_196_447 rfl rfl ?_
                  refine xi_iadd (pc' := 449) (v := 2) kc_196_448 rfl rfl ?_
                  refine xi_ialoadO (pc' := 450) (v := a2) kc_196_449 rfl (by decide) hov0 (xi_in (n := 6) (by decide) (by decide)) rfl ?_
                  refine xi_aload_n (pc' := 451) (x := 1000000) kc_196_450 rfl rfl ?_
                  refine xi_iload (pc' := 453) (x := 0) kc_196_451 rfl rfl ?_
                  refine xi_iconst (pc' := 454) (v := 3) kc_196_453 rfl rfl ?_
                  refine xi_iadd (pc' := 455) (v := 3) kc_196_454 rfl rfl ?_
                  refine xi_ialoadO (pc' := 456) (v := a3) kc_196_455 rfl (by decide) hov0 (xi_in (n := 6) (by decide) (by decide)) rfl ?_
                  refine xi_aload_n (pc' := 457) (x := 1000000) kc_196_456 rfl rfl ?_
                  refine xi_iload (pc' := 459) (x := 0) kc_196_457 rfl rfl ?_
                  refine xi_iconst (pc' := 460) (v := 4) kc_196_459 rfl rfl ?_
                  refine xi_iadd (pc' := 461) (v := 4) kc_196_460 rfl rfl ?_
                  refine xi_ialoadO (pc' := 462) (v := a4) kc_196_461 rfl (by decide) hov0 (xi_in (n := 6) (by decide) (by decide)) rfl ?_
                  refine xi_ift (pc' := 469) kc_196_462 rfl (xc_eq_t (X := a4.toInt) (Y := 0) rfl (by decide) (by omega)) ?_
                  refine xi_iconst (pc' := 470) (v := 0) kc_196_469 rfl rfl ?_
                  refine xi_virtual (mj := 24) (as := [.int 10, .int a2, .int a3, .int 0]) (st1 := [.int 1]) (lv0 := [(0, .ref 115), (1, .int 10), (2, .int a2), (3, .int a3), (4, .int 0)]) kc_196_470 rfl rfl rfl rfl rfl ((eh4.2.1 115 (by decide)).trans ((eh3.2.1 115 (by decide)).trans ((eh2.2.1 115 (by decide)).trans ((eh1.2.1 115 (by decide)).trans (F 115 _ hl_115))))) (Nat.le_of_ble_eq_true rfl) (hJ _ _ _ _ (by decide)) (xm_le ml_24 rfl) rfl ?_
                  refine xi_aload_n (pc' := 1) (x := 115) kc_24_0 rfl rfl ?_
                  refine xi_iconst (pc' := 2) (v := 0) kc_24_1 rfl rfl ?_
                  refine xi_putfield (pc' := 5) (fs' := [.int 0, .int 0, .ref 116, .ref 117, .ref 118, .ref 119, .ref 120, .ref 121, .ref 122, .ref 123, .ref 124, .ref 125, .ref 126, .ref 127, .ref 128, .ref 129, .int 4, .ref 130, .int 0, .ref 131, .ref 132, .ref 133, .ref 134, .int 0, .ref 135, .ref 136, .ref 137, .ref 138, .ref 139, .ref 140, .ref 141, .ref 142, .int 0, .int 0, .int 0, .ref 143, .ref 144, .ref 145, .ref 146, .ref 147, .ref 148, .int 0, .ref 149, .ref 150, .ref 151, .int 0, .ref 152, .ref 153, .ref 154, .ref 155, .ref 156, .ref 157, .ref 158, .ref 159, .int 0, .ref 160, .int 0, .ref 161, .ref 162, .ref 163, .ref 164, .int 0, .ref 165, .ref 166]) kc_24_2 rfl rfl rfl ((eh4.2.1 115 (by decide)).trans ((eh3.2.1 115 (by decide)).trans ((eh2.2.1 115 (by decide)).trans ((eh1.2.1 115 (by decide)).trans (F 115 _ hl_115))))) rfl rfl rfl (Nat.le_of_ble_eq_true rfl) rfl (fun hh5 eh5 => ?_)
                  refine xi_iload_n (pc' := 6) (x := 10) kc_24_5 rfl rfl ?_
                  refine xi_static (mj := 25) (as := [.int 10]) (st1 := []) (lv0 := [(0, .int 10)]) kc_24_6 rfl rfl (Nat.le_of_ble_eq_true rfl) rfl rfl (Nat.le_of_ble_eq_true rfl) (hJ _ _ _ _ (by decide)) (xm_le ml_25 rfl) rfl ?_
                  refine xi_iload_n (pc' := 1) (x := 10) kc_25_0 rfl rfl ?_
                  refine xi_iconst (pc' := 2) (v := 0) kc_25_1 rfl rfl ?_
                  refine xi_bipush (pc' := 4) (v := 11) kc_25_2 rfl rfl ?_
                  refine xi_static (mj := 12) (as := [.int 10, .int 0, .int 11]) (st1 := []) (lv0 := [(0, .int 10), (1, .int 0), (2, .int 11)]) kc_25_4 rfl rfl (Nat.le_of_ble_eq_true rfl) rfl rfl (Nat.le_of_ble_eq_true rfl) (hJ _ _ _ _ (by decide)) (xm_le ml_12 rfl) rfl ?_
                  refine xi_iload_n (pc' := 1) (x := 10) kc_12_0 rfl rfl ?_
                  refine xi_iload_n (pc' := 2) (x := 0) kc_12_1 rfl rfl ?_
                  refine xi_cmf (pc' := 5) kc_12_2 rfl rfl ?_
                  refine xi_iload_n (pc' := 6) (x := 10) kc_12_5 rfl rfl ?_
                  refine xi_iload_n (pc' := 7) (x := 11) kc_12_6 rfl rfl ?_
                  refine xi_cmf (pc' := 10) kc_12_7 rfl rfl ?_
                  refine xi_iconst (pc' := 11) (v := 1) kc_12_10 rfl rfl ?_
                  refine xi_goto (pc' := 15) kc_12_11 rfl ?_
                  refine xi_ireturn kc_12_15 mr_12 rfl ?_
                  show xw J ov 98 25 (7, [(0, .int 10)], [.int 1], hh5) _
                  refine xi_ireturn kc_25_7 mr_25 rfl ?_
                  show xw J ov 99 24 (9, [(0, .ref 115), (1, .int 10), (2, .int a2), (3, .int a3), (4, .int 0)], [.int 1], hh5) _
                  refine xi_iff (pc' := 12) kc_24_9 rfl rfl ?_
                  refine xi_iload_n (pc' := 13) (x := a2) kc_24_12 rfl rfl ?_
                  refine xi_static (mj := 11) (as := [.int a2]) (st1 := []) (lv0 := [(0, .int a2)]) kc_24_13 rfl rfl (Nat.le_of_ble_eq_true rfl) rfl rfl (Nat.le_of_ble_eq_true rfl) (hJ _ _ _ _ (by decide)) (xm_le ml_11 rfl) rfl ?_
                  refine xi_iload_n (pc' := 1) (x := a2) kc_11_0 rfl rfl ?_
                  refine xi_iconst (pc' := 2) (v := 0) kc_11_1 rfl rfl ?_
                  refine xi_iconst (pc' := 3) (v := 5) kc_11_2 rfl rfl ?_
                  refine xi_static (mj := 12) (as := [.int a2, .int 0, .int 5]) (st1 := []) (lv0 := [(0, .int a2), (1, .int 0), (2, .int 5)]) kc_11_3 rfl rfl (Nat.le_of_ble_eq_true rfl) rfl rfl (Nat.le_of_ble_eq_true rfl) (hJ _ _ _ _ (by decide)) (xm_le ml_12 rfl) rfl ?_
                  refine xi_iload_n (pc' := 1) (x := a2) kc_12_0 rfl rfl ?_
                  refine xi_iload_n (pc' := 2) (x := 0) kc_12_1 rfl rfl ?_
                  refine xi_cmf (pc' := 5) kc_12_2 rfl (xc_lt_f (X := a2.toInt) (Y := 0) rfl (by decide) (by omega)) ?_
                  refine xi_iload_n (pc' := 6) (x := a2) kc_12_5 rfl rfl ?_
                  refine xi_iload_n (pc' := 7) (x := 5) kc_12_6 rfl rfl ?_
                  refine xi_cmf (pc' := 10) kc_12_7 rfl (xc_gt_f (X := a2.toInt) (Y := 5) rfl (by decide) (by omega)) ?_
                  refine xi_iconst (pc' := 11) (v := 1) kc_12_10 rfl rfl ?_
                  refine xi_goto (pc' := 15) kc_12_11 rfl ?_
                  refine xi_ireturn kc_12_15 mr_12 rfl ?_
                  show xw J ov 98 11 (6, [(0, .int a2)], [.int 1], hh5) _
                  refine xi_ireturn kc_11_6 mr_11 rfl ?_
                  show xw J ov 99 24 (16, [(0, .ref 115), (1, .int 10), (2, .int a2), (3, .int a3), (4, .int 0)], [.int 1], hh5) _
                  refine xi_ift (pc' := 25) kc_24_16 rfl rfl ?_
                  refine xi_iload_n (pc' := 26) (x := a3) kc_24_25 rfl rfl ?_
                  refine xi_ift (pc' := 36) kc_24_26 rfl (xc_ge_t (X := a3.toInt) (Y := 0) rfl (by decide) (by omega)) ?_
                  refine xi_iload_n (pc' := 37) (x := a3) kc_24_36 rfl rfl ?_
                  refine xi_bipush (pc' := 39) (v := 100) kc_24_37 rfl rfl ?_
                  refine xi_cmt (pc' := 49) kc_24_39 rfl (xc_le_t (X := a3.toInt) (Y := 100) rfl (by decide) (by omega)) ?_
                  refine xi_aload_n (pc' := 50) (x := 115) kc_24_49 rfl rfl ?_
                  refine xi_getfield (pc' := 53) (v := .ref 125) kc_24_50 rfl rfl rfl eh5.1 rfl ?_
                  refine xi_iload_n (pc' := 54) (x := 10) kc_24_53 rfl rfl ?_
                  refine xi_iaload (pc' := 55) (v := (-9)) kc_24_54 rfl ((eh5.2.1 125 (by decide)).trans ((eh4.2.1 125 (by decide)).trans ((eh3.2.1 125 (by decide)).trans ((eh2.2.1 125 (by decide)).trans ((eh1.2.1 125 (by decide)).trans (F 125 _ hl_125)))))) (by decide) rfl (xi_in (n := 12) (by decide) (by decide)) rfl ?_
                  refine xi_ift (pc' := 62) kc_24_55 rfl rfl ?_
                  refine xi_iconst (pc' := 63) (v := 0) kc_24_62 rfl rfl ?_
                  refine xi_istore (pc' := 65) (lv' := [(5, .int 0), (0, .ref 115), (1, .int 10), (2, .int a2), (3, .int a3), (4, .int 0)]) kc_24_63 rfl rfl (xm_lt ml_24 rfl) ?_
                  refine xi_aload_n (pc' := 66) (x := 115) kc_24_65 rfl rfl ?_
                  refine xi_getfield (pc' := 69) (v := .ref 125) kc_24_66 rfl rfl rfl eh5.1 rfl ?_
                  refine xi_iload_n (pc' := 70) (x := 10) kc_24_69 rfl rfl ?_
                  refine xi_iload_n (pc' := 71) (x := a2) kc_24_70 rfl rfl ?_
                  refine xi_iastore (pc' := 72) (x' := [(-9), (-9), (-9), (-9), (-9), (-9), (-9), (-9), (-9), (-9), a2, (-9)]) kc_24_71 rfl ((eh5.2.1 125 (by decide)).trans ((eh4.2.1 125 (by decide)).trans ((eh3.2.1 125 (by decide)).trans ((eh2.2.1 125 (by decide)).trans ((eh1.2.1 125 (by decide)).trans (F 125 _ hl_125)))))) rfl (xi_in (n := 12) (by decide) (by decide)) rfl (fun hh6 eh6 => ?_)
                  refine xi_aload_n (pc' := 73) (x := 115) kc_24_72 rfl rfl ?_
                  refine xi_getfield (pc' := 76) (v := .ref 126) kc_24_73 rfl rfl rfl ((eh6.2.1 115 (by decide)).trans eh5.1) rfl ?_
                  refine xi_iload_n (pc' := 77) (x := 10) kc_24_76 rfl rfl ?_
                  refine xi_iload_n (pc' := 78) (x := a3) kc_24_77 rfl rfl ?_
                  refine xi_iastore (pc' := 79) (x' := [0, 0, 0, 0, 0, 0, 0, 0, 0, 0, a3, 0]) kc_24_78 rfl ((eh6.2.1 126 (by decide)).trans ((eh5.2.1 126 (by decide)).trans ((eh4.2.1 126 (by decide)).trans ((eh3.2.1 126 (by decide)).trans ((eh2.2.1 126 (by decide)).trans ((eh1.2.1 126 (by decide)).trans (F 126 _ hl_126))))))) rfl (xi_in (n := 12) (by decide) (by decide)) rfl (fun hh7 eh7 => ?_)
                  refine xi_aload_n (pc' := 80) (x := 115) kc_24_79 rfl rfl ?_
                  refine xi_getfield (pc' := 83) (v := .ref 127) kc_24_80 rfl rfl rfl ((eh7.2.1 115 (by decide)).trans ((eh6.2.1 115 (by decide)).trans eh5.1)) rfl ?_
                  refine xi_iload_n (pc' := 84) (x := 10) kc_24_83 rfl rfl ?_
                  refine xi_iload (pc' := 86) (x := 0) kc_24_84 rfl rfl ?_
                  refine xi_bastore (pc' := 87) (x' := [0, 0, 0, 0, 0, 0, 0, 0, 0, 0, 0, 0]) kc_24_86 rfl ((eh7.2.1 127 (by decide)).trans ((eh6.2.1 127 (by decide)).trans ((eh5.2.1 127 (by decide)).trans ((eh4.2.1 127 (by decide)).trans ((eh3.2.1 127 (by decide)).trans ((eh2.2.1 127 (by decide)).trans ((eh1.2.1 127 (by decide)).trans (F 127 _ hl_127)))))))) rfl (xi_in (n := 12) (by decide) (by decide)) rfl (fun hh8 eh8 => ?_)
                  refine xi_aload_n (pc' := 88) (x := 115) kc_24_87 rfl rfl ?_
                  refine xi_iconst (pc' := 89) (v := 0) kc_24_88 rfl rfl ?_
                  refine xi_putfield (pc' := 92) (fs' := [.int 0, .int 0, .ref 116, .ref 117, .ref 118, .ref 119, .ref 120, .ref 121, .ref 122, .ref 123, .ref 124, .ref 125, .ref 126, .ref 127, .ref 128, .ref 129, .int 4, .ref 130, .int 0, .ref 131, .ref 132, .ref 133, .ref 134, .int 0, .ref 135, .ref 136, .ref 137, .ref 138, .ref 139, .ref 140, .ref 141, .ref 142, .int 0, .int 0, .int 0, .ref 143, .ref 144, .ref 145, .ref 146, .ref 147, .ref 148, .int 0, .ref 149, .ref 150, .ref 151, .int 0, .ref 152, .ref 153, .ref 154, .ref 155, .ref 156, .ref 157, .ref 158, .ref 159, .int 0, .ref 160, .int 0, .ref 161, .ref 162, .ref 163, .ref 164, .int 0, .ref 165, .ref 166]) kc_24_89 rfl rfl rfl ((eh8.2.1 115 (by decide)).trans ((eh7.2.1 115 (by decide)).trans ((eh6.2.1 115 (by decide)).trans eh5.1))) rfl rfl rfl (Nat.le_of_ble_eq_true rfl) rfl (fun hh9 eh9 => ?_)
                  refine xi_iload (pc' := 94) (x := 0) kc_24_92 rfl rfl ?_
                  refine xi_ift (pc' := 101) kc_24_94 rfl rfl ?_
                  refine xi_iconst (pc' := 102) (v := 1) kc_24_101 rfl rfl ?_
                  refine xi_ireturn kc_24_102 mr_24 rfl ?_
                  show xw J ov 100 196 (473, [(4, .int 0), (3, .ref 167), (2, .ref 115), (1, .ref 0), (0, .ref 1000000)], [.int 1, .int 1], hh9) _
                  refine xi_cmt (pc' := 1528) kc_196_473 rfl rfl ?_
                  refine xi_iinc (pc' := 1531) (x := 0) (v := 6) (lv' := [(4, .int 6), (3, .ref 167), (2, .ref 115), (1, .ref 0), (0, .ref 1000000)]) kc_196_1528 rfl rfl rfl rfl (xm_lt ml_196 rfl) ?_
                  refine xi_goto (pc' := 23) kc_196_1531 rfl ?_
                  refine xi_iload (pc' := 25) (x := 6) kc_196_23 rfl rfl ?_
                  refine xi_aload_n (pc' := 26) (x := 1000000) kc_196_25 rfl rfl ?_
                  refine xi_arraylength (pc' := 27) (n := 6) (v := 6) kc_196_26 rfl (xl_lenO (by decide) hov0 rfl) rfl ?_
                  refine xi_bipush (pc' := 29) (v := 6) kc_196_27 rfl rfl ?_
                  refine xi_isub (pc' := 30) (v := 0) kc_196_29 rfl rfl ?_
                  refine xi_cmt (pc' := 1534) kc_196_30 rfl rfl ?_
                  refine xi_iconst (pc' := 1535) (v := 1) kc_196_1534 rfl rfl ?_
                  refine xi_ireturn kc_196_1535 mr_196 rfl ?_
                  refine ⟨rfl, ?_, ?_⟩
                  · rw [eh9.2.2.1, eh8.2.2.1, eh7.2.2.1, eh6.2.2.1, eh5.2.2.1, eh4.2.2.1, eh3.2.2.1, eh2.2.2.1, eh1.2.2.1]; exact hn0
                  · rw [eh9.2.2.2, eh8.2.2.2, eh7.2.2.2, eh6.2.2.2, eh5.2.2.2, eh4.2.2.2, eh3.2.2.2, eh2.2.2.2, eh1.2.2.2]; exact hz0
                have qa1 : a1 = 11 := xc_of (Eq.trans (by omega) (show (11 : Int) = (11 : Int32).toInt by decide))
                subst qa1
                refine xi_aaload (pc' := 60) (b := 51) kc_104_59 rfl ((eh1.2.1 3 (by decide)).trans (F 3 _ hl_3)) rfl (xi_in (n := 12) (by decide) (by decide)) rfl ?_
                refine xi_astore (pc' := 62) (lv' := [(5, .ref 51), (0, .ref 0), (1, .int 11), (2, .int a2), (3, .int a3), (4, .int 0)]) kc_104_60 rfl rfl (xm_lt ml_104 rfl) ?_
                refine xi_aload (pc' := 64) (x := 51) kc_104_62 rfl rfl ?_
                refine xi_virtual (mj := 106) (as := []) (st1 := []) (lv0 := [(0, .ref 51)]) kc_104_64 rfl rfl rfl rfl rfl ((eh1.2.1 51 (by decide)).trans (F 51 _ hl_51)) (Nat.le_of_ble_eq_true rfl) (hJ _ _ _ _ (by decide)) (xm_le ml_106 rfl) rfl ?_
                refine xi_aload_n (pc' := 1) (x := 51) kc_106_0 rfl rfl ?_
                refine xi_getfield (pc' := 4) (v := .int (-9)) kc_106_1 rfl rfl rfl ((eh1.2.1 51 (by decide)).trans (F 51 _ hl_51)) rfl ?_
                refine xi_static (mj := 90) (as := [.int (-9)]) (st1 := []) (lv0 := [(0, .int (-9))]) kc_106_4 rfl rfl (Nat.le_of_ble_eq_true rfl) rfl rfl (Nat.le_of_ble_eq_true rfl) (hJ _ _ _ _ (by decide)) (xm_le ml_90 rfl) rfl ?_
                refine xi_iload_n (pc' := 1) (x := (-9)) kc_90_0 rfl rfl ?_
                refine xi_ift (pc' := 14) kc_90_1 rfl rfl ?_
                refine xi_iconst (pc' := 15) (v := 0) kc_90_14 rfl rfl ?_
                refine xi_ireturn kc_90_15 mr_90 rfl ?_
                show xw J ov 98 106 (7, [(0, .ref 51)], [.int 0], hh1) _
                refine xi_ireturn kc_106_7 mr_106 rfl ?_
                show xw J ov 99 104 (67, [(5, .ref 51), (0, .ref 0), (1, .int 11), (2, .int a2), (3, .int a3), (4, .int 0)], [.int 0], hh1) _
                refine xi_ift (pc' := 74) kc_104_67 rfl rfl ?_
                refine xi_iconst (pc' := 75) (v := 1) kc_104_74 rfl rfl ?_
                refine xi_istore (pc' := 77) (lv' := [(6, .int 1), (5, .ref 51), (0, .ref 0), (1, .int 11), (2, .int a2), (3, .int a3), (4, .int 0)]) kc_104_75 rfl rfl (xm_lt ml_104 rfl) ?_
                refine xi_aload (pc' := 79) (x := 51) kc_104_77 rfl rfl ?_
                refine xi_iload_n (pc' := 80) (x := a2) kc_104_79 rfl rfl ?_
                refine xi_putfield (pc' := 83) (fs' := [.int a2, .int 0, .int 0, .int 0, .ref 52]) kc_104_80 rfl rfl rfl ((eh1.2.1 51 (by decide)).trans (F 51 _ hl_51)) rfl rfl rfl (Nat.le_of_ble_eq_true rfl) rfl (fun hh2 eh2 => ?_)
                refine xi_aload (pc' := 85) (x := 51) kc_104_83 rfl rfl ?_
                refine xi_iload_n (pc' := 86) (x := a3) kc_104_85 rfl rfl ?_
                refine xi_putfield (pc' := 89) (fs' := [.int a2, .int a3, .int 0, .int 0, .ref 52]) kc_104_86 rfl rfl rfl eh2.1 rfl rfl rfl (Nat.le_of_ble_eq_true rfl) rfl (fun hh3 eh3 => ?_)
                refine xi_aload (pc' := 91) (x := 51) kc_104_89 rfl rfl ?_
                refine xi_iload (pc' := 93) (x := 0) kc_104_91 rfl rfl ?_
                refine xi_putfield (pc' := 96) (fs' := [.int a2, .int a3, .int 0, .int 0, .ref 52]) kc_104_93 rfl rfl rfl eh3.1 rfl rfl rfl (Nat.le_of_ble_eq_true rfl) rfl (fun hh4 eh4 => ?_)
                refine xi_iload (pc' := 98) (x := 1) kc_104_96 rfl rfl ?_
                refine xi_ireturn kc_104_98 mr_104 rfl ?_
                show xw J ov 100 196 (437, [(4, .int 0), (3, .ref 167), (2, .ref 115), (1, .ref 0), (0, .ref 1000000)], [.int 1], hh4) _
                refine xi_aload_n (pc' := 438) (x := 115) kc_196_437 rfl rfl ?_
                refine xi_aload_n (pc' := 439) (x := 1000000) kc_196_438 rfl rfl ?_
                refine xi_iload (pc' := 441) (x := 0) kc_196_439 rfl rfl ?_
                refine xi_iconst (pc' := 442) (v := 1) kc_196_441 rfl rfl ?_
                refine xi_iadd (pc' := 443) (v := 1) kc_196_442 rfl rfl ?_
                refine xi_ialoadO (pc' := 444) (v := 11) kc_196_443 rfl (by decide) hov0 (xi_in (n := 6) (by decide) (by decide)) rfl ?_
                refine xi_aload_n (pc' := 445) (x := 1000000) kc_196_444 rfl rfl ?_
                refine xi_iload (pc' := 447) (x := 0) kc_196_445 rfl rfl ?_
                refine xi_iconst (pc' := 448) (v := 2) kc_196_447 rfl rfl ?_
                refine xi_iadd (pc' := 449) (v := 2) kc_196_448 rfl rfl ?_
                refine xi_ialoadO (pc' := 450) (v := a2) kc_196_449 rfl (by decide) hov0 (xi_in (n := 6) (by decide) (by decide)) rfl ?_
                refine xi_aload_n (pc' := 451) (x := 1000000) kc_196_450 rfl rfl ?_
                refine xi_iload (pc' := 453) (x := 0) kc_196_451 rfl rfl ?_
                refine xi_iconst (pc' := 454) (v := 3) kc_196_453 rfl rfl ?_
                refine xi_iadd (pc' := 455) (v := 3) kc_196_454 rfl rfl ?_
                refine xi_ialoadO (pc' := 456) (v := a3) kc_196_455 rfl (by decide) hov0 (xi_in (n := 6) (by decide) (by decide)) rfl ?_
                refine xi_aload_n (pc' := 457) (x := 1000000) kc_196_456 rfl rfl ?_
                refine xi_iload (pc' := 459) (x := 0) kc_196_457 rfl rfl ?_
                refine xi_iconst (pc' := 460) (v := 4) kc_196_459 rfl rfl ?_
                refine xi_iadd (pc' := 461) (v := 4) kc_196_460 rfl rfl ?_
                refine xi_ialoadO (pc' := 462) (v := a4) kc_196_461 rfl (by decide) hov0 (xi_in (n := 6) (by decide) (by decide)) rfl ?_
                refine xi_ift (pc' := 469) kc_196_462 rfl (xc_eq_t (X := a4.toInt) (Y := 0) rfl (by decide) (by omega)) ?_
                refine xi_iconst (pc' := 470) (v := 0) kc_196_469 rfl rfl ?_
                refine xi_virtual (mj := 24) (as := [.int 11, .int a2, .int a3, .int 0]) (st1 := [.int 1]) (lv0 := [(0, .ref 115), (1, .int 11), (2, .int a2), (3, .int a3), (4, .int 0)]) kc_196_470 rfl rfl rfl rfl rfl ((eh4.2.1 115 (by decide)).trans ((eh3.2.1 115 (by decide)).trans ((eh2.2.1 115 (by decide)).trans ((eh1.2.1 115 (by decide)).trans (F 115 _ hl_115))))) (Nat.le_of_ble_eq_true rfl) (hJ _ _ _ _ (by decide)) (xm_le ml_24 rfl) rfl ?_
                refine xi_aload_n (pc' := 1) (x := 115) kc_24_0 rfl rfl ?_
                refine xi_iconst (pc' := 2) (v := 0) kc_24_1 rfl rfl ?_
                refine xi_putfield (pc' := 5) (fs' := [.int 0, .int 0, .ref 116, .ref 117, .ref 118, .ref 119, .ref 120, .ref 121, .ref 122, .ref 123, .ref 124, .ref 125, .ref 126, .ref 127, .ref 128, .ref 129, .int 4, .ref 130, .int 0, .ref 131, .ref 132, .ref 133, .ref 134, .int 0, .ref 135, .ref 136, .ref 137, .ref 138, .ref 139, .ref 140, .ref 141, .ref 142, .int 0, .int 0, .int 0, .ref 143, .ref 144, .ref 145, .ref 146, .ref 147, .ref 148, .int 0, .ref 149, .ref 150, .ref 151, .int 0, .ref 152, .ref 153, .ref 154, .ref 155, .ref 156, .ref 157, .ref 158, .ref 159, .int 0, .ref 160, .int 0, .ref 161, .ref 162, .ref 163, .ref 164, .int 0, .ref 165, .ref 166]) kc_24_2 rfl rfl rfl ((eh4.2.1 115 (by decide)).trans ((eh3.2.1 115 (by decide)).trans ((eh2.2.1 115 (by decide)).trans ((eh1.2.1 115 (by decide)).trans (F 115 _ hl_115))))) rfl rfl rfl (Nat.le_of_ble_eq_true rfl) rfl (fun hh5 eh5 => ?_)
                refine xi_iload_n (pc' := 6) (x := 11) kc_24_5 rfl rfl ?_
                refine xi_static (mj := 25) (as := [.int 11]) (st1 := []) (lv0 := [(0, .int 11)]) kc_24_6 rfl rfl (Nat.le_of_ble_eq_true rfl) rfl rfl (Nat.le_of_ble_eq_true rfl) (hJ _ _ _ _ (by decide)) (xm_le ml_25 rfl) rfl ?_
                refine xi_iload_n (pc' := 1) (x := 11) kc_25_0 rfl rfl ?_
                refine xi_iconst (pc' := 2) (v := 0) kc_25_1 rfl rfl ?_
                refine xi_bipush (pc' := 4) (v := 11) kc_25_2 rfl rfl ?_
                refine xi_static (mj := 12) (as := [.int 11, .int 0, .int 11]) (st1 := []) (lv0 := [(0, .int 11), (1, .int 0), (2, .int 11)]) kc_25_4 rfl rfl (Nat.le_of_ble_eq_true rfl) rfl rfl (Nat.le_of_ble_eq_true rfl) (hJ _ _ _ _ (by decide)) (xm_le ml_12 rfl) rfl ?_
                refine xi_iload_n (pc' := 1) (x := 11) kc_12_0 rfl rfl ?_
                refine xi_iload_n (pc' := 2) (x := 0) kc_12_1 rfl rfl ?_
                refine xi_cmf (pc' := 5) kc_12_2 rfl rfl ?_
                refine xi_iload_n (pc' := 6) (x := 11) kc_12_5 rfl rfl ?_
                refine xi_iload_n (pc' := 7) (x := 11) kc_12_6 rfl rfl ?_
                refine xi_cmf (pc' := 10) kc_12_7 rfl rfl ?_
                refine xi_iconst (pc' := 11) (v := 1) kc_12_10 rfl rfl ?_
                refine xi_goto (pc' := 15) kc_12_11 rfl ?_
                refine xi_ireturn kc_12_15 mr_12 rfl ?_
                show xw J ov 98 25 (7, [(0, .int 11)], [.int 1], hh5) _
                refine xi_ireturn kc_25_7 mr_25 rfl ?_
                show xw J ov 99 24 (9, [(0, .ref 115), (1, .int 11), (2, .int a2), (3, .int a3), (4, .int 0)], [.int 1], hh5) _
                refine xi_iff (pc' := 12) kc_24_9 rfl rfl ?_
                refine xi_iload_n (pc' := 13) (x := a2) kc_24_12 rfl rfl ?_
                refine xi_static (mj := 11) (as := [.int a2]) (st1 := []) (lv0 := [(0, .int a2)]) kc_24_13 rfl rfl (Nat.le_of_ble_eq_true rfl) rfl rfl (Nat.le_of_ble_eq_true rfl) (hJ _ _ _ _ (by decide)) (xm_le ml_11 rfl) rfl ?_
                refine xi_iload_n (pc' := 1) (x := a2) kc_11_0 rfl rfl ?_
                refine xi_iconst (pc' := 2) (v := 0) kc_11_1 rfl rfl ?_
                refine xi_iconst (pc' := 3) (v := 5) kc_11_2 rfl rfl ?_
                refine xi_static (mj := 12) (as := [.int a2, .int 0, .int 5]) (st1 := []) (lv0 := [(0, .int a2), (1, .int 0), (2, .int 5)]) kc_11_3 rfl rfl (Nat.le_of_ble_eq_true rfl) rfl rfl (Nat.le_of_ble_eq_true rfl) (hJ _ _ _ _ (by decide)) (xm_le ml_12 rfl) rfl ?_
                refine xi_iload_n (pc' := 1) (x := a2) kc_12_0 rfl rfl ?_
                refine xi_iload_n (pc' := 2) (x := 0) kc_12_1 rfl rfl ?_
                refine xi_cmf (pc' := 5) kc_12_2 rfl (xc_lt_f (X := a2.toInt) (Y := 0) rfl (by decide) (by omega)) ?_
                refine xi_iload_n (pc' := 6) (x := a2) kc_12_5 rfl rfl ?_
                refine xi_iload_n (pc' := 7) (x := 5) kc_12_6 rfl rfl ?_
                refine xi_cmf (pc' := 10) kc_12_7 rfl (xc_gt_f (X := a2.toInt) (Y := 5) rfl (by decide) (by omega)) ?_
                refine xi_iconst (pc' := 11) (v := 1) kc_12_10 rfl rfl ?_
                refine xi_goto (pc' := 15) kc_12_11 rfl ?_
                refine xi_ireturn kc_12_15 mr_12 rfl ?_
                show xw J ov 98 11 (6, [(0, .int a2)], [.int 1], hh5) _
                refine xi_ireturn kc_11_6 mr_11 rfl ?_
                show xw J ov 99 24 (16, [(0, .ref 115), (1, .int 11), (2, .int a2), (3, .int a3), (4, .int 0)], [.int 1], hh5) _
                refine xi_ift (pc' := 25) kc_24_16 rfl rfl ?_
                refine xi_iload_n (pc' := 26) (x := a3) kc_24_25 rfl rfl ?_
                refine xi_ift (pc' := 36) kc_24_26 rfl (xc_ge_t (X := a3.toInt) (Y := 0) rfl (by decide) (by omega)) ?_
                refine xi_iload_n (pc' := 37) (x := a3) kc_24_36 rfl rfl ?_
                refine xi_bipush (pc' := 39) (v := 100) kc_24_37 rfl rfl ?_
                refine xi_cmt (pc' := 49) kc_24_39 rfl (xc_le_t (X := a3.toInt) (Y := 100) rfl (by decide) (by omega)) ?_
                refine xi_aload_n (pc' := 50) (x := 115) kc_24_49 rfl rfl ?_
                refine xi_getfield (pc' := 53) (v := .ref 125) kc_24_50 rfl rfl rfl eh5.1 rfl ?_
                refine xi_iload_n (pc' := 54) (x := 11) kc_24_53 rfl rfl ?_
                refine xi_iaload (pc' := 55) (v := (-9)) kc_24_54 rfl ((eh5.2.1 125 (by decide)).trans ((eh4.2.1 125 (by decide)).trans ((eh3.2.1 125 (by decide)).trans ((eh2.2.1 125 (by decide)).trans ((eh1.2.1 125 (by decide)).trans (F 125 _ hl_125)))))) (by decide) rfl (xi_in (n := 12) (by decide) (by decide)) rfl ?_
                refine xi_ift (pc' := 62) kc_24_55 rfl rfl ?_
                refine xi_iconst (pc' := 63) (v := 0) kc_24_62 rfl rfl ?_
                refine xi_istore (pc' := 65) (lv' := [(5, .int 0), (0, .ref 115), (1, .int 11), (2, .int a2), (3, .int a3), (4, .int 0)]) kc_24_63 rfl rfl (xm_lt ml_24 rfl) ?_
                refine xi_aload_n (pc' := 66) (x := 115) kc_24_65 rfl rfl ?_
                refine xi_getfield (pc' := 69) (v := .ref 125) kc_24_66 rfl rfl rfl eh5.1 rfl ?_
                refine xi_iload_n (pc' := 70) (x := 11) kc_24_69 rfl rfl ?_
                refine xi_iload_n (pc' := 71) (x := a2) kc_24_70 rfl rfl ?_
                refine xi_iastore (pc' := 72) (x' := [(-9), (-9), (-9), (-9), (-9), (-9), (-9), (-9), (-9), (-9), (-9), a2]) kc_24_71 rfl ((eh5.2.1 125 (by decide)).trans ((eh4.2.1 125 (by decide)).trans ((eh3.2.1 125 (by decide)).trans ((eh2.2.1 125 (by decide)).trans ((eh1.2.1 125 (by decide)).trans (F 125 _ hl_125)))))) rfl (xi_in (n := 12) (by decide) (by decide)) rfl (fun hh6 eh6 => ?_)
                refine xi_aload_n (pc' := 73) (x := 115) kc_24_72 rfl rfl ?_
                refine xi_getfield (pc' := 76) (v := .ref 126) kc_24_73 rfl rfl rfl ((eh6.2.1 115 (by decide)).trans eh5.1) rfl ?_
                refine xi_iload_n (pc' := 77) (x := 11) kc_24_76 rfl rfl ?_
                refine xi_iload_n (pc' := 78) (x := a3) kc_24_77 rfl rfl ?_
                refine xi_iastore (pc' := 79) (x' := [0, 0, 0, 0, 0, 0, 0, 0, 0, 0, 0, a3]) kc_24_78 rfl ((eh6.2.1 126 (by decide)).trans ((eh5.2.1 126 (by decide)).trans ((eh4.2.1 126 (by decide)).trans ((eh3.2.1 126 (by decide)).trans ((eh2.2.1 126 (by decide)).trans ((eh1.2.1 126 (by decide)).trans (F 126 _ hl_126))))))) rfl (xi_in (n := 12) (by decide) (by decide)) rfl (fun hh7 eh7 => ?_)
                refine xi_aload_n (pc' := 80) (x := 115) kc_24_79 rfl rfl ?_
                refine xi_getfield (pc' := 83) (v := .ref 127) kc_24_80 rfl rfl rfl ((eh7.2.1 115 (by decide)).trans ((eh6.2.1 115 (by decide)).trans eh5.1)) rfl ?_
                refine xi_iload_n (pc' := 84) (x := 11) kc_24_83 rfl rfl ?_
                refine xi_iload (pc' := 86) (x := 0) kc_24_84 rfl rfl ?_
                refine xi_bastore (pc' := 87) (x' := [0, 0, 0, 0, 0, 0, 0, 0, 0, 0, 0, 0]) kc_24_86 rfl ((eh7.2.1 127 (by decide)).trans ((eh6.2.1 127 (by decide)).trans ((eh5.2.1 127 (by decide)).trans ((eh4.2.1 127 (by decide)).trans ((eh3.2.1 127 (by decide)).trans ((eh2.2.1 127 (by decide)).trans ((eh1.2.1 127 (by decide)).trans (F 127 _ hl_127)))))))) rfl (xi_in (n := 12) (by decide) (by decide)) rfl (fun hh8 eh8 => ?_)
                refine xi_aload_n (pc' := 88) (x := 115) kc_24_87 rfl rfl ?_
                refine xi_iconst (pc' := 89) (v := 0) kc_24_88 rfl rfl ?_
                refine xi_putfield (pc' := 92) (fs' := [.int 0, .int 0, .ref 116, .ref 117, .ref 118, .ref 119, .ref 120, .ref 121, .ref 122, .ref 123, .ref 124, .ref 125, .ref 126, .ref 127, .ref 128, .ref 129, .int 4, .ref 130, .int 0, .ref 131, .ref 132, .ref 133, .ref 134, .int 0, .ref 135, .ref 136, .ref 137, .ref 138, .ref 139, .ref 140, .ref 141, .ref 142, .int 0, .int 0, .int 0, .ref 143, .ref 144, .ref 145, .ref 146, .ref 147, .ref 148, .int 0, .ref 149, .ref 150, .ref 151, .int 0, .ref 152, .ref 153, .ref 154, .ref 155, .ref 156, .ref 157, .ref 158, .ref 159, .int 0, .ref 160, .int 0, .ref 161, .ref 162, .ref 163, .ref 164, .int 0, .ref 165, .ref 166]) kc_24_89 rfl rfl rfl ((eh8.2.1 115 (by decide)).trans ((eh7.2.1 115 (by decide)).trans ((eh6.2.1 115 (by decide)).trans eh5.1))) rfl rfl rfl (Nat.le_of_ble_eq_true rfl) rfl (fun hh9 eh9 => ?_)
                refine xi_iload (pc' := 94) (x := 0) kc_24_92 rfl rfl ?_
                refine xi_ift (pc' := 101) kc_24_94 rfl rfl ?_
                refine xi_iconst (pc' := 102) (v := 1) kc_24_101 rfl rfl ?_
                refine xi_ireturn kc_24_102 mr_24 rfl ?_
                show xw J ov 100 196 (473, [(4, .int 0), (3, .ref 167), (2, .ref 115), (1, .ref 0), (0, .ref 1000000)], [.int 1, .int 1], hh9) _
                refine xi_cmt (pc' := 1528) kc_196_473 rfl rfl ?_
                refine xi_iinc (pc' := 1531) (x := 0) (v := 6) (lv' := [(4, .int 6), (3, .ref 167), (2, .ref 115), (1, .ref 0), (0, .ref 1000000)]) kc_196_1528 rfl rfl rfl rfl (xm_lt ml_196 rfl) ?_
                refine xi_goto (pc' := 23) kc_196_1531 rfl ?_
                refine xi_iload (pc' := 25) (x := 6) kc_196_23 rfl rfl ?_
                refine xi_aload_n (pc' := 26) (x := 1000000) kc_196_25 rfl rfl ?_
                refine xi_arraylength (pc' := 27) (n := 6) (v := 6) kc_196_26 rfl (xl_lenO (by decide) hov0 rfl) rfl ?_
                refine xi_bipush (pc' := 29) (v := 6) kc_196_27 rfl rfl ?_
                refine xi_isub (pc' := 30) (v := 0) kc_196_29 rfl rfl ?_
                refine xi_cmt (pc' := 1534) kc_196_30 rfl rfl ?_
                refine xi_iconst (pc' := 1535) (v := 1) kc_196_1534 rfl rfl ?_
                refine xi_ireturn kc_196_1535 mr_196 rfl ?_
                refine ⟨rfl, ?_, ?_⟩
                · rw [eh9.2.2.1, eh8.2.2.1, eh7.2.2.1, eh6.2.2.1, eh5.2.2.1, eh4.2.2.1, eh3.2.2.1, eh2.2.2.1, eh1.2.2.1]; exact hn0
                · rw [eh9.2.2.2, eh8.2.2.2, eh7.2.2.2, eh6.2.2.2, eh5.2.2.2, eh4.2.2.2, eh3.2.2.2, eh2.2.2.2, eh1.2.2.2]; exact hz0
              · refine xi_cmf (pc' := 37) kc_104_34 rfl (xc_le_f (X := a3.toInt) (Y := 100) rfl (by decide) (by omega)) ?_
                refine xi_aload_n (pc' := 38) (x := 0) kc_104_37 rfl rfl ?_
                refine xi_bipush (pc' := 40) (v := (-6)) kc_104_38 rfl rfl ?_
                refine xi_virtual (mj := 91) (as := [.int (-6)]) (st1 := []) (lv0 := [(0, .ref 0), (1, .int (-6))]) kc_104_40 rfl rfl rfl rfl rfl (F 0 _ hl_0) (Nat.le_of_ble_eq_true rfl) (hJ _ _ _ _ (by decide)) (xm_le ml_91 rfl) rfl ?_
                refine xi_iload_n (pc' := 1) (x := (-6)) kc_91_0 rfl rfl ?_
                refine xi_ineg (pc' := 2) (v := 6) kc_91_1 rfl rfl ?_
                refine xi_istore_n (pc' := 3) (lv' := [(2, .int 6), (0, .ref 0), (1, .int (-6))]) kc_91_2 rfl rfl (xm_lt ml_91 rfl) ?_
                refine xi_iload_n (pc' := 4) (x := 6) kc_91_3 rfl rfl ?_
                refine xi_iff (pc' := 7) kc_91_4 rfl rfl ?_
                refine xi_iload_n (pc' := 8) (x := 6) kc_91_7 rfl rfl ?_
                refine xi_aload_n (pc' := 9) (x := 0) kc_91_8 rfl rfl ?_
                refine xi_getfield (pc' := 12) (v := .ref 94) kc_91_9 rfl rfl rfl (F 0 _ hl_0) rfl ?_
                refine xi_arraylength (pc' := 13) (n := 7) (v := 7) kc_91_12 rfl (xl_lenI (by decide) (by decide) (F 94 _ hl_94) (by simp only [List.length_replicate, List.length_cons, List.length_nil])) rfl ?_
                refine xi_cmf (pc' := 16) kc_91_13 rfl rfl ?_
                refine xi_aload_n (pc' := 17) (x := 0) kc_91_16 rfl rfl ?_
                refine xi_getfield (pc' := 20) (v := .ref 94) kc_91_17 rfl rfl rfl (F 0 _ hl_0) rfl ?_
                refine xi_iload_n (pc' := 21) (x := 6) kc_91_20 rfl rfl ?_
                refine xi_dup2 (pc' := 22) kc_91_21 rfl ⟨rfl, rfl⟩ ?_
                refine xi_iaload (pc' := 23) (v := 0) kc_91_22 rfl (F 94 _ hl_94) (by decide) rfl (xi_in (n := 7) (by decide) (by decide)) rfl ?_
                refine xi_iconst (pc' := 24) (v := 1) kc_91_23 rfl rfl ?_
                refine xi_iadd (pc' := 25) (v := 1) kc_91_24 rfl rfl ?_
                refine xi_iastore (pc' := 26) (x' := [0, 0, 0, 0, 0, 0, 1]) kc_91_25 rfl (F 94 _ hl_94) rfl (xi_in (n := 7) (by decide) (by decide)) rfl (fun hh1 eh1 => ?_)
                refine xi_iload_n (pc' := 27) (x := (-6)) kc_91_26 rfl rfl ?_
                refine xi_ireturn kc_91_27 mr_91 rfl ?_
                show xw J ov 99 104 (43, [(0, .ref 0), (1, .int a1), (2, .int a2), (3, .int a3), (4, .int 0)], [.int (-6)], hh1) _
                refine xi_ireturn kc_104_43 mr_104 rfl ?_
                show xw J ov 100 196 (437, [(4, .int 0), (3, .ref 167), (2, .ref 115), (1, .ref 0), (0, .ref 1000000)], [.int (-6)], hh1) _
                refine xi_aload_n (pc' := 438) (x := 115) kc_196_437 rfl rfl ?_
                refine xi_aload_n (pc' := 439) (x := 1000000) kc_196_438 rfl rfl ?_
                refine xi_iload (pc' := 441) (x := 0) kc_196_439 rfl rfl ?_
                refine xi_iconst (pc' := 442) (v := 1) kc_196_441 rfl rfl ?_
                refine xi_iadd (pc' := 443) (v := 1) kc_196_442 rfl rfl ?_
                refine xi_ialoadO (pc' := 444) (v := a1) kc_196_443 rfl (by decide) hov0 (xi_in (n := 6) (by decide) (by decide)) rfl ?_
                refine xi_aload_n (pc' := 445) (x := 1000000) kc_196_444 rfl rfl ?_
                refine xi_iload (pc' := 447) (x := 0) kc_196_445 rfl rfl ?_
                refine xi_iconst (pc' := 448) (v := 2) kc_196_447 rfl rfl ?_
                refine xi_iadd (pc' := 449) (v := 2) kc_196_448 rfl rfl ?_
                refine xi_ialoadO (pc' := 450) (v := a2) kc_196_449 rfl (by decide) hov0 (xi_in (n := 6) (by decide) (by decide)) rfl ?_
                refine xi_aload_n (pc' := 451) (x := 1000000) kc_196_450 rfl rfl ?_
                refine xi_iload (pc' := 453) (x := 0) kc_196_451 rfl rfl ?_
                refine xi_iconst (pc' := 454) (v := 3) kc_196_453 rfl rfl ?_
                refine xi_iadd (pc' := 455) (v := 3) kc_196_454 rfl rfl ?_
                refine xi_ialoadO (pc' := 456) (v := a3) kc_196_455 rfl (by decide) hov0 (xi_in (n := 6) (by decide) (by decide)) rfl ?_
                refine xi_aload_n (pc' := 457) (x := 1000000) kc_196_456 rfl rfl ?_
                refine xi_iload (pc' := 459) (x := 0) kc_196_457 rfl rfl ?_
                refine xi_iconst (pc' := 460) (v := 4) kc_196_459 rfl rfl ?_
                refine xi_iadd (pc' := 461) (v := 4) kc_196_460 rfl rfl ?_
                refine xi_ialoadO (pc' := 462) (v := a4) kc_196_461 rfl (by decide) hov0 (xi_in (n := 6) (by decide) (by decide)) rfl ?_
                refine xi_ift (pc' := 469) kc_196_462 rfl (xc_eq_t (X := a4.toInt) (Y := 0) rfl (by decide) (by omega)) ?_
                refine xi_iconst (pc' := 470) (v := 0) kc_196_469 rfl rfl ?_
                refine xi_virtual (mj := 24) (as := [.int a1, .int a2, .int a3, .int 0]) (st1 := [.int (-6)]) (lv0 := [(0, .ref 115), (1, .int a1), (2, .int a2), (3, .int a3), (4, .int 0)]) kc_196_470 rfl rfl rfl rfl rfl ((eh1.2.1 115 (by decide)).trans (F 115 _ hl_115)) (Nat.le_of_ble_eq_true rfl) (hJ _ _ _ _ (by decide)) (xm_le ml_24 rfl) rfl ?_
                refine xi_aload_n (pc' := 1) (x := 115) kc_24_0 rfl rfl ?_
                refine xi_iconst (pc' := 2) (v := 0) kc_24_1 rfl rfl ?_
                refine xi_putfield (pc' := 5) (fs' := [.int 0, .int 0, .ref 116, .ref 117, .ref 118, .ref 119, .ref 120, .ref 121, .ref 122, .ref 123, .ref 124, .ref 125, .ref 126, .ref 127, .ref 128, .ref 129, .int 4, .ref 130, .int 0, .ref 131, .ref 132, .ref 133, .ref 134, .int 0, .ref 135, .ref 136, .ref 137, .ref 138, .ref 139, .ref 140, .ref 141, .ref 142, .int 0, .int 0, .int 0, .ref 143, .ref 144, .ref 145, .ref 146, .ref 147, .ref 148, .int 0, .ref 149, .ref 150, .ref 151, .int 0, .ref 152, .ref 153, .ref 154, .ref 155, .ref 156, .ref 157, .ref 158, .ref 159, .int 0, .ref 160, .int 0, .ref 161, .ref 162, .ref 163, .ref 164, .int 0, .ref 165, .ref 166]) kc_24_2 rfl rfl rfl ((eh1.2.1 115 (by decide)).trans (F 115 _ hl_115)) rfl rfl rfl (Nat.le_of_ble_eq_true rfl) rfl (fun hh2 eh2 => ?_)
                refine xi_iload_n (pc' := 6) (x := a1) kc_24_5 rfl rfl ?_
                refine xi_static (mj := 25) (as := [.int a1]) (st1 := []) (lv0 := [(0, .int a1)]) kc_24_6 rfl rfl (Nat.le_of_ble_eq_true rfl) rfl rfl (Nat.le_of_ble_eq_true rfl) (hJ _ _ _ _ (by decide)) (xm_le ml_25 rfl) rfl ?_
                refine xi_iload_n (pc' := 1) (x := a1) kc_25_0 rfl rfl ?_
                refine xi_iconst (pc' := 2) (v := 0) kc_25_1 rfl rfl ?_
                refine xi_bipush (pc' := 4) (v := 11) kc_25_2 rfl rfl ?_
                refine xi_static (mj := 12) (as := [.int a1, .int 0, .int 11]) (st1 := []) (lv0 := [(0, .int a1), (1, .int 0), (2, .int 11)]) kc_25_4 rfl rfl (Nat.le_of_ble_eq_true rfl) rfl rfl (Nat.le_of_ble_eq_true rfl) (hJ _ _ _ _ (by decide)) (xm_le ml_12 rfl) rfl ?_
                refine xi_iload_n (pc' := 1) (x := a1) kc_12_0 rfl rfl ?_
                refine xi_iload_n (pc' := 2) (x := 0) kc_12_1 rfl rfl ?_
                refine xi_cmf (pc' := 5) kc_12_2 rfl (xc_lt_f (X := a1.toInt) (Y := 0) rfl (by decide) (by omega)) ?_
                refine xi_iload_n (pc' := 6) (x := a1) kc_12_5 rfl rfl ?_
                refine xi_iload_n (pc' := 7) (x := 11) kc_12_6 rfl rfl ?_
                refine xi_cmf (pc' := 10) kc_12_7 rfl (xc_gt_f (X := a1.toInt) (Y := 11) rfl (by decide) (by omega)) ?_
                refine xi_iconst (pc' := 11) (v := 1) kc_12_10 rfl rfl ?_
                refine xi_goto (pc' := 15) kc_12_11 rfl ?_
                refine xi_ireturn kc_12_15 mr_12 rfl ?_
                show xw J ov 98 25 (7, [(0, .int a1)], [.int 1], hh2) _
                refine xi_ireturn kc_25_7 mr_25 rfl ?_
                show xw J ov 99 24 (9, [(0, .ref 115), (1, .int a1), (2, .int a2), (3, .int a3), (4, .int 0)], [.int 1], hh2) _
                refine xi_iff (pc' := 12) kc_24_9 rfl rfl ?_
                refine xi_iload_n (pc' := 13) (x := a2) kc_24_12 rfl rfl ?_
                refine xi_static (mj := 11) (as := [.int a2]) (st1 := []) (lv0 := [(0, .int a2)]) kc_24_13 rfl rfl (Nat.le_of_ble_eq_true rfl) rfl rfl (Nat.le_of_ble_eq_true rfl) (hJ _ _ _ _ (by decide)) (xm_le ml_11 rfl) rfl ?_
                refine xi_iload_n (pc' := 1) (x := a2) kc_11_0 rfl rfl ?_
                refine xi_iconst (pc' := 2) (v := 0) kc_11_1 rfl rfl ?_
                refine xi_iconst (pc' := 3) (v := 5) kc_11_2 rfl rfl ?_
                refine xi_static (mj := 12) (as := [.int a2, .int 0, .int 5]) (st1 := []) (lv0 := [(0, .int a2), (1, .int 0), (2, .int 5)]) kc_11_3 rfl rfl (Nat.le_of_ble_eq_true rfl) rfl rfl (Nat.le_of_ble_eq_true rfl) (hJ _ _ _ _ (by decide)) (xm_le ml_12 rfl) rfl ?_
                refine xi_iload_n (pc' := 1) (x := a2) kc_12_0 rfl rfl ?_
                refine xi_iload_n (pc' := 2) (x := 0) kc_12_1 rfl rfl ?_
                refine xi_cmf (pc' := 5) kc_12_2 rfl (xc_lt_f (X := a2.toInt) (Y := 0) rfl (by decide) (by omega)) ?_
                refine xi_iload_n (pc' := 6) (x := a2) kc_12_5 rfl rfl ?_
                refine xi_iload_n (pc' := 7) (x := 5) kc_12_6 rfl rfl ?_
                refine xi_cmf (pc' := 10) kc_12_7 rfl (xc_gt_f (X := a2.toInt) (Y := 5) rfl (by decide) (by omega)) ?_
                refine xi_iconst (pc' := 11) (v := 1) kc_12_10 rfl rfl ?_
                refine xi_goto (pc' := 15) kc_12_11 rfl ?_
                refine xi_ireturn kc_12_15 mr_12 rfl ?_
                show xw J ov 98 11 (6, [(0, .int a2)], [.int 1], hh2) _
                refine xi_ireturn kc_11_6 mr_11 rfl ?_
                show xw J ov 99 24 (16, [(0, .ref 115), (1, .int a1), (2, .int a2), (3, .int a3), (4, .int 0)], [.int 1], hh2) _
                refine xi_ift (pc' := 25) kc_24_16 rfl rfl ?_
                refine xi_iload_n (pc' := 26) (x := a3) kc_24_25 rfl rfl ?_
                refine xi_ift (pc' := 36) kc_24_26 rfl (xc_ge_t (X := a3.toInt) (Y := 0) rfl (by decide) (by omega)) ?_
                refine xi_iload_n (pc' := 37) (x := a3) kc_24_36 rfl rfl ?_
                refine xi_bipush (pc' := 39) (v := 100) kc_24_37 rfl rfl ?_
                refine xi_cmf (pc' := 42) kc_24_39 rfl (xc_le_f (X := a3.toInt) (Y := 100) rfl (by decide) (by omega)) ?_
                refine xi_aload_n (pc' := 43) (x := 115) kc_24_42 rfl rfl ?_
                refine xi_bipush (pc' := 45) (v := (-6)) kc_24_43 rfl rfl ?_
                refine xi_virtual (mj := 13) (as := [.int (-6)]) (st1 := []) (lv0 := [(0, .ref 115), (1, .int (-6))]) kc_24_45 rfl rfl rfl rfl rfl eh2.1 (Nat.le_of_ble_eq_true rfl) (hJ _ _ _ _ (by decide)) (xm_le ml_13 rfl) rfl ?_
                refine xi_aload_n (pc' := 1) (x := 115) kc_13_0 rfl rfl ?_
                refine xi_getfield (pc' := 4) (v := .ref 140) kc_13_1 rfl rfl rfl eh2.1 rfl ?_
                refine xi_iload_n (pc' := 5) (x := (-6)) kc_13_4 rfl rfl ?_
                refine xi_ineg (pc' := 6) (v := 6) kc_13_5 rfl rfl ?_
                refine xi_dup2 (pc' := 7) kc_13_6 rfl ⟨rfl, rfl⟩ ?_
                refine xi_iaload (pc' := 8) (v := 0) kc_13_7 rfl ((eh2.2.1 140 (by decide)).trans ((eh1.2.1 140 (by decide)).trans (F 140 _ hl_140))) (by decide) rfl (xi_in (n := 7) (by decide) (by decide)) rfl ?_
                refine xi_iconst (pc' := 9) (v := 1) kc_13_8 rfl rfl ?_
                refine xi_iadd (pc' := 10) (v := 1) kc_13_9 rfl rfl ?_
                refine xi_iastore (pc' := 11) (x' := [0, 0, 0, 0, 0, 0, 1]) kc_13_10 rfl ((eh2.2.1 140 (by decide)).trans ((eh1.2.1 140 (by decide)).trans (F 140 _ hl_140))) rfl (xi_in (n := 7) (by decide) (by decide)) rfl (fun hh3 eh3 => ?_)
                refine xi_iload_n (pc' := 12) (x := (-6)) kc_13_11 rfl rfl ?_
                refine xi_ireturn kc_13_12 mr_13 rfl ?_
                show xw J ov 99 24 (48, [(0, .ref 115), (1, .int a1), (2, .int a2), (3, .int a3), (4, .int 0)], [.int (-6)], hh3) _
                refine xi_ireturn kc_24_48 mr_24 rfl ?_
                show xw J ov 100 196 (473, [(4, .int 0), (3, .ref 167), (2, .ref 115), (1, .ref 0), (0, .ref 1000000)], [.int (-6), .int (-6)], hh3) _
                refine xi_cmt (pc' := 1528) kc_196_473 rfl rfl ?_
                refine xi_iinc (pc' := 1531) (x := 0) (v := 6) (lv' := [(4, .int 6), (3, .ref 167), (2, .ref 115), (1, .ref 0), (0, .ref 1000000)]) kc_196_1528 rfl rfl rfl rfl (xm_lt ml_196 rfl) ?_
                refine xi_goto (pc' := 23) kc_196_1531 rfl ?_
                refine xi_iload (pc' := 25) (x := 6) kc_196_23 rfl rfl ?_
                refine xi_aload_n (pc' := 26) (x := 1000000) kc_196_25 rfl rfl ?_
                refine xi_arraylength (pc' := 27) (n := 6) (v := 6) kc_196_26 rfl (xl_lenO (by decide) hov0 rfl) rfl ?_
                refine xi_bipush (pc' := 29) (v := 6) kc_196_27 rfl rfl ?_
                refine xi_isub (pc' := 30) (v := 0) kc_196_29 rfl rfl ?_
                refine xi_cmt (pc' := 1534) kc_196_30 rfl rfl ?_
                refine xi_iconst (pc' := 1535) (v := 1) kc_196_1534 rfl rfl ?_
                refine xi_ireturn kc_196_1535 mr_196 rfl ?_
                refine ⟨rfl, ?_, ?_⟩
                · rw [eh3.2.2.1, eh2.2.2.1, eh1.2.2.1]; exact hn0
                · rw [eh3.2.2.2, eh2.2.2.2, eh1.2.2.2]; exact hz0
            · refine xi_iff (pc' := 24) kc_104_21 rfl (xc_ge_f (X := a3.toInt) (Y := 0) rfl (by decide) (by omega)) ?_
              refine xi_aload_n (pc' := 25) (x := 0) kc_104_24 rfl rfl ?_
              refine xi_bipush (pc' := 27) (v := (-4)) kc_104_25 rfl rfl ?_
              refine xi_virtual (mj := 91) (as := [.int (-4)]) (st1 := []) (lv0 := [(0, .ref 0), (1, .int (-4))]) kc_104_27 rfl rfl rfl rfl rfl (F 0 _ hl_0) (Nat.le_of_ble_eq_true rfl) (hJ _ _ _ _ (by decide)) (xm_le ml_91 rfl) rfl ?_
              refine xi_iload_n (pc' := 1) (x := (-4)) kc_91_0 rfl rfl ?_
              refine xi_ineg (pc' := 2) (v := 4) kc_91_1 rfl rfl ?_
              refine xi_istore_n (pc' := 3) (lv' := [(2, .int 4), (0, .ref 0), (1, .int (-4))]) kc_91_2 rfl rfl (xm_lt ml_91 rfl) ?_
              refine xi_iload_n (pc' := 4) (x := 4) kc_91_3 rfl rfl ?_
              refine xi_iff (pc' := 7) kc_91_4 rfl rfl ?_
              refine xi_iload_n (pc' := 8) (x := 4) kc_91_7 rfl rfl ?_
              refine xi_aload_n (pc' := 9) (x := 0) kc_91_8 rfl rfl ?_
              refine xi_getfield (pc' := 12) (v := .ref 94) kc_91_9 rfl rfl rfl (F 0 _ hl_0) rfl ?_
              refine xi_arraylength (pc' := 13) (n := 7) (v := 7) kc_91_12 rfl (xl_lenI (by decide) (by decide) (F 94 _ hl_94) (by simp only [List.length_replicate, List.length_cons, List.length_nil])) rfl ?_
              refine xi_cmf (pc' := 16) kc_91_13 rfl rfl ?_
              refine xi_aload_n (pc' := 17) (x := 0) kc_91_16 rfl rfl ?_
              refine xi_getfield (pc' := 20) (v := .ref 94) kc_91_17 rfl rfl rfl (F 0 _ hl_0) rfl ?_
              refine xi_iload_n (pc' := 21) (x := 4) kc_91_20 rfl rfl ?_
              refine xi_dup2 (pc' := 22) kc_91_21 rfl ⟨rfl, rfl⟩ ?_
              refine xi_iaload (pc' := 23) (v := 0) kc_91_22 rfl (F 94 _ hl_94) (by decide) rfl (xi_in (n := 7) (by decide) (by decide)) rfl ?_
              refine xi_iconst (pc' := 24) (v := 1) kc_91_23 rfl rfl ?_
              refine xi_iadd (pc' := 25) (v := 1) kc_91_24 rfl rfl ?_
              refine xi_iastore (pc' := 26) (x' := [0, 0, 0, 0, 1, 0, 0]) kc_91_25 rfl (F 94 _ hl_94) rfl (xi_in (n := 7) (by decide) (by decide)) rfl (fun hh1 eh1 => ?_)
              refine xi_iload_n (pc' := 27) (x := (-4)) kc_91_26 rfl rfl ?_
              refine xi_ireturn kc_91_27 mr_91 rfl ?_
              show xw J ov 99 104 (30, [(0, .ref 0), (1, .int a1), (2, .int a2), (3, .int a3), (4, .int 0)], [.int (-4)], hh1) _
              refine xi_ireturn kc_104_30 mr_104 rfl ?_
              show xw J ov 100 196 (437, [(4, .int 0), (3, .ref 167), (2, .ref 115), (1, .ref 0), (0, .ref 1000000)], [.int (-4)], hh1) _
              refine xi_aload_n (pc' := 438) (x := 115) kc_196_437 rfl rfl ?_
              refine xi_aload_n (pc' := 439) (x := 1000000) kc_196_438 rfl rfl ?_
              refine xi_iload (pc' := 441) (x := 0) kc_196_439 rfl rfl ?_
              refine xi_iconst (pc' := 442) (v := 1) kc_196_441 rfl rfl ?_
              refine xi_iadd (pc' := 443) (v := 1) kc_196_442 rfl rfl ?_
              refine xi_ialoadO (pc' := 444) (v := a1) kc_196_443 rfl (by decide) hov0 (xi_in (n := 6) (by decide) (by decide)) rfl ?_
              refine xi_aload_n (pc' := 445) (x := 1000000) kc_196_444 rfl rfl ?_
              refine xi_iload (pc' := 447) (x := 0) kc_196_445 rfl rfl ?_
              refine xi_iconst (pc' := 448) (v := 2) kc_196_447 rfl rfl ?_
              refine xi_iadd (pc' := 449) (v := 2) kc_196_448 rfl rfl ?_
              refine xi_ialoadO (pc' := 450) (v := a2) kc_196_449 rfl (by decide) hov0 (xi_in (n := 6) (by decide) (by decide)) rfl ?_
              refine xi_aload_n (pc' := 451) (x := 1000000) kc_196_450 rfl rfl ?_
              refine xi_iload (pc' := 453) (x := 0) kc_196_451 rfl rfl ?_
              refine xi_iconst (pc' := 454) (v := 3) kc_196_453 rfl rfl ?_
              refine xi_iadd (pc' := 455) (v := 3) kc_196_454 rfl rfl ?_
              refine xi_ialoadO (pc' := 456) (v := a3) kc_196_455 rfl (by decide) hov0 (xi_in (n := 6) (by decide) (by decide)) rfl ?_
              refine xi_aload_n (pc' := 457) (x := 1000000) kc_196_456 rfl rfl ?_
              refine xi_iload (pc' := 459) (x := 0) kc_196_457 rfl rfl ?_
              refine xi_iconst (pc' := 460) (v := 4) kc_196_459 rfl rfl ?_
              refine xi_iadd (pc' := 461) (v := 4) kc_196_460 rfl rfl ?_
              refine xi_ialoadO (pc' := 462) (v := a4) kc_196_461 rfl (by decide) hov0 (xi_in (n := 6) (by decide) (by decide)) rfl ?_
              refine xi_ift (pc' := 469) kc_196_462 rfl (xc_eq_t (X := a4.toInt) (Y := 0) rfl (by decide) (by omega)) ?_
              refine xi_iconst (pc' := 470) (v := 0) kc_196_469 rfl rfl ?_
              refine xi_virtual (mj := 24) (as := [.int a1, .int a2, .int a3, .int 0]) (st1 := [.int (-4)]) (lv0 := [(0, .ref 115), (1, .int a1), (2, .int a2), (3, .int a3), (4, .int 0)]) kc_196_470 rfl rfl rfl rfl rfl ((eh1.2.1 115 (by decide)).trans (F 115 _ hl_115)) (Nat.le_of_ble_eq_true rfl) (hJ _ _ _ _ (by decide)) (xm_le ml_24 rfl) rfl ?_
              refine xi_aload_n (pc' := 1) (x := 115) kc_24_0 rfl rfl ?_
              refine xi_iconst (pc' := 2) (v := 0) kc_24_1 rfl rfl ?_
              refine xi_putfield (pc' := 5) (fs' := [.int 0, .int 0, .ref 116, .ref 117, .ref 118, .ref 119, .ref 120, .ref 121, .ref 122, .ref 123, .ref 124, .ref 125, .ref 126, .ref 127, .ref 128, .ref 129, .int 4, .ref 130, .int 0, .ref 131, .ref 132, .ref 133, .ref 134, .int 0, .ref 135, .ref 136, .ref 137, .ref 138, .ref 139, .ref 140, .ref 141, .ref 142, .int 0, .int 0, .int 0, .ref 143, .ref 144, .ref 145, .ref 146, .ref 147, .ref 148, .int 0, .ref 149, .ref 150, .ref 151, .int 0, .ref 152, .ref 153, .ref 154, .ref 155, .ref 156, .ref 157, .ref 158, .ref 159, .int 0, .ref 160, .int 0, .ref 161, .ref 162, .ref 163, .ref 164, .int 0, .ref 165, .ref 166]) kc_24_2 rfl rfl rfl ((eh1.2.1 115 (by decide)).trans (F 115 _ hl_115)) rfl rfl rfl (Nat.le_of_ble_eq_true rfl) rfl (fun hh2 eh2 => ?_)
              refine xi_iload_n (pc' := 6) (x := a1) kc_24_5 rfl rfl ?_
              refine xi_static (mj := 25) (as := [.int a1]) (st1 := []) (lv0 := [(0, .int a1)]) kc_24_6 rfl rfl (Nat.le_of_ble_eq_true rfl) rfl rfl (Nat.le_of_ble_eq_true rfl) (hJ _ _ _ _ (by decide)) (xm_le ml_25 rfl) rfl ?_
              refine xi_iload_n (pc' := 1) (x := a1) kc_25_0 rfl rfl ?_
              refine xi_iconst (pc' := 2) (v := 0) kc_25_1 rfl rfl ?_
              refine xi_bipush (pc' := 4) (v := 11) kc_25_2 rfl rfl ?_
              refine xi_static (mj := 12) (as := [.int a1, .int 0, .int 11]) (st1 := []) (lv0 := [(0, .int a1), (1, .int 0), (2, .int 11)]) kc_25_4 rfl rfl (Nat.le_of_ble_eq_true rfl) rfl rfl (Nat.le_of_ble_eq_true rfl) (hJ _ _ _ _ (by decide)) (xm_le ml_12 rfl) rfl ?_
              refine xi_iload_n (pc' := 1) (x := a1) kc_12_0 rfl rfl ?_
              refine xi_iload_n (pc' := 2) (x := 0) kc_12_1 rfl rfl ?_
              refine xi_cmf (pc' := 5) kc_12_2 rfl (xc_lt_f (X := a1.toInt) (Y := 0) rfl (by decide) (by omega)) ?_
              refine xi_iload_n (pc' := 6) (x := a1) kc_12_5 rfl rfl ?_
              refine xi_iload_n (pc' := 7) (x := 11) kc_12_6 rfl rfl ?_
              refine xi_cmf (pc' := 10) kc_12_7 rfl (xc_gt_f (X := a1.toInt) (Y := 11) rfl (by decide) (by omega)) ?_
              refine xi_iconst (pc' := 11) (v := 1) kc_12_10 rfl rfl ?_
              refine xi_goto (pc' := 15) kc_12_11 rfl ?_
              refine xi_ireturn kc_12_15 mr_12 rfl ?_
              show xw J ov 98 25 (7, [(0, .int a1)], [.int 1], hh2) _
              refine xi_ireturn kc_25_7 mr_25 rfl ?_
              show xw J ov 99 24 (9, [(0, .ref 115), (1, .int a1), (2, .int a2), (3, .int a3), (4, .int 0)], [.int 1], hh2) _
              refine xi_iff (pc' := 12) kc_24_9 rfl rfl ?_
              refine xi_iload_n (pc' := 13) (x := a2) kc_24_12 rfl rfl ?_
              refine xi_static (mj := 11) (as := [.int a2]) (st1 := []) (lv0 := [(0, .int a2)]) kc_24_13 rfl rfl (Nat.le_of_ble_eq_true rfl) rfl rfl (Nat.le_of_ble_eq_true rfl) (hJ _ _ _ _ (by decide)) (xm_le ml_11 rfl) rfl ?_
              refine xi_iload_n (pc' := 1) (x := a2) kc_11_0 rfl rfl ?_
              refine xi_iconst (pc' := 2) (v := 0) kc_11_1 rfl rfl ?_
              refine xi_iconst (pc' := 3) (v := 5) kc_11_2 rfl rfl ?_
              refine xi_static (mj := 12) (as := [.int a2, .int 0, .int 5]) (st1 := []) (lv0 := [(0, .int a2), (1, .int 0), (2, .int 5)]) kc_11_3 rfl rfl (Nat.le_of_ble_eq_true rfl) rfl rfl (Nat.le_of_ble_eq_true rfl) (hJ _ _ _ _ (by decide)) (xm_le ml_12 rfl) rfl ?_
              refine xi_iload_n (pc' := 1) (x := a2) kc_12_0 rfl rfl ?_
              refine xi_iload_n (pc' := 2) (x := 0) kc_12_1 rfl rfl ?_
              refine xi_cmf (pc' := 5) kc_12_2 rfl (xc_lt_f (X := a2.toInt) (Y := 0) rfl (by decide) (by omega)) ?_
              refine xi_iload_n (pc' := 6) (x := a2) kc_12_5 rfl rfl ?_
              refine xi_iload_n (pc' := 7) (x := 5) kc_12_6 rfl rfl ?_
              refine xi_cmf (pc' := 10) kc_12_7 rfl (xc_gt_f (X := a2.toInt) (Y := 5) rfl (by decide) (by omega)) ?_
              refine xi_iconst (pc' := 11) (v := 1) kc_12_10 rfl rfl ?_
              refine xi_goto (pc' := 15) kc_12_11 rfl ?_
              refine xi_ireturn kc_12_15 mr_12 rfl ?_
              show xw J ov 98 11 (6, [(0, .int a2)], [.int 1], hh2) _
              refine xi_ireturn kc_11_6 mr_11 rfl ?_
              show xw J ov 99 24 (16, [(0, .ref 115), (1, .int a1), (2, .int a2), (3, .int a3), (4, .int 0)], [.int 1], hh2) _
              refine xi_ift (pc' := 25) kc_24_16 rfl rfl ?_
              refine xi_iload_n (pc' := 26) (x := a3) kc_24_25 rfl rfl ?_
              refine xi_iff (pc' := 29) kc_24_26 rfl (xc_ge_f (X := a3.toInt) (Y := 0) rfl (by decide) (by omega)) ?_
              refine xi_aload_n (pc' := 30) (x := 115) kc_24_29 rfl rfl ?_
              refine xi_bipush (pc' := 32) (v := (-4)) kc_24_30 rfl rfl ?_
              refine xi_virtual (mj := 13) (as := [.int (-4)]) (st1 := []) (lv0 := [(0, .ref 115), (1, .int (-4))]) kc_24_32 rfl rfl rfl rfl rfl eh2.1 (Nat.le_of_ble_eq_true rfl) (hJ _ _ _ _ (by decide)) (xm_le ml_13 rfl) rfl ?_
              refine xi_aload_n (pc' := 1) (x := 115) kc_13_0 rfl rfl ?_
              refine xi_getfield (pc' := 4) (v := .ref 140) kc_13_1 rfl rfl rfl eh2.1 rfl ?_
              refine xi_iload_n (pc' := 5) (x := (-4)) kc_13_4 rfl rfl ?_
              refine xi_ineg (pc' := 6) (v := 4) kc_13_5 rfl rfl ?_
              refine xi_dup2 (pc' := 7) kc_13_6 rfl ⟨rfl, rfl⟩ ?_
              refine xi_iaload (pc' := 8) (v := 0) kc_13_7 rfl ((eh2.2.1 140 (by decide)).trans ((eh1.2.1 140 (by decide)).trans (F 140 _ hl_140))) (by decide) rfl (xi_in (n := 7) (by decide) (by decide)) rfl ?_
              refine xi_iconst (pc' := 9) (v := 1) kc_13_8 rfl rfl ?_
              refine xi_iadd (pc' := 10) (v := 1) kc_13_9 rfl rfl ?_
              refine xi_iastore (pc' := 11) (x' := [0, 0, 0, 0, 1, 0, 0]) kc_13_10 rfl ((eh2.2.1 140 (by decide)).trans ((eh1.2.1 140 (by decide)).trans (F 140 _ hl_140))) rfl (xi_in (n := 7) (by decide) (by decide)) rfl (fun hh3 eh3 => ?_)
              refine xi_iload_n (pc' := 12) (x := (-4)) kc_13_11 rfl rfl ?_
              refine xi_ireturn kc_13_12 mr_13 rfl ?_
              show xw J ov 99 24 (35, [(0, .ref 115), (1, .int a1), (2, .int a2), (3, .int a3), (4, .int 0)], [.int (-4)], hh3) _
              refine xi_ireturn kc_24_35 mr_24 rfl ?_
              show xw J ov 100 196 (473, [(4, .int 0), (3, .ref 167), (2, .ref 115), (1, .ref 0), (0, .ref 1000000)], [.int (-4), .int (-4)], hh3) _
              refine xi_cmt (pc' := 1528) kc_196_473 rfl rfl ?_
              refine xi_iinc (pc' := 1531) (x := 0) (v := 6) (lv' := [(4, .int 6), (3, .ref 167), (2, .ref 115), (1, .ref 0), (0, .ref 1000000)]) kc_196_1528 rfl rfl rfl rfl (xm_lt ml_196 rfl) ?_
              refine xi_goto (pc' := 23) kc_196_1531 rfl ?_
              refine xi_iload (pc' := 25) (x := 6) kc_196_23 rfl rfl ?_
              refine xi_aload_n (pc' := 26) (x := 1000000) kc_196_25 rfl rfl ?_
              refine xi_arraylength (pc' := 27) (n := 6) (v := 6) kc_196_26 rfl (xl_lenO (by decide) hov0 rfl) rfl ?_
              refine xi_bipush (pc' := 29) (v := 6) kc_196_27 rfl rfl ?_
              refine xi_isub (pc' := 30) (v := 0) kc_196_29 rfl rfl ?_
              refine xi_cmt (pc' := 1534) kc_196_30 rfl rfl ?_
              refine xi_iconst (pc' := 1535) (v := 1) kc_196_1534 rfl rfl ?_
              refine xi_ireturn kc_196_1535 mr_196 rfl ?_
              refine ⟨rfl, ?_, ?_⟩
              · rw [eh3.2.2.1, eh2.2.2.1, eh1.2.2.1]; exact hn0
              · rw [eh3.2.2.2, eh2.2.2.2, eh1.2.2.2]; exact hz0
  · refine xi_iff (pc' := 429) kc_196_426 rfl (xc_eq_f (X := a4.toInt) (Y := 0) rfl (by decide) (by omega)) ?_
    refine xi_iconst (pc' := 430) (v := 1) kc_196_429 rfl rfl ?_
    refine xi_goto (pc' := 434) kc_196_430 rfl ?_
    refine xi_virtual (mj := 104) (as := [.int a1, .int a2, .int a3, .int 1]) (st1 := []) (lv0 := [(0, .ref 0), (1, .int a1), (2, .int a2), (3, .int a3), (4, .int 1)]) kc_196_434 rfl rfl rfl rfl rfl (F 0 _ hl_0) (Nat.le_of_ble_eq_true rfl) (hJ _ _ _ _ (by decide)) (xm_le ml_104 rfl) rfl ?_
    refine xi_iload_n (pc' := 1) (x := a1) kc_104_0 rfl rfl ?_
    refine xi_static (mj := 105) (as := [.int a1]) (st1 := []) (lv0 := [(0, .int a1)]) kc_104_1 rfl rfl (Nat.le_of_ble_eq_true rfl) rfl rfl (Nat.le_of_ble_eq_true rfl) (hJ _ _ _ _ (by decide)) (xm_le ml_105 rfl) rfl ?_
    refine xi_iload_n (pc' := 1) (x := a1) kc_105_0 rfl rfl ?_
    by_cases c19 : a1.toInt < 0
    · refine xi_ift (pc' := 14) kc_105_1 rfl (xc_lt_t (X := a1.toInt) (Y := 0) rfl (by decide) (by omega)) ?_
      refine xi_iconst (pc' := 15) (v := 0) kc_105_14 rfl rfl ?_
      refine xi_ireturn kc_105_15 mr_105 rfl ?_
      show xw J ov 99 104 (4, [(0, .ref 0), (1, .int a1), (2, .int a2), (3, .int a3), (4, .int 1)], [.int 0], h0) _
      refine xi_ift (pc' := 14) kc_104_4 rfl rfl ?_
      refine xi_aload_n (pc' := 15) (x := 0) kc_104_14 rfl rfl ?_
      refine xi_iconst (pc' := 16) (v := (-1)) kc_104_15 rfl rfl ?_
      refine xi_virtual (mj := 91) (as := [.int (-1)]) (st1 := []) (lv0 := [(0, .ref 0), (1, .int (-1))]) kc_104_16 rfl rfl rfl rfl rfl (F 0 _ hl_0) (Nat.le_of_ble_eq_true rfl) (hJ _ _ _ _ (by decide)) (xm_le ml_91 rfl) rfl ?_
      refine xi_iload_n (pc' := 1) (x := (-1)) kc_91_0 rfl rfl ?_
      refine xi_ineg (pc' := 2) (v := 1) kc_91_1 rfl rfl ?_
      refine xi_istore_n (pc' := 3) (lv' := [(2, .int 1), (0, .ref 0), (1, .int (-1))]) kc_91_2 rfl rfl (xm_lt ml_91 rfl) ?_
      refine xi_iload_n (pc' := 4) (x := 1) kc_91_3 rfl rfl ?_
      refine xi_iff (pc' := 7) kc_91_4 rfl rfl ?_
      refine xi_iload_n (pc' := 8) (x := 1) kc_91_7 rfl rfl ?_
      refine xi_aload_n (pc' := 9) (x := 0) kc_91_8 rfl rfl ?_
      refine xi_getfield (pc' := 12) (v := .ref 94) kc_91_9 rfl rfl rfl (F 0 _ hl_0) rfl ?_
      refine xi_arraylength (pc' := 13) (n := 7) (v := 7) kc_91_12 rfl (xl_lenI (by decide) (by decide) (F 94 _ hl_94) (by simp only [List.length_replicate, List.length_cons, List.length_nil])) rfl ?_
      refine xi_cmf (pc' := 16) kc_91_13 rfl rfl ?_
      refine xi_aload_n (pc' := 17) (x := 0) kc_91_16 rfl rfl ?_
      refine xi_getfield (pc' := 20) (v := .ref 94) kc_91_17 rfl rfl rfl (F 0 _ hl_0) rfl ?_
      refine xi_iload_n (pc' := 21) (x := 1) kc_91_20 rfl rfl ?_
      refine xi_dup2 (pc' := 22) kc_91_21 rfl ⟨rfl, rfl⟩ ?_
      refine xi_iaload (pc' := 23) (v := 0) kc_91_22 rfl (F 94 _ hl_94) (by decide) rfl (xi_in (n := 7) (by decide) (by decide)) rfl ?_
      refine xi_iconst (pc' := 24) (v := 1) kc_91_23 rfl rfl ?_
      refine xi_iadd (pc' := 25) (v := 1) kc_91_24 rfl rfl ?_
      refine xi_iastore (pc' := 26) (x' := [0, 1, 0, 0, 0, 0, 0]) kc_91_25 rfl (F 94 _ hl_94) rfl (xi_in (n := 7) (by decide) (by decide)) rfl (fun hh1 eh1 => ?_)
      refine xi_iload_n (pc' := 27) (x := (-1)) kc_91_26 rfl rfl ?_
      refine xi_ireturn kc_91_27 mr_91 rfl ?_
      show xw J ov 99 104 (19, [(0, .ref 0), (1, .int a1), (2, .int a2), (3, .int a3), (4, .int 1)], [.int (-1)], hh1) _
      refine xi_ireturn kc_104_19 mr_104 rfl ?_
      show xw J ov 100 196 (437, [(4, .int 0), (3, .ref 167), (2, .ref 115), (1, .ref 0), (0, .ref 1000000)], [.int (-1)], hh1) _
      refine xi_aload_n (pc' := 438) (x := 115) kc_196_437 rfl rfl ?_
      refine xi_aload_n (pc' := 439) (x := 1000000) kc_196_438 rfl rfl ?_
      refine xi_iload (pc' := 441) (x := 0) kc_196_439 rfl rfl ?_
      refine xi_iconst (pc' := 442) (v := 1) kc_196_441 rfl rfl ?_
      refine xi_iadd (pc' := 443) (v := 1) kc_196_442 rfl rfl ?_
      refine xi_ialoadO (pc' := 444) (v := a1) kc_196_443 rfl (by decide) hov0 (xi_in (n := 6) (by decide) (by decide)) rfl ?_
      refine xi_aload_n (pc' := 445) (x := 1000000) kc_196_444 rfl rfl ?_
      refine xi_iload (pc' := 447) (x := 0) kc_196_445 rfl rfl ?_
      refine xi_iconst (pc' := 448) (v := 2) kc_196_447 rfl rfl ?_
      refine xi_iadd (pc' := 449) (v := 2) kc_196_448 rfl rfl ?_
      refine xi_ialoadO (pc' := 450) (v := a2) kc_196_449 rfl (by decide) hov0 (xi_in (n := 6) (by decide) (by decide)) rfl ?_
      refine xi_aload_n (pc' := 451) (x := 1000000) kc_196_450 rfl rfl ?_
      refine xi_iload (pc' := 453) (x := 0) kc_196_451 rfl rfl ?_
      refine xi_iconst (pc' := 454) (v := 3) kc_196_453 rfl rfl ?_
      refine xi_iadd (pc' := 455) (v := 3) kc_196_454 rfl rfl ?_
      refine xi_ialoadO (pc' := 456) (v := a3) kc_196_455 rfl (by decide) hov0 (xi_in (n := 6) (by decide) (by decide)) rfl ?_
      refine xi_aload_n (pc' := 457) (x := 1000000) kc_196_456 rfl rfl ?_
      refine xi_iload (pc' := 459) (x := 0) kc_196_457 rfl rfl ?_
      refine xi_iconst (pc' := 460) (v := 4) kc_196_459 rfl rfl ?_
      refine xi_iadd (pc' := 461) (v := 4) kc_196_460 rfl rfl ?_
      refine xi_ialoadO (pc' := 462) (v := a4) kc_196_461 rfl (by decide) hov0 (xi_in (n := 6) (by decide) (by decide)) rfl ?_
      refine xi_iff (pc' := 465) kc_196_462 rfl (xc_eq_f (X := a4.toInt) (Y := 0) rfl (by decide) (by omega)) ?_
      refine xi_iconst (pc' := 466) (v := 1) kc_196_465 rfl rfl ?_
      refine xi_goto (pc' := 470) kc_196_466 rfl ?_
      refine xi_virtual (mj := 24) (as := [.int a1, .int a2, .int a3, .int 1]) (st1 := [.int (-1)]) (lv0 := [(0, .ref 115), (1, .int a1), (2, .int a2), (3, .int a3), (4, .int 1)]) kc_196_470 rfl rfl rfl rfl rfl ((eh1.2.1 115 (by decide)).trans (F 115 _ hl_115)) (Nat.le_of_ble_eq_true rfl) (hJ _ _ _ _ (by decide)) (xm_le ml_24 rfl) rfl ?_
      refine xi_aload_n (pc' := 1) (x := 115) kc_24_0 rfl rfl ?_
      refine xi_iconst (pc' := 2) (v := 0) kc_24_1 rfl rfl ?_
      refine xi_putfield (pc' := 5) (fs' := [.int 0, .int 0, .ref 116, .ref 117, .ref 118, .ref 119, .ref 120, .ref 121, .ref 122, .ref 123, .ref 124, .ref 125, .ref 126, .ref 127, .ref 128, .ref 129, .int 4, .ref 130, .int 0, .ref 131, .ref 132, .ref 133, .ref 134, .int 0, .ref 135, .ref 136, .ref 137, .ref 138, .ref 139, .ref 140, .ref 141, .ref 142, .int 0, .int 0, .int 0, .ref 143, .ref 144, .ref 145, .ref 146, .ref 147, .ref 148, .int 0, .ref 149, .ref 150, .ref 151, .int 0, .ref 152, .ref 153, .ref 154, .ref 155, .ref 156, .ref 157, .ref 158, .ref 159, .int 0, .ref 160, .int 0, .ref 161, .ref 162, .ref 163, .ref 164, .int 0, .ref 165, .ref 166]) kc_24_2 rfl rfl rfl ((eh1.2.1 115 (by decide)).trans (F 115 _ hl_115)) rfl rfl rfl (Nat.le_of_ble_eq_true rfl) rfl (fun hh2 eh2 => ?_)
      refine xi_iload_n (pc' := 6) (x := a1) kc_24_5 rfl rfl ?_
      refine xi_static (mj := 25) (as := [.int a1]) (st1 := []) (lv0 := [(0, .int a1)]) kc_24_6 rfl rfl (Nat.le_of_ble_eq_true rfl) rfl rfl (Nat.le_of_ble_eq_true rfl) (hJ _ _ _ _ (by decide)) (xm_le ml_25 rfl) rfl ?_
      refine xi_iload_n (pc' := 1) (x := a1) kc_25_0 rfl rfl ?_
      refine xi_iconst (pc' := 2) (v := 0) kc_25_1 rfl rfl ?_
      refine xi_bipush (pc' := 4) (v := 11) kc_25_2 rfl rfl ?_
      refine xi_static (mj := 12) (as := [.int a1, .int 0, .int 11]) (st1 := []) (lv0 := [(0, .int a1), (1, .int 0), (2, .int 11)]) kc_25_4 rfl rfl (Nat.le_of_ble_eq_true rfl) rfl rfl (Nat.le_of_ble_eq_true rfl) (hJ _ _ _ _ (by decide)) (xm_le ml_12 rfl) rfl ?_
      refine xi_iload_n (pc' := 1) (x := a1) kc_12_0 rfl rfl ?_
      refine xi_iload_n (pc' := 2) (x := 0) kc_12_1 rfl rfl ?_
      refine xi_cmt (pc' := 14) kc_12_2 rfl (xc_lt_t (X := a1.toInt) (Y := 0) rfl (by decide) (by omega)) ?_
      refine xi_iconst (pc' := 15) (v := 0) kc_12_14 rfl rfl ?_
      refine xi_ireturn kc_12_15 mr_12 rfl ?_
      show xw J ov 98 25 (7, [(0, .int a1)], [.int 0], hh2) _
      refine xi_ireturn kc_25_7 mr_25 rfl ?_
      show xw J ov 99 24 (9, [(0, .ref 115), (1, .int a1), (2, .int a2), (3, .int a3), (4, .int 1)], [.int 0], hh2) _
      refine xi_ift (pc' := 19) kc_24_9 rfl rfl ?_
      refine xi_aload_n (pc' := 20) (x := 115) kc_24_19 rfl rfl ?_
      refine xi_iconst (pc' := 21) (v := (-1)) kc_24_20 rfl rfl ?_
      refine xi_virtual (mj := 13) (as := [.int (-1)]) (st1 := []) (lv0 := [(0, .ref 115), (1, .int (-1))]) kc_24_21 rfl rfl rfl rfl rfl eh2.1 (Nat.le_of_ble_eq_true rfl) (hJ _ _ _ _ (by decide)) (xm_le ml_13 rfl) rfl ?_
      refine xi_aload_n (pc' := 1) (x := 115) kc_13_0 rfl rfl ?_
      refine xi_getfield (pc' := 4) (v := .ref 140) kc_13_1 rfl rfl rfl eh2.1 rfl ?_
      refine xi_iload_n (pc' := 5) (x := (-1)) kc_13_4 rfl rfl ?_
      refine xi_ineg (pc' := 6) (v := 1) kc_13_5 rfl rfl ?_
      refine xi_dup2 (pc' := 7) kc_13_6 rfl ⟨rfl, rfl⟩ ?_
      refine xi_iaload (pc' := 8) (v := 0) kc_13_7 rfl ((eh2.2.1 140 (by decide)).trans ((eh1.2.1 140 (by decide)).trans (F 140 _ hl_140))) (by decide) rfl (xi_in (n := 7) (by decide) (by decide)) rfl ?_
      refine xi_iconst (pc' := 9) (v := 1) kc_13_8 rfl rfl ?_
      refine xi_iadd (pc' := 10) (v := 1) kc_13_9 rfl rfl ?_
      refine xi_iastore (pc' := 11) (x' := [0, 1, 0, 0, 0, 0, 0]) kc_13_10 rfl ((eh2.2.1 140 (by decide)).trans ((eh1.2.1 140 (by decide)).trans (F 140 _ hl_140))) rfl (xi_in (n := 7) (by decide) (by decide)) rfl (fun hh3 eh3 => ?_)
      refine xi_iload_n (pc' := 12) (x := (-1)) kc_13_11 rfl rfl ?_
      refine xi_ireturn kc_13_12 mr_13 rfl ?_
      show xw J ov 99 24 (24, [(0, .ref 115), (1, .int a1), (2, .int a2), (3, .int a3), (4, .int 1)], [.int (-1)], hh3) _
      refine xi_ireturn kc_24_24 mr_24 rfl ?_
      show xw J ov 100 196 (473, [(4, .int 0), (3, .ref 167), (2, .ref 115), (1, .ref 0), (0, .ref 1000000)], [.int (-1), .int (-1)], hh3) _
      refine xi_cmt (pc' := 1528) kc_196_473 rfl rfl ?_
      refine xi_iinc (pc' := 1531) (x := 0) (v := 6) (lv' := [(4, .int 6), (3, .ref 167), (2, .ref 115), (1, .ref 0), (0, .ref 1000000)]) kc_196_1528 rfl rfl rfl rfl (xm_lt ml_196 rfl) ?_
      refine xi_goto (pc' := 23) kc_196_1531 rfl ?_
      refine xi_iload (pc' := 25) (x := 6) kc_196_23 rfl rfl ?_
      refine xi_aload_n (pc' := 26) (x := 1000000) kc_196_25 rfl rfl ?_
      refine xi_arraylength (pc' := 27) (n := 6) (v := 6) kc_196_26 rfl (xl_lenO (by decide) hov0 rfl) rfl ?_
      refine xi_bipush (pc' := 29) (v := 6) kc_196_27 rfl rfl ?_
      refine xi_isub (pc' := 30) (v := 0) kc_196_29 rfl rfl ?_
      refine xi_cmt (pc' := 1534) kc_196_30 rfl rfl ?_
      refine xi_iconst (pc' := 1535) (v := 1) kc_196_1534 rfl rfl ?_
      refine xi_ireturn kc_196_1535 mr_196 rfl ?_
      refine ⟨rfl, ?_, ?_⟩
      · rw [eh3.2.2.1, eh2.2.2.1, eh1.2.2.1]; exact hn0
      · rw [eh3.2.2.2, eh2.2.2.2, eh1.2.2.2]; exact hz0
    · refine xi_iff (pc' := 4) kc_105_1 rfl (xc_lt_f (X := a1.toInt) (Y := 0) rfl (by decide) (by omega)) ?_
      refine xi_iload_n (pc' := 5) (x := a1) kc_105_4 rfl rfl ?_
      refine xi_bipush (pc' := 7) (v := 12) kc_105_5 rfl rfl ?_
      by_cases c20 : 12 ≤ a1.toInt
      · refine xi_cmt (pc' := 14) kc_105_7 rfl (xc_ge_t (X := a1.toInt) (Y := 12) rfl (by decide) (by omega)) ?_
        refine xi_iconst (pc' := 15) (v := 0) kc_105_14 rfl rfl ?_
        refine xi_ireturn kc_105_15 mr_105 rfl ?_
        show xw J ov 99 104 (4, [(0, .ref 0), (1, .int a1), (2, .int a2), (3, .int a3), (4, .int 1)], [.int 0], h0) _
        refine xi_ift (pc' := 14) kc_104_4 rfl rfl ?_
        refine xi_aload_n (pc' := 15) (x := 0) kc_104_14 rfl rfl ?_
        refine xi_iconst (pc' := 16) (v := (-1)) kc_104_15 rfl rfl ?_
        refine xi_virtual (mj := 91) (as := [.int (-1)]) (st1 := []) (lv0 := [(0, .ref 0), (1, .int (-1))]) kc_104_16 rfl rfl rfl rfl rfl (F 0 _ hl_0) (Nat.le_of_ble_eq_true rfl) (hJ _ _ _ _ (by decide)) (xm_le ml_91 rfl) rfl ?_
        refine xi_iload_n (pc' := 1) (x := (-1)) kc_91_0 rfl rfl ?_
        refine xi_ineg (pc' := 2) (v := 1) kc_91_1 rfl rfl ?_
        refine xi_istore_n (pc' := 3) (lv' := [(2, .int 1), (0, .ref 0), (1, .int (-1))]) kc_91_2 rfl rfl (xm_lt ml_91 rfl) ?_
        refine xi_iload_n (pc' := 4) (x := 1) kc_91_3 rfl rfl ?_
        refine xi_iff (pc' := 7) kc_91_4 rfl rfl ?_
        refine xi_iload_n (pc' := 8) (x := 1) kc_91_7 rfl rfl ?_
        refine xi_aload_n (pc' := 9) (x := 0) kc_91_8 rfl rfl ?_
        refine xi_getfield (pc' := 12) (v := .ref 94) kc_91_9 rfl rfl rfl (F 0 _ hl_0) rfl ?_
        refine xi_arraylength (pc' := 13) (n := 7) (v := 7) kc_91_12 rfl (xl_lenI (by decide) (by decide) (F 94 _ hl_94) (by simp only [List.length_replicate, List.length_cons, List.length_nil])) rfl ?_
        refine xi_cmf (pc' := 16) kc_91_13 rfl rfl ?_
        refine xi_aload_n (pc' := 17) (x := 0) kc_91_16 rfl rfl ?_
        refine xi_getfield (pc' := 20) (v := .ref 94) kc_91_17 rfl rfl rfl (F 0 _ hl_0) rfl ?_
        refine xi_iload_n (pc' := 21) (x := 1) kc_91_20 rfl rfl ?_
        refine xi_dup2 (pc' := 22) kc_91_21 rfl ⟨rfl, rfl⟩ ?_
        refine xi_iaload (pc' := 23) (v := 0) kc_91_22 rfl (F 94 _ hl_94) (by decide) rfl (xi_in (n := 7) (by decide) (by decide)) rfl ?_
        refine xi_iconst (pc' := 24) (v := 1) kc_91_23 rfl rfl ?_
        refine xi_iadd (pc' := 25) (v := 1) kc_91_24 rfl rfl ?_
        refine xi_iastore (pc' := 26) (x' := [0, 1, 0, 0, 0, 0, 0]) kc_91_25 rfl (F 94 _ hl_94) rfl (xi_in (n := 7) (by decide) (by decide)) rfl (fun hh1 eh1 => ?_)
        refine xi_iload_n (pc' := 27) (x := (-1)) kc_91_26 rfl rfl ?_
        refine xi_ireturn kc_91_27 mr_91 rfl ?_
        show xw J ov 99 104 (19, [(0, .ref 0), (1, .int a1), (2, .int a2), (3, .int a3), (4, .int 1)], [.int (-1)], hh1) _
        refine xi_ireturn kc_104_19 mr_104 rfl ?_
        show xw J ov 100 196 (437, [(4, .int 0), (3, .ref 167), (2, .ref 115), (1, .ref 0), (0, .ref 1000000)], [.int (-1)], hh1) _
        refine xi_aload_n (pc' := 438) (x := 115) kc_196_437 rfl rfl ?_
        refine xi_aload_n (pc' := 439) (x := 1000000) kc_196_438 rfl rfl ?_
        refine xi_iload (pc' := 441) (x := 0) kc_196_439 rfl rfl ?_
        refine xi_iconst (pc' := 442) (v := 1) kc_196_441 rfl rfl ?_
        refine xi_iadd (pc' := 443) (v := 1) kc_196_442 rfl rfl ?_
        refine xi_ialoadO (pc' := 444) (v := a1) kc_196_443 rfl (by decide) hov0 (xi_in (n := 6) (by decide) (by decide)) rfl ?_
        refine xi_aload_n (pc' := 445) (x := 1000000) kc_196_444 rfl rfl ?_
        refine xi_iload (pc' := 447) (x := 0) kc_196_445 rfl rfl ?_
        refine xi_iconst (pc' := 448) (v := 2) kc_196_447 rfl rfl ?_
        refine xi_iadd (pc' := 449) (v := 2) kc_196_448 rfl rfl ?_
        refine xi_ialoadO (pc' := 450) (v := a2) kc_196_449 rfl (by decide) hov0 (xi_in (n := 6) (by decide) (by decide)) rfl ?_
        refine xi_aload_n (pc' := 451) (x := 1000000) kc_196_450 rfl rfl ?_
        refine xi_iload (pc' := 453) (x := 0) kc_196_451 rfl rfl ?_
        refine xi_iconst (pc' := 454) (v := 3) kc_196_453 rfl rfl ?_
        refine xi_iadd (pc' := 455) (v := 3) kc_196_454 rfl rfl ?_
        refine xi_ialoadO (pc' := 456) (v := a3) kc_196_455 rfl (by decide) hov0 (xi_in (n := 6) (by decide) (by decide)) rfl ?_
        refine xi_aload_n (pc' := 457) (x := 1000000) kc_196_456 rfl rfl ?_
        refine xi_iload (pc' := 459) (x := 0) kc_196_457 rfl rfl ?_
        refine xi_iconst (pc' := 460) (v := 4) kc_196_459 rfl rfl ?_
        refine xi_iadd (pc' := 461) (v := 4) kc_196_460 rfl rfl ?_
        refine xi_ialoadO (pc' := 462) (v := a4) kc_196_461 rfl (by decide) hov0 (xi_in (n := 6) (by decide) (by decide)) rfl ?_
        refine xi_iff (pc' := 465) kc_196_462 rfl (xc_eq_f (X := a4.toInt) (Y := 0) rfl (by decide) (by omega)) ?_
        refine xi_iconst (pc' := 466) (v := 1) kc_196_465 rfl rfl ?_
        refine xi_goto (pc' := 470) kc_196_466 rfl ?_
        refine xi_virtual (mj := 24) (as := [.int a1, .int a2, .int a3, .int 1]) (st1 := [.int (-1)]) (lv0 := [(0, .ref 115), (1, .int a1), (2, .int a2), (3, .int a3), (4, .int 1)]) kc_196_470 rfl rfl rfl rfl rfl ((eh1.2.1 115 (by decide)).trans (F 115 _ hl_115)) (Nat.le_of_ble_eq_true rfl) (hJ _ _ _ _ (by decide)) (xm_le ml_24 rfl) rfl ?_
        refine xi_aload_n (pc' := 1) (x := 115) kc_24_0 rfl rfl ?_
        refine xi_iconst (pc' := 2) (v := 0) kc_24_1 rfl rfl ?_
        refine xi_putfield (pc' := 5) (fs' := [.int 0, .int 0, .ref 116, .ref 117, .ref 118, .ref 119, .ref 120, .ref 121, .ref 122, .ref 123, .ref 124, .ref 125, .ref 126, .ref 127, .ref 128, .ref 129, .int 4, .ref 130, .int 0, .ref 131, .ref 132, .ref 133, .ref 134, .int 0, .ref 135, .ref 136, .ref 137, .ref 138, .ref 139, .ref 140, .ref 141, .ref 142, .int 0, .int 0, .int 0, .ref 143, .ref 144, .ref 145, .ref 146, .ref 147, .ref 148, .int 0, .ref 149, .ref 150, .ref 151, .int 0, .ref 152, .ref 153, .ref 154, .ref 155, .ref 156, .ref 157, .ref 158, .ref 159, .int 0, .ref 160, .int 0, .ref 161, .ref 162, .ref 163, .ref 164, .int 0, .ref 165, .ref 166]) kc_24_2 rfl rfl rfl ((eh1.2.1 115 (by decide)).trans (F 115 _ hl_115)) rfl rfl rfl (Nat.le_of_ble_eq_true rfl) rfl (fun hh2 eh2 => ?_)
        refine xi_iload_n (pc' := 6) (x := a1) kc_24_5 rfl rfl ?_
        refine xi_static (mj := 25) (as := [.int a1]) (st1 := []) (lv0 := [(0, .int a1)]) kc_24_6 rfl rfl (Nat.le_of_ble_eq_true rfl) rfl rfl (Nat.le_of_ble_eq_true rfl) (hJ _ _ _ _ (by decide)) (xm_le ml_25 rfl) rfl ?_
        refine xi_iload_n (pc' := 1) (x := a1) kc_25_0 rfl rfl ?_
        refine xi_iconst (pc' := 2) (v := 0) kc_25_1 rfl rfl ?_
        refine xi_bipush (pc' := 4) (v := 11) kc_25_2 rfl rfl ?_
        refine xi_static (mj := 12) (as := [.int a1, .int 0, .int 11]) (st1 := []) (lv0 := [(0, .int a1), (1, .int 0), (2, .int 11)]) kc_25_4 rfl rfl (Nat.le_of_ble_eq_true rfl) rfl rfl (Nat.le_of_ble_eq_true rfl) (hJ _ _ _ _ (by decide)) (xm_le ml_12 rfl) rfl ?_
        refine xi_iload_n (pc' := 1) (x := a1) kc_12_0 rfl rfl ?_
        refine xi_iload_n (pc' := 2) (x := 0) kc_12_1 rfl rfl ?_
        refine xi_cmf (pc' := 5) kc_12_2 rfl (xc_lt_f (X := a1.toInt) (Y := 0) rfl (by decide) (by omega)) ?_
        refine xi_iload_n (pc' := 6) (x := a1) kc_12_5 rfl rfl ?_
        refine xi_iload_n (pc' := 7) (x := 11) kc_12_6 rfl rfl ?_
        refine xi_cmt (pc' := 14) kc_12_7 rfl (xc_gt_t (X := a1.toInt) (Y := 11) rfl (by decide) (by omega)) ?_
        refine xi_iconst (pc' := 15) (v := 0) kc_12_14 rfl rfl ?_
        refine xi_ireturn kc_12_15 mr_12 rfl ?_
        show xw J ov 98 25 (7, [(0, .int a1)], [.int 0], hh2) _
        refine xi_ireturn kc_25_7 mr_25 rfl ?_
        show xw J ov 99 24 (9, [(0, .ref 115), (1, .int a1), (2, .int a2), (3, .int a3), (4, .int 1)], [.int 0], hh2) _
        refine xi_ift (pc' := 19) kc_24_9 rfl rfl ?_
        refine xi_aload_n (pc' := 20) (x := 115) kc_24_19 rfl rfl ?_
        refine xi_iconst (pc' := 21) (v := (-1)) kc_24_20 rfl rfl ?_
        refine xi_virtual (mj := 13) (as := [.int (-1)]) (st1 := []) (lv0 := [(0, .ref 115), (1, .int (-1))]) kc_24_21 rfl rfl rfl rfl rfl eh2.1 (Nat.le_of_ble_eq_true rfl) (hJ _ _ _ _ (by decide)) (xm_le ml_13 rfl) rfl ?_
        refine xi_aload_n (pc' := 1) (x := 115) kc_13_0 rfl rfl ?_
        refine xi_getfield (pc' := 4) (v := .ref 140) kc_13_1 rfl rfl rfl eh2.1 rfl ?_
        refine xi_iload_n (pc' := 5) (x := (-1)) kc_13_4 rfl rfl ?_
        refine xi_ineg (pc' := 6) (v := 1) kc_13_5 rfl rfl ?_
        refine xi_dup2 (pc' := 7) kc_13_6 rfl ⟨rfl, rfl⟩ ?_
        refine xi_iaload (pc' := 8) (v := 0) kc_13_7 rfl ((eh2.2.1 140 (by decide)).trans ((eh1.2.1 140 (by decide)).trans (F 140 _ hl_140))) (by decide) rfl (xi_in (n := 7) (by decide) (by decide)) rfl ?_
        refine xi_iconst (pc' := 9) (v := 1) kc_13_8 rfl rfl ?_
        refine xi_iadd (pc' := 10) (v := 1) kc_13_9 rfl rfl ?_
        refine xi_iastore (pc' := 11) (x' := [0, 1, 0, 0, 0, 0, 0]) kc_13_10 rfl ((eh2.2.1 140 (by decide)).trans ((eh1.2.1 140 (by decide)).trans (F 140 _ hl_140))) rfl (xi_in (n := 7) (by decide) (by decide)) rfl (fun hh3 eh3 => ?_)
        refine xi_iload_n (pc' := 12) (x := (-1)) kc_13_11 rfl rfl ?_
        refine xi_ireturn kc_13_12 mr_13 rfl ?_
        show xw J ov 99 24 (24, [(0, .ref 115), (1, .int a1), (2, .int a2), (3, .int a3), (4, .int 1)], [.int (-1)], hh3) _
        refine xi_ireturn kc_24_24 mr_24 rfl ?_
        show xw J ov 100 196 (473, [(4, .int 0), (3, .ref 167), (2, .ref 115), (1, .ref 0), (0, .ref 1000000)], [.int (-1), .int (-1)], hh3) _
        refine xi_cmt (pc' := 1528) kc_196_473 rfl rfl ?_
        refine xi_iinc (pc' := 1531) (x := 0) (v := 6) (lv' := [(4, .int 6), (3, .ref 167), (2, .ref 115), (1, .ref 0), (0, .ref 1000000)]) kc_196_1528 rfl rfl rfl rfl (xm_lt ml_196 rfl) ?_
        refine xi_goto (pc' := 23) kc_196_1531 rfl ?_
        refine xi_iload (pc' := 25) (x := 6) kc_196_23 rfl rfl ?_
        refine xi_aload_n (pc' := 26) (x := 1000000) kc_196_25 rfl rfl ?_
        refine xi_arraylength (pc' := 27) (n := 6) (v := 6) kc_196_26 rfl (xl_lenO (by decide) hov0 rfl) rfl ?_
        refine xi_bipush (pc' := 29) (v := 6) kc_196_27 rfl rfl ?_
        refine xi_isub (pc' := 30) (v := 0) kc_196_29 rfl rfl ?_
        refine xi_cmt (pc' := 1534) kc_196_30 rfl rfl ?_
        refine xi_iconst (pc' := 1535) (v := 1) kc_196_1534 rfl rfl ?_
        refine xi_ireturn kc_196_1535 mr_196 rfl ?_
        refine ⟨rfl, ?_, ?_⟩
        · rw [eh3.2.2.1, eh2.2.2.1, eh1.2.2.1]; exact hn0
        · rw [eh3.2.2.2, eh2.2.2.2, eh1.2.2.2]; exact hz0
      · refine xi_cmf (pc' := 10) kc_105_7 rfl (xc_ge_f (X := a1.toInt) (Y := 12) rfl (by decide) (by omega)) ?_
        refine xi_iconst (pc' := 11) (v := 1) kc_105_10 rfl rfl ?_
        refine xi_goto (pc' := 15) kc_105_11 rfl ?_
        refine xi_ireturn kc_105_15 mr_105 rfl ?_
        show xw J ov 99 104 (4, [(0, .ref 0), (1, .int a1), (2, .int a2), (3, .int a3), (4, .int 1)], [.int 1], h0) _
        refine xi_iff (pc' := 7) kc_104_4 rfl rfl ?_
        refine xi_iload_n (pc' := 8) (x := a2) kc_104_7 rfl rfl ?_
        refine xi_static (mj := 90) (as := [.int a2]) (st1 := []) (lv0 := [(0, .int a2)]) kc_104_8 rfl rfl (Nat.le_of_ble_eq_true rfl) rfl rfl (Nat.le_of_ble_eq_true rfl) (hJ _ _ _ _ (by decide)) (xm_le ml_90 rfl) rfl ?_
        refine xi_iload_n (pc' := 1) (x := a2) kc_90_0 rfl rfl ?_
        by_cases c21 : a2.toInt < 0
        · refine xi_ift (pc' := 14) kc_90_1 rfl (xc_lt_t (X := a2.toInt) (Y := 0) rfl (by decide) (by omega)) ?_
          refine xi_iconst (pc' := 15) (v := 0) kc_90_14 rfl rfl ?_
          refine xi_ireturn kc_90_15 mr_90 rfl ?_
          show xw J ov 99 104 (11, [(0, .ref 0), (1, .int a1), (2, .int a2), (3, .int a3), (4, .int 1)], [.int 0], h0) _
          refine xi_iff (pc' := 14) kc_104_11 rfl rfl ?_
          refine xi_aload_n (pc' := 15) (x := 0) kc_104_14 rfl rfl ?_
          refine xi_iconst (pc' := 16) (v := (-1)) kc_104_15 rfl rfl ?_
          refine xi_virtual (mj := 91) (as := [.int (-1)]) (st1 := []) (lv0 := [(0, .ref 0), (1, .int (-1))]) kc_104_16 rfl rfl rfl rfl rfl (F 0 _ hl_0) (Nat.le_of_ble_eq_true rfl) (hJ _ _ _ _ (by decide)) (xm_le ml_91 rfl) rfl ?_
          refine xi_iload_n (pc' := 1) (x := (-1)) kc_91_0 rfl rfl ?_
          refine xi_ineg (pc' := 2) (v := 1) kc_91_1 rfl rfl ?_
          refine xi_istore_n (pc' := 3) (lv' := [(2, .int 1), (0, .ref 0), (1, .int (-1))]) kc_91_2 rfl rfl (xm_lt ml_91 rfl) ?_
          refine xi_iload_n (pc' := 4) (x := 1) kc_91_3 rfl rfl ?_
          refine xi_iff (pc' := 7) kc_91_4 rfl rfl ?_
          refine xi_iload_n (pc' := 8) (x := 1) kc_91_7 rfl rfl ?_
          refine xi_aload_n (pc' := 9) (x := 0) kc_91_8 rfl rfl ?_
          refine xi_getfield (pc' := 12) (v := .ref 94) kc_91_9 rfl rfl rfl (F 0 _ hl_0) rfl ?_
          refine xi_arraylength (pc' := 13) (n := 7) (v := 7) kc_91_12 rfl (xl_lenI (by decide) (by decide) (F 94 _ hl_94) (by simp only [List.length_replicate, List.length_cons, List.length_nil])) rfl ?_
          refine xi_cmf (pc' := 16) kc_91_13 rfl rfl ?_
          refine xi_aload_n (pc' := 17) (x := 0) kc_91_16 rfl rfl ?_
          refine xi_getfield (pc' := 20) (v := .ref 94) kc_91_17 rfl rfl rfl (F 0 _ hl_0) rfl ?_
          refine xi_iload_n (pc' := 21) (x := 1) kc_91_20 rfl rfl ?_
          refine xi_dup2 (pc' := 22) kc_91_21 rfl ⟨rfl, rfl⟩ ?_
          refine xi_iaload (pc' := 23) (v := 0) kc_91_22 rfl (F 94 _ hl_94) (by decide) rfl (xi_in (n := 7) (by decide) (by decide)) rfl ?_
          refine xi_iconst (pc' := 24) (v := 1) kc_91_23 rfl rfl ?_
          refine xi_iadd (pc' := 25) (v := 1) kc_91_24 rfl rfl ?_
          refine xi_iastore (pc' := 26) (x' := [0, 1, 0, 0, 0, 0, 0]) kc_91_25 rfl (F 94 _ hl_94) rfl (xi_in (n := 7) (by decide) (by decide)) rfl (fun hh1 eh1 => ?_)
          refine xi_iload_n (pc' := 27) (x := (-1)) kc_91_26 rfl rfl ?_
          refine xi_ireturn kc_91_27 mr_91 rfl ?_
          show xw J ov 99 104 (19, [(0, .ref 0), (1, .int a1), (2, .int a2), (3, .int a3), (4, .int 1)], [.int (-1)], hh1) _
          refine xi_ireturn kc_104_19 mr_104 rfl ?_
          show xw J ov 100 196 (437, [(4, .int 0), (3, .ref 167), (2, .ref 115), (1, .ref 0), (0, .ref 1000000)], [.int (-1)], hh1) _
          refine xi_aload_n (pc' := 438) (x := 115) kc_196_437 rfl rfl ?_
          refine xi_aload_n (pc' := 439) (x := 1000000) kc_196_438 rfl rfl ?_
          refine xi_iload (pc' := 441) (x := 0) kc_196_439 rfl rfl ?_
          refine xi_iconst (pc' := 442) (v := 1) kc_196_441 rfl rfl ?_
          refine xi_iadd (pc' := 443) (v := 1) kc_196_442 rfl rfl ?_
          refine xi_ialoadO (pc' := 444) (v := a1) kc_196_443 rfl (by decide) hov0 (xi_in (n := 6) (by decide) (by decide)) rfl ?_
          refine xi_aload_n (pc' := 445) (x := 1000000) kc_196_444 rfl rfl ?_
          refine xi_iload (pc' := 447) (x := 0) kc_196_445 rfl rfl ?_
          refine xi_iconst (pc' := 448) (v := 2) kc_196_447 rfl rfl ?_
          refine xi_iadd (pc' := 449) (v := 2) kc_196_448 rfl rfl ?_
          refine xi_ialoadO (pc' := 450) (v := a2) kc_196_449 rfl (by decide) hov0 (xi_in (n := 6) (by decide) (by decide)) rfl ?_
          refine xi_aload_n (pc' := 451) (x := 1000000) kc_196_450 rfl rfl ?_
          refine xi_iload (pc' := 453) (x := 0) kc_196_451 rfl rfl ?_
          refine xi_iconst (pc' := 454) (v := 3) kc_196_453 rfl rfl ?_
          refine xi_iadd (pc' := 455) (v := 3) kc_196_454 rfl rfl ?_
          refine xi_ialoadO (pc' := 456) (v := a3) kc_196_455 rfl (by decide) hov0 (xi_in (n := 6) (by decide) (by decide)) rfl ?_
          refine xi_aload_n (pc' := 457) (x := 1000000) kc_196_456 rfl rfl ?_
          refine xi_iload (pc' := 459) (x := 0) kc_196_457 rfl rfl ?_
          refine xi_iconst (pc' := 460) (v := 4) kc_196_459 rfl rfl ?_
          refine xi_iadd (pc' := 461) (v := 4) kc_196_460 rfl rfl ?_
          refine xi_ialoadO (pc' := 462) (v := a4) kc_196_461 rfl (by decide) hov0 (xi_in (n := 6) (by decide) (by decide)) rfl ?_
          refine xi_iff (pc' := 465) kc_196_462 rfl (xc_eq_f (X := a4.toInt) (Y := 0) rfl (by decide) (by omega)) ?_
          refine xi_iconst (pc' := 466) (v := 1) kc_196_465 rfl rfl ?_
          refine xi_goto (pc' := 470) kc_196_466 rfl ?_
          refine xi_virtual (mj := 24) (as := [.int a1, .int a2, .int a3, .int 1]) (st1 := [.int (-1)]) (lv0 := [(0, .ref 115), (1, .int a1), (2, .int a2), (3, .int a3), (4, .int 1)]) kc_196_470 rfl rfl rfl rfl rfl ((eh1.2.1 115 (by decide)).trans (F 115 _ hl_115)) (Nat.le_of_ble_eq_true rfl) (hJ _ _ _ _ (by decide)) (xm_le ml_24 rfl) rfl ?_
          refine xi_aload_n (pc' := 1) (x := 115) kc_24_0 rfl rfl ?_
          refine xi_iconst (pc' := 2) (v := 0) kc_24_1 rfl rfl ?_
          refine xi_putfield (pc' := 5) (fs' := [.int 0, .int 0, .ref 116, .ref 117, .ref 118, .ref 119, .ref 120, .ref 121, .ref 122, .ref 123, .ref 124, .ref 125, .ref 126, .ref 127, .ref 128, .ref 129, .int 4, .ref 130, .int 0, .ref 131, .ref 132, .ref 133, .ref 134, .int 0, .ref 135, .ref 136, .ref 137, .ref 138, .ref 139, .ref 140, .ref 141, .ref 142, .int 0, .int 0, .int 0, .ref 143, .ref 144, .ref 145, .ref 146, .ref 147, .ref 148, .int 0, .ref 149, .ref 150, .ref 151, .int 0, .ref 152, .ref 153, .ref 154, .ref 155, .ref 156, .ref 157, .ref 158, .ref 159, .int 0, .ref 160, .int 0, .ref 161, .ref 162, .ref 163, .ref 164, .int 0, .ref 165, .ref 166]) kc_24_2 rfl rfl rfl ((eh1.2.1 115 (by decide)).trans (F 115 _ hl_115)) rfl rfl rfl (Nat.le_of_ble_eq_true rfl) rfl (fun hh2 eh2 => ?_)
          refine xi_iload_n (pc' := 6) (x := a1) kc_24_5 rfl rfl ?_
          refine xi_static (mj := 25) (as := [.int a1]) (st1 := []) (lv0 := [(0, .int a1)]) kc_24_6 rfl rfl (Nat.le_of_ble_eq_true rfl) rfl rfl (Nat.le_of_ble_eq_true rfl) (hJ _ _ _ _ (by decide)) (xm_le ml_25 rfl) rfl ?_
          refine xi_iload_n (pc' := 1) (x := a1) kc_25_0 rfl rfl ?_
          refine xi_iconst (pc' := 2) (v := 0) kc_25_1 rfl rfl ?_
          refine xi_bipush (pc' := 4) (v := 11) kc_25_2 rfl rfl ?_
          refine xi_static (mj := 12) (as := [.int a1, .int 0, .int 11]) (st1 := []) (lv0 := [(0, .int a1), (1, .int 0), (2, .int 11)]) kc_25_4 rfl rfl (Nat.le_of_ble_eq_true rfl) rfl rfl (Nat.le_of_ble_eq_true rfl) (hJ _ _ _ _ (by decide)) (xm_le ml_12 rfl) rfl ?_
          refine xi_iload_n (pc' := 1) (x := a1) kc_12_0 rfl rfl ?_
          refine xi_iload_n (pc' := 2) (x := 0) kc_12_1 rfl rfl ?_
          refine xi_cmf (pc' := 5) kc_12_2 rfl (xc_lt_f (X := a1.toInt) (Y := 0) rfl (by decide) (by omega)) ?_
          refine xi_iload_n (pc' := 6) (x := a1) kc_12_5 rfl rfl ?_
          refine xi_iload_n (pc' := 7) (x := 11) kc_12_6 rfl rfl ?_
          refine xi_cmf (pc' := 10) kc_12_7 rfl (xc_gt_f (X := a1.toInt) (Y := 11) rfl (by decide) (by omega)) ?_
          refine xi_iconst (pc' := 11) (v := 1) kc_12_10 rfl rfl ?_
          refine xi_goto (pc' := 15) kc_12_11 rfl ?_
          refine xi_ireturn kc_12_15 mr_12 rfl ?_
          show xw J ov 98 25 (7, [(0, .int a1)], [.int 1], hh2) _
          refine xi_ireturn kc_25_7 mr_25 rfl ?_
          show xw J ov 99 24 (9, [(0, .ref 115), (1, .int a1), (2, .int a2), (3, .int a3), (4, .int 1)], [.int 1], hh2) _
          refine xi_iff (pc' := 12) kc_24_9 rfl rfl ?_
          refine xi_iload_n (pc' := 13) (x := a2) kc_24_12 rfl rfl ?_
          refine xi_static (mj := 11) (as := [.int a2]) (st1 := []) (lv0 := [(0, .int a2)]) kc_24_13 rfl rfl (Nat.le_of_ble_eq_true rfl) rfl rfl (Nat.le_of_ble_eq_true rfl) (hJ _ _ _ _ (by decide)) (xm_le ml_11 rfl) rfl ?_
          refine xi_iload_n (pc' := 1) (x := a2) kc_11_0 rfl rfl ?_
          refine xi_iconst (pc' := 2) (v := 0) kc_11_1 rfl rfl ?_
          refine xi_iconst (pc' := 3) (v := 5) kc_11_2 rfl rfl ?_
          refine xi_static (mj := 12) (as := [.int a2, .int 0, .int 5]) (st1 := []) (lv0 := [(0, .int a2), (1, .int 0), (2, .int 5)]) kc_11_3 rfl rfl (Nat.le_of_ble_eq_true rfl) rfl rfl (Nat.le_of_ble_eq_true rfl) (hJ _ _ _ _ (by decide)) (xm_le ml_12 rfl) rfl ?_
          refine xi_iload_n (pc' := 1) (x := a2) kc_12_0 rfl rfl ?_
          refine xi_iload_n (pc' := 2) (x := 0) kc_12_1 rfl rfl ?_
          refine xi_cmt (pc' := 14) kc_12_2 rfl (xc_lt_t (X := a2.toInt) (Y := 0) rfl (by decide) (by omega)) ?_
          refine xi_iconst (pc' := 15) (v := 0) kc_12_14 rfl rfl ?_
          refine xi_ireturn kc_12_15 mr_12 rfl ?_
          show xw J ov 98 11 (6, [(0, .int a2)], [.int 0], hh2) _
          refine xi_ireturn kc_11_6 mr_11 rfl ?_
          show xw J ov 99 24 (16, [(0, .ref 115), (1, .int a1), (2, .int a2), (3, .int a3), (4, .int 1)], [.int 0], hh2) _
          refine xi_iff (pc' := 19) kc_24_16 rfl rfl ?_
          refine xi_aload_n (pc' := 20) (x := 115) kc_24_19 rfl rfl ?_
          refine xi_iconst (pc' := 21) (v := (-1)) kc_24_20 rfl rfl ?_
          refine xi_virtual (mj := 13) (as := [.int (-1)]) (st1 := []) (lv0 := [(0, .ref 115), (1, .int (-1))]) kc_24_21 rfl rfl rfl rfl rfl eh2.1 (Nat.le_of_ble_eq_true rfl) (hJ _ _ _ _ (by decide)) (xm_le ml_13 rfl) rfl ?_
          refine xi_aload_n (pc' := 1) (x := 115) kc_13_0 rfl rfl ?_
          refine xi_getfield (pc' := 4) (v := .ref 140) kc_13_1 rfl rfl rfl eh2.1 rfl ?_
          refine xi_iload_n (pc' := 5) (x := (-1)) kc_13_4 rfl rfl ?_
          refine xi_ineg (pc' := 6) (v := 1) kc_13_5 rfl rfl ?_
          refine xi_dup2 (pc' := 7) kc_13_6 rfl ⟨rfl, rfl⟩ ?_
          refine xi_iaload (pc' := 8) (v := 0) kc_13_7 rfl ((eh2.2.1 140 (by decide)).trans ((eh1.2.1 140 (by decide)).trans (F 140 _ hl_140))) (by decide) rfl (xi_in (n := 7) (by decide) (by decide)) rfl ?_
          refine xi_iconst (pc' := 9) (v := 1) kc_13_8 rfl rfl ?_
          refine xi_iadd (pc' := 10) (v := 1) kc_13_9 rfl rfl ?_
          refine xi_iastore (pc' := 11) (x' := [0, 1, 0, 0, 0, 0, 0]) kc_13_10 rfl ((eh2.2.1 140 (by decide)).trans ((eh1.2.1 140 (by decide)).trans (F 140 _ hl_140))) rfl (xi_in (n := 7) (by decide) (by decide)) rfl (fun hh3 eh3 => ?_)
          refine xi_iload_n (pc' := 12) (x := (-1)) kc_13_11 rfl rfl ?_
          refine xi_ireturn kc_13_12 mr_13 rfl ?_
          show xw J ov 99 24 (24, [(0, .ref 115), (1, .int a1), (2, .int a2), (3, .int a3), (4, .int 1)], [.int (-1)], hh3) _
          refine xi_ireturn kc_24_24 mr_24 rfl ?_
          show xw J ov 100 196 (473, [(4, .int 0), (3, .ref 167), (2, .ref 115), (1, .ref 0), (0, .ref 1000000)], [.int (-1), .int (-1)], hh3) _
          refine xi_cmt (pc' := 1528) kc_196_473 rfl rfl ?_
          refine xi_iinc (pc' := 1531) (x := 0) (v := 6) (lv' := [(4, .int 6), (3, .ref 167), (2, .ref 115), (1, .ref 0), (0, .ref 1000000)]) kc_196_1528 rfl rfl rfl rfl (xm_lt ml_196 rfl) ?_
          refine xi_goto (pc' := 23) kc_196_1531 rfl ?_
          refine xi_iload (pc' := 25) (x := 6) kc_196_23 rfl rfl ?_
          refine xi_aload_n (pc' := 26) (x := 1000000) kc_196_25 rfl rfl ?_
          refine xi_arraylength (pc' := 27) (n := 6) (v := 6) kc_196_26 rfl (xl_lenO (by decide) hov0 rfl) rfl ?_
          refine xi_bipush (pc' := 29) (v := 6) kc_196_27 rfl rfl ?_
          refine xi_isub (pc' := 30) (v := 0) kc_196_29 rfl rfl ?_
          refine xi_cmt (pc' := 1534) kc_196_30 rfl rfl ?_
          refine xi_iconst (pc' := 1535) (v := 1) kc_196_1534 rfl rfl ?_
          refine xi_ireturn kc_196_1535 mr_196 rfl ?_
          refine ⟨rfl, ?_, ?_⟩
          · rw [eh3.2.2.1, eh2.2.2.1, eh1.2.2.1]; exact hn0
          · rw [eh3.2.2.2, eh2.2.2.2, eh1.2.2.2]; exact hz0
        · refine xi_iff (pc' := 4) kc_90_1 rfl (xc_lt_f (X := a2.toInt) (Y := 0) rfl (by decide) (by omega)) ?_
          refine xi_iload_n (pc' := 5) (x := a2) kc_90_4 rfl rfl ?_
          refine xi_bipush (pc' := 7) (v := 6) kc_90_5 rfl rfl ?_
          by_cases c22 : 6 ≤ a2.toInt
          · refine xi_cmt (pc' := 14) kc_90_7 rfl (xc_ge_t (X := a2.toInt) (Y := 6) rfl (by decide) (by omega)) ?_
            refine xi_iconst (pc' := 15) (v := 0) kc_90_14 rfl rfl ?_
            refine xi_ireturn kc_90_15 mr_90 rfl ?_
            show xw J ov 99 104 (11, [(0, .ref 0), (1, .int a1), (2, .int a2), (3, .int a3), (4, .int 1)], [.int 0], h0) _
            refine xi_iff (pc' := 14) kc_104_11 rfl rfl ?_
            refine xi_aload_n (pc' := 15) (x := 0) kc_104_14 rfl rfl ?_
            refine xi_iconst (pc' := 16) (v := (-1)) kc_104_15 rfl rfl ?_
            refine xi_virtual (mj := 91) (as := [.int (-1)]) (st1 := []) (lv0 := [(0, .ref 0), (1, .int (-1))]) kc_104_16 rfl rfl rfl rfl rfl (F 0 _ hl_0) (Nat.le_of_ble_eq_true rfl) (hJ _ _ _ _ (by decide)) (xm_le ml_91 rfl) rfl ?_
            refine xi_iload_n (pc' := 1) (x := (-1)) kc_91_0 rfl rfl ?_
            refine xi_ineg (pc' := 2) (v := 1) kc_91_1 rfl rfl ?_
            refine xi_istore_n (pc' := 3) (lv' := [(2, .int 1), (0, .ref 0), (1, .int (-1))]) kc_91_2 rfl rfl (xm_lt ml_91 rfl) ?_
            refine xi_iload_n (pc' := 4) (x := 1) kc_91_3 rfl rfl ?_
            refine xi_iff (pc' := 7) kc_91_4 rfl rfl ?_
            refine xi_iload_n (pc' := 8) (x := 1) kc_91_7 rfl rfl ?_
            refine xi_aload_n (pc' := 9) (x := 0) kc_91_8 rfl rfl ?_
            refine xi_getfield (pc' := 12) (v := .ref 94) kc_91_9 rfl rfl rfl (F 0 _ hl_0) rfl ?_
            refine xi_arraylength (pc' := 13) (n := 7) (v := 7) kc_91_12 rfl (xl_lenI (by decide) (by decide) (F 94 _ hl_94) (by simp only [List.length_replicate, List.length_cons, List.length_nil])) rfl ?_
            refine xi_cmf (pc' := 16) kc_91_13 rfl rfl ?_
            refine xi_aload_n (pc' := 17) (x := 0) kc_91_16 rfl rfl ?_
            refine xi_getfield (pc' := 20) (v := .ref 94) kc_91_17 rfl rfl rfl (F 0 _ hl_0) rfl ?_
            refine xi_iload_n (pc' := 21) (x := 1) kc_91_20 rfl rfl ?_
            refine xi_dup2 (pc' := 22) kc_91_21 rfl ⟨rfl, rfl⟩ ?_
            refine xi_iaload (pc' := 23) (v := 0) kc_91_22 rfl (F 94 _ hl_94) (by decide) rfl (xi_in (n := 7) (by decide) (by decide)) rfl ?_
            refine xi_iconst (pc' := 24) (v := 1) kc_91_23 rfl rfl ?_
            refine xi_iadd (pc' := 25) (v := 1) kc_91_24 rfl rfl ?_
            refine xi_iastore (pc' := 26) (x' := [0, 1, 0, 0, 0, 0, 0]) kc_91_25 rfl (F 94 _ hl_94) rfl (xi_in (n := 7) (by decide) (by decide)) rfl (fun hh1 eh1 => ?_)
            refine xi_iload_n (pc' := 27) (x := (-1)) kc_91_26 rfl rfl ?_
            refine xi_ireturn kc_91_27 mr_91 rfl ?_
            show xw J ov 99 104 (19, [(0, .ref 0), (1, .int a1), (2, .int a2), (3, .int a3), (4, .int 1)], [.int (-1)], hh1) _
            refine xi_ireturn kc_104_19 mr_104 rfl ?_
            show xw J ov 100 196 (437, [(4, .int 0), (3, .ref 167), (2, .ref 115), (1, .ref 0), (0, .ref 1000000)], [.int (-1)], hh1) _
            refine xi_aload_n (pc' := 438) (x := 115) kc_196_437 rfl rfl ?_
            refine xi_aload_n (pc' := 439) (x := 1000000) kc_196_438 rfl rfl ?_
            refine xi_iload (pc' := 441) (x := 0) kc_196_439 rfl rfl ?_
            refine xi_iconst (pc' := 442) (v := 1) kc_196_441 rfl rfl ?_
            refine xi_iadd (pc' := 443) (v := 1) kc_196_442 rfl rfl ?_
            refine xi_ialoadO (pc' := 444) (v := a1) kc_196_443 rfl (by decide) hov0 (xi_in (n := 6) (by decide) (by decide)) rfl ?_
            refine xi_aload_n (pc' := 445) (x := 1000000) kc_196_444 rfl rfl ?_
            refine xi_iload (pc' := 447) (x := 0) kc_196_445 rfl rfl ?_
            refine xi_iconst (pc' := 448) (v := 2) kc_196_447 rfl rfl ?_
            refine xi_iadd (pc' := 449) (v := 2) kc_196_448 rfl rfl ?_
            refine xi_ialoadO (pc' := 450) (v := a2) kc_196_449 rfl (by decide) hov0 (xi_in (n := 6) (by decide) (by decide)) rfl ?_
            refine xi_aload_n (pc' := 451) (x := 1000000) kc_196_450 rfl rfl ?_
            refine xi_iload (pc' := 453) (x := 0) kc_196_451 rfl rfl ?_
            refine xi_iconst (pc' := 454) (v := 3) kc_196_453 rfl rfl ?_
            refine xi_iadd (pc' := 455) (v := 3) kc_196_454 rfl rfl ?_
            refine xi_ialoadO (pc' := 456) (v := a3) kc_196_455 rfl (by decide) hov0 (xi_in (n := 6) (by decide) (by decide)) rfl ?_
            refine xi_aload_n (pc' := 457) (x := 1000000) kc_196_456 rfl rfl ?_
            refine xi_iload (pc' := 459) (x := 0) kc_196_457 rfl rfl ?_
            refine xi_iconst (pc' := 460) (v := 4) kc_196_459 rfl rfl ?_
            refine xi_iadd (pc' := 461) (v := 4) kc_196_460 rfl rfl ?_
            refine xi_ialoadO (pc' := 462) (v := a4) kc_196_461 rfl (by decide) hov0 (xi_in (n := 6) (by decide) (by decide)) rfl ?_
            refine xi_iff (pc' := 465) kc_196_462 rfl (xc_eq_f (X := a4.toInt) (Y := 0) rfl (by decide) (by omega)) ?_
            refine xi_iconst (pc' := 466) (v := 1) kc_196_465 rfl rfl ?_
            refine xi_goto (pc' := 470) kc_196_466 rfl ?_
            refine xi_virtual (mj := 24) (as := [.int a1, .int a2, .int a3, .int 1]) (st1 := [.int (-1)]) (lv0 := [(0, .ref 115), (1, .int a1), (2, .int a2), (3, .int a3), (4, .int 1)]) kc_196_470 rfl rfl rfl rfl rfl ((eh1.2.1 115 (by decide)).trans (F 115 _ hl_115)) (Nat.le_of_ble_eq_true rfl) (hJ _ _ _ _ (by decide)) (xm_le ml_24 rfl) rfl ?_
            refine xi_aload_n (pc' := 1) (x := 115) kc_24_0 rfl rfl ?_
            refine xi_iconst (pc' := 2) (v := 0) kc_24_1 rfl rfl ?_
            refine xi_putfield (pc' := 5) (fs' := [.int 0, .int 0, .ref 116, .ref 117, .ref 118, .ref 119, .ref 120, .ref 121, .ref 122, .ref 123, .ref 124, .ref 125, .ref 126, .ref 127, .ref 128, .ref 129, .int 4, .ref 130, .int 0, .ref 131, .ref 132, .ref 133, .ref 134, .int 0, .ref 135, .ref 136, .ref 137, .ref 138, .ref 139, .ref 140, .ref 141, .ref 142, .int 0, .int 0, .int 0, .ref 143, .ref 144, .ref 145, .ref 146, .ref 147, .ref 148, .int 0, .ref 149, .ref 150, .ref 151, .int 0, .ref 152, .ref 153, .ref 154, .ref 155, .ref 156, .ref 157, .ref 158, .ref 159, .int 0, .ref 160, .int 0, .ref 161, .ref 162, .ref 163, .ref 164, .int 0, .ref 165, .ref 166]) kc_24_2 rfl rfl rfl ((eh1.2.1 115 (by decide)).trans (F 115 _ hl_115)) rfl rfl rfl (Nat.le_of_ble_eq_true rfl) rfl (fun hh2 eh2 => ?_)
            refine xi_iload_n (pc' := 6) (x := a1) kc_24_5 rfl rfl ?_
            refine xi_static (mj := 25) (as := [.int a1]) (st1 := []) (lv0 := [(0, .int a1)]) kc_24_6 rfl rfl (Nat.le_of_ble_eq_true rfl) rfl rfl (Nat.le_of_ble_eq_true rfl) (hJ _ _ _ _ (by decide)) (xm_le ml_25 rfl) rfl ?_
            refine xi_iload_n (pc' := 1) (x := a1) kc_25_0 rfl rfl ?_
            refine xi_iconst (pc' := 2) (v := 0) kc_25_1 rfl rfl ?_
            refine xi_bipush (pc' := 4) (v := 11) kc_25_2 rfl rfl ?_
            refine xi_static (mj := 12) (as := [.int a1, .int 0, .int 11]) (st1 := []) (lv0 := [(0, .int a1), (1, .int 0), (2, .int 11)]) kc_25_4 rfl rfl (Nat.le_of_ble_eq_true rfl) rfl rfl (Nat.le_of_ble_eq_true rfl) (hJ _ _ _ _ (by decide)) (xm_le ml_12 rfl) rfl ?_
            refine xi_iload_n (pc' := 1) (x := a1) kc_12_0 rfl rfl ?_
            refine xi_iload_n (pc' := 2) (x := 0) kc_12_1 rfl rfl ?_
            refine xi_cmf (pc' := 5) kc_12_2 rfl (xc_lt_f (X := a1.toInt) (Y := 0) rfl (by decide) (by omega)) ?_
            refine xi_iload_n (pc' := 6) (x := a1) kc_12_5 rfl rfl ?_
            refine xi_iload_n (pc' := 7) (x := 11) kc_12_6 rfl rfl ?_
            refine xi_cmf (pc' := 10) kc_12_7 rfl (xc_gt_f (X := a1.toInt) (Y := 11) rfl (by decide) (by omega)) ?_
            refine xi_iconst (pc' := 11) (v := 1) kc_12_10 rfl rfl ?_
            refine xi_goto (pc' := 15) kc_12_11 rfl ?_
            refine xi_ireturn kc_12_15 mr_12 rfl ?_
            show xw J ov 98 25 (7, [(0, .int a1)], [.int 1], hh2) _
            refine xi_ireturn kc_25_7 mr_25 rfl ?_
            show xw J ov 99 24 (9, [(0, .ref 115), (1, .int a1), (2, .int a2), (3, .int a3), (4, .int 1)], [.int 1], hh2) _
            refine xi_iff (pc' := 12) kc_24_9 rfl rfl ?_
            refine xi_iload_n (pc' := 13) (x := a2) kc_24_12 rfl rfl ?_
            refine xi_static (mj := 11) (as := [.int a2]) (st1 := []) (lv0 := [(0, .int a2)]) kc_24_13 rfl rfl (Nat.le_of_ble_eq_true rfl) rfl rfl (Nat.le_of_ble_eq_true rfl) (hJ _ _ _ _ (by decide)) (xm_le ml_11 rfl) rfl ?_
            refine xi_iload_n (pc' := 1) (x := a2) kc_11_0 rfl rfl ?_
            refine xi_iconst (pc' := 2) (v := 0) kc_11_1 rfl rfl ?_
            refine xi_iconst (pc' := 3) (v := 5) kc_11_2 rfl rfl ?_
            refine xi_static (mj := 12) (as := [.int a2, .int 0, .int 5]) (st1 := []) (lv0 := [(0, .int a2), (1, .int 0), (2, .int 5)]) kc_11_3 rfl rfl (Nat.le_of_ble_eq_true rfl) rfl rfl (Nat.le_of_ble_eq_true rfl) (hJ _ _ _ _ (by decide)) (xm_le ml_12 rfl) rfl ?_
            refine xi_iload_n (pc' := 1) (x := a2) kc_12_0 rfl rfl ?_
            refine xi_iload_n (pc' := 2) (x := 0) kc_12_1 rfl rfl ?_
            refine xi_cmf (pc' := 5) kc_12_2 rfl (xc_lt_f (X := a2.toInt) (Y := 0) rfl (by decide) (by omega)) ?_
            refine xi_iload_n (pc' := 6) (x := a2) kc_12_5 rfl rfl ?_
            refine xi_iload_n (pc' := 7) (x := 5) kc_12_6 rfl rfl ?_
            refine xi_cmt (pc' := 14) kc_12_7 rfl (xc_gt_t (X := a2.toInt) (Y := 5) rfl (by decide) (by omega)) ?_
            refine xi_iconst (pc' := 15) (v := 0) kc_12_14 rfl rfl ?_
            refine xi_ireturn kc_12_15 mr_12 rfl ?_
            show xw J ov 98 11 (6, [(0, .int a2)], [.int 0], hh2) _
            refine xi_ireturn kc_11_6 mr_11 rfl ?_
            show xw J ov 99 24 (16, [(0, .ref 115), (1, .int a1), (2, .int a2), (3, .int a3), (4, .int 1)], [.int 0], hh2) _
            refine xi_iff (pc' := 19) kc_24_16 rfl rfl ?_
            refine xi_aload_n (pc' := 20) (x := 115) kc_24_19 rfl rfl ?_
            refine xi_iconst (pc' := 21) (v := (-1)) kc_24_20 rfl rfl ?_
            refine xi_virtual (mj := 13) (as := [.int (-1)]) (st1 := []) (lv0 := [(0, .ref 115), (1, .int (-1))]) kc_24_21 rfl rfl rfl rfl rfl eh2.1 (Nat.le_of_ble_eq_true rfl) (hJ _ _ _ _ (by decide)) (xm_le ml_13 rfl) rfl ?_
            refine xi_aload_n (pc' := 1) (x := 115) kc_13_0 rfl rfl ?_
            refine xi_getfield (pc' := 4) (v := .ref 140) kc_13_1 rfl rfl rfl eh2.1 rfl ?_
            refine xi_iload_n (pc' := 5) (x := (-1)) kc_13_4 rfl rfl ?_
            refine xi_ineg (pc' := 6) (v := 1) kc_13_5 rfl rfl ?_
            refine xi_dup2 (pc' := 7) kc_13_6 rfl ⟨rfl, rfl⟩ ?_
            refine xi_iaload (pc' := 8) (v := 0) kc_13_7 rfl ((eh2.2.1 140 (by decide)).trans ((eh1.2.1 140 (by decide)).trans (F 140 _ hl_140))) (by decide) rfl (xi_in (n := 7) (by decide) (by decide)) rfl ?_
            refine xi_iconst (pc' := 9) (v := 1) kc_13_8 rfl rfl ?_
            refine xi_iadd (pc' := 10) (v := 1) kc_13_9 rfl rfl ?_
            refine xi_iastore (pc' := 11) (x' := [0, 1, 0, 0, 0, 0, 0]) kc_13_10 rfl ((eh2.2.1 140 (by decide)).trans ((eh1.2.1 140 (by decide)).trans (F 140 _ hl_140))) rfl (xi_in (n := 7) (by decide) (by decide)) rfl (fun hh3 eh3 => ?_)
            refine xi_iload_n (pc' := 12) (x := (-1)) kc_13_11 rfl rfl ?_
            refine xi_ireturn kc_13_12 mr_13 rfl ?_
            show xw J ov 99 24 (24, [(0, .ref 115), (1, .int a1), (2, .int a2), (3, .int a3), (4, .int 1)], [.int (-1)], hh3) _
            refine xi_ireturn kc_24_24 mr_24 rfl ?_
            show xw J ov 100 196 (473, [(4, .int 0), (3, .ref 167), (2, .ref 115), (1, .ref 0), (0, .ref 1000000)], [.int (-1), .int (-1)], hh3) _
            refine xi_cmt (pc' := 1528) kc_196_473 rfl rfl ?_
            refine xi_iinc (pc' := 1531) (x := 0) (v := 6) (lv' := [(4, .int 6), (3, .ref 167), (2, .ref 115), (1, .ref 0), (0, .ref 1000000)]) kc_196_1528 rfl rfl rfl rfl (xm_lt ml_196 rfl) ?_
            refine xi_goto (pc' := 23) kc_196_1531 rfl ?_
            refine xi_iload (pc' := 25) (x := 6) kc_196_23 rfl rfl ?_
            refine xi_aload_n (pc' := 26) (x := 1000000) kc_196_25 rfl rfl ?_
            refine xi_arraylength (pc' := 27) (n := 6) (v := 6) kc_196_26 rfl (xl_lenO (by decide) hov0 rfl) rfl ?_
            refine xi_bipush (pc' := 29) (v := 6) kc_196_27 rfl rfl ?_
            refine xi_isub (pc' := 30) (v := 0) kc_196_29 rfl rfl ?_
            refine xi_cmt (pc' := 1534) kc_196_30 rfl rfl ?_
            refine xi_iconst (pc' := 1535) (v := 1) kc_196_1534 rfl rfl ?_
            refine xi_ireturn kc_196_1535 mr_196 rfl ?_
            refine ⟨rfl, ?_, ?_⟩
            · rw [eh3.2.2.1, eh2.2.2.1, eh1.2.2.1]; exact hn0
            · rw [eh3.2.2.2, eh2.2.2.2, eh1.2.2.2]; exact hz0
          · refine xi_cmf (pc' := 10) kc_90_7 rfl (xc_ge_f (X := a2.toInt) (Y := 6) rfl (by decide) (by omega)) ?_
            refine xi_iconst (pc' := 11) (v := 1) kc_90_10 rfl rfl ?_
            refine xi_goto (pc' := 15) kc_90_11 rfl ?_
            refine xi_ireturn kc_90_15 mr_90 rfl ?_
            show xw J ov 99 104 (11, [(0, .ref 0), (1, .int a1), (2, .int a2), (3, .int a3), (4, .int 1)], [.int 1], h0) _
            refine xi_ift (pc' := 20) kc_104_11 rfl rfl ?_
            refine xi_iload_n (pc' := 21) (x := a3) kc_104_20 rfl rfl ?_
            by_cases c23 : 0 ≤ a3.toInt
            · refine xi_ift (pc' := 31) kc_104_21 rfl (xc_ge_t (X := a3.toInt) (Y := 0) rfl (by decide) (by omega)) ?_
              refine xi_iload_n (pc' := 32) (x := a3) kc_104_31 rfl rfl ?_
              refine xi_bipush (pc' := 34) (v := 100) kc_104_32 rfl rfl ?_
              by_cases c24 : a3.toInt ≤ 100
              · refine xi_cmt (pc' := 44) kc_104_34 rfl (xc_le_t (X := a3.toInt) (Y := 100) rfl (by decide) (by omega)) ?_
                refine xi_aload_n (pc' := 45) (x := 0) kc_104_44 rfl rfl ?_
                refine xi_getfield (pc' := 48) (v := .ref 66) kc_104_45 rfl rfl rfl (F 0 _ hl_0) rfl ?_
                refine xi_virtual (mj := 92) (as := []) (st1 := []) (lv0 := [(0, .ref 66)]) kc_104_48 rfl rfl rfl rfl rfl (F 66 _ hl_66) (Nat.le_of_ble_eq_true rfl) (hJ _ _ _ _ (by decide)) (xm_le ml_92 rfl) rfl ?_
                refine xi_aload_n (pc' := 1) (x := 66) kc_92_0 rfl rfl ?_
                refine xi_lconst (pc' := 2) (v := 0) kc_92_1 rfl rfl ?_
                refine xi_putfield (pc' := 5) (fs' := [.ref 1, .ref 67, .ref 70, .ref 71, .ref 72, .ref 73, .ref 74, .long 0, .int 0]) kc_92_2 rfl rfl rfl (F 66 _ hl_66) rfl rfl rfl (Nat.le_of_ble_eq_true rfl) rfl (fun hh1 eh1 => ?_)
                refine xi_return kc_92_5 mr_92 ?_
                show xw J ov 99 104 (51, [(0, .ref 0), (1, .int a1), (2, .int a2), (3, .int a3), (4, .int 1)], [], hh1) _
                refine xi_aload_n (pc' := 52) (x := 0) kc_104_51 rfl rfl ?_
                refine xi_getfield (pc' := 55) (v := .ref 1) kc_104_52 rfl rfl rfl ((eh1.2.1 0 (by decide)).trans (F 0 _ hl_0)) rfl ?_
                refine xi_getfield (pc' := 58) (v := .ref 3) kc_104_55 rfl rfl rfl ((eh1.2.1 1 (by decide)).trans (F 1 _ hl_1)) rfl ?_
                refine xi_iload_n (pc' := 59) (x := a1) kc_104_58 rfl rfl ?_
                by_cases c25 : a1.toInt = 0
                · have qa1 : a1 = 0 := xc_of (Eq.trans (by omega) (show (0 : Int) = (0 : Int32).toInt by decide))
                  subst qa1
                  refine xi_aaload (pc' := 60) (b := 29) kc_104_59 rfl ((eh1.2.1 3 (by decide)).trans (F 3 _ hl_3)) rfl (xi_in (n := 12) (by decide) (by decide)) rfl ?_
                  refine xi_astore (pc' := 62) (lv' := [(5, .ref 29), (0, .ref 0), (1, .int 0), (2, .int a2), (3, .int a3), (4, .int 1)]) kc_104_60 rfl rfl (xm_lt ml_104 rfl) ?_
                  refine xi_aload (pc' := 64) (x := 29) kc_104_62 rfl rfl ?_
                  refine xi_virtual (mj := 106) (as := []) (st1 := []) (lv0 := [(0, .ref 29)]) kc_104_64 rfl rfl rfl rfl rfl ((eh1.2.1 29 (by decide)).trans (F 29 _ hl_29)) (Nat.le_of_ble_eq_true rfl) (hJ _ _ _ _ (by decide)) (xm_le ml_106 rfl) rfl ?_
                  refine xi_aload_n (pc' := 1) (x := 29) kc_106_0 rfl rfl ?_
                  refine xi_getfield (pc' := 4) (v := .int (-9)) kc_106_1 rfl rfl rfl ((eh1.2.1 29 (by decide)).trans (F 29 _ hl_29)) rfl ?_
                  refine xi_static (mj := 90) (as := [.int (-9)]) (st1 := []) (lv0 := [(0, .int (-9))]) kc_106_4 rfl rfl (Nat.le_of_ble_eq_true rfl) rfl rfl (Nat.le_of_ble_eq_true rfl) (hJ _ _ _ _ (by decide)) (xm_le ml_90 rfl) rfl ?_
                  refine xi_iload_n (pc' := 1) (x := (-9)) kc_90_0 rfl rfl ?_
                  refine xi_ift (pc' := 14) kc_90_1 rfl rfl ?_
                  refine xi_iconst (pc' := 15) (v := 0) kc_90_14 rfl rfl ?_
                  refine xi_ireturn kc_90_15 mr_90 rfl ?_
                  show xw J ov 98 106 (7, [(0, .ref 29)], [.int 0], hh1) _
                  refine xi_ireturn kc_106_7 mr_106 rfl ?_
                  show xw J ov 99 104 (67, [(5, .ref 29), (0, .ref 0), (1, .int 0), (2, .int a2), (3, .int a3), (4, .int 1)], [.int 0], hh1) _
                  refine xi_ift (pc' := 74) kc_104_67 rfl rfl ?_
                  refine xi_iconst (pc' := 75) (v := 1) kc_104_74 rfl rfl ?_
                  refine xi_istore (pc' := 77) (lv' := [(6, .int 1), (5, .ref 29), (0, .ref 0), (1, .int 0), (2, .int a2), (3, .int a3), (4, .int 1)]) kc_104_75 rfl rfl (xm_lt ml_104 rfl) ?_
                  refine xi_aload (pc' := 79) (x := 29) kc_104_77 rfl rfl ?_
                  refine xi_iload_n (pc' := 80) (x := a2) kc_104_79 rfl rfl ?_
                  refine xi_putfield (pc' := 83) (fs' := [.int a2, .int 0, .int 0, .int 0, .ref 30]) kc_104_80 rfl rfl rfl ((eh1.2.1 29 (by decide)).trans (F 29 _ hl_29)) rfl rfl rfl (Nat.le_of_ble_eq_true rfl) rfl (fun hh2 eh2 => ?_)
                  refine xi_aload (pc' := 85) (x := 29) kc_104_83 rfl rfl ?_
                  refine xi_iload_n (pc' := 86) (x := a3) kc_104_85 rfl rfl ?_
                  refine xi_putfield (pc' := 89) (fs' := [.int a2, .int a3, .int 0, .int 0, .ref 30]) kc_104_86 rfl rfl rfl eh2.1 rfl rfl rfl (Nat.le_of_ble_eq_true rfl) rfl (fun hh3 eh3 => ?_)
                  refine xi_aload (pc' := 91) (x := 29) kc_104_89 rfl rfl ?_
                  refine xi_iload (pc' := 93) (x := 1) kc_104_91 rfl rfl ?_
                  refine xi_putfield (pc' := 96) (fs' := [.int a2, .int a3, .int 1, .int 0, .ref 30]) kc_104_93 rfl rfl rfl eh3.1 rfl rfl rfl (Nat.le_of_ble_eq_true rfl) rfl (fun hh4 eh4 => ?_)
                  refine xi_iload (pc' := 98) (x := 1) kc_104_96 rfl rfl ?_
                  refine xi_ireturn kc_104_98 mr_104 rfl ?_
                  show xw J ov 100 196 (437, [(4, .int 0), (3, .ref 167), (2, .ref 115), (1, .ref 0), (0, .ref 1000000)], [.int 1], hh4) _
                  refine xi_aload_n (pc' := 438) (x := 115) kc_196_437 rfl rfl ?_
                  refine xi_aload_n (pc' := 439) (x := 1000000) kc_196_438 rfl rfl ?_
                  refine xi_iload (pc' := 441) (x := 0) kc_196_439 rfl rfl ?_
                  refine xi_iconst (pc' := 442) (v := 1) kc_196_441 rfl rfl ?_
                  refine xi_iadd (pc' := 443) (v := 1) kc_196_442 rfl rfl ?_
                  refine xi_ialoadO (pc' := 444) (v := 0) kc_196_443 rfl (by decide) hov0 (xi_in (n := 6) (by decide) (by decide)) rfl ?_
                  refine xi_aload_n (pc' := 445) (x := 1000000) kc_196_444 rfl rfl ?_
                  refine xi_iload (pc' := 447) (x := 0) kc_196_445 rfl rfl ?_
                  refine xi_iconst (pc' := 448) (v := 2) kc_196_447 rfl rfl ?_
                  refine xi_iadd (pc' := 449) (v := 2) kc_196_448 rfl rfl ?_
                  refine xi_ialoadO (pc' := 450) (v := a2) kc_196_449 rfl (by decide) hov0 (xi_in (n := 6) (by decide) (by decide)) rfl ?_
                  refine xi_aload_n (pc' := 451) (x := 1000000) kc_196_450 rfl rfl ?_
                  refine xi_iload (pc' := 453) (x := 0) kc_196_451 rfl rfl ?_
                  refine xi_iconst (pc' := 454) (v := 3) kc_196_453 rfl rfl ?_
                  refine xi_iadd (pc' := 455) (v := 3) kc_196_454 rfl rfl ?_
                  refine xi_ialoadO (pc' := 456) (v := a3) kc_196_455 rfl (by decide) hov0 (xi_in (n := 6) (by decide) (by decide)) rfl ?_
                  refine xi_aload_n (pc' := 457) (x := 1000000) kc_196_456 rfl rfl ?_
                  refine xi_iload (pc' := 459) (x := 0) kc_196_457 rfl rfl ?_
                  refine xi_iconst (pc' := 460) (v := 4) kc_196_459 rfl rfl ?_
                  refine xi_iadd (pc' := 461) (v := 4) kc_196_460 rfl rfl ?_
                  refine xi_ialoadO (pc' := 462) (v := a4) kc_196_461 rfl (by decide) hov0 (xi_in (n := 6) (by decide) (by decide)) rfl ?_
                  refine xi_iff (pc' := 465) kc_196_462 rfl (xc_eq_f (X := a4.toInt) (Y := 0) rfl (by decide) (by omega)) ?_
                  refine xi_iconst (pc' := 466) (v := 1) kc_196_465 rfl rfl ?_
                  refine xi_goto (pc' := 470) kc_196_466 rfl ?_
                  refine xi_virtual (mj := 24) (as := [.int 0, .int a2, .int a3, .int 1]) (st1 := [.int 1]) (lv0 := [(0, .ref 115), (1, .int 0), (2, .int a2), (3, .int a3), (4, .int 1)]) kc_196_470 rfl rfl rfl rfl rfl ((eh4.2.1 115 (by decide)).trans ((eh3.2.1 115 (by decide)).trans ((eh2.2.1 115 (by decide)).trans ((eh1.2.1 115 (by decide)).trans (F 115 _ hl_115))))) (Nat.le_of_ble_eq_true rfl) (hJ _ _ _ _ (by decide)) (xm_le ml_24 rfl) rfl ?_
                  refine xi_aload_n (pc' := 1) (x := 115) kc_24_0 rfl rfl ?_
                  refine xi_iconst (pc' := 2) (v := 0) kc_24_1 rfl rfl ?_
                  refine xi_putfield (pc' := 5) (fs' := [.int 0, .int 0, .ref 116, .ref 117, .ref 118, .ref 119, .ref 120, .ref 121, .ref 122, .ref 123, .ref 124, .ref 125, .ref 126, .ref 127, .ref 128, .ref 129, .int 4, .ref 130, .int 0, .ref 131, .ref 132, .ref 133, .ref 134, .int 0, .ref 135, .ref 136, .ref 137, .ref 138, .ref 139, .ref 140, .ref 141, .ref 142, .int 0, .int 0, .int 0, .ref 143, .ref 144, .ref 145, .ref 146, .ref 147, .ref 148, .int 0, .ref 149, .ref 150, .ref 151, .int 0, .ref 152, .ref 153, .ref 154, .ref 155, .ref 156, .ref 157, .ref 158, .ref 159, .int 0, .ref 160, .int 0, .ref 161, .ref 162, .ref 163, .ref 164, .int 0, .ref 165, .ref 166]) kc_24_2 rfl rfl rfl ((eh4.2.1 115 (by decide)).trans ((eh3.2.1 115 (by decide)).trans ((eh2.2.1 115 (by decide)).trans ((eh1.2.1 115 (by decide)).trans (F 115 _ hl_115))))) rfl rfl rfl (Nat.le_of_ble_eq_true rfl) rfl (fun hh5 eh5 => ?_)
                  refine xi_iload_n (pc' := 6) (x := 0) kc_24_5 rfl rfl ?_
                  refine xi_static (mj := 25) (as := [.int 0]) (st1 := []) (lv0 := [(0, .int 0)]) kc_24_6 rfl rfl (Nat.le_of_ble_eq_true rfl) rfl rfl (Nat.le_of_ble_eq_true rfl) (hJ _ _ _ _ (by decide)) (xm_le ml_25 rfl) rfl ?_
                  refine xi_iload_n (pc' := 1) (x := 0) kc_25_0 rfl rfl ?_
                  refine xi_iconst (pc' := 2) (v := 0) kc_25_1 rfl rfl ?_
                  refine xi_bipush (pc' := 4) (v := 11) kc_25_2 rfl rfl ?_
                  refine xi_static (mj := 12) (as := [.int 0, .int 0, .int 11]) (st1 := []) (lv0 := [(0, .int 0), (1, .int 0), (2, .int 11)]) kc_25_4 rfl rfl (Nat.le_of_ble_eq_true rfl) rfl rfl (Nat.le_of_ble_eq_true rfl) (hJ _ _ _ _ (by decide)) (xm_le ml_12 rfl) rfl ?_
                  refine xi_iload_n (pc' := 1) (x := 0) kc_12_0 rfl rfl ?_
                  refine xi_iload_n (pc' := 2) (x := 0) kc_12_1 rfl rfl ?_
                  refine xi_cmf (pc' := 5) kc_12_2 rfl rfl ?_
                  refine xi_iload_n (pc' := 6) (x := 0) kc_12_5 rfl rfl ?_
                  refine xi_iload_n (pc' := 7) (x := 11) kc_12_6 rfl rfl ?_
                  refine xi_cmf (pc' := 10) kc_12_7 rfl rfl ?_
                  refine xi_iconst (pc' := 11) (v := 1) kc_12_10 rfl rfl ?_
                  refine xi_goto (pc' := 15) kc_12_11 rfl ?_
                  refine xi_ireturn kc_12_15 mr_12 rfl ?_
                  show xw J ov 98 25 (7, [(0, .int 0)], [.int 1], hh5) _
                  refine xi_ireturn kc_25_7 mr_25 rfl ?_
                  show xw J ov 99 24 (9, [(0, .ref 115), (1, .int 0), (2, .int a2), (3, .int a3), (4, .int 1)], [.int 1], hh5) _
                  refine xi_iff (pc' := 12) kc_24_9 rfl rfl ?_
                  refine xi_iload_n (pc' := 13) (x := a2) kc_24_12 rfl rfl ?_
                  refine xi_static (mj := 11) (as := [.int a2]) (st1 := []) (lv0 := [(0, .int a2)]) kc_24_13 rfl rfl (Nat.le_of_ble_eq_true rfl) rfl rfl (Nat.le_of_ble_eq_true rfl) (hJ _ _ _ _ (by decide)) (xm_le ml_11 rfl) rfl ?_
                  refine xi_iload_n (pc' := 1) (x := a2) kc_11_0 rfl rfl ?_
                  refine xi_iconst (pc' := 2) (v := 0) kc_11_1 rfl rfl ?_
                  refine xi_iconst (pc' := 3) (v := 5) kc_11_2 rfl rfl ?_
                  refine xi_static (mj := 12) (as := [.int a2, .int 0, .int 5]) (st1 := []) (lv0 := [(0, .int a2), (1, .int 0), (2, .int 5)]) kc_11_3 rfl rfl (Nat.le_of_ble_eq_true rfl) rfl rfl (Nat.le_of_ble_eq_true rfl) (hJ _ _ _ _ (by decide)) (xm_le ml_12 rfl) rfl ?_
                  refine xi_iload_n (pc' := 1) (x := a2) kc_12_0 rfl rfl ?_
                  refine xi_iload_n (pc' := 2) (x := 0) kc_12_1 rfl rfl ?_
                  refine xi_cmf (pc' := 5) kc_12_2 rfl (xc_lt_f (X := a2.toInt) (Y := 0) rfl (by decide) (by omega)) ?_
                  refine xi_iload_n (pc' := 6) (x := a2) kc_12_5 rfl rfl ?_
                  refine xi_iload_n (pc' := 7) (x := 5) kc_12_6 rfl rfl ?_
                  refine xi_cmf (pc' := 10) kc_12_7 rfl (xc_gt_f (X := a2.toInt) (Y := 5) rfl (by decide) (by omega)) ?_
                  refine xi_iconst (pc' := 11) (v := 1) kc_12_10 rfl rfl ?_
                  refine xi_goto (pc' := 15) kc_12_11 rfl ?_
                  refine xi_ireturn kc_12_15 mr_12 rfl ?_
                  show xw J ov 98 11 (6, [(0, .int a2)], [.int 1], hh5) _
                  refine xi_ireturn kc_11_6 mr_11 rfl ?_
                  show xw J ov 99 24 (16, [(0, .ref 115), (1, .int 0), (2, .int a2), (3, .int a3), (4, .int 1)], [.int 1], hh5) _
                  refine xi_ift (pc' := 25) kc_24_16 rfl rfl ?_
                  refine xi_iload_n (pc' := 26) (x := a3) kc_24_25 rfl rfl ?_
                  refine xi_ift (pc' := 36) kc_24_26 rfl (xc_ge_t (X := a3.toInt) (Y := 0) rfl (by decide) (by omega)) ?_
                  refine xi_iload_n (pc' := 37) (x := a3) kc_24_36 rfl rfl ?_
                  refine xi_bipush (pc' := 39) (v := 100) kc_24_37 rfl rfl ?_
                  refine xi_cmt (pc' := 49) kc_24_39 rfl (xc_le_t (X := a3.toInt) (Y := 100) rfl (by decide) (by omega)) ?_
                  refine xi_aload_n (pc' := 50) (x := 115) kc_24_49 rfl rfl ?_
                  refine xi_getfield (pc' := 53) (v := .ref 125) kc_24_50 rfl rfl rfl eh5.1 rfl ?_
                  refine xi_iload_n (pc' := 54) (x := 0) kc_24_53 rfl rfl ?_
                  refine xi_iaload (pc' := 55) (v := (-9)) kc_24_54 rfl ((eh5.2.1 125 (by decide)).trans ((eh4.2.1 125 (by decide)).trans ((eh3.2.1 125 (by decide)).trans ((eh2.2.1 125 (by decide)).trans ((eh1.2.1 125 (by decide)).trans (F 125 _ hl_125)))))) (by decide) rfl (xi_in (n := 12) (by decide) (by decide)) rfl ?_
                  refine xi_ift (pc' := 62) kc_24_55 rfl rfl ?_
                  refine xi_iconst (pc' := 63) (v := 0) kc_24_62 rfl rfl ?_
                  refine xi_istore (pc' := 65) (lv' := [(5, .int 0), (0, .ref 115), (1, .int 0), (2, .int a2), (3, .int a3), (4, .int 1)]) kc_24_63 rfl rfl (xm_lt ml_24 rfl) ?_
                  refine xi_aload_n (pc' := 66) (x := 115) kc_24_65 rfl rfl ?_
                  refine xi_getfield (pc' := 69) (v := .ref 125) kc_24_66 rfl rfl rfl eh5.1 rfl ?_
                  refine xi_iload_n (pc' := 70) (x := 0) kc_24_69 rfl rfl ?_
                  refine xi_iload_n (pc' := 71) (x := a2) kc_24_70 rfl rfl ?_
                  refine xi_iastore (pc' := 72) (x' := [a2, (-9), (-9), (-9), (-9), (-9), (-9), (-9), (-9), (-9), (-9), (-9)]) kc_24_71 rfl ((eh5.2.1 125 (by decide)).trans ((eh4.2.1 125 (by decide)).trans ((eh3.2.1 125 (by decide)).trans ((eh2.2.1 125 (by decide)).trans ((eh1.2.1 125 (by decide)).trans (F 125 _ hl_125)))))) rfl (xi_in (n := 12) (by decide) (by decide)) rfl (fun hh6 eh6 => ?_)
                  refine xi_aload_n (pc' := 73) (x := 115) kc_24_72 rfl rfl ?_
                  refine xi_getfield (pc' := 76) (v := .ref 126) kc_24_73 rfl rfl rfl ((eh6.2.1 115 (by decide)).trans eh5.1) rfl ?_
                  refine xi_iload_n (pc' := 77) (x := 0) kc_24_76 rfl rfl ?_
                  refine xi_iload_n (pc' := 78) (x := a3) kc_24_77 rfl rfl ?_
                  refine xi_iastore (pc' := 79) (x' := [a3, 0, 0, 0, 0, 0, 0, 0, 0, 0, 0, 0]) kc_24_78 rfl ((eh6.2.1 126 (by decide)).trans ((eh5.2.1 126 (by decide)).trans ((eh4.2.1 126 (by decide)).trans ((eh3.2.1 126 (by decide)).trans ((eh2.2.1 126 (by decide)).trans ((eh1.2.1 126 (by decide)).trans (F 126 _ hl_126))))))) rfl (xi_in (n := 12) (by decide) (by decide)) rfl (fun hh7 eh7 => ?_)
                  refine xi_aload_n (pc' := 80) (x := 115) kc_24_79 rfl rfl ?_
                  refine xi_getfield (pc' := 83) (v := .ref 127) kc_24_80 rfl rfl rfl ((eh7.2.1 115 (by decide)).trans ((eh6.2.1 115 (by decide)).trans eh5.1)) rfl ?_
                  refine xi_iload_n (pc' := 84) (x := 0) kc_24_83 rfl rfl ?_
                  refine xi_iload (pc' := 86) (x := 1) kc_24_84 rfl rfl ?_
                  refine xi_bastore (pc' := 87) (x' := [1, 0, 0, 0, 0, 0, 0, 0, 0, 0, 0, 0]) kc_24_86 rfl ((eh7.2.1 127 (by decide)).trans ((eh6.2.1 127 (by decide)).trans ((eh5.2.1 127 (by decide)).trans ((eh4.2.1 127 (by decide)).trans ((eh3.2.1 127 (by decide)).trans ((eh2.2.1 127 (by decide)).trans ((eh1.2.1 127 (by decide)).trans (F 127 _ hl_127)))))))) rfl (xi_in (n := 12) (by decide) (by decide)) rfl (fun hh8 eh8 => ?_)
                  refine xi_aload_n (pc' := 88) (x := 115) kc_24_87 rfl rfl ?_
                  refine xi_iconst (pc' := 89) (v := 0) kc_24_88 rfl rfl ?_
                  refine xi_putfield (pc' := 92) (fs' := [.int 0, .int 0, .ref 116, .ref 117, .ref 118, .ref 119, .ref 120, .ref 121, .ref 122, .ref 123, .ref 124, .ref 125, .ref 126, .ref 127, .ref 128, .ref 129, .int 4, .ref 130, .int 0, .ref 131, .ref 132, .ref 133, .ref 134, .int 0, .ref 135, .ref 136, .ref 137, .ref 138, .ref 139, .ref 140, .ref 141, .ref 142, .int 0, .int 0, .int 0, .ref 143, .ref 144, .ref 145, .ref 146, .ref 147, .ref 148, .int 0, .ref 149, .ref 150, .ref 151, .int 0, .ref 152, .ref 153, .ref 154, .ref 155, .ref 156, .ref 157, .ref 158, .ref 159, .int 0, .ref 160, .int 0, .ref 161, .ref 162, .ref 163, .ref 164, .int 0, .ref 165, .ref 166]) kc_24_89 rfl rfl rfl ((eh8.2.1 115 (by decide)).trans ((eh7.2.1 115 (by decide)).trans ((eh6.2.1 115 (by decide)).trans eh5.1))) rfl rfl rfl (Nat.le_of_ble_eq_true rfl) rfl (fun hh9 eh9 => ?_)
                  refine xi_iload (pc' := 94) (x := 0) kc_24_92 rfl rfl ?_
                  refine xi_ift (pc' := 101) kc_24_94 rfl rfl ?_
                  refine xi_iconst (pc' := 102) (v := 1) kc_24_101 rfl rfl ?_
                  refine xi_ireturn kc_24_102 mr_24 rfl ?_
                  show xw J ov 100 196 (473, [(4, .int 0), (3, .ref 167), (2, .ref 115), (1, .ref 0), (0, .ref 1000000)], [.int 1, .int 1], hh9) _
                  refine xi_cmt (pc' := 1528) kc_196_473 rfl rfl ?_
                  refine xi_iinc (pc' := 1531) (x := 0) (v := 6) (lv' := [(4, .int 6), (3, .ref 167), (2, .ref 115), (1, .ref 0), (0, .ref 1000000)]) kc_196_1528 rfl rfl rfl rfl (xm_lt ml_196 rfl) ?_
                  refine xi_goto (pc' := 23) kc_196_1531 rfl ?_
                  refine xi_iload (pc' := 25) (x := 6) kc_196_23 rfl rfl ?_
                  refine xi_aload_n (pc' := 26) (x := 1000000) kc_196_25 rfl rfl ?_
                  refine xi_arraylength (pc' := 27) (n := 6) (v := 6) kc_196_26 rfl (xl_lenO (by decide) hov0 rfl) rfl ?_
                  refine xi_bipush (pc' := 29) (v := 6) kc_196_27 rfl rfl ?_
                  refine xi_isub (pc' := 30) (v := 0) kc_196_29 rfl rfl ?_
                  refine xi_cmt (pc' := 1534) kc_196_30 rfl rfl ?_
                  refine xi_iconst (pc' := 1535) (v := 1) kc_196_1534 rfl rfl ?_
                  refine xi_ireturn kc_196_1535 mr_196 rfl ?_
                  refine ⟨rfl, ?_, ?_⟩
                  · rw [eh9.2.2.1, eh8.2.2.1, eh7.2.2.1, eh6.2.2.1, eh5.2.2.1, eh4.2.2.1, eh3.2.2.1, eh2.2.2.1, eh1.2.2.1]; exact hn0
                  · rw [eh9.2.2.2, eh8.2.2.2, eh7.2.2.2, eh6.2.2.2, eh5.2.2.2, eh4.2.2.2, eh3.2.2.2, eh2.2.2.2, eh1.2.2.2]; exact hz0
                by_cases c26 : a1.toInt = 1
                · have qa1 : a1 = 1 := xc_of (Eq.trans (by omega) (show (1 : Int) = (1 : Int32).toInt by decide))
                  subst qa1
                  refine xi_aaload (pc' := 60) (b := 31) kc_104_59 rfl ((eh1.2.1 3 (by decide)).trans (F 3 _ hl_3)) rfl (xi_in (n := 12) (by decide) (by decide)) rfl ?_
                  refine xi_astore (pc' := 62) (lv' := [(5, .ref 31), (0, .ref 0), (1, .int 1), (2, .int a2), (3, .int a3), (4, .int 1)]) kc_104_60 rfl rfl (xm_lt ml_104 rfl) ?_
                  refine xi_aload (pc' := 64) (x := 31) kc_104_62 rfl rfl ?_
                  refine xi_virtual (mj := 106) (as := []) (st1 := []) (lv0 := [(0, .ref 31)]) kc_104_64 rfl rfl rfl rfl rfl ((eh1.2.1 31 (by decide)).trans (F 31 _ hl_31)) (Nat.le_of_ble_eq_true rfl) (hJ _ _ _ _ (by decide)) (xm_le ml_106 rfl) rfl ?_
                  refine xi_aload_n (pc' := 1) (x := 31) kc_106_0 rfl rfl ?_
                  refine xi_getfield (pc' := 4) (v := .int (-9)) kc_106_1 rfl rfl rfl ((eh1.2.1 31 (by decide)).trans (F 31 _ hl_31)) rfl ?_
                  refine xi_static (mj := 90) (as := [.int (-9)]) (st1 := []) (lv0 := [(0, .int (-9))]) kc_106_4 rfl rfl (Nat.le_of_ble_eq_true rfl) rfl rfl (Nat.le_of_ble_eq_true rfl) (hJ _ _ _ _ (by decide)) (xm_le ml_90 rfl) rfl ?_
                  refine xi_iload_n (pc' := 1) (x := (-9)) kc_90_0 rfl rfl ?_
                  refine xi_ift (pc' := 14) kc_90_1 rfl rfl ?_
                  refine xi_iconst (pc' := 15) (v := 0) kc_90_14 rfl rfl ?_
                  refine xi_ireturn kc_90_15 mr_90 rfl ?_
                  show xw J ov 98 106 (7, [(0, .ref 31)], [.int 0], hh1) _
                  refine xi_ireturn kc_106_7 mr_106 rfl ?_
                  show xw J ov 99 104 (67, [(5, .ref 31), (0, .ref 0), (1, .int 1), (2, .int a2), (3, .int a3), (4, .int 1)], [.int 0], hh1) _
                  refine xi_ift (pc' := 74) kc_104_67 rfl rfl ?_
                  refine xi_iconst (pc' := 75) (v := 1) kc_104_74 rfl rfl ?_
                  refine xi_istore (pc' := 77) (lv' := [(6, .int 1), (5, .ref 31), (0, .ref 0), (1, .int 1), (2, .int a2), (3, .int a3), (4, .int 1)]) kc_104_75 rfl rfl (xm_lt ml_104 rfl) ?_
                  refine xi_aload (pc' := 79) (x := 31) kc_104_77 rfl rfl ?_
                  refine xi_iload_n (pc' := 80) (x := a2) kc_104_79 rfl rfl ?_
                  refine xi_putfield (pc' := 83) (fs' := [.int a2, .int 0, .int 0, .int 0, .ref 32]) kc_104_80 rfl rfl rfl ((eh1.2.1 31 (by decide)).trans (F 31 _ hl_31)) rfl rfl rfl (Nat.le_of_ble_eq_true rfl) rfl (fun hh2 eh2 => ?_)
                  refine xi_aload (pc' := 85) (x := 31) kc_104_83 rfl rfl ?_
                  refine xi_iload_n (pc' := 86) (x := a3) kc_104_85 rfl rfl ?_
                  refine xi_putfield (pc' := 89) (fs' := [.int a2, .int a3, .int 0, .int 0, .ref 32]) kc_104_86 rfl rfl rfl eh2.1 rfl rfl rfl (Nat.le_of_ble_eq_true rfl) rfl (fun hh3 eh3 => ?_)
                  refine xi_aload (pc' := 91) (x := 31) kc_104_89 rfl rfl ?_
                  refine xi_iload (pc' := 93) (x := 1) kc_104_91 rfl rfl ?_
                  refine xi_putfield (pc' := 96) (fs' := [.int a2, .int a3, .int 1, .int 0, .ref 32]) kc_104_93 rfl rfl rfl eh3.1 rfl rfl rfl (Nat.le_of_ble_eq_true rfl) rfl (fun hh4 eh4 => ?_)
                  refine xi_iload (pc' := 98) (x := 1) kc_104_96 rfl rfl ?_
                  refine xi_ireturn kc_104_98 mr_104 rfl ?_
                  show xw J ov 100 196 (437, [(4, .int 0), (3, .ref 167), (2, .ref 115), (1, .ref 0), (0, .ref 1000000)], [.int 1], hh4) _
                  refine xi_aload_n (pc' := 438) (x := 115) kc_196_437 rfl rfl ?_
                  refine xi_aload_n (pc' := 439) (x := 1000000) kc_196_438 rfl rfl ?_
                  refine xi_iload (pc' := 441) (x := 0) kc_196_439 rfl rfl ?_
                  refine xi_iconst (pc' := 442) (v := 1) kc_196_441 rfl rfl ?_
                  refine xi_iadd (pc' := 443) (v := 1) kc_196_442 rfl rfl ?_
                  refine xi_ialoadO (pc' := 444) (v := 1) kc_196_443 rfl (by decide) hov0 (xi_in (n := 6) (by decide) (by decide)) rfl ?_
                  refine xi_aload_n (pc' := 445) (x := 1000000) kc_196_444 rfl rfl ?_
                  refine xi_iload (pc' := 447) (x := 0) kc_196_445 rfl rfl ?_
                  refine xi_iconst (pc' := 448) (v := 2) kc_196_447 rfl rfl ?_
                  refine xi_iadd (pc' := 449) (v := 2) kc_196_448 rfl rfl ?_
                  refine xi_ialoadO (pc' := 450) (v := a2) kc_196_449 rfl (by decide) hov0 (xi_in (n := 6) (by decide) (by decide)) rfl ?_
                  refine xi_aload_n (pc' := 451) (x := 1000000) kc_196_450 rfl rfl ?_
                  refine xi_iload (pc' := 453) (x := 0) kc_196_451 rfl rfl ?_
                  refine xi_iconst (pc' := 454) (v := 3) kc_196_453 rfl rfl ?_
                  refine xi_iadd (pc' := 455) (v := 3) kc_196_454 rfl rfl ?_
                  refine xi_ialoadO (pc' := 456) (v := a3) kc_196_455 rfl (by decide) hov0 (xi_in (n := 6) (by decide) (by decide)) rfl ?_
                  refine xi_aload_n (pc' := 457) (x := 1000000) kc_196_456 rfl rfl ?_
                  refine xi_iload (pc' := 459) (x := 0) kc_196_457 rfl rfl ?_
                  refine xi_iconst (pc' := 460) (v := 4) kc_196_459 rfl rfl ?_
                  refine xi_iadd (pc' := 461) (v := 4) kc_196_460 rfl rfl ?_
                  refine xi_ialoadO (pc' := 462) (v := a4) kc_196_461 rfl (by decide) hov0 (xi_in (n := 6) (by decide) (by decide)) rfl ?_
                  refine xi_iff (pc' := 465) kc_196_462 rfl (xc_eq_f (X := a4.toInt) (Y := 0) rfl (by decide) (by omega)) ?_
                  refine xi_iconst (pc' := 466) (v := 1) kc_196_465 rfl rfl ?_
                  refine xi_goto (pc' := 470) kc_196_466 rfl ?_
                  refine xi_virtual (mj := 24) (as := [.int 1, .int a2, .int a3, .int 1]) (st1 := [.int 1]) (lv0 := [(0, .ref 115), (1, .int 1), (2, .int a2), (3, .int a3), (4, .int 1)]) kc_196_470 rfl rfl rfl rfl rfl ((eh4.2.1 115 (by decide)).trans ((eh3.2.1 115 (by decide)).trans ((eh2.2.1 115 (by decide)).trans ((eh1.2.1 115 (by decide)).trans (F 115 _ hl_115))))) (Nat.le_of_ble_eq_true rfl) (hJ _ _ _ _ (by decide)) (xm_le ml_24 rfl) rfl ?_
                  refine xi_aload_n (pc' := 1) (x := 115) kc_24_0 rfl rfl ?_
                  refine xi_iconst (pc' := 2) (v := 0) kc_24_1 rfl rfl ?_
                  refine xi_putfield (pc' := 5) (fs' := [.int 0, .int 0, .ref 116, .ref 117, .ref 118, .ref 119, .ref 120, .ref 121, .ref 122, .ref 123, .ref 124, .ref 125, .ref 126, .ref 127, .ref 128, .ref 129, .int 4, .ref 130, .int 0, .ref 131, .ref 132, .ref 133, .ref 134, .int 0, .ref 135, .ref 136, .ref 137, .ref 138, .ref 139, .ref 140, .ref 141, .ref 142, .int 0, .int 0, .int 0, .ref 143, .ref 144, .ref 145, .ref 146, .ref 147, .ref 148, .int 0, .ref 149, .ref 150, .ref 151, .int 0, .ref 152, .ref 153, .ref 154, .ref 155, .ref 156, .ref 157, .ref 158, .ref 159, .int 0, .ref 160, .int 0, .ref 161, .ref 162, .ref 163, .ref 164, .int 0, .ref 165, .ref 166]) kc_24_2 rfl rfl rfl ((eh4.2.1 115 (by decide)).trans ((eh3.2.1 115 (by decide)).trans ((eh2.2.1 115 (by decide)).trans ((eh1.2.1 115 (by decide)).trans (F 115 _ hl_115))))) rfl rfl rfl (Nat.le_of_ble_eq_true rfl) rfl (fun hh5 eh5 => ?_)
                  refine xi_iload_n (pc' := 6) (x := 1) kc_24_5 rfl rfl ?_
                  refine xi_static (mj := 25) (as := [.int 1]) (st1 := []) (lv0 := [(0, .int 1)]) kc_24_6 rfl rfl (Nat.le_of_ble_eq_true rfl) rfl rfl (Nat.le_of_ble_eq_true rfl) (hJ _ _ _ _ (by decide)) (xm_le ml_25 rfl) rfl ?_
                  refine xi_iload_n (pc' := 1) (x := 1) kc_25_0 rfl rfl ?_
                  refine xi_iconst (pc' := 2) (v := 0) kc_25_1 rfl rfl ?_
                  refine xi_bipush (pc' := 4) (v := 11) kc_25_2 rfl rfl ?_
                  refine xi_static (mj := 12) (as := [.int 1, .int 0, .int 11]) (st1 := []) (lv0 := [(0, .int 1), (1, .int 0), (2, .int 11)]) kc_25_4 rfl rfl (Nat.le_of_ble_eq_true rfl) rfl rfl (Nat.le_of_ble_eq_true rfl) (hJ _ _ _ _ (by decide)) (xm_le ml_12 rfl) rfl ?_
                  refine xi_iload_n (pc' := 1) (x := 1) kc_12_0 rfl rfl ?_
                  refine xi_iload_n (pc' := 2) (x := 0) kc_12_1 rfl rfl ?_
                  refine xi_cmf (pc' := 5) kc_12_2 rfl rfl ?_
                  refine xi_iload_n (pc' := 6) (x := 1) kc_12_5 rfl rfl ?_
                  refine xi_iload_n (pc' := 7) (x := 11) kc_12_6 rfl rfl ?_
                  refine xi_cmf (pc' := 10) kc_12_7 rfl rfl ?_
                  refine xi_iconst (pc' := 11) (v := 1) kc_12_10 rfl rfl ?_
                  refine xi_goto (pc' := 15) kc_12_11 rfl ?_
                  refine xi_ireturn kc_12_15 mr_12 rfl ?_
                  show xw J ov 98 25 (7, [(0, .int 1)], [.int 1], hh5) _
                  refine xi_ireturn kc_25_7 mr_25 rfl ?_
                  show xw J ov 99 24 (9, [(0, .ref 115), (1, .int 1), (2, .int a2), (3, .int a3), (4, .int 1)], [.int 1], hh5) _
                  refine xi_iff (pc' := 12) kc_24_9 rfl rfl ?_
                  refine xi_iload_n (pc' := 13) (x := a2) kc_24_12 rfl rfl ?_
                  refine xi_static (mj := 11) (as := [.int a2]) (st1 := []) (lv0 := [(0, .int a2)]) kc_24_13 rfl rfl (Nat.le_of_ble_eq_true rfl) rfl rfl (Nat.le_of_ble_eq_true rfl) (hJ _ _ _ _ (by decide)) (xm_le ml_11 rfl) rfl ?_
                  refine xi_iload_n (pc' := 1) (x := a2) kc_11_0 rfl rfl ?_
                  refine xi_iconst (pc' := 2) (v := 0) kc_11_1 rfl rfl ?_
                  refine xi_iconst (pc' := 3) (v := 5) kc_11_2 rfl rfl ?_
                  refine xi_static (mj := 12) (as := [.int a2, .int 0, .int 5]) (st1 := []) (lv0 := [(0, .int a2), (1, .int 0), (2, .int 5)]) kc_11_3 rfl rfl (Nat.le_of_ble_eq_true rfl) rfl rfl (Nat.le_of_ble_eq_true rfl) (hJ _ _ _ _ (by decide)) (xm_le ml_12 rfl) rfl ?_
                  refine xi_iload_n (pc' := 1) (x := a2) kc_12_0 rfl rfl ?_
                  refine xi_iload_n (pc' := 2) (x := 0) kc_12_1 rfl rfl ?_
                  refine xi_cmf (pc' := 5) kc_12_2 rfl (xc_lt_f (X := a2.toInt) (Y := 0) rfl (by decide) (by omega)) ?_
                  refine xi_iload_n (pc' := 6) (x := a2) kc_12_5 rfl rfl ?_
                  refine xi_iload_n (pc' := 7) (x := 5) kc_12_6 rfl rfl ?_
                  refine xi_cmf (pc' := 10) kc_12_7 rfl (xc_gt_f (X := a2.toInt) (Y := 5) rfl (by decide) (by omega)) ?_
                  refine xi_iconst (pc' := 11) (v := 1) kc_12_10 rfl rfl ?_
                  refine xi_goto (pc' := 15) kc_12_11 rfl ?_
                  refine xi_ireturn kc_12_15 mr_12 rfl ?_
                  show xw J ov 98 11 (6, [(0, .int a2)], [.int 1], hh5) _
                  refine xi_ireturn kc_11_6 mr_11 rfl ?_
                  show xw J ov 99 24 (16, [(0, .ref 115), (1, .int 1), (2, .int a2), (3, .int a3), (4, .int 1)], [.int 1], hh5) _
                  refine xi_ift (pc' := 25) kc_24_16 rfl rfl ?_
                  refine xi_iload_n (pc' := 26) (x := a3) kc_24_25 rfl rfl ?_
                  refine xi_ift (pc' := 36) kc_24_26 rfl (xc_ge_t (X := a3.toInt) (Y := 0) rfl (by decide) (by omega)) ?_
                  refine xi_iload_n (pc' := 37) (x := a3) kc_24_36 rfl rfl ?_
                  refine xi_bipush (pc' := 39) (v := 100) kc_24_37 rfl rfl ?_
                  refine xi_cmt (pc' := 49) kc_24_39 rfl (xc_le_t (X := a3.toInt) (Y := 100) rfl (by decide) (by omega)) ?_
                  refine xi_aload_n (pc' := 50) (x := 115) kc_24_49 rfl rfl ?_
                  refine xi_getfield (pc' := 53) (v := .ref 125) kc_24_50 rfl rfl rfl eh5.1 rfl ?_
                  refine xi_iload_n (pc' := 54) (x := 1) kc_24_53 rfl rfl ?_
                  refine xi_iaload (pc' := 55) (v := (-9)) kc_24_54 rfl ((eh5.2.1 125 (by decide)).trans ((eh4.2.1 125 (by decide)).trans ((eh3.2.1 125 (by decide)).trans ((eh2.2.1 125 (by decide)).trans ((eh1.2.1 125 (by decide)).trans (F 125 _ hl_125)))))) (by decide) rfl (xi_in (n := 12) (by decide) (by decide)) rfl ?_
                  refine xi_ift (pc' := 62) kc_24_55 rfl rfl ?_
                  refine xi_iconst (pc' := 63) (v := 0) kc_24_62 rfl rfl ?_
                  refine xi_istore (pc' := 65) (lv' := [(5, .int 0), (0, .ref 115), (1, .int 1), (2, .int a2), (3, .int a3), (4, .int 1)]) kc_24_63 rfl rfl (xm_lt ml_24 rfl) ?_
                  refine xi_aload_n (pc' := 66) (x := 115) kc_24_65 rfl rfl ?_
                  refine xi_getfield (pc' := 69) (v := .ref 125) kc_24_66 rfl rfl rfl eh5.1 rfl ?_
                  refine xi_iload_n (pc' := 70) (x := 1) kc_24_69 rfl rfl ?_
                  refine xi_iload_n (pc' := 71) (x := a2) kc_24_70 rfl rfl ?_
                  refine xi_iastore (pc' := 72) (x' := [(-9), a2, (-9), (-9), (-9), (-9), (-9), (-9), (-9), (-9), (-9), (-9)]) kc_24_71 rfl ((eh5.2.1 125 (by decide)).trans ((eh4.2.1 125 (by decide)).trans ((eh3.2.1 125 (by decide)).trans ((eh2.2.1 125 (by decide)).trans ((eh1.2.1 125 (by decide)).trans (F 125 _ hl_125)))))) rfl (xi_in (n := 12) (by decide) (by decide)) rfl (fun hh6 eh6 => ?_)
                  refine xi_aload_n (pc' := 73) (x := 115) kc_24_72 rfl rfl ?_
                  refine xi_getfield (pc' := 76) (v := .ref 126) kc_24_73 rfl rfl rfl ((eh6.2.1 115 (by decide)).trans eh5.1) rfl ?_
                  refine xi_iload_n (pc' := 77) (x := 1) kc_24_76 rfl rfl ?_
                  refine xi_iload_n (pc' := 78) (x := a3) kc_24_77 rfl rfl ?_
                  refine xi_iastore (pc' := 79) (x' := [0, a3, 0, 0, 0, 0, 0, 0, 0, 0, 0, 0]) kc_24_78 rfl ((eh6.2.1 126 (by decide)).trans ((eh5.2.1 126 (by decide)).trans ((eh4.2.1 126 (by decide)).trans ((eh3.2.1 126 (by decide)).trans ((eh2.2.1 126 (by decide)).trans ((eh1.2.1 126 (by decide)).trans (F 126 _ hl_126))))))) rfl (xi_in (n := 12) (by decide) (by decide)) rfl (fun hh7 eh7 => ?_)
                  refine xi_aload_n (pc' := 80) (x := 115) kc_24_79 rfl rfl ?_
                  refine xi_getfield (pc' := 83) (v := .ref 127) kc_24_80 rfl rfl rfl ((eh7.2.1 115 (by decide)).trans ((eh6.2.1 115 (by decide)).trans eh5.1)) rfl ?_
                  refine xi_iload_n (pc' := 84) (x := 1) kc_24_83 rfl rfl ?_
                  refine xi_iload (pc' := 86) (x := 1) kc_24_84 rfl rfl ?_
                  refine xi_bastore (pc' := 87) (x' := [0, 1, 0, 0, 0, 0, 0, 0, 0, 0, 0, 0]) kc_24_86 rfl ((eh7.2.1 127 (by decide)).trans ((eh6.2.1 127 (by decide)).trans ((eh5.2.1 127 (by decide)).trans ((eh4.2.1 127 (by decide)).trans ((eh3.2.1 127 (by decide)).trans ((eh2.2.1 127 (by decide)).trans ((eh1.2.1 127 (by decide)).trans (F 127 _ hl_127)))))))) rfl (xi_in (n := 12) (by decide) (by decide)) rfl (fun hh8 eh8 => ?_)
                  refine xi_aload_n (pc' := 88) (x := 115) kc_24_87 rfl rfl ?_
                  refine xi_iconst (pc' := 89) (v := 0) kc_24_88 rfl rfl ?_
                  refine xi_putfield (pc' := 92) (fs' := [.int 0, .int 0, .ref 116, .ref 117, .ref 118, .ref 119, .ref 120, .ref 121, .ref 122, .ref 123, .ref 124, .ref 125, .ref 126, .ref 127, .ref 128, .ref 129, .int 4, .ref 130, .int 0, .ref 131, .ref 132, .ref 133, .ref 134, .int 0, .ref 135, .ref 136, .ref 137, .ref 138, .ref 139, .ref 140, .ref 141, .ref 142, .int 0, .int 0, .int 0, .ref 143, .ref 144, .ref 145, .ref 146, .ref 147, .ref 148, .int 0, .ref 149, .ref 150, .ref 151, .int 0, .ref 152, .ref 153, .ref 154, .ref 155, .ref 156, .ref 157, .ref 158, .ref 159, .int 0, .ref 160, .int 0, .ref 161, .ref 162, .ref 163, .ref 164, .int 0, .ref 165, .ref 166]) kc_24_89 rfl rfl rfl ((eh8.2.1 115 (by decide)).trans ((eh7.2.1 115 (by decide)).trans ((eh6.2.1 115 (by decide)).trans eh5.1))) rfl rfl rfl (Nat.le_of_ble_eq_true rfl) rfl (fun hh9 eh9 => ?_)
                  refine xi_iload (pc' := 94) (x := 0) kc_24_92 rfl rfl ?_
                  refine xi_ift (pc' := 101) kc_24_94 rfl rfl ?_
                  refine xi_iconst (pc' := 102) (v := 1) kc_24_101 rfl rfl ?_
                  refine xi_ireturn kc_24_102 mr_24 rfl ?_
                  show xw J ov 100 196 (473, [(4, .int 0), (3, .ref 167), (2, .ref 115), (1, .ref 0), (0, .ref 1000000)], [.int 1, .int 1], hh9) _
                  refine xi_cmt (pc' := 1528) kc_196_473 rfl rfl ?_
                  refine xi_iinc (pc' := 1531) (x := 0) (v := 6) (lv' := [(4, .int 6), (3, .ref 167), (2, .ref 115), (1, .ref 0), (0, .ref 1000000)]) kc_196_1528 rfl rfl rfl rfl (xm_lt ml_196 rfl) ?_
                  refine xi_goto (pc' := 23) kc_196_1531 rfl ?_
                  refine xi_iload (pc' := 25) (x := 6) kc_196_23 rfl rfl ?_
                  refine xi_aload_n (pc' := 26) (x := 1000000) kc_196_25 rfl rfl ?_
                  refine xi_arraylength (pc' := 27) (n := 6) (v := 6) kc_196_26 rfl (xl_lenO (by decide) hov0 rfl) rfl ?_
                  refine xi_bipush (pc' := 29) (v := 6) kc_196_27 rfl rfl ?_
                  refine xi_isub (pc' := 30) (v := 0) kc_196_29 rfl rfl ?_
                  refine xi_cmt (pc' := 1534) kc_196_30 rfl rfl ?_
                  refine xi_iconst (pc' := 1535) (v := 1) kc_196_1534 rfl rfl ?_
                  refine xi_ireturn kc_196_1535 mr_196 rfl ?_
                  refine ⟨rfl, ?_, ?_⟩
                  · rw [eh9.2.2.1, eh8.2.2.1, eh7.2.2.1, eh6.2.2.1, eh5.2.2.1, eh4.2.2.1, eh3.2.2.1, eh2.2.2.1, eh1.2.2.1]; exact hn0
                  · rw [eh9.2.2.2, eh8.2.2.2, eh7.2.2.2, eh6.2.2.2, eh5.2.2.2, eh4.2.2.2, eh3.2.2.2, eh2.2.2.2, eh1.2.2.2]; exact hz0
                by_cases c27 : a1.toInt = 2
                · have qa1 : a1 = 2 := xc_of (Eq.trans (by omega) (show (2 : Int) = (2 : Int32).toInt by decide))
                  subst qa1
                  refine xi_aaload (pc' := 60) (b := 33) kc_104_59 rfl ((eh1.2.1 3 (by decide)).trans (F 3 _ hl_3)) rfl (xi_in (n := 12) (by decide) (by decide)) rfl ?_
                  refine xi_astore (pc' := 62) (lv' := [(5, .ref 33), (0, .ref 0), (1, .int 2), (2, .int a2), (3, .int a3), (4, .int 1)]) kc_104_60 rfl rfl (xm_lt ml_104 rfl) ?_
                  refine xi_aload (pc' := 64) (x := 33) kc_104_62 rfl rfl ?_
                  refine xi_virtual (mj := 106) (as := []) (st1 := []) (lv0 := [(0, .ref 33)]) kc_104_64 rfl rfl rfl rfl rfl ((eh1.2.1 33 (by decide)).trans (F 33 _ hl_33)) (Nat.le_of_ble_eq_true rfl) (hJ _ _ _ _ (by decide)) (xm_le ml_106 rfl) rfl ?_
                  refine xi_aload_n (pc' := 1) (x := 33) kc_106_0 rfl rfl ?_
                  refine xi_getfield (pc' := 4) (v := .int (-9)) kc_106_1 rfl rfl rfl ((eh1.2.1 33 (by decide)).trans (F 33 _ hl_33)) rfl ?_
                  refine xi_static (mj := 90) (as := [.int (-9)]) (st1 := []) (lv0 := [(0, .int (-9))]) kc_106_4 rfl rfl (Nat.le_of_ble_eq_true rfl) rfl rfl (Nat.le_of_ble_eq_true rfl) (hJ _ _ _ _ (by decide)) (xm_le ml_90 rfl) rfl ?_
                  refine xi_iload_n (pc' := 1) (x := (-9)) kc_90_0 rfl rfl ?_
                  refine xi_ift (pc' := 14) kc_90_1 rfl rfl ?_
                  refine xi_iconst (pc' := 15) (v := 0) kc_90_14 rfl rfl ?_
                  refine xi_ireturn kc_90_15 mr_90 rfl ?_
                  show xw J ov 98 106 (7, [(0, .ref 33)], [.int 0], hh1) _
                  refine xi_ireturn kc_106_7 mr_106 rfl ?_
                  show xw J ov 99 104 (67, [(5, .ref 33), (0, .ref 0), (1, .int 2), (2, .int a2), (3, .int a3), (4, .int 1)], [.int 0], hh1) _
                  refine xi_ift (pc' := 74) kc_104_67 rfl rfl ?_
                  refine xi_iconst (pc' := 75) (v := 1) kc_104_74 rfl rfl ?_
                  refine xi_istore (pc' := 77) (lv' := [(6, .int 1), (5, .ref 33), (0, .ref 0), (1, .int 2), (2, .int a2), (3, .int a3), (4, .int 1)]) kc_104_75 rfl rfl (xm_lt ml_104 rfl) ?_
                  refine xi_aload (pc' := 79) (x := 33) kc_104_77 rfl rfl ?_
                  refine xi_iload_n (pc' := 80) (x := a2) kc_104_79 rfl rfl ?_
                  refine xi_putfield (pc' := 83) (fs' := [.int a2, .int 0, .int 0, .int 0, .ref 34]) kc_104_80 rfl rfl rfl ((eh1.2.1 33 (by decide)).trans (F 33 _ hl_33)) rfl rfl rfl (Nat.le_of_ble_eq_true rfl) rfl (fun hh2 eh2 => ?_)
                  refine xi_aload (pc' := 85) (x := 33) kc_104_83 rfl rfl ?_
                  refine xi_iload_n (pc' := 86) (x := a3) kc_104_85 rfl rfl ?_
                  refine xi_putfield (pc' := 89) (fs' := [.int a2, .int a3, .int 0, .int 0, .ref 34]) kc_104_86 rfl rfl rfl eh2.1 rfl rfl rfl (Nat.le_of_ble_eq_true rfl) rfl (fun hh3 eh3 => ?_)
                  refine xi_aload (pc' := 91) (x := 33) kc_104_89 rfl rfl ?_
                  refine xi_iload (pc' := 93) (x := 1) kc_104_91 rfl rfl ?_
                  refine xi_putfield (pc' := 96) (fs' := [.int a2, .int a3, .int 1, .int 0, .ref 34]) kc_104_93 rfl rfl rfl eh3.1 rfl rfl rfl (Nat.le_of_ble_eq_true rfl) rfl (fun hh4 eh4 => ?_)
                  refine xi_iload (pc' := 98) (x := 1) kc_104_96 rfl rfl ?_
                  refine xi_ireturn kc_104_98 mr_104 rfl ?_
                  show xw J ov 100 196 (437, [(4, .int 0), (3, .ref 167), (2, .ref 115), (1, .ref 0), (0, .ref 1000000)], [.int 1], hh4) _
                  refine xi_aload_n (pc' := 438) (x := 115) kc_196_437 rfl rfl ?_
                  refine xi_aload_n (pc' := 439) (x := 1000000) kc_196_438 rfl rfl ?_
                  refine xi_iload (pc' := 441) (x := 0) kc_196_439 rfl rfl ?_
                  refine xi_iconst (pc' := 442) (v := 1) kc_196_441 rfl rfl ?_
                  refine xi_iadd (pc' := 443) (v := 1) kc_196_442 rfl rfl ?_
                  refine xi_ialoadO (pc' := 444) (v := 2) kc_196_443 rfl (by decide) hov0 (xi_in (n := 6) (by decide) (by decide)) rfl ?_
                  refine xi_aload_n (pc' := 445) (x := 1000000) kc_196_444 rfl rfl ?_
                  refine xi_iload (pc' := 447) (x := 0) kc_196_445 rfl rfl ?_
                  refine xi_iconst (pc' := 448) (v := 2) kc_196_447 rfl rfl ?_
                  refine xi_iadd (pc' := 449) (v := 2) kc_196_448 rfl rfl ?_
                  refine xi_ialoadO (pc' := 450) (v := a2) kc_196_449 rfl (by decide) hov0 (xi_in (n := 6) (by decide) (by decide)) rfl ?_
                  refine xi_aload_n (pc' := 451) (x := 1000000) kc_196_450 rfl rfl ?_
                  refine xi_iload (pc' := 453) (x := 0) kc_196_451 rfl rfl ?_
                  refine xi_iconst (pc' := 454) (v := 3) kc_196_453 rfl rfl ?_
                  refine xi_iadd (pc' := 455) (v := 3) kc_196_454 rfl rfl ?_
                  refine xi_ialoadO (pc' := 456) (v := a3) kc_196_455 rfl (by decide) hov0 (xi_in (n := 6) (by decide) (by decide)) rfl ?_
                  refine xi_aload_n (pc' := 457) (x := 1000000) kc_196_456 rfl rfl ?_
                  refine xi_iload (pc' := 459) (x := 0) kc_196_457 rfl rfl ?_
                  refine xi_iconst (pc' := 460) (v := 4) kc_196_459 rfl rfl ?_
                  refine xi_iadd (pc' := 461) (v := 4) kc_196_460 rfl rfl ?_
                  refine xi_ialoadO (pc' := 462) (v := a4) kc_196_461 rfl (by decide) hov0 (xi_in (n := 6) (by decide) (by decide)) rfl ?_
                  refine xi_iff (pc' := 465) kc_196_462 rfl (xc_eq_f (X := a4.toInt) (Y := 0) rfl (by decide) (by omega)) ?_
                  refine xi_iconst (pc' := 466) (v := 1) kc_196_465 rfl rfl ?_
                  refine xi_goto (pc' := 470) kc_196_466 rfl ?_
                  refine xi_virtual (mj := 24) (as := [.int 2, .int a2, .int a3, .int 1]) (st1 := [.int 1]) (lv0 := [(0, .ref 115), (1, .int 2), (2, .int a2), (3, .int a3), (4, .int 1)]) kc_196_470 rfl rfl rfl rfl rfl ((eh4.2.1 115 (by decide)).trans ((eh3.2.1 115 (by decide)).trans ((eh2.2.1 115 (by decide)).trans ((eh1.2.1 115 (by decide)).trans (F 115 _ hl_115))))) (Nat.le_of_ble_eq_true rfl) (hJ _ _ _ _ (by decide)) (xm_le ml_24 rfl) rfl ?_
                  refine xi_aload_n (pc' := 1) (x := 115) kc_24_0 rfl rfl ?_
                  refine xi_iconst (pc' := 2) (v := 0) kc_24_1 rfl rfl ?_
                  refine xi_putfield (pc' := 5) (fs' := [.int 0, .int 0, .ref 116, .ref 117, .ref 118, .ref 119, .ref 120, .ref 121, .ref 122, .ref 123, .ref 124, .ref 125, .ref 126, .ref 127, .ref 128, .ref 129, .int 4, .ref 130, .int 0, .ref 131, .ref 132, .ref 133, .ref 134, .int 0, .ref 135, .ref 136, .ref 137, .ref 138, .ref 139, .ref 140, .ref 141, .ref 142, .int 0, .int 0, .int 0, .ref 143, .ref 144, .ref 145, .ref 146, .ref 147, .ref 148, .int 0, .ref 149, .ref 150, .ref 151, .int 0, .ref 152, .ref 153, .ref 154, .ref 155, .ref 156, .ref 157, .ref 158, .ref 159, .int 0, .ref 160, .int 0, .ref 161, .ref 162, .ref 163, .ref 164, .int 0, .ref 165, .ref 166]) kc_24_2 rfl rfl rfl ((eh4.2.1 115 (by decide)).trans ((eh3.2.1 115 (by decide)).trans ((eh2.2.1 115 (by decide)).trans ((eh1.2.1 115 (by decide)).trans (F 115 _ hl_115))))) rfl rfl rfl (Nat.le_of_ble_eq_true rfl) rfl (fun hh5 eh5 => ?_)
                  refine xi_iload_n (pc' := 6) (x := 2) kc_24_5 rfl rfl ?_
                  refine xi_static (mj := 25) (as := [.int 2]) (st1 := []) (lv0 := [(0, .int 2)]) kc_24_6 rfl rfl (Nat.le_of_ble_eq_true rfl) rfl rfl (Nat.le_of_ble_eq_true rfl) (hJ _ _ _ _ (by decide)) (xm_le ml_25 rfl) rfl ?_
                  refine xi_iload_n (pc' := 1) (x := 2) kc_25_0 rfl rfl ?_
                  refine xi_iconst (pc' := 2) (v := 0) kc_25_1 rfl rfl ?_
                  refine xi_bipush (pc' := 4) (v := 11) kc_25_2 rfl rfl ?_
                  refine xi_static (mj := 12) (as := [.int 2, .int 0, .int 11]) (st1 := []) (lv0 := [(0, .int 2), (1, .int 0), (2, .int 11)]) kc_25_4 rfl rfl (Nat.le_of_ble_eq_true rfl) rfl rfl (Nat.le_of_ble_eq_true rfl) (hJ _ _ _ _ (by decide)) (xm_le ml_12 rfl) rfl ?_
                  refine xi_iload_n (pc' := 1) (x := 2) kc_12_0 rfl rfl ?_
                  refine xi_iload_n (pc' := 2) (x := 0) kc_12_1 rfl rfl ?_
                  refine xi_cmf (pc' := 5) kc_12_2 rfl rfl ?_
                  refine xi_iload_n (pc' := 6) (x := 2) kc_12_5 rfl rfl ?_
                  refine xi_iload_n (pc' := 7) (x := 11) kc_12_6 rfl rfl ?_
                  refine xi_cmf (pc' := 10) kc_12_7 rfl rfl ?_
                  refine xi_iconst (pc' := 11) (v := 1) kc_12_10 rfl rfl ?_
                  refine xi_goto (pc' := 15) kc_12_11 rfl ?_
                  refine xi_ireturn kc_12_15 mr_12 rfl ?_
                  show xw J ov 98 25 (7, [(0, .int 2)], [.int 1], hh5) _
                  refine xi_ireturn kc_25_7 mr_25 rfl ?_
                  show xw J ov 99 24 (9, [(0, .ref 115), (1, .int 2), (2, .int a2), (3, .int a3), (4, .int 1)], [.int 1], hh5) _
                  refine xi_iff (pc' := 12) kc_24_9 rfl rfl ?_
                  refine xi_iload_n (pc' := 13) (x := a2) kc_24_12 rfl rfl ?_
                  refine xi_static (mj := 11) (as := [.int a2]) (st1 := []) (lv0 := [(0, .int a2)]) kc_24_13 rfl rfl (Nat.le_of_ble_eq_true rfl) rfl rfl (Nat.le_of_ble_eq_true rfl) (hJ _ _ _ _ (by decide)) (xm_le ml_11 rfl) rfl ?_
                  refine xi_iload_n (pc' := 1) (x := a2) kc_11_0 rfl rfl ?_
                  refine xi_iconst (pc' := 2) (v := 0) kc_11_1 rfl rfl ?_
                  refine xi_iconst (pc' := 3) (v := 5) kc_11_2 rfl rfl ?_
                  refine xi_static (mj := 12) (as := [.int a2, .int 0, .int 5]) (st1 := []) (lv0 := [(0, .int a2), (1, .int 0), (2, .int 5)]) kc_11_3 rfl rfl (Nat.le_of_ble_eq_true rfl) rfl rfl (Nat.le_of_ble_eq_true rfl) (hJ _ _ _ _ (by decide)) (xm_le ml_12 rfl) rfl ?_
                  refine xi_iload_n (pc' := 1) (x := a2) kc_12_0 rfl rfl ?_
                  refine xi_iload_n (pc' := 2) (x := 0) kc_12_1 rfl rfl ?_
                  refine xi_cmf (pc' := 5) kc_12_2 rfl (xc_lt_f (X := a2.toInt) (Y := 0) rfl (by decide) (by omega)) ?_
                  refine xi_iload_n (pc' := 6) (x := a2) kc_12_5 rfl rfl ?_
                  refine xi_iload_n (pc' := 7) (x := 5) kc_12_6 rfl rfl ?_
                  refine xi_cmf (pc' := 10) kc_12_7 rfl (xc_gt_f (X := a2.toInt) (Y := 5) rfl (by decide) (by omega)) ?_
                  refine xi_iconst (pc' := 11) (v := 1) kc_12_10 rfl rfl ?_
                  refine xi_goto (pc' := 15) kc_12_11 rfl ?_
                  refine xi_ireturn kc_12_15 mr_12 rfl ?_
                  show xw J ov 98 11 (6, [(0, .int a2)], [.int 1], hh5) _
                  refine xi_ireturn kc_11_6 mr_11 rfl ?_
                  show xw J ov 99 24 (16, [(0, .ref 115), (1, .int 2), (2, .int a2), (3, .int a3), (4, .int 1)], [.int 1], hh5) _
                  refine xi_ift (pc' := 25) kc_24_16 rfl rfl ?_
                  refine xi_iload_n (pc' := 26) (x := a3) kc_24_25 rfl rfl ?_
                  refine xi_ift (pc' := 36) kc_24_26 rfl (xc_ge_t (X := a3.toInt) (Y := 0) rfl (by decide) (by omega)) ?_
                  refine xi_iload_n (pc' := 37) (x := a3) kc_24_36 rfl rfl ?_
                  refine xi_bipush (pc' := 39) (v := 100) kc_24_37 rfl rfl ?_
                  refine xi_cmt (pc' := 49) kc_24_39 rfl (xc_le_t (X := a3.toInt) (Y := 100) rfl (by decide) (by omega)) ?_
                  refine xi_aload_n (pc' := 50) (x := 115) kc_24_49 rfl rfl ?_
                  refine xi_getfield (pc' := 53) (v := .ref 125) kc_24_50 rfl rfl rfl eh5.1 rfl ?_
                  refine xi_iload_n (pc' := 54) (x := 2) kc_24_53 rfl rfl ?_
                  refine xi_iaload (pc' := 55) (v := (-9)) kc_24_54 rfl ((eh5.2.1 125 (by decide)).trans ((eh4.2.1 125 (by decide)).trans ((eh3.2.1 125 (by decide)).trans ((eh2.2.1 125 (by decide)).trans ((eh1.2.1 125 (by decide)).trans (F 125 _ hl_125)))))) (by decide) rfl (xi_in (n := 12) (by decide) (by decide)) rfl ?_
                  refine xi_ift (pc' := 62) kc_24_55 rfl rfl ?_
                  refine xi_iconst (pc' := 63) (v := 0) kc_24_62 rfl rfl ?_
                  refine xi_istore (pc' := 65) (lv' := [(5, .int 0), (0, .ref 115), (1, .int 2), (2, .int a2), (3, .int a3), (4, .int 1)]) kc_24_63 rfl rfl (xm_lt ml_24 rfl) ?_
                  refine xi_aload_n (pc' := 66) (x := 115) kc_24_65 rfl rfl ?_
                  refine xi_getfield (pc' := 69) (v := .ref 125) kc_24_66 rfl rfl rfl eh5.1 rfl ?_
                  refine xi_iload_n (pc' := 70) (x := 2) kc_24_69 rfl rfl ?_
                  refine xi_iload_n (pc' := 71) (x := a2) kc_24_70 rfl rfl ?_
                  refine xi_iastore (pc' := 72) (x' := [(-9), (-9), a2, (-9), (-9), (-9), (-9), (-9), (-9), (-9), (-9), (-9)]) kc_24_71 rfl ((eh5.2.1 125 (by decide)).trans ((eh4.2.1 125 (by decide)).trans ((eh3.2.1 125 (by decide)).trans ((eh2.2.1 125 (by decide)).trans ((eh1.2.1 125 (by decide)).trans (F 125 _ hl_125)))))) rfl (xi_in (n := 12) (by decide) (by decide)) rfl (fun hh6 eh6 => ?_)
                  refine xi_aload_n (pc' := 73) (x := 115) kc_24_72 rfl rfl ?_
                  refine xi_getfield (pc' := 76) (v := .ref 126) kc_24_73 rfl rfl rfl ((eh6.2.1 115 (by decide)).trans eh5.1) rfl ?_
                  refine xi_iload_n (pc' := 77) (x := 2) kc_24_76 rfl rfl ?_
                  refine xi_iload_n (pc' := 78) (x := a3) kc_24_77 rfl rfl ?_
                  refine xi_iastore (pc' := 79) (x' := [0, 0, a3, 0, 0, 0, 0, 0, 0, 0, 0, 0]) kc_24_78 rfl ((eh6.2.1 126 (by decide)).trans ((eh5.2.1 126 (by decide)).trans ((eh4.2.1 126 (by decide)).trans ((eh3.2.1 126 (by decide)).trans ((eh2.2.1 126 (by decide)).trans ((eh1.2.1 126 (by decide)).trans (F 126 _ hl_126))))))) rfl (xi_in (n := 12) (by decide) (by decide)) rfl (fun hh7 eh7 => ?_)
                  refine xi_aload_n (pc' := 80) (x := 115) kc_24_79 rfl rfl ?_
                  refine xi_getfield (pc' := 83) (v := .ref 127) kc_24_80 rfl rfl rfl ((eh7.2.1 115 (by decide)).trans ((eh6.2.1 115 (by decide)).trans eh5.1)) rfl ?_
                  refine xi_iload_n (pc' := 84) (x := 2) kc_24_83 rfl rfl ?_
                  refine xi_iload (pc' := 86) (x := 1) kc_24_84 rfl rfl ?_
                  refine xi_bastore (pc' := 87) (x' := [0, 0, 1, 0, 0, 0, 0, 0, 0, 0, 0, 0]) kc_24_86 rfl ((eh7.2.1 127 (by decide)).trans ((eh6.2.1 127 (by decide)).trans ((eh5.2.1 127 (by decide)).trans ((eh4.2.1 127 (by decide)).trans ((eh3.2.1 127 (by decide)).trans ((eh2.2.1 127 (by decide)).trans ((eh1.2.1 127 (by decide)).trans (F 127 _ hl_127)))))))) rfl (xi_in (n := 12) (by decide) (by decide)) rfl (fun hh8 eh8 => ?_)
                  refine xi_aload_n (pc' := 88) (x := 115) kc_24_87 rfl rfl ?_
                  refine xi_iconst (pc' := 89) (v := 0) kc_24_88 rfl rfl ?_
                  refine xi_putfield (pc' := 92) (fs' := [.int 0, .int 0, .ref 116, .ref 117, .ref 118, .ref 119, .ref 120, .ref 121, .ref 122, .ref 123, .ref 124, .ref 125, .ref 126, .ref 127, .ref 128, .ref 129, .int 4, .ref 130, .int 0, .ref 131, .ref 132, .ref 133, .ref 134, .int 0, .ref 135, .ref 136, .ref 137, .ref 138, .ref 139, .ref 140, .ref 141, .ref 142, .int 0, .int 0, .int 0, .ref 143, .ref 144, .ref 145, .ref 146, .ref 147, .ref 148, .int 0, .ref 149, .ref 150, .ref 151, .int 0, .ref 152, .ref 153, .ref 154, .ref 155, .ref 156, .ref 157, .ref 158, .ref 159, .int 0, .ref 160, .int 0, .ref 161, .ref 162, .ref 163, .ref 164, .int 0, .ref 165, .ref 166]) kc_24_89 rfl rfl rfl ((eh8.2.1 115 (by decide)).trans ((eh7.2.1 115 (by decide)).trans ((eh6.2.1 115 (by decide)).trans eh5.1))) rfl rfl rfl (Nat.le_of_ble_eq_true rfl) rfl (fun hh9 eh9 => ?_)
                  refine xi_iload (pc' := 94) (x := 0) kc_24_92 rfl rfl ?_
                  refine xi_ift (pc' := 101) kc_24_94 rfl rfl ?_
                  refine xi_iconst (pc' := 102) (v := 1) kc_24_101 rfl rfl ?_
                  refine xi_ireturn kc_24_102 mr_24 rfl ?_
                  show xw J ov 100 196 (473, [(4, .int 0), (3, .ref 167), (2, .ref 115), (1, .ref 0), (0, .ref 1000000)], [.int 1, .int 1], hh9) _
                  refine xi_cmt (pc' := 1528) kc_196_473 rfl rfl ?_
                  refine xi_iinc (pc' := 1531) (x := 0) (v := 6) (lv' := [(4, .int 6), (3, .ref 167), (2, .ref 115), (1, .ref 0), (0, .ref 1000000)]) kc_196_1528 rfl rfl rfl rfl (xm_lt ml_196 rfl) ?_
                  refine xi_goto (pc' := 23) kc_196_1531 rfl ?_
                  refine xi_iload (pc' := 25) (x := 6) kc_196_23 rfl rfl ?_
                  refine xi_aload_n (pc' := 26) (x := 1000000) kc_196_25 rfl rfl ?_
                  refine xi_arraylength (pc' := 27) (n := 6) (v := 6) kc_196_26 rfl (xl_lenO (by decide) hov0 rfl) rfl ?_
                  refine xi_bipush (pc' := 29) (v := 6) kc_196_27 rfl rfl ?_
                  refine xi_isub (pc' := 30) (v := 0) kc_196_29 rfl rfl ?_
                  refine xi_cmt (pc' := 1534) kc_196_30 rfl rfl ?_
                  refine xi_iconst (pc' := 1535) (v := 1) kc_196_1534 rfl rfl ?_
                  refine xi_ireturn kc_196_1535 mr_196 rfl ?_
                  refine ⟨rfl, ?_, ?_⟩
                  · rw [eh9.2.2.1, eh8.2.2.1, eh7.2.2.1, eh6.2.2.1, eh5.2.2.1, eh4.2.2.1, eh3.2.2.1, eh2.2.2.1, eh1.2.2.1]; exact hn0
                  · rw [eh9.2.2.2, eh8.2.2.2, eh7.2.2.2, eh6.2.2.2, eh5.2.2.2, eh4.2.2.2, eh3.2.2.2, eh2.2.2.2, eh1.2.2.2]; exact hz0
                by_cases c28 : a1.toInt = 3
                · have qa1 : a1 = 3 := xc_of (Eq.trans (by omega) (show (3 : Int) = (3 : Int32).toInt by decide))
                  subst qa1
                  refine xi_aaload (pc' := 60) (b := 35) kc_104_59 rfl ((eh1.2.1 3 (by decide)).trans (F 3 _ hl_3)) rfl (xi_in (n := 12) (by decide) (by decide)) rfl ?_
                  refine xi_astore (pc' := 62) (lv' := [(5, .ref 35), (0, .ref 0), (1, .int 3), (2, .int a2), (3, .int a3), (4, .int 1)]) kc_104_60 rfl rfl (xm_lt ml_104 rfl) ?_
                  refine xi_aload (pc' := 64) (x := 35) kc_104_62 rfl rfl ?_
                  refine xi_virtual (mj := 106) (as := []) (st1 := []) (lv0 := [(0, .ref 35)]) kc_104_64 rfl rfl rfl rfl rfl ((eh1.2.1 35 (by decide)).trans (F 35 _ hl_35)) (Nat.le_of_ble_eq_true rfl) (hJ _ _ _ _ (by decide)) (xm_le ml_106 rfl) rfl ?_
                  refine xi_aload_n (pc' := 1) (x := 35) kc_106_0 rfl rfl ?_
                  refine xi_getfield (pc' := 4) (v := .int (-9)) kc_106_1 rfl rfl rfl ((eh1.2.1 35 (by decide)).trans (F 35 _ hl_35)) rfl ?_
                  refine xi_static (mj := 90) (as := [.int (-9)]) (st1 := []) (lv0 := [(0, .int (-9))]) kc_106_4 rfl rfl (Nat.le_of_ble_eq_true rfl) rfl rfl (Nat.le_of_ble_eq_true rfl) (hJ _ _ _ _ (by decide)) (xm_le ml_90 rfl) rfl ?_
                  refine xi_iload_n (pc' := 1) (x := (-9)) kc_90_0 rfl rfl ?_
                  refine xi_ift (pc' := 14) kc_90_1 rfl rfl ?_
                  refine xi_iconst (pc' := 15) (v := 0) kc_90_14 rfl rfl ?_
                  refine xi_ireturn kc_90_15 mr_90 rfl ?_
                  show xw J ov 98 106 (7, [(0, .ref 35)], [.int 0], hh1) _
                  refine xi_ireturn kc_106_7 mr_106 rfl ?_
                  show xw J ov 99 104 (67, [(5, .ref 35), (0, .ref 0), (1, .int 3), (2, .int a2), (3, .int a3), (4, .int 1)], [.int 0], hh1) _
                  refine xi_ift (pc' := 74) kc_104_67 rfl rfl ?_
                  refine xi_iconst (pc' := 75) (v := 1) kc_104_74 rfl rfl ?_
                  refine xi_istore (pc' := 77) (lv' := [(6, .int 1), (5, .ref 35), (0, .ref 0), (1, .int 3), (2, .int a2), (3, .int a3), (4, .int 1)]) kc_104_75 rfl rfl (xm_lt ml_104 rfl) ?_
                  refine xi_aload (pc' := 79) (x := 35) kc_104_77 rfl rfl ?_
                  refine xi_iload_n (pc' := 80) (x := a2) kc_104_79 rfl rfl ?_
                  refine xi_putfield (pc' := 83) (fs' := [.int a2, .int 0, .int 0, .int 0, .ref 36]) kc_104_80 rfl rfl rfl ((eh1.2.1 35 (by decide)).trans (F 35 _ hl_35)) rfl rfl rfl (Nat.le_of_ble_eq_true rfl) rfl (fun hh2 eh2 => ?_)
                  refine xi_aload (pc' := 85) (x := 35) kc_104_83 rfl rfl ?_
                  refine xi_iload_n (pc' := 86) (x := a3) kc_104_85 rfl rfl ?_
                  refine xi_putfield (pc' := 89) (fs' := [.int a2, .int a3, .int 0, .int 0, .ref 36]) kc_104_86 rfl rfl rfl eh2.1 rfl rfl rfl (Nat.le_of_ble_eq_true rfl) rfl (fun hh3 eh3 => ?_)
                  refine xi_aload (pc' := 91) (x := 35) kc_104_89 rfl rfl ?_
                  refine xi_iload (pc' := 93) (x := 1) kc_104_91 rfl rfl ?_
                  refine xi_putfield (pc' := 96) (fs' := [.int a2, .int a3, .int 1, .int 0, .ref 36]) kc_104_93 rfl rfl rfl eh3.1 rfl rfl rfl (Nat.le_of_ble_eq_true rfl) rfl (fun hh4 eh4 => ?_)
                  refine xi_iload (pc' := 98) (x := 1) kc_104_96 rfl rfl ?_
                  refine xi_ireturn kc_104_98 mr_104 rfl ?_
                  show xw J ov 100 196 (437, [(4, .int 0), (3, .ref 167), (2, .ref 115), (1, .ref 0), (0, .ref 1000000)], [.int 1], hh4) _
                  refine xi_aload_n (pc' := 438) (x := 115) kc_196_437 rfl rfl ?_
                  refine xi_aload_n (pc' := 439) (x := 1000000) kc_196_438 rfl rfl ?_
                  refine xi_iload (pc' := 441) (x := 0) kc_196_439 rfl rfl ?_
                  refine xi_iconst (pc' := 442) (v := 1) kc_196_441 rfl rfl ?_
                  refine xi_iadd (pc' := 443) (v := 1) kc_196_442 rfl rfl ?_
                  refine xi_ialoadO (pc' := 444) (v := 3) kc_196_443 rfl (by decide) hov0 (xi_in (n := 6) (by decide) (by decide)) rfl ?_
                  refine xi_aload_n (pc' := 445) (x := 1000000) kc_196_444 rfl rfl ?_
                  refine xi_iload (pc' := 447) (x := 0) kc_196_445 rfl rfl ?_
                  refine xi_iconst (pc' := 448) (v := 2) kc_196_447 rfl rfl ?_
                  refine xi_iadd (pc' := 449) (v := 2) kc_196_448 rfl rfl ?_
                  refine xi_ialoadO (pc' := 450) (v := a2) kc_196_449 rfl (by decide) hov0 (xi_in (n := 6) (by decide) (by decide)) rfl ?_
                  refine xi_aload_n (pc' := 451) (x := 1000000) kc_196_450 rfl rfl ?_
                  refine xi_iload (pc' := 453) (x := 0) kc_196_451 rfl rfl ?_
                  refine xi_iconst (pc' := 454) (v := 3) kc_196_453 rfl rfl ?_
                  refine xi_iadd (pc' := 455) (v := 3) kc_196_454 rfl rfl ?_
                  refine xi_ialoadO (pc' := 456) (v := a3) kc_196_455 rfl (by decide) hov0 (xi_in (n := 6) (by decide) (by decide)) rfl ?_
                  refine xi_aload_n (pc' := 457) (x := 1000000) kc_196_456 rfl rfl ?_
                  refine xi_iload (pc' := 459) (x := 0) kc_196_457 rfl rfl ?_
                  refine xi_iconst (pc' := 460) (v := 4) kc_196_459 rfl rfl ?_
                  refine xi_iadd (pc' := 461) (v := 4) kc_196_460 rfl rfl ?_
                  refine xi_ialoadO (pc' := 462) (v := a4) kc_196_461 rfl (by decide) hov0 (xi_in (n := 6) (by decide) (by decide)) rfl ?_
                  refine xi_iff (pc' := 465) kc_196_462 rfl (xc_eq_f (X := a4.toInt) (Y := 0) rfl (by decide) (by omega)) ?_
                  refine xi_iconst (pc' := 466) (v := 1) kc_196_465 rfl rfl ?_
                  refine xi_goto (pc' := 470) kc_196_466 rfl ?_
                  refine xi_virtual (mj := 24) (as := [.int 3, .int a2, .int a3, .int 1]) (st1 := [.int 1]) (lv0 := [(0, .ref 115), (1, .int 3), (2, .int a2), (3, .int a3), (4, .int 1)]) kc_196_470 rfl rfl rfl rfl rfl ((eh4.2.1 115 (by decide)).trans ((eh3.2.1 115 (by decide)).trans ((eh2.2.1 115 (by decide)).trans ((eh1.2.1 115 (by decide)).trans (F 115 _ hl_115))))) (Nat.le_of_ble_eq_true rfl) (hJ _ _ _ _ (by decide)) (xm_le ml_24 rfl) rfl ?_
                  refine xi_aload_n (pc' := 1) (x := 115) kc_24_0 rfl rfl ?_
                  refine xi_iconst (pc' := 2) (v := 0) kc_24_1 rfl rfl ?_
                  refine xi_putfield (pc' := 5) (fs' := [.int 0, .int 0, .ref 116, .ref 117, .ref 118, .ref 119, .ref 120, .ref 121, .ref 122, .ref 123, .ref 124, .ref 125, .ref 126, .ref 127, .ref 128, .ref 129, .int 4, .ref 130, .int 0, .ref 131, .ref 132, .ref 133, .ref 134, .int 0, .ref 135, .ref 136, .ref 137, .ref 138, .ref 139, .ref 140, .ref 141, .ref 142, .int 0, .int 0, .int 0, .ref 143, .ref 144, .ref 145, .ref 146, .ref 147, .ref 148, .int 0, .ref 149, .ref 150, .ref 151, .int 0, .ref 152, .ref 153, .ref 154, .ref 155, .ref 156, .ref 157, .ref 158, .ref 159, .int 0, .ref 160, .int 0, .ref 161, .ref 162, .ref 163, .ref 164, .int 0, .ref 165, .ref 166]) kc_24_2 rfl rfl rfl ((eh4.2.1 115 (by decide)).trans ((eh3.2.1 115 (by decide)).trans ((eh2.2.1 115 (by decide)).trans ((eh1.2.1 115 (by decide)).trans (F 115 _ hl_115))))) rfl rfl rfl (Nat.le_of_ble_eq_true rfl) rfl (fun hh5 eh5 => ?_)
                  refine xi_iload_n (pc' := 6) (x := 3) kc_24_5 rfl rfl ?_
                  refine xi_static (mj := 25) (as := [.int 3]) (st1 := []) (lv0 := [(0, .int 3)]) kc_24_6 rfl rfl (Nat.le_of_ble_eq_true rfl) rfl rfl (Nat.le_of_ble_eq_true rfl) (hJ _ _ _ _ (by decide)) (xm_le ml_25 rfl) rfl ?_
                  refine xi_iload_n (pc' := 1) (x := 3) kc_25_0 rfl rfl ?_
                  refine xi_iconst (pc' := 2) (v := 0) kc_25_1 rfl rfl ?_
                  refine xi_bipush (pc' := 4) (v := 11) kc_25_2 rfl rfl ?_
                  refine xi_static (mj := 12) (as := [.int 3, .int 0, .int 11]) (st1 := []) (lv0 := [(0, .int 3), (1, .int 0), (2, .int 11)]) kc_25_4 rfl rfl (Nat.le_of_ble_eq_true rfl) rfl rfl (Nat.le_of_ble_eq_true rfl) (hJ _ _ _ _ (by decide)) (xm_le ml_12 rfl) rfl ?_
                  refine xi_iload_n (pc' := 1) (x := 3) kc_12_0 rfl rfl ?_
                  refine xi_iload_n (pc' := 2) (x := 0) kc_12_1 rfl rfl ?_
                  refine xi_cmf (pc' := 5) kc_12_2 rfl rfl ?_
                  refine xi_iload_n (pc' := 6) (x := 3) kc_12_5 rfl rfl ?_
                  refine xi_iload_n (pc' := 7) (x := 11) kc_12_6 rfl rfl ?_
                  refine xi_cmf (pc' := 10) kc_12_7 rfl rfl ?_
                  refine xi_iconst (pc' := 11) (v := 1) kc_12_10 rfl rfl ?_
                  refine xi_goto (pc' := 15) kc_12_11 rfl ?_
                  refine xi_ireturn kc_12_15 mr_12 rfl ?_
                  show xw J ov 98 25 (7, [(0, .int 3)], [.int 1], hh5) _
                  refine xi_ireturn kc_25_7 mr_25 rfl ?_
                  show xw J ov 99 24 (9, [(0, .ref 115), (1, .int 3), (2, .int a2), (3, .int a3), (4, .int 1)], [.int 1], hh5) _
                  refine xi_iff (pc' := 12) kc_24_9 rfl rfl ?_
                  refine xi_iload_n (pc' := 13) (x := a2) kc_24_12 rfl rfl ?_
                  refine xi_static (mj := 11) (as := [.int a2]) (st1 := []) (lv0 := [(0, .int a2)]) kc_24_13 rfl rfl (Nat.le_of_ble_eq_true rfl) rfl rfl (Nat.le_of_ble_eq_true rfl) (hJ _ _ _ _ (by decide)) (xm_le ml_11 rfl) rfl ?_
                  refine xi_iload_n (pc' := 1) (x := a2) kc_11_0 rfl rfl ?_
                  refine xi_iconst (pc' := 2) (v := 0) kc_11_1 rfl rfl ?_
                  refine xi_iconst (pc' := 3) (v := 5) kc_11_2 rfl rfl ?_
                  refine xi_static (mj := 12) (as := [.int a2, .int 0, .int 5]) (st1 := []) (lv0 := [(0, .int a2), (1, .int 0), (2, .int 5)]) kc_11_3 rfl rfl (Nat.le_of_ble_eq_true rfl) rfl rfl (Nat.le_of_ble_eq_true rfl) (hJ _ _ _ _ (by decide)) (xm_le ml_12 rfl) rfl ?_
                  refine xi_iload_n (pc' := 1) (x := a2) kc_12_0 rfl rfl ?_
                  refine xi_iload_n (pc' := 2) (x := 0) kc_12_1 rfl rfl ?_
                  refine xi_cmf (pc' := 5) kc_12_2 rfl (xc_lt_f (X := a2.toInt) (Y := 0) rfl (by decide) (by omega)) ?_
                  refine xi_iload_n (pc' := 6) (x := a2) kc_12_5 rfl rfl ?_
                  refine xi_iload_n (pc' := 7) (x := 5) kc_12_6 rfl rfl ?_
                  refine xi_cmf (pc' := 10) kc_12_7 rfl (xc_gt_f (X := a2.toInt) (Y := 5) rfl (by decide) (by omega)) ?_
                  refine xi_iconst (pc' := 11) (v := 1) kc_12_10 rfl rfl ?_
                  refine xi_goto (pc' := 15) kc_12_11 rfl ?_
                  refine xi_ireturn kc_12_15 mr_12 rfl ?_
                  show xw J ov 98 11 (6, [(0, .int a2)], [.int 1], hh5) _
                  refine xi_ireturn kc_11_6 mr_11 rfl ?_
                  show xw J ov 99 24 (16, [(0, .ref 115), (1, .int 3), (2, .int a2), (3, .int a3), (4, .int 1)], [.int 1], hh5) _
                  refine xi_ift (pc' := 25) kc_24_16 rfl rfl ?_
                  refine xi_iload_n (pc' := 26) (x := a3) kc_24_25 rfl rfl ?_
                  refine xi_ift (pc' := 36) kc_24_26 rfl (xc_ge_t (X := a3.toInt) (Y := 0) rfl (by decide) (by omega)) ?_
                  refine xi_iload_n (pc' := 37) (x := a3) kc_24_36 rfl rfl ?_
                  refine xi_bipush (pc' := 39) (v := 100) kc_24_37 rfl rfl ?_
                  refine xi_cmt (pc' := 49) kc_24_39 rfl (xc_le_t (X := a3.toInt) (Y := 100) rfl (by decide) (by omega)) ?_
                  refine xi_aload_n (pc' := 50) (x := 115) kc_24_49 rfl rfl ?_
                  refine xi_getfield (pc' := 53) (v := .ref 125) kc_24_50 rfl rfl rfl eh5.1 rfl ?_
                  refine xi_iload_n (pc' := 54) (x := 3) kc_24_53 rfl rfl ?_
                  refine xi_iaload (pc' := 55) (v := (-9)) kc_24_54 rfl ((eh5.2.1 125 (by decide)).trans ((eh4.2.1 125 (by decide)).trans ((eh3.2.1 125 (by decide)).trans ((eh2.2.1 125 (by decide)).trans ((eh1.2.1 125 (by decide)).trans (F 125 _ hl_125)))))) (by decide) rfl (xi_in (n := 12) (by decide) (by decide)) rfl ?_
                  refine xi_ift (pc' := 62) kc_24_55 rfl rfl ?_
                  refine xi_iconst (pc' := 63) (v := 0) kc_24_62 rfl rfl ?_
                  refine xi_istore (pc' := 65) (lv' := [(5, .int 0), (0, .ref 115), (1, .int 3), (2, .int a2), (3, .int a3), (4, .int 1)]) kc_24_63 rfl rfl (xm_lt ml_24 rfl) ?_
                  refine xi_aload_n (pc' := 66) (x := 115) kc_24_65 rfl rfl ?_
                  refine xi_getfield (pc' := 69) (v := .ref 125) kc_24_66 rfl rfl rfl eh5.1 rfl ?_
                  refine xi_iload_n (pc' := 70) (x := 3) kc_24_69 rfl rfl ?_
                  refine xi_iload_n (pc' := 71) (x := a2) kc_24_70 rfl rfl ?_
                  refine xi_iastore (pc' := 72) (x' := [(-9), (-9), (-9), a2, (-9), (-9), (-9), (-9), (-9), (-9), (-9), (-9)]) kc_24_71 rfl ((eh5.2.1 125 (by decide)).trans ((eh4.2.1 125 (by decide)).trans ((eh3.2.1 125 (by decide)).trans ((eh2.2.1 125 (by decide)).trans ((eh1.2.1 125 (by decide)).trans (F 125 _ hl_125)))))) rfl (xi_in (n := 12) (by decide) (by decide)) rfl (fun hh6 eh6 => ?_)
                  refine xi_aload_n (pc' := 73) (x := 115) kc_24_72 rfl rfl ?_
                  refine xi_getfield (pc' := 76) (v := .ref 126) kc_24_73 rfl rfl rfl ((eh6.2.1 115 (by decide)).trans eh5.1) rfl ?_
                  refine xi_iload_n (pc' := 77) (x := 3) kc_24_76 rfl rfl ?_
                  refine xi_iload_n (pc' := 78) (x := a3) kc_24_77 rfl rfl ?_
                  refine xi_iastore (pc' := 79) (x' := [0, 0, 0, a3, 0, 0, 0, 0, 0, 0, 0, 0]) kc_24_78 rfl ((eh6.2.1 126 (by decide)).trans ((eh5.2.1 126 (by decide)).trans ((eh4.2.1 126 (by decide)).trans ((eh3.2.1 126 (by decide)).trans ((eh2.2.1 126 (by decide)).trans ((eh1.2.1 126 (by decide)).trans (F 126 _ hl_126))))))) rfl (xi_in (n := 12) (by decide) (by decide)) rfl (fun hh7 eh7 => ?_)
                  refine xi_aload_n (pc' := 80) (x := 115) kc_24_79 rfl rfl ?_
                  refine xi_getfield (pc' := 83) (v := .ref 127) kc_24_80 rfl rfl rfl ((eh7.2.1 115 (by decide)).trans ((eh6.2.1 115 (by decide)).trans eh5.1)) rfl ?_
                  refine xi_iload_n (pc' := 84) (x := 3) kc_24_83 rfl rfl ?_
                  refine xi_iload (pc' := 86) (x := 1) kc_24_84 rfl rfl ?_
                  refine xi_bastore (pc' := 87) (x' := [0, 0, 0, 1, 0, 0, 0, 0, 0, 0, 0, 0]) kc_24_86 rfl ((eh7.2.1 127 (by decide)).trans ((eh6.2.1 127 (by decide)).trans ((eh5.2.1 127 (by decide)).trans ((eh4.2.1 127 (by decide)).trans ((eh3.2.1 127 (by decide)).trans ((eh2.2.1 127 (by decide)).trans ((eh1.2.1 127 (by decide)).trans (F 127 _ hl_127)))))))) rfl (xi_in (n := 12) (by decide) (by decide)) rfl (fun hh8 eh8 => ?_)
                  refine xi_aload_n (pc' := 88) (x := 115) kc_24_87 rfl rfl ?_
                  refine xi_iconst (pc' := 89) (v := 0) kc_24_88 rfl rfl ?_
                  refine xi_putfield (pc' := 92) (fs' := [.int 0, .int 0, .ref 116, .ref 117, .ref 118, .ref 119, .ref 120, .ref 121, .ref 122, .ref 123, .ref 124, .ref 125, .ref 126, .ref 127, .ref 128, .ref 129, .int 4, .ref 130, .int 0, .ref 131, .ref 132, .ref 133, .ref 134, .int 0, .ref 135, .ref 136, .ref 137, .ref 138, .ref 139, .ref 140, .ref 141, .ref 142, .int 0, .int 0, .int 0, .ref 143, .ref 144, .ref 145, .ref 146, .ref 147, .ref 148, .int 0, .ref 149, .ref 150, .ref 151, .int 0, .ref 152, .ref 153, .ref 154, .ref 155, .ref 156, .ref 157, .ref 158, .ref 159, .int 0, .ref 160, .int 0, .ref 161, .ref 162, .ref 163, .ref 164, .int 0, .ref 165, .ref 166]) kc_24_89 rfl rfl rfl ((eh8.2.1 115 (by decide)).trans ((eh7.2.1 115 (by decide)).trans ((eh6.2.1 115 (by decide)).trans eh5.1))) rfl rfl rfl (Nat.le_of_ble_eq_true rfl) rfl (fun hh9 eh9 => ?_)
                  refine xi_iload (pc' := 94) (x := 0) kc_24_92 rfl rfl ?_
                  refine xi_ift (pc' := 101) kc_24_94 rfl rfl ?_
                  refine xi_iconst (pc' := 102) (v := 1) kc_24_101 rfl rfl ?_
                  refine xi_ireturn kc_24_102 mr_24 rfl ?_
                  show xw J ov 100 196 (473, [(4, .int 0), (3, .ref 167), (2, .ref 115), (1, .ref 0), (0, .ref 1000000)], [.int 1, .int 1], hh9) _
                  refine xi_cmt (pc' := 1528) kc_196_473 rfl rfl ?_
                  refine xi_iinc (pc' := 1531) (x := 0) (v := 6) (lv' := [(4, .int 6), (3, .ref 167), (2, .ref 115), (1, .ref 0), (0, .ref 1000000)]) kc_196_1528 rfl rfl rfl rfl (xm_lt ml_196 rfl) ?_
                  refine xi_goto (pc' := 23) kc_196_1531 rfl ?_
                  refine xi_iload (pc' := 25) (x := 6) kc_196_23 rfl rfl ?_
                  refine xi_aload_n (pc' := 26) (x := 1000000) kc_196_25 rfl rfl ?_
                  refine xi_arraylength (pc' := 27) (n := 6) (v := 6) kc_196_26 rfl (xl_lenO (by decide) hov0 rfl) rfl ?_
                  refine xi_bipush (pc' := 29) (v := 6) kc_196_27 rfl rfl ?_
                  refine xi_isub (pc' := 30) (v := 0) kc_196_29 rfl rfl ?_
                  refine xi_cmt (pc' := 1534) kc_196_30 rfl rfl ?_
                  refine xi_iconst (pc' := 1535) (v := 1) kc_196_1534 rfl rfl ?_
                  refine xi_ireturn kc_196_1535 mr_196 rfl ?_
                  refine ⟨rfl, ?_, ?_⟩
                  · rw [eh9.2.2.1, eh8.2.2.1, eh7.2.2.1, eh6.2.2.1, eh5.2.2.1, eh4.2.2.1, eh3.2.2.1, eh2.2.2.1, eh1.2.2.1]; exact hn0
                  · rw [eh9.2.2.2, eh8.2.2.2, eh7.2.2.2, eh6.2.2.2, eh5.2.2.2, eh4.2.2.2, eh3.2.2.2, eh2.2.2.2, eh1.2.2.2]; exact hz0
                by_cases c29 : a1.toInt = 4
                · have qa1 : a1 = 4 := xc_of (Eq.trans (by omega) (show (4 : Int) = (4 : Int32).toInt by decide))
                  subst qa1
                  refine xi_aaload (pc' := 60) (b := 37) kc_104_59 rfl ((eh1.2.1 3 (by decide)).trans (F 3 _ hl_3)) rfl (xi_in (n := 12) (by decide) (by decide)) rfl ?_
                  refine xi_astore (pc' := 62) (lv' := [(5, .ref 37), (0, .ref 0), (1, .int 4), (2, .int a2), (3, .int a3), (4, .int 1)]) kc_104_60 rfl rfl (xm_lt ml_104 rfl) ?_
                  refine xi_aload (pc' := 64) (x := 37) kc_104_62 rfl rfl ?_
                  refine xi_virtual (mj := 106) (as := []) (st1 := []) (lv0 := [(0, .ref 37)]) kc_104_64 rfl rfl rfl rfl rfl ((eh1.2.1 37 (by decide)).trans (F 37 _ hl_37)) (Nat.le_of_ble_eq_true rfl) (hJ _ _ _ _ (by decide)) (xm_le ml_106 rfl) rfl ?_
                  refine xi_aload_n (pc' := 1) (x := 37) kc_106_0 rfl rfl ?_
                  refine xi_getfield (pc' := 4) (v := .int (-9)) kc_106_1 rfl rfl rfl ((eh1.2.1 37 (by decide)).trans (F 37 _ hl_37)) rfl ?_
                  refine xi_static (mj := 90) (as := [.int (-9)]) (st1 := []) (lv0 := [(0, .int (-9))]) kc_106_4 rfl rfl (Nat.le_of_ble_eq_true rfl) rfl rfl (Nat.le_of_ble_eq_true rfl) (hJ _ _ _ _ (by decide)) (xm_le ml_90 rfl) rfl ?_
                  refine xi_iload_n (pc' := 1) (x := (-9)) kc_90_0 rfl rfl ?_
                  refine xi_ift (pc' := 14) kc_90_1 rfl rfl ?_
                  refine xi_iconst (pc' := 15) (v := 0) kc_90_14 rfl rfl ?_
                  refine xi_ireturn kc_90_15 mr_90 rfl ?_
                  show xw J ov 98 106 (7, [(0, .ref 37)], [.int 0], hh1) _
                  refine xi_ireturn kc_106_7 mr_106 rfl ?_
                  show xw J ov 99 104 (67, [(5, .ref 37), (0, .ref 0), (1, .int 4), (2, .int a2), (3, .int a3), (4, .int 1)], [.int 0], hh1) _
                  refine xi_ift (pc' := 74) kc_104_67 rfl rfl ?_
                  refine xi_iconst (pc' := 75) (v := 1) kc_104_74 rfl rfl ?_
                  refine xi_istore (pc' := 77) (lv' := [(6, .int 1), (5, .ref 37), (0, .ref 0), (1, .int 4), (2, .int a2), (3, .int a3), (4, .int 1)]) kc_104_75 rfl rfl (xm_lt ml_104 rfl) ?_
                  refine xi_aload (pc' := 79) (x := 37) kc_104_77 rfl rfl ?_
                  refine xi_iload_n (pc' := 80) (x := a2) kc_104_79 rfl rfl ?_
                  refine xi_putfield (pc' := 83) (fs' := [.int a2, .int 0, .int 0, .int 0, .ref 38]) kc_104_80 rfl rfl rfl ((eh1.2.1 37 (by decide)).trans (F 37 _ hl_37)) rfl rfl rfl (Nat.le_of_ble_eq_true rfl) rfl (fun hh2 eh2 => ?_)
                  refine xi_aload (pc' := 85) (x := 37) kc_104_83 rfl rfl ?_
                  refine xi_iload_n (pc' := 86) (x := a3) kc_104_85 rfl rfl ?_
                  refine xi_putfield (pc' := 89) (fs' := [.int a2, .int a3, .int 0, .int 0, .ref 38]) kc_104_86 rfl rfl rfl eh2.1 rfl rfl rfl (Nat.le_of_ble_eq_true rfl) rfl (fun hh3 eh3 => ?_)
                  refine xi_aload (pc' := 91) (x := 37) kc_104_89 rfl rfl ?_
                  refine xi_iload (pc' := 93) (x := 1) kc_104_91 rfl rfl ?_
                  refine xi_putfield (pc' := 96) (fs' := [.int a2, .int a3, .int 1, .int 0, .ref 38]) kc_104_93 rfl rfl rfl eh3.1 rfl rfl rfl (Nat.le_of_ble_eq_true rfl) rfl (fun hh4 eh4 => ?_)
                  refine xi_iload (pc' := 98) (x := 1) kc_104_96 rfl rfl ?_
                  refine xi_ireturn kc_104_98 mr_104 rfl ?_
                  show xw J ov 100 196 (437, [(4, .int 0), (3, .ref 167), (2, .ref 115), (1, .ref 0), (0, .ref 1000000)], [.int 1], hh4) _
                  refine xi_aload_n (pc' := 438) (x := 115) kc_196_437 rfl rfl ?_
                  refine xi_aload_n (pc' := 439) (x := 1000000) kc_196_438 rfl rfl ?_
                  refine xi_iload (pc' := 441) (x := 0) kc_196_439 rfl rfl ?_
                  refine xi_iconst (pc' := 442) (v := 1) kc_196_441 rfl rfl ?_
                  refine xi_iadd (pc' := 443) (v := 1) kc_196_442 rfl rfl ?_
                  refine xi_ialoadO (pc' := 444) (v := 4) kc_196_443 rfl (by decide) hov0 (xi_in (n := 6) (by decide) (by decide)) rfl ?_
                  refine xi_aload_n (pc' := 445) (x := 1000000) kc_196_444 rfl rfl ?_
                  refine xi_iload (pc' := 447) (x := 0) kc_196_445 rfl rfl ?_
                  refine xi_iconst (pc' := 448) (v := 2) kc_196_447 rfl rfl ?_
                  refine xi_iadd (pc' := 449) (v := 2) kc_196_448 rfl rfl ?_
                  refine xi_ialoadO (pc' := 450) (v := a2) kc_196_449 rfl (by decide) hov0 (xi_in (n := 6) (by decide) (by decide)) rfl ?_
                  refine xi_aload_n (pc' := 451) (x := 1000000) kc_196_450 rfl rfl ?_
                  refine xi_iload (pc' := 453) (x := 0) kc_196_451 rfl rfl ?_
                  refine xi_iconst (pc' := 454) (v := 3) kc_196_453 rfl rfl ?_
                  refine xi_iadd (pc' := 455) (v := 3) kc_196_454 rfl rfl ?_
                  refine xi_ialoadO (pc' := 456) (v := a3) kc_196_455 rfl (by decide) hov0 (xi_in (n := 6) (by decide) (by decide)) rfl ?_
                  refine xi_aload_n (pc' := 457) (x := 1000000) kc_196_456 rfl rfl ?_
                  refine xi_iload (pc' := 459) (x := 0) kc_196_457 rfl rfl ?_
                  refine xi_iconst (pc' := 460) (v := 4) kc_196_459 rfl rfl ?_
                  refine xi_iadd (pc' := 461) (v := 4) kc_196_460 rfl rfl ?_
                  refine xi_ialoadO (pc' := 462) (v := a4) kc_196_461 rfl (by decide) hov0 (xi_in (n := 6) (by decide) (by decide)) rfl ?_
                  refine xi_iff (pc' := 465) kc_196_462 rfl (xc_eq_f (X := a4.toInt) (Y := 0) rfl (by decide) (by omega)) ?_
                  refine xi_iconst (pc' := 466) (v := 1) kc_196_465 rfl rfl ?_
                  refine xi_goto (pc' := 470) kc_196_466 rfl ?_
                  refine xi_virtual (mj := 24) (as := [.int 4, .int a2, .int a3, .int 1]) (st1 := [.int 1]) (lv0 := [(0, .ref 115), (1, .int 4), (2, .int a2), (3, .int a3), (4, .int 1)]) kc_196_470 rfl rfl rfl rfl rfl ((eh4.2.1 115 (by decide)).trans ((eh3.2.1 115 (by decide)).trans ((eh2.2.1 115 (by decide)).trans ((eh1.2.1 115 (by decide)).trans (F 115 _ hl_115))))) (Nat.le_of_ble_eq_true rfl) (hJ _ _ _ _ (by decide)) (xm_le ml_24 rfl) rfl ?_
                  refine xi_aload_n (pc' := 1) (x := 115) kc_24_0 rfl rfl ?_
                  refine xi_iconst (pc' := 2) (v := 0) kc_24_1 rfl rfl ?_
                  refine xi_putfield (pc' := 5) (fs' := [.int 0, .int 0, .ref 116, .ref 117, .ref 118, .ref 119, .ref 120, .ref 121, .ref 122, .ref 123, .ref 124, .ref 125, .ref 126, .ref 127, .ref 128, .ref 129, .int 4, .ref 130, .int 0, .ref 131, .ref 132, .ref 133, .ref 134, .int 0, .ref 135, .ref 136, .ref 137, .ref 138, .ref 139, .ref 140, .ref 141, .ref 142, .int 0, .int 0, .int 0, .ref 143, .ref 144, .ref 145, .ref 146, .ref 147, .ref 148, .int 0, .ref 149, .ref 150, .ref 151, .int 0, .ref 152, .ref 153, .ref 154, .ref 155, .ref 156, .ref 157, .ref 158, .ref 159, .int 0, .ref 160, .int 0, .ref 161, .ref 162, .ref 163, .ref 164, .int 0, .ref 165, .ref 166]) kc_24_2 rfl rfl rfl ((eh4.2.1 115 (by decide)).trans ((eh3.2.1 115 (by decide)).trans ((eh2.2.1 115 (by decide)).trans ((eh1.2.1 115 (by decide)).trans (F 115 _ hl_115))))) rfl rfl rfl (Nat.le_of_ble_eq_true rfl) rfl (fun hh5 eh5 => ?_)
                  refine xi_iload_n (pc' := 6) (x := 4) kc_24_5 rfl rfl ?_
                  refine xi_static (mj := 25) (as := [.int 4]) (st1 := []) (lv0 := [(0, .int 4)]) kc_24_6 rfl rfl (Nat.le_of_ble_eq_true rfl) rfl rfl (Nat.le_of_ble_eq_true rfl) (hJ _ _ _ _ (by decide)) (xm_le ml_25 rfl) rfl ?_
                  refine xi_iload_n (pc' := 1) (x := 4) kc_25_0 rfl rfl ?_
                  refine xi_iconst (pc' := 2) (v := 0) kc_25_1 rfl rfl ?_
                  refine xi_bipush (pc' := 4) (v := 11) kc_25_2 rfl rfl ?_
                  refine xi_static (mj := 12) (as := [.int 4, .int 0, .int 11]) (st1 := []) (lv0 := [(0, .int 4), (1, .int 0), (2, .int 11)]) kc_25_4 rfl rfl (Nat.le_of_ble_eq_true rfl) rfl rfl (Nat.le_of_ble_eq_true rfl) (hJ _ _ _ _ (by decide)) (xm_le ml_12 rfl) rfl ?_
                  refine xi_iload_n (pc' := 1) (x := 4) kc_12_0 rfl rfl ?_
                  refine xi_iload_n (pc' := 2) (x := 0) kc_12_1 rfl rfl ?_
                  refine xi_cmf (pc' := 5) kc_12_2 rfl rfl ?_
                  refine xi_iload_n (pc' := 6) (x := 4) kc_12_5 rfl rfl ?_
                  refine xi_iload_n (pc' := 7) (x := 11) kc_12_6 rfl rfl ?_
                  refine xi_cmf (pc' := 10) kc_12_7 rfl rfl ?_
                  refine xi_iconst (pc' := 11) (v := 1) kc_12_10 rfl rfl ?_
                  refine xi_goto (pc' := 15) kc_12_11 rfl ?_
                  refine xi_ireturn kc_12_15 mr_12 rfl ?_
                  show xw J ov 98 25 (7, [(0, .int 4)], [.int 1], hh5) _
                  refine xi_ireturn kc_25_7 mr_25 rfl ?_
                  show xw J ov 99 24 (9, [(0, .ref 115), (1, .int 4), (2, .int a2), (3, .int a3), (4, .int 1)], [.int 1], hh5) _
                  refine xi_iff (pc' := 12) kc_24_9 rfl rfl ?_
                  refine xi_iload_n (pc' := 13) (x := a2) kc_24_12 rfl rfl ?_
                  refine xi_static (mj := 11) (as := [.int a2]) (st1 := []) (lv0 := [(0, .int a2)]) kc_24_13 rfl rfl (Nat.le_of_ble_eq_true rfl) rfl rfl (Nat.le_of_ble_eq_true rfl) (hJ _ _ _ _ (by decide)) (xm_le ml_11 rfl) rfl ?_
                  refine xi_iload_n (pc' := 1) (x := a2) kc_11_0 rfl rfl ?_
                  refine xi_iconst (pc' := 2) (v := 0) kc_11_1 rfl rfl ?_
                  refine xi_iconst (pc' := 3) (v := 5) kc_11_2 rfl rfl ?_
                  refine xi_static (mj := 12) (as := [.int a2, .int 0, .int 5]) (st1 := []) (lv0 := [(0, .int a2), (1, .int 0), (2, .int 5)]) kc_11_3 rfl rfl (Nat.le_of_ble_eq_true rfl) rfl rfl (Nat.le_of_ble_eq_true rfl) (hJ _ _ _ _ (by decide)) (xm_le ml_12 rfl) rfl ?_
                  refine xi_iload_n (pc' := 1) (x := a2) kc_12_0 rfl rfl ?_
                  refine xi_iload_n (pc' := 2) (x := 0) kc_12_1 rfl rfl ?_
                  refine xi_cmf (pc' := 5) kc_12_2 rfl (xc_lt_f (X := a2.toInt) (Y := 0) rfl (by decide) (by omega)) ?_
                  refine xi_iload_n (pc' := 6) (x := a2) kc_12_5 rfl rfl ?_
                  refine xi_iload_n (pc' := 7) (x := 5) kc_12_6 rfl rfl ?_
                  refine xi_cmf (pc' := 10) kc_12_7 rfl (xc_gt_f (X := a2.toInt) (Y := 5) rfl (by decide) (by omega)) ?_
                  refine xi_iconst (pc' := 11) (v := 1) kc_12_10 rfl rfl ?_
                  refine xi_goto (pc' := 15) kc_12_11 rfl ?_
                  refine xi_ireturn kc_12_15 mr_12 rfl ?_
                  show xw J ov 98 11 (6, [(0, .int a2)], [.int 1], hh5) _
                  refine xi_ireturn kc_11_6 mr_11 rfl ?_
                  show xw J ov 99 24 (16, [(0, .ref 115), (1, .int 4), (2, .int a2), (3, .int a3), (4, .int 1)], [.int 1], hh5) _
                  refine xi_ift (pc' := 25) kc_24_16 rfl rfl ?_
                  refine xi_iload_n (pc' := 26) (x := a3) kc_24_25 rfl rfl ?_
                  refine xi_ift (pc' := 36) kc_24_26 rfl (xc_ge_t (X := a3.toInt) (Y := 0) rfl (by decide) (by omega)) ?_
                  refine xi_iload_n (pc' := 37) (x := a3) kc_24_36 rfl rfl ?_
                  refine xi_bipush (pc' := 39) (v := 100) kc_24_37 rfl rfl ?_
                  refine xi_cmt (pc' := 49) kc_24_39 rfl (xc_le_t (X := a3.toInt) (Y := 100) rfl (by decide) (by omega)) ?_
                  refine xi_aload_n (pc' := 50) (x := 115) kc_24_49 rfl rfl ?_
                  refine xi_getfield (pc' := 53) (v := .ref 125) kc_24_50 rfl rfl rfl eh5.1 rfl ?_
                  refine xi_iload_n (pc' := 54) (x := 4) kc_24_53 rfl rfl ?_
                  refine xi_iaload (pc' := 55) (v := (-9)) kc_24_54 rfl ((eh5.2.1 125 (by decide)).trans ((eh4.2.1 125 (by decide)).trans ((eh3.2.1 125 (by decide)).trans ((eh2.2.1 125 (by decide)).trans ((eh1.2.1 125 (by decide)).trans (F 125 _ hl_125)))))) (by decide) rfl (xi_in (n := 12) (by decide) (by decide)) rfl ?_
                  refine xi_ift (pc' := 62) kc_24_55 rfl rfl ?_
                  refine xi_iconst (pc' := 63) (v := 0) kc_24_62 rfl rfl ?_
                  refine xi_istore (pc' := 65) (lv' := [(5, .int 0), (0, .ref 115), (1, .int 4), (2, .int a2), (3, .int a3), (4, .int 1)]) kc_24_63 rfl rfl (xm_lt ml_24 rfl) ?_
                  refine xi_aload_n (pc' := 66) (x := 115) kc_24_65 rfl rfl ?_
                  refine xi_getfield (pc' := 69) (v := .ref 125) kc_24_66 rfl rfl rfl eh5.1 rfl ?_
                  refine xi_iload_n (pc' := 70) (x := 4) kc_24_69 rfl rfl ?_
                  refine xi_iload_n (pc' := 71) (x := a2) kc_24_70 rfl rfl ?_
                  refine xi_iastore (pc' := 72) (x' := [(-9), (-9), (-9), (-9), a2, (-9), (-9), (-9), (-9), (-9), (-9), (-9)]) kc_24_71 rfl ((eh5.2.1 125 (by decide)).trans ((eh4.2.1 125 (by decide)).trans ((eh3.2.1 125 (by decide)).trans ((eh2.2.1 125 (by decide)).trans ((eh1.2.1 125 (by decide)).trans (F 125 _ hl_125)))))) rfl (xi_in (n := 12) (by decide) (by decide)) rfl (fun hh6 eh6 => ?_)
                  refine xi_aload_n (pc' := 73) (x := 115) kc_24_72 rfl rfl ?_
                  refine xi_getfield (pc' := 76) (v := .ref 126) kc_24_73 rfl rfl rfl ((eh6.2.1 115 (by decide)).trans eh5.1) rfl ?_
                  refine xi_iload_n (pc' := 77) (x := 4) kc_24_76 rfl rfl ?_
                  refine xi_iload_n (pc' := 78) (x := a3) kc_24_77 rfl rfl ?_
                  refine xi_iastore (pc' := 79) (x' := [0, 0, 0, 0, a3, 0, 0, 0, 0, 0, 0, 0]) kc_24_78 rfl ((eh6.2.1 126 (by decide)).trans ((eh5.2.1 126 (by decide)).trans ((eh4.2.1 126 (by decide)).trans ((eh3.2.1 126 (by decide)).trans ((eh2.2.1 126 (by decide)).trans ((eh1.2.1 126 (by decide)).trans (F 126 _ hl_126))))))) rfl (xi_in (n := 12) (by decide) (by decide)) rfl (fun hh7 eh7 => ?_)
                  refine xi_aload_n (pc' := 80) (x := 115) kc_24_79 rfl rfl ?_
                  refine xi_getfield (pc' := 83) (v := .ref 127) kc_24_80 rfl rfl rfl ((eh7.2.1 115 (by decide)).trans ((eh6.2.1 115 (by decide)).trans eh5.1)) rfl ?_
                  refine xi_iload_n (pc' := 84) (x := 4) kc_24_83 rfl rfl ?_
                  refine xi_iload (pc' := 86) (x := 1) kc_24_84 rfl rfl ?_
                  refine xi_bastore (pc' := 87) (x' := [0, 0, 0, 0, 1, 0, 0, 0, 0, 0, 0, 0]) kc_24_86 rfl ((eh7.2.1 127 (by decide)).trans ((eh6.2.1 127 (by decide)).trans ((eh5.2.1 127 (by decide)).trans ((eh4.2.1 127 (by decide)).trans ((eh3.2.1 127 (by decide)).trans ((eh2.2.1 127 (by decide)).trans ((eh1.2.1 127 (by decide)).trans (F 127 _ hl_127)))))))) rfl (xi_in (n := 12) (by decide) (by decide)) rfl (fun hh8 eh8 => ?_)
                  refine xi_aload_n (pc' := 88) (x := 115) kc_24_87 rfl rfl ?_
                  refine xi_iconst (pc' := 89) (v := 0) kc_24_88 rfl rfl ?_
                  refine xi_putfield (pc' := 92) (fs' := [.int 0, .int 0, .ref 116, .ref 117, .ref 118, .ref 119, .ref 120, .ref 121, .ref 122, .ref 123, .ref 124, .ref 125, .ref 126, .ref 127, .ref 128, .ref 129, .int 4, .ref 130, .int 0, .ref 131, .ref 132, .ref 133, .ref 134, .int 0, .ref 135, .ref 136, .ref 137, .ref 138, .ref 139, .ref 140, .ref 141, .ref 142, .int 0, .int 0, .int 0, .ref 143, .ref 144, .ref 145, .ref 146, .ref 147, .ref 148, .int 0, .ref 149, .ref 150, .ref 151, .int 0, .ref 152, .ref 153, .ref 154, .ref 155, .ref 156, .ref 157, .ref 158, .ref 159, .int 0, .ref 160, .int 0, .ref 161, .ref 162, .ref 163, .ref 164, .int 0, .ref 165, .ref 166]) kc_24_89 rfl rfl rfl ((eh8.2.1 115 (by decide)).trans ((eh7.2.1 115 (by decide)).trans ((eh6.2.1 115 (by decide)).trans eh5.1))) rfl rfl rfl (Nat.le_of_ble_eq_true rfl) rfl (fun hh9 eh9 => ?_)
                  refine xi_iload (pc' := 94) (x := 0) kc_24_92 rfl rfl ?_
                  refine xi_ift (pc' := 101) kc_24_94 rfl rfl ?_
                  refine xi_iconst (pc' := 102) (v := 1) kc_24_101 rfl rfl ?_
                  refine xi_ireturn kc_24_102 mr_24 rfl ?_
                  show xw J ov 100 196 (473, [(4, .int 0), (3, .ref 167), (2, .ref 115), (1, .ref 0), (0, .ref 1000000)], [.int 1, .int 1], hh9) _
                  refine xi_cmt (pc' := 1528) kc_196_473 rfl rfl ?_
                  refine xi_iinc (pc' := 1531) (x := 0) (v := 6) (lv' := [(4, .int 6), (3, .ref 167), (2, .ref 115), (1, .ref 0), (0, .ref 1000000)]) kc_196_1528 rfl rfl rfl rfl (xm_lt ml_196 rfl) ?_
                  refine xi_goto (pc' := 23) kc_196_1531 rfl ?_
                  refine xi_iload (pc' := 25) (x := 6) kc_196_23 rfl rfl ?_
                  refine xi_aload_n (pc' := 26) (x := 1000000) kc_196_25 rfl rfl ?_
                  refine xi_arraylength (pc' := 27) (n := 6) (v := 6) kc_196_26 rfl (xl_lenO (by decide) hov0 rfl) rfl ?_
                  refine xi_bipush (pc' := 29) (v := 6) kc_196_27 rfl rfl ?_
                  refine xi_isub (pc' := 30) (v := 0) kc_196_29 rfl rfl ?_
                  refine xi_cmt (pc' := 1534) kc_196_30 rfl rfl ?_
                  refine xi_iconst (pc' := 1535) (v := 1) kc_196_1534 rfl rfl ?_
                  refine xi_ireturn kc_196_1535 mr_196 rfl ?_
                  refine ⟨rfl, ?_, ?_⟩
                  · rw [eh9.2.2.1, eh8.2.2.1, eh7.2.2.1, eh6.2.2.1, eh5.2.2.1, eh4.2.2.1, eh3.2.2.1, eh2.2.2.1, eh1.2.2.1]; exact hn0
                  · rw [eh9.2.2.2, eh8.2.2.2, eh7.2.2.2, eh6.2.2.2, eh5.2.2.2, eh4.2.2.2, eh3.2.2.2, eh2.2.2.2, eh1.2.2.2]; exact hz0
                by_cases c30 : a1.toInt = 5
                · have qa1 : a1 = 5 := xc_of (Eq.trans (by omega) (show (5 : Int) = (5 : Int32).toInt by decide))
                  subst qa1
                  refine xi_aaload (pc' := 60) (b := 39) kc_104_59 rfl ((eh1.2.1 3 (by decide)).trans (F 3 _ hl_3)) rfl (xi_in (n := 12) (by decide) (by decide)) rfl ?_
                  refine xi_astore (pc' := 62) (lv' := [(5, .ref 39), (0, .ref 0), (1, .int 5), (2, .int a2), (3, .int a3), (4, .int 1)]) kc_104_60 rfl rfl (xm_lt ml_104 rfl) ?_
                  refine xi_aload (pc' := 64) (x := 39) kc_104_62 rfl rfl ?_
                  refine xi_virtual (mj := 106) (as := []) (st1 := []) (lv0 := [(0, .ref 39)]) kc_104_64 rfl rfl rfl rfl rfl ((eh1.2.1 39 (by decide)).trans (F 39 _ hl_39)) (Nat.le_of_ble_eq_true rfl) (hJ _ _ _ _ (by decide)) (xm_le ml_106 rfl) rfl ?_
                  refine xi_aload_n (pc' := 1) (x := 39) kc_106_0 rfl rfl ?_
                  refine xi_getfield (pc' := 4) (v := .int (-9)) kc_106_1 rfl rfl rfl ((eh1.2.1 39 (by decide)).trans (F 39 _ hl_39)) rfl ?_
                  refine xi_static (mj := 90) (as := [.int (-9)]) (st1 := []) (lv0 := [(0, .int (-9))]) kc_106_4 rfl rfl (Nat.le_of_ble_eq_true rfl) rfl rfl (Nat.le_of_ble_eq_true rfl) (hJ _ _ _ _ (by decide)) (xm_le ml_90 rfl) rfl ?_
                  refine xi_iload_n (pc' := 1) (x := (-9)) kc_90_0 rfl rfl ?_
                  refine xi_ift (pc' := 14) kc_90_1 rfl rfl ?_
                  refine xi_iconst (pc' := 15) (v := 0) kc_90_14 rfl rfl ?_
                  refine xi_ireturn kc_90_15 mr_90 rfl ?_
                  show xw J ov 98 106 (7, [(0, .ref 39)], [.int 0], hh1) _
                  refine xi_ireturn kc_106_7 mr_106 rfl ?_
                  show xw J ov 99 104 (67, [(5, .ref 39), (0, .ref 0), (1, .int 5), (2, .int a2), (3, .int a3), (4, .int 1)], [.int 0], hh1) _
                  refine xi_ift (pc' := 74) kc_104_67 rfl rfl ?_
                  refine xi_iconst (pc' := 75) (v := 1) kc_104_74 rfl rfl ?_
                  refine xi_istore (pc' := 77) (lv' := [(6, .int 1), (5, .ref 39), (0, .ref 0), (1, .int 5), (2, .int a2), (3, .int a3), (4, .int 1)]) kc_104_75 rfl rfl (xm_lt ml_104 rfl) ?_
                  refine xi_aload (pc' := 79) (x := 39) kc_104_77 rfl rfl ?_
                  refine xi_iload_n (pc' := 80) (x := a2) kc_104_79 rfl rfl ?_
                  refine xi_putfield (pc' := 83) (fs' := [.int a2, .int 0, .int 0, .int 0, .ref 40]) kc_104_80 rfl rfl rfl ((eh1.2.1 39 (by decide)).trans (F 39 _ hl_39)) rfl rfl rfl (Nat.le_of_ble_eq_true rfl) rfl (fun hh2 eh2 => ?_)
                  refine xi_aload (pc' := 85) (x := 39) kc_104_83 rfl rfl ?_
                  refine xi_iload_n (pc' := 86) (x := a3) kc_104_85 rfl rfl ?_
                  refine xi_putfield (pc' := 89) (fs' := [.int a2, .int a3, .int 0, .int 0, .ref 40]) kc_104_86 rfl rfl rfl eh2.1 rfl rfl rfl (Nat.le_of_ble_eq_true rfl) rfl (fun hh3 eh3 => ?_)
                  refine xi_aload (pc' := 91) (x := 39) kc_104_89 rfl rfl ?_
                  refine xi_iload (pc' := 93) (x := 1) kc_104_91 rfl rfl ?_
                  refine xi_putfield (pc' := 96) (fs' := [.int a2, .int a3, .int 1, .int 0, .ref 40]) kc_104_93 rfl rfl rfl eh3.1 rfl rfl rfl (Nat.le_of_ble_eq_true rfl) rfl (fun hh4 eh4 => ?_)
                  refine xi_iload (pc' := 98) (x := 1) kc_104_96 rfl rfl ?_
                  refine xi_ireturn kc_104_98 mr_104 rfl ?_
                  show xw J ov 100 196 (437, [(4, .int 0), (3, .ref 167), (2, .ref 115), (1, .ref 0), (0, .ref 1000000)], [.int 1], hh4) _
                  refine xi_aload_n (pc' := 438) (x := 115) kc_196_437 rfl rfl ?_
                  refine xi_aload_n (pc' := 439) (x := 1000000) kc_196_438 rfl rfl ?_
                  refine xi_iload (pc' := 441) (x := 0) kc_196_439 rfl rfl ?_
                  refine xi_iconst (pc' := 442) (v := 1) kc_196_441 rfl rfl ?_
                  refine xi_iadd (pc' := 443) (v := 1) kc_196_442 rfl rfl ?_
                  refine xi_ialoadO (pc' := 444) (v := 5) kc_196_443 rfl (by decide) hov0 (xi_in (n := 6) (by decide) (by decide)) rfl ?_
                  refine xi_aload_n (pc' := 445) (x := 1000000) kc_196_444 rfl rfl ?_
                  refine xi_iload (pc' := 447) (x := 0) kc_196_445 rfl rfl ?_
                  refine xi_iconst (pc' := 448) (v := 2) kc_196_447 rfl rfl ?_
                  refine xi_iadd (pc' := 449) (v := 2) kc_196_448 rfl rfl ?_
                  refine xi_ialoadO (pc' := 450) (v := a2) kc_196_449 rfl (by decide) hov0 (xi_in (n := 6) (by decide) (by decide)) rfl ?_
                  refine xi_aload_n (pc' := 451) (x := 1000000) kc_196_450 rfl rfl ?_
                  refine xi_iload (pc' := 453) (x := 0) kc_196_451 rfl rfl ?_
                  refine xi_iconst (pc' := 454) (v := 3) kc_196_453 rfl rfl ?_
                  refine xi_iadd (pc' := 455) (v := 3) kc_196_454 rfl rfl ?_
                  refine xi_ialoadO (pc' := 456) (v := a3) kc_196_455 rfl (by decide) hov0 (xi_in (n := 6) (by decide) (by decide)) rfl ?_
                  refine xi_aload_n (pc' := 457) (x := 1000000) kc_196_456 rfl rfl ?_
                  refine xi_iload (pc' := 459) (x := 0) kc_196_457 rfl rfl ?_
                  refine xi_iconst (pc' := 460) (v := 4) kc_196_459 rfl rfl ?_
                  refine xi_iadd (pc' := 461) (v := 4) kc_196_460 rfl rfl ?_
                  refine xi_ialoadO (pc' := 462) (v := a4) kc_196_461 rfl (by decide) hov0 (xi_in (n := 6) (by decide) (by decide)) rfl ?_
                  refine xi_iff (pc' := 465) kc_196_462 rfl (xc_eq_f (X := a4.toInt) (Y := 0) rfl (by decide) (by omega)) ?_
                  refine xi_iconst (pc' := 466) (v := 1) kc_196_465 rfl rfl ?_
                  refine xi_goto (pc' := 470) kc_196_466 rfl ?_
                  refine xi_virtual (mj := 24) (as := [.int 5, .int a2, .int a3, .int 1]) (st1 := [.int 1]) (lv0 := [(0, .ref 115), (1, .int 5), (2, .int a2), (3, .int a3), (4, .int 1)]) kc_196_470 rfl rfl rfl rfl rfl ((eh4.2.1 115 (by decide)).trans ((eh3.2.1 115 (by decide)).trans ((eh2.2.1 115 (by decide)).trans ((eh1.2.1 115 (by decide)).trans (F 115 _ hl_115))))) (Nat.le_of_ble_eq_true rfl) (hJ _ _ _ _ (by decide)) (xm_le ml_24 rfl) rfl ?_
                  refine xi_aload_n (pc' := 1) (x := 115) kc_24_0 rfl rfl ?_
                  refine xi_iconst (pc' := 2) (v := 0) kc_24_1 rfl rfl ?_
                  refine xi_putfield (pc' := 5) (fs' := [.int 0, .int 0, .ref 116, .ref 117, .ref 118, .ref 119, .ref 120, .ref 121, .ref 122, .ref 123, .ref 124, .ref 125, .ref 126, .ref 127, .ref 128, .ref 129, .int 4, .ref 130, .int 0, .ref 131, .ref 132, .ref 133, .ref 134, .int 0, .ref 135, .ref 136, .ref 137, .ref 138, .ref 139, .ref 140, .ref 141, .ref 142, .int 0, .int 0, .int 0, .ref 143, .ref 144, .ref 145, .ref 146, .ref 147, .ref 148, .int 0, .ref 149, .ref 150, .ref 151, .int 0, .ref 152, .ref 153, .ref 154, .ref 155, .ref 156, .ref 157, .ref 158, .ref 159, .int 0, .ref 160, .int 0, .ref 161, .ref 162, .ref 163, .ref 164, .int 0, .ref 165, .ref 166]) kc_24_2 rfl rfl rfl ((eh4.2.1 115 (by decide)).trans ((eh3.2.1 115 (by decide)).trans ((eh2.2.1 115 (by decide)).trans ((eh1.2.1 115 (by decide)).trans (F 115 _ hl_115))))) rfl rfl rfl (Nat.le_of_ble_eq_true rfl) rfl (fun hh5 eh5 => ?_)
                  refine xi_iload_n (pc' := 6) (x := 5) kc_24_5 rfl rfl ?_
                  refine xi_static (mj := 25) (as := [.int 5]) (st1 := []) (lv0 := [(0, .int 5)]) kc_24_6 rfl rfl (Nat.le_of_ble_eq_true rfl) rfl rfl (Nat.le_of_ble_eq_true rfl) (hJ _ _ _ _ (by decide)) (xm_le ml_25 rfl) rfl ?_
                  refine xi_iload_n (pc' := 1) (x := 5) kc_25_0 rfl rfl ?_
                  refine xi_iconst (pc' := 2) (v := 0) kc_25_1 rfl rfl ?_
                  refine xi_bipush (pc' := 4) (v := 11) kc_25_2 rfl rfl ?_
                  refine xi_static (mj := 12) (as := [.int 5, .int 0, .int 11]) (st1 := []) (lv0 := [(0, .int 5), (1, .int 0), (2, .int 11)]) kc_25_4 rfl rfl (Nat.le_of_ble_eq_true rfl) rfl rfl (Nat.le_of_ble_eq_true rfl) (hJ _ _ _ _ (by decide)) (xm_le ml_12 rfl) rfl ?_
                  refine xi_iload_n (pc' := 1) (x := 5) kc_12_0 rfl rfl ?_
                  refine xi_iload_n (pc' := 2) (x := 0) kc_12_1 rfl rfl ?_
                  refine xi_cmf (pc' := 5) kc_12_2 rfl rfl ?_
                  refine xi_iload_n (pc' := 6) (x := 5) kc_12_5 rfl rfl ?_
                  refine xi_iload_n (pc' := 7) (x := 11) kc_12_6 rfl rfl ?_
                  refine xi_cmf (pc' := 10) kc_12_7 rfl rfl ?_
                  refine xi_iconst (pc' := 11) (v := 1) kc_12_10 rfl rfl ?_
                  refine xi_goto (pc' := 15) kc_12_11 rfl ?_
                  refine xi_ireturn kc_12_15 mr_12 rfl ?_
                  show xw J ov 98 25 (7, [(0, .int 5)], [.int 1], hh5) _
                  refine xi_ireturn kc_25_7 mr_25 rfl ?_
                  show xw J ov 99 24 (9, [(0, .ref 115), (1, .int 5), (2, .int a2), (3, .int a3), (4, .int 1)], [.int 1], hh5) _
                  refine xi_iff (pc' := 12) kc_24_9 rfl rfl ?_
                  refine xi_iload_n (pc' := 13) (x := a2) kc_24_12 rfl rfl ?_
                  refine xi_static (mj := 11) (as := [.int a2]) (st1 := []) (lv0 := [(0, .int a2)]) kc_24_13 rfl rfl (Nat.le_of_ble_eq_true rfl) rfl rfl (Nat.le_of_ble_eq_true rfl) (hJ _ _ _ _ (by decide)) (xm_le ml_11 rfl) rfl ?_
                  refine xi_iload_n (pc' := 1) (x := a2) kc_11_0 rfl rfl ?_
                  refine xi_iconst (pc' := 2) (v := 0) kc_11_1 rfl rfl ?_
                  refine xi_iconst (pc' := 3) (v := 5) kc_11_2 rfl rfl ?_
                  refine xi_static (mj := 12) (as := [.int a2, .int 0, .int 5]) (st1 := []) (lv0 := [(0, .int a2), (1, .int 0), (2, .int 5)]) kc_11_3 rfl rfl (Nat.le_of_ble_eq_true rfl) rfl rfl (Nat.le_of_ble_eq_true rfl) (hJ _ _ _ _ (by decide)) (xm_le ml_12 rfl) rfl ?_
                  refine xi_iload_n (pc' := 1) (x := a2) kc_12_0 rfl rfl ?_
                  refine xi_iload_n (pc' := 2) (x := 0) kc_12_1 rfl rfl ?_
                  refine xi_cmf (pc' := 5) kc_12_2 rfl (xc_lt_f (X := a2.toInt) (Y := 0) rfl (by decide) (by omega)) ?_
                  refine xi_iload_n (pc' := 6) (x := a2) kc_12_5 rfl rfl ?_
                  refine xi_iload_n (pc' := 7) (x := 5) kc_12_6 rfl rfl ?_
                  refine xi_cmf (pc' := 10) kc_12_7 rfl (xc_gt_f (X := a2.toInt) (Y := 5) rfl (by decide) (by omega)) ?_
                  refine xi_iconst (pc' := 11) (v := 1) kc_12_10 rfl rfl ?_
                  refine xi_goto (pc' := 15) kc_12_11 rfl ?_
                  refine xi_ireturn kc_12_15 mr_12 rfl ?_
                  show xw J ov 98 11 (6, [(0, .int a2)], [.int 1], hh5) _
                  refine xi_ireturn kc_11_6 mr_11 rfl ?_
                  show xw J ov 99 24 (16, [(0, .ref 115), (1, .int 5), (2, .int a2), (3, .int a3), (4, .int 1)], [.int 1], hh5) _
                  refine xi_ift (pc' := 25) kc_24_16 rfl rfl ?_
                  refine xi_iload_n (pc' := 26) (x := a3) kc_24_25 rfl rfl ?_
                  refine xi_ift (pc' := 36) kc_24_26 rfl (xc_ge_t (X := a3.toInt) (Y := 0) rfl (by decide) (by omega)) ?_
                  refine xi_iload_n (pc' := 37) (x := a3) kc_24_36 rfl rfl ?_
                  refine xi_bipush (pc' := 39) (v := 100) kc_24_37 rfl rfl ?_
                  refine xi_cmt (pc' := 49) kc_24_39 rfl (xc_le_t (X := a3.toInt) (Y := 100) rfl (by decide) (by omega)) ?_
                  refine xi_aload_n (pc' := 50) (x := 115) kc_24_49 rfl rfl ?_
                  refine xi_getfield (pc' := 53) (v := .ref 125) kc_24_50 rfl rfl rfl eh5.1 rfl ?_
                  refine xi_iload_n (pc' := 54) (x := 5) kc_24_53 rfl rfl ?_
                  refine xi_iaload (pc' := 55) (v := (-9)) kc_24_54 rfl ((eh5.2.1 125 (by decide)).trans ((eh4.2.1 125 (by decide)).trans ((eh3.2.1 125 (by decide)).trans ((eh2.2.1 125 (by decide)).trans ((eh1.2.1 125 (by decide)).trans (F 125 _ hl_125)))))) (by decide) rfl (xi_in (n := 12) (by decide) (by decide)) rfl ?_
                  refine xi_ift (pc' := 62) kc_24_55 rfl rfl ?_
                  refine xi_iconst (pc' := 63) (v := 0) kc_24_62 rfl rfl ?_
                  refine xi_istore (pc' := 65) (lv' := [(5, .int 0), (0, .ref 115), (1, .int 5), (2, .int a2), (3, .int a3), (4, .int 1)]) kc_24_63 rfl rfl (xm_lt ml_24 rfl) ?_
                  refine xi_aload_n (pc' := 66) (x := 115) kc_24_65 rfl rfl ?_
                  refine xi_getfield (pc' := 69) (v := .ref 125) kc_24_66 rfl rfl rfl eh5.1 rfl ?_
                  refine xi_iload_n (pc' := 70) (x := 5) kc_24_69 rfl rfl ?_
                  refine xi_iload_n (pc' := 71) (x := a2) kc_24_70 rfl rfl ?_
                  refine xi_iastore (pc' := 72) (x' := [(-9), (-9), (-9), (-9), (-9), a2, (-9), (-9), (-9), (-9), (-9), (-9)]) kc_24_71 rfl ((eh5.2.1 125 (by decide)).trans ((eh4.2.1 125 (by decide)).trans ((eh3.2.1 125 (by decide)).trans ((eh2.2.1 125 (by decide)).trans ((eh1.2.1 125 (by decide)).trans (F 125 _ hl_125)))))) rfl (xi_in (n := 12) (by decide) (by decide)) rfl (fun hh6 eh6 => ?_)
                  refine xi_aload_n (pc' := 73) (x := 115) kc_24_72 rfl rfl ?_
                  refine xi_getfield (pc' := 76) (v := .ref 126) kc_24_73 rfl rfl rfl ((eh6.2.1 115 (by decide)).trans eh5.1) rfl ?_
                  refine xi_iload_n (pc' := 77) (x := 5) kc_24_76 rfl rfl ?_
                  refine xi_iload_n (pc' := 78) (x := a3) kc_24_77 rfl rfl ?_
                  refine xi_iastore (pc' := 79) (x' := [0, 0, 0, 0, 0, a3, 0, 0, 0, 0, 0, 0]) kc_24_78 rfl ((eh6.2.1 126 (by decide)).trans ((eh5.2.1 126 (by decide)).trans ((eh4.2.1 126 (by decide)).trans ((eh3.2.1 126 (by decide)).trans ((eh2.2.1 126 (by decide)).trans ((eh1.2.1 126 (by decide)).trans (F 126 _ hl_126))))))) rfl (xi_in (n := 12) (by decide) (by decide)) rfl (fun hh7 eh7 => ?_)
                  refine xi_aload_n (pc' := 80) (x := 115) kc_24_79 rfl rfl ?_
                  refine xi_getfield (pc' := 83) (v := .ref 127) kc_24_80 rfl rfl rfl ((eh7.2.1 115 (by decide)).trans ((eh6.2.1 115 (by decide)).trans eh5.1)) rfl ?_
                  refine xi_iload_n (pc' := 84) (x := 5) kc_24_83 rfl rfl ?_
                  refine xi_iload (pc' := 86) (x := 1) kc_24_84 rfl rfl ?_
                  refine xi_bastore (pc' := 87) (x' := [0, 0, 0, 0, 0, 1, 0, 0, 0, 0, 0, 0]) kc_24_86 rfl ((eh7.2.1 127 (by decide)).trans ((eh6.2.1 127 (by decide)).trans ((eh5.2.1 127 (by decide)).trans ((eh4.2.1 127 (by decide)).trans ((eh3.2.1 127 (by decide)).trans ((eh2.2.1 127 (by decide)).trans ((eh1.2.1 127 (by decide)).trans (F 127 _ hl_127)))))))) rfl (xi_in (n := 12) (by decide) (by decide)) rfl (fun hh8 eh8 => ?_)
                  refine xi_aload_n (pc' := 88) (x := 115) kc_24_87 rfl rfl ?_
                  refine xi_iconst (pc' := 89) (v := 0) kc_24_88 rfl rfl ?_
                  refine xi_putfield (pc' := 92) (fs' := [.int 0, .int 0, .ref 116, .ref 117, .ref 118, .ref 119, .ref 120, .ref 121, .ref 122, .ref 123, .ref 124, .ref 125, .ref 126, .ref 127, .ref 128, .ref 129, .int 4, .ref 130, .int 0, .ref 131, .ref 132, .ref 133, .ref 134, .int 0, .ref 135, .ref 136, .ref 137, .ref 138, .ref 139, .ref 140, .ref 141, .ref 142, .int 0, .int 0, .int 0, .ref 143, .ref 144, .ref 145, .ref 146, .ref 147, .ref 148, .int 0, .ref 149, .ref 150, .ref 151, .int 0, .ref 152, .ref 153, .ref 154, .ref 155, .ref 156, .ref 157, .ref 158, .ref 159, .int 0, .ref 160, .int 0, .ref 161, .ref 162, .ref 163, .ref 164, .int 0, .ref 165, .ref 166]) kc_24_89 rfl rfl rfl ((eh8.2.1 115 (by decide)).trans ((eh7.2.1 115 (by decide)).trans ((eh6.2.1 115 (by decide)).trans eh5.1))) rfl rfl rfl (Nat.le_of_ble_eq_true rfl) rfl (fun hh9 eh9 => ?_)
                  refine xi_iload (pc' := 94) (x := 0) kc_24_92 rfl rfl ?_
                  refine xi_ift (pc' := 101) kc_24_94 rfl rfl ?_
                  refine xi_iconst (pc' := 102) (v := 1) kc_24_101 rfl rfl ?_
                  refine xi_ireturn kc_24_102 mr_24 rfl ?_
                  show xw J ov 100 196 (473, [(4, .int 0), (3, .ref 167), (2, .ref 115), (1, .ref 0), (0, .ref 1000000)], [.int 1, .int 1], hh9) _
                  refine xi_cmt (pc' := 1528) kc_196_473 rfl rfl ?_
                  refine xi_iinc (pc' := 1531) (x := 0) (v := 6) (lv' := [(4, .int 6), (3, .ref 167), (2, .ref 115), (1, .ref 0), (0, .ref 1000000)]) kc_196_1528 rfl rfl rfl rfl (xm_lt ml_196 rfl) ?_
                  refine xi_goto (pc' := 23) kc_196_1531 rfl ?_
                  refine xi_iload (pc' := 25) (x := 6) kc_196_23 rfl rfl ?_
                  refine xi_aload_n (pc' := 26) (x := 1000000) kc_196_25 rfl rfl ?_
                  refine xi_arraylength (pc' := 27) (n := 6) (v := 6) kc_196_26 rfl (xl_lenO (by decide) hov0 rfl) rfl ?_
                  refine xi_bipush (pc' := 29) (v := 6) kc_196_27 rfl rfl ?_
                  refine xi_isub (pc' := 30) (v := 0) kc_196_29 rfl rfl ?_
                  refine xi_cmt (pc' := 1534) kc_196_30 rfl rfl ?_
                  refine xi_iconst (pc' := 1535) (v := 1) kc_196_1534 rfl rfl ?_
                  refine xi_ireturn kc_196_1535 mr_196 rfl ?_
                  refine ⟨rfl, ?_, ?_⟩
                  · rw [eh9.2.2.1, eh8.2.2.1, eh7.2.2.1, eh6.2.2.1, eh5.2.2.1, eh4.2.2.1, eh3.2.2.1, eh2.2.2.1, eh1.2.2.1]; exact hn0
                  · rw [eh9.2.2.2, eh8.2.2.2, eh7.2.2.2, eh6.2.2.2, eh5.2.2.2, eh4.2.2.2, eh3.2.2.2, eh2.2.2.2, eh1.2.2.2]; exact hz0
                by_cases c31 : a1.toInt = 6
                · have qa1 : a1 = 6 := xc_of (Eq.trans (by omega) (show (6 : Int) = (6 : Int32).toInt by decide))
                  subst qa1
                  refine xi_aaload (pc' := 60) (b := 41) kc_104_59 rfl ((eh1.2.1 3 (by decide)).trans (F 3 _ hl_3)) rfl (xi_in (n := 12) (by decide) (by decide)) rfl ?_
                  refine xi_astore (pc' := 62) (lv' := [(5, .ref 41), (0, .ref 0), (1, .int 6), (2, .int a2), (3, .int a3), (4, .int 1)]) kc_104_60 rfl rfl (xm_lt ml_104 rfl) ?_
                  refine xi_aload (pc' := 64) (x := 41) kc_104_62 rfl rfl ?_
                  refine xi_virtual (mj := 106) (as := []) (st1 := []) (lv0 := [(0, .ref 41)]) kc_104_64 rfl rfl rfl rfl rfl ((eh1.2.1 41 (by decide)).trans (F 41 _ hl_41)) (Nat.le_of_ble_eq_true rfl) (hJ _ _ _ _ (by decide)) (xm_le ml_106 rfl) rfl ?_
                  refine xi_aload_n (pc' := 1) (x := 41) kc_106_0 rfl rfl ?_
                  refine xi_getfield (pc' := 4) (v := .int (-9)) kc_106_1 rfl rfl rfl ((eh1.2.1 41 (by decide)).trans (F 41 _ hl_41)) rfl ?_
                  refine xi_static (mj := 90) (as := [.int (-9)]) (st1 := []) (lv0 := [(0, .int (-9))]) kc_106_4 rfl rfl (Nat.le_of_ble_eq_true rfl) rfl rfl (Nat.le_of_ble_eq_true rfl) (hJ _ _ _ _ (by decide)) (xm_le ml_90 rfl) rfl ?_
                  refine xi_iload_n (pc' := 1) (x := (-9)) kc_90_0 rfl rfl ?_
                  refine xi_ift (pc' := 14) kc_90_1 rfl rfl ?_
                  refine xi_iconst (pc' := 15) (v := 0) kc_90_14 rfl rfl ?_
                  refine xi_ireturn kc_90_15 mr_90 rfl ?_
                  show xw J ov 98 106 (7, [(0, .ref 41)], [.int 0], hh1) _
                  refine xi_ireturn kc_106_7 mr_106 rfl ?_
                  show xw J ov 99 104 (67, [(5, .ref 41), (0, .ref 0), (1, .int 6), (2, .int a2), (3, .int a3), (4, .int 1)], [.int 0], hh1) _
                  refine xi_ift (pc' := 74) kc_104_67 rfl rfl ?_
                  refine xi_iconst (pc' := 75) (v := 1) kc_104_74 rfl rfl ?_
                  refine xi_istore (pc' := 77) (lv' := [(6, .int 1), (5, .ref 41), (0, .ref 0), (1, .int 6), (2, .int a2), (3, .int a3), (4, .int 1)]) kc_104_75 rfl rfl (xm_lt ml_104 rfl) ?_
                  refine xi_aload (pc' := 79) (x := 41) kc_104_77 rfl rfl ?_
                  refine xi_iload_n (pc' := 80) (x := a2) kc_104_79 rfl rfl ?_
                  refine xi_putfield (pc' := 83) (fs' := [.int a2, .int 0, .int 0, .int 0, .ref 42]) kc_104_80 rfl rfl rfl ((eh1.2.1 41 (by decide)).trans (F 41 _ hl_41)) rfl rfl rfl (Nat.le_of_ble_eq_true rfl) rfl (fun hh2 eh2 => ?_)
                  refine xi_aload (pc' := 85) (x := 41) kc_104_83 rfl rfl ?_
                  refine xi_iload_n (pc' := 86) (x := a3) kc_104_85 rfl rfl ?_
                  refine xi_putfield (pc' := 89) (fs' := [.int a2, .int a3, .int 0, .int 0, .ref 42]) kc_104_86 rfl rfl rfl eh2.1 rfl rfl rfl (Nat.le_of_ble_eq_true rfl) rfl (fun hh3 eh3 => ?_)
                  refine xi_aload (pc' := 91) (x := 41) kc_104_89 rfl rfl ?_
                  refine xi_iload (pc' := 93) (x := 1) kc_104_91 rfl rfl ?_
                  refine xi_putfield (pc' := 96) (fs' := [.int a2, .int a3, .int 1, .int 0, .ref 42]) kc_104_93 rfl rfl rfl eh3.1 rfl rfl rfl (Nat.le_of_ble_eq_true rfl) rfl (fun hh4 eh4 => ?_)
                  refine xi_iload (pc' := 98) (x := 1) kc_104_96 rfl rfl ?_
                  refine xi_ireturn kc_104_98 mr_104 rfl ?_
                  show xw J ov 100 196 (437, [(4, .int 0), (3, .ref 167), (2, .ref 115), (1, .ref 0), (0, .ref 1000000)], [.int 1], hh4) _
                  refine xi_aload_n (pc' := 438) (x := 115) kc_196_437 rfl rfl ?_
                  refine xi_aload_n (pc' := 439) (x := 1000000) kc_196_438 rfl rfl ?_
                  refine xi_iload (pc' := 441) (x := 0) kc_196_439 rfl rfl ?_
                  refine xi_iconst (pc' := 442) (v := 1) kc_196_441 rfl rfl ?_
                  refine xi_iadd (pc' := 443) (v := 1) kc_196_442 rfl rfl ?_
                  refine xi_ialoadO (pc' := 444) (v := 6) kc_196_443 rfl (by decide) hov0 (xi_in (n := 6) (by decide) (by decide)) rfl ?_
                  refine xi_aload_n (pc' := 445) (x := 1000000) kc_196_444 rfl rfl ?_
                  refine xi_iload (pc' := 447) (x := 0) kc_196_445 rfl rfl ?_
                  refine xi_iconst (pc' := 448) (v := 2) kc_196_447 rfl rfl ?_
                  refine xi_iadd (pc' := 449) (v := 2) kc_196_448 rfl rfl ?_
                  refine xi_ialoadO (pc' := 450) (v := a2) kc_196_449 rfl (by decide) hov0 (xi_in (n := 6) (by decide) (by decide)) rfl ?_
                  refine xi_aload_n (pc' := 451) (x := 1000000) kc_196_450 rfl rfl ?_
                  refine xi_iload (pc' := 453) (x := 0) kc_196_451 rfl rfl ?_
                  refine xi_iconst (pc' := 454) (v := 3) kc_196_453 rfl rfl ?_
                  refine xi_iadd (pc' := 455) (v := 3) kc_196_454 rfl rfl ?_
                  refine xi_ialoadO (pc' := 456) (v := a3) kc_196_455 rfl (by decide) hov0 (xi_in (n := 6) (by decide) (by decide)) rfl ?_
                  refine xi_aload_n (pc' := 457) (x := 1000000) kc_196_456 rfl rfl ?_
                  refine xi_iload (pc' := 459) (x := 0) kc_196_457 rfl rfl ?_
                  refine xi_iconst (pc' := 460) (v := 4) kc_196_459 rfl rfl ?_
                  refine xi_iadd (pc' := 461) (v := 4) kc_196_460 rfl rfl ?_
                  refine xi_ialoadO (pc' := 462) (v := a4) kc_196_461 rfl (by decide) hov0 (xi_in (n := 6) (by decide) (by decide)) rfl ?_
                  refine xi_iff (pc' := 465) kc_196_462 rfl (xc_eq_f (X := a4.toInt) (Y := 0) rfl (by decide) (by omega)) ?_
                  refine xi_iconst (pc' := 466) (v := 1) kc_196_465 rfl rfl ?_
                  refine xi_goto (pc' := 470) kc_196_466 rfl ?_
                  refine xi_virtual (mj := 24) (as := [.int 6, .int a2, .int a3, .int 1]) (st1 := [.int 1]) (lv0 := [(0, .ref 115), (1, .int 6), (2, .int a2), (3, .int a3), (4, .int 1)]) kc_196_470 rfl rfl rfl rfl rfl ((eh4.2.1 115 (by decide)).trans ((eh3.2.1 115 (by decide)).trans ((eh2.2.1 115 (by decide)).trans ((eh1.2.1 115 (by decide)).trans (F 115 _ hl_115))))) (Nat.le_of_ble_eq_true rfl) (hJ _ _ _ _ (by decide)) (xm_le ml_24 rfl) rfl ?_
                  refine xi_aload_n (pc' := 1) (x := 115) kc_24_0 rfl rfl ?_
                  refine xi_iconst (pc' := 2) (v := 0) kc_24_1 rfl rfl ?_
                  refine xi_putfield (pc' := 5) (fs' := [.int 0, .int 0, .ref 116, .ref 117, .ref 118, .ref 119, .ref 120, .ref 121, .ref 122, .ref 123, .ref 124, .ref 125, .ref 126, .ref 127, .ref 128, .ref 129, .int 4, .ref 130, .int 0, .ref 131, .ref 132, .ref 133, .ref 134, .int 0, .ref 135, .ref 136, .ref 137, .ref 138, .ref 139, .ref 140, .ref 141, .ref 142, .int 0, .int 0, .int 0, .ref 143, .ref 144, .ref 145, .ref 146, .ref 147, .ref 148, .int 0, .ref 149, .ref 150, .ref 151, .int 0, .ref 152, .ref 153, .ref 154, .ref 155, .ref 156, .ref 157, .ref 158, .ref 159, .int 0, .ref 160, .int 0, .ref 161, .ref 162, .ref 163, .ref 164, .int 0, .ref 165, .ref 166]) kc_24_2 rfl rfl rfl ((eh4.2.1 115 (by decide)).trans ((eh3.2.1 115 (by decide)).trans ((eh2.2.1 115 (by decide)).trans ((eh1.2.1 115 (by decide)).trans (F 115 _ hl_115))))) rfl rfl rfl (Nat.le_of_ble_eq_true rfl) rfl (fun hh5 eh5 => ?_)
                  refine xi_iload_n (pc' := 6) (x := 6) kc_24_5 rfl rfl ?_
                  refine xi_static (mj := 25) (as := [.int 6]) (st1 := []) (lv0 := [(0, .int 6)]) kc_24_6 rfl rfl (Nat.le_of_ble_eq_true rfl) rfl rfl (Nat.le_of_ble_eq_true rfl) (hJ _ _ _ _ (by decide)) (xm_le ml_25 rfl) rfl ?_
                  refine xi_iload_n (pc' := 1) (x := 6) kc_25_0 rfl rfl ?_
                  refine xi_iconst (pc' := 2) (v := 0) kc_25_1 rfl rfl ?_
                  refine xi_bipush (pc' := 4) (v := 11) kc_25_2 rfl rfl ?_
                  refine xi_static (mj := 12) (as := [.int 6, .int 0, .int 11]) (st1 := []) (lv0 := [(0, .int 6), (1, .int 0), (2, .int 11)]) kc_25_4 rfl rfl (Nat.le_of_ble_eq_true rfl) rfl rfl (Nat.le_of_ble_eq_true rfl) (hJ _ _ _ _ (by decide)) (xm_le ml_12 rfl) rfl ?_
                  refine xi_iload_n (pc' := 1) (x := 6) kc_12_0 rfl rfl ?_
                  refine xi_iload_n (pc' := 2) (x := 0) kc_12_1 rfl rfl ?_
                  refine xi_cmf (pc' := 5) kc_12_2 rfl rfl ?_
                  refine xi_iload_n (pc' := 6) (x := 6) kc_12_5 rfl rfl ?_
                  refine xi_iload_n (pc' := 7) (x := 11) kc_12_6 rfl rfl ?_
                  refine xi_cmf (pc' := 10) kc_12_7 rfl rfl ?_
                  refine xi_iconst (pc' := 11) (v := 1) kc_12_10 rfl rfl ?_
                  refine xi_goto (pc' := 15) kc_12_11 rfl ?_
                  refine xi_ireturn kc_12_15 mr_12 rfl ?_
                  show xw J ov 98 25 (7, [(0, .int 6)], [.int 1], hh5) _
                  refine xi_ireturn kc_25_7 mr_25 rfl ?_
                  show xw J ov 99 24 (9, [(0, .ref 115), (1, .int 6), (2, .int a2), (3, .int a3), (4, .int 1)], [.int 1], hh5) _
                  refine xi_iff (pc' := 12) kc_24_9 rfl rfl ?_
                  refine xi_iload_n (pc' := 13) (x := a2) kc_24_12 rfl rfl ?_
                  refine xi_static (mj := 11) (as := [.int a2]) (st1 := []) (lv0 := [(0, .int a2)]) kc_24_13 rfl rfl (Nat.le_of_ble_eq_true rfl) rfl rfl (Nat.le_of_ble_eq_true rfl) (hJ _ _ _ _ (by decide)) (xm_le ml_11 rfl) rfl ?_
                  refine xi_iload_n (pc' := 1) (x := a2) kc_11_0 rfl rfl ?_
                  refine xi_iconst (pc' := 2) (v := 0) kc_11_1 rfl rfl ?_
                  refine xi_iconst (pc' := 3) (v := 5) kc_11_2 rfl rfl ?_
                  refine xi_static (mj := 12) (as := [.int a2, .int 0, .int 5]) (st1 := []) (lv0 := [(0, .int a2), (1, .int 0), (2, .int 5)]) kc_11_3 rfl rfl (Nat.le_of_ble_eq_true rfl) rfl rfl (Nat.le_of_ble_eq_true rfl) (hJ _ _ _ _ (by decide)) (xm_le ml_12 rfl) rfl ?_
                  refine xi_iload_n (pc' := 1) (x := a2) kc_12_0 rfl rfl ?_
                  refine xi_iload_n (pc' := 2) (x := 0) kc_12_1 rfl rfl ?_
                  refine xi_cmf (pc' := 5) kc_12_2 rfl (xc_lt_f (X := a2.toInt) (Y := 0) rfl (by decide) (by omega)) ?_
                  refine xi_iload_n (pc' := 6) (x := a2) kc_12_5 rfl rfl ?_
                  refine xi_iload_n (pc' := 7) (x := 5) kc_12_6 rfl rfl ?_
                  refine xi_cmf (pc' := 10) kc_12_7 rfl (xc_gt_f (X := a2.toInt) (Y := 5) rfl (by decide) (by omega)) ?_
                  refine xi_iconst (pc' := 11) (v := 1) kc_12_10 rfl rfl ?_
                  refine xi_goto (pc' := 15) kc_12_11 rfl ?_
                  refine xi_ireturn kc_12_15 mr_12 rfl ?_
                  show xw J ov 98 11 (6, [(0, .int a2)], [.int 1], hh5) _
                  refine xi_ireturn kc_11_6 mr_11 rfl ?_
                  show xw J ov 99 24 (16, [(0, .ref 115), (1, .int 6), (2, .int a2), (3, .int a3), (4, .int 1)], [.int 1], hh5) _
                  refine xi_ift (pc' := 25) kc_24_16 rfl rfl ?_
                  refine xi_iload_n (pc' := 26) (x := a3) kc_24_25 rfl rfl ?_
                  refine xi_ift (pc' := 36) kc_24_26 rfl (xc_ge_t (X := a3.toInt) (Y := 0) rfl (by decide) (by omega)) ?_
                  refine xi_iload_n (pc' := 37) (x := a3) kc_24_36 rfl rfl ?_
                  refine xi_bipush (pc' := 39) (v := 100) kc_24_37 rfl rfl ?_
                  refine xi_cmt (pc' := 49) kc_24_39 rfl (xc_le_t (X := a3.toInt) (Y := 100) rfl (by decide) (by omega)) ?_
                  refine xi_aload_n (pc' := 50) (x := 115) kc_24_49 rfl rfl ?_
                  refine xi_getfield (pc' := 53) (v := .ref 125) kc_24_50 rfl rfl rfl eh5.1 rfl ?_
                  refine xi_iload_n (pc' := 54) (x := 6) kc_24_53 rfl rfl ?_
                  refine xi_iaload (pc' := 55) (v := (-9)) kc_24_54 rfl ((eh5.2.1 125 (by decide)).trans ((eh4.2.1 125 (by decide)).trans ((eh3.2.1 125 (by decide)).trans ((eh2.2.1 125 (by decide)).trans ((eh1.2.1 125 (by decide)).trans (F 125 _ hl_125)))))) (by decide) rfl (xi_in (n := 12) (by decide) (by decide)) rfl ?_
                  refine xi_ift (pc' := 62) kc_24_55 rfl rfl ?_
                  refine xi_iconst (pc' := 63) (v := 0) kc_24_62 rfl rfl ?_
                  refine xi_istore (pc' := 65) (lv' := [(5, .int 0), (0, .ref 115), (1, .int 6), (2, .int a2), (3, .int a3), (4, .int 1)]) kc_24_63 rfl rfl (xm_lt ml_24 rfl) ?_
                  refine xi_aload_n (pc' := 66) (x := 115) kc_24_65 rfl rfl ?_
                  refine xi_getfield (pc' := 69) (v := .ref 125) kc_24_66 rfl rfl rfl eh5.1 rfl ?_
                  refine xi_iload_n (pc' := 70) (x := 6) kc_24_69 rfl rfl ?_
                  refine xi_iload_n (pc' := 71) (x := a2) kc_24_70 rfl rfl ?_
                  refine xi_iastore (pc' := 72) (x' := [(-9), (-9), (-9), (-9), (-9), (-9), a2, (-9), (-9), (-9), (-9), (-9)]) kc_24_71 rfl ((eh5.2.1 125 (by decide)).trans ((eh4.2.1 125 (by decide)).trans ((eh3.2.1 125 (by decide)).trans ((eh2.2.1 125 (by decide)).trans ((eh1.2.1 125 (by decide)).trans (F 125 _ hl_125)))))) rfl (xi_in (n := 12) (by decide) (by decide)) rfl (fun hh6 eh6 => ?_)
                  refine xi_aload_n (pc' := 73) (x := 115) kc_24_72 rfl rfl ?_
                  refine xi_getfield (pc' := 76) (v := .ref 126) kc_24_73 rfl rfl rfl ((eh6.2.1 115 (by decide)).trans eh5.1) rfl ?_
                  refine xi_iload_n (pc' := 77) (x := 6) kc_24_76 rfl rfl ?_
                  refine xi_iload_n (pc' := 78) (x := a3) kc_24_77 rfl rfl ?_
                  refine xi_iastore (pc' := 79) (x' := [0, 0, 0, 0, 0, 0, a3, 0, 0, 0, 0, 0]) kc_24_78 rfl ((eh6.2.1 126 (by decide)).trans ((eh5.2.1 126 (by decide)).trans ((eh4.2.1 126 (by decide)).trans ((eh3.2.1 126 (by decide)).trans ((eh2.2.1 126 (by decide)).trans ((eh1.2.1 126 (by decide)).trans (F 126 _ hl_126))))))) rfl (xi_in (n := 12) (by decide) (by decide)) rfl (fun hh7 eh7 => ?_)
                  refine xi_aload_n (pc' := 80) (x := 115) kc_24_79 rfl rfl ?_
                  refine xi_getfield (pc' := 83) (v := .ref 127) kc_24_80 rfl rfl rfl ((eh7.2.1 115 (by decide)).trans ((eh6.2.1 115 (by decide)).trans eh5.1)) rfl ?_
                  refine xi_iload_n (pc' := 84) (x := 6) kc_24_83 rfl rfl ?_
                  refine xi_iload (pc' := 86) (x := 1) kc_24_84 rfl rfl ?_
                  refine xi_bastore (pc' := 87) (x' := [0, 0, 0, 0, 0, 0, 1, 0, 0, 0, 0, 0]) kc_24_86 rfl ((eh7.2.1 127 (by decide)).trans ((eh6.2.1 127 (by decide)).trans ((eh5.2.1 127 (by decide)).trans ((eh4.2.1 127 (by decide)).trans ((eh3.2.1 127 (by decide)).trans ((eh2.2.1 127 (by decide)).trans ((eh1.2.1 127 (by decide)).trans (F 127 _ hl_127)))))))) rfl (xi_in (n := 12) (by decide) (by decide)) rfl (fun hh8 eh8 => ?_)
                  refine xi_aload_n (pc' := 88) (x := 115) kc_24_87 rfl rfl ?_
                  refine xi_iconst (pc' := 89) (v := 0) kc_24_88 rfl rfl ?_
                  refine xi_putfield (pc' := 92) (fs' := [.int 0, .int 0, .ref 116, .ref 117, .ref 118, .ref 119, .ref 120, .ref 121, .ref 122, .ref 123, .ref 124, .ref 125, .ref 126, .ref 127, .ref 128, .ref 129, .int 4, .ref 130, .int 0, .ref 131, .ref 132, .ref 133, .ref 134, .int 0, .ref 135, .ref 136, .ref 137, .ref 138, .ref 139, .ref 140, .ref 141, .ref 142, .int 0, .int 0, .int 0, .ref 143, .ref 144, .ref 145, .ref 146, .ref 147, .ref 148, .int 0, .ref 149, .ref 150, .ref 151, .int 0, .ref 152, .ref 153, .ref 154, .ref 155, .ref 156, .ref 157, .ref 158, .ref 159, .int 0, .ref 160, .int 0, .ref 161, .ref 162, .ref 163, .ref 164, .int 0, .ref 165, .ref 166]) kc_24_89 rfl rfl rfl ((eh8.2.1 115 (by decide)).trans ((eh7.2.1 115 (by decide)).trans ((eh6.2.1 115 (by decide)).trans eh5.1))) rfl rfl rfl (Nat.le_of_ble_eq_true rfl) rfl (fun hh9 eh9 => ?_)
                  refine xi_iload (pc' := 94) (x := 0) kc_24_92 rfl rfl ?_
                  refine xi_ift (pc' := 101) kc_24_94 rfl rfl ?_
                  refine xi_iconst (pc' := 102) (v := 1) kc_24_101 rfl rfl ?_
                  refine xi_ireturn kc_24_102 mr_24 rfl ?_
                  show xw J ov 100 196 (473, [(4, .int 0), (3, .ref 167), (2, .ref 115), (1, .ref 0), (0, .ref 1000000)], [.int 1, .int 1], hh9) _
                  refine xi_cmt (pc' := 1528) kc_196_473 rfl rfl ?_
                  refine xi_iinc (pc' := 1531) (x := 0) (v := 6) (lv' := [(4, .int 6), (3, .ref 167), (2, .ref 115), (1, .ref 0), (0, .ref 1000000)]) kc_196_1528 rfl rfl rfl rfl (xm_lt ml_196 rfl) ?_
                  refine xi_goto (pc' := 23) kc_196_1531 rfl ?_
                  refine xi_iload (pc' := 25) (x := 6) kc_196_23 rfl rfl ?_
                  refine xi_aload_n (pc' := 26) (x := 1000000) kc_196_25 rfl rfl ?_
                  refine xi_arraylength (pc' := 27) (n := 6) (v := 6) kc_196_26 rfl (xl_lenO (by decide) hov0 rfl) rfl ?_
                  refine xi_bipush (pc' := 29) (v := 6) kc_196_27 rfl rfl ?_
                  refine xi_isub (pc' := 30) (v := 0) kc_196_29 rfl rfl ?_
                  refine xi_cmt (pc' := 1534) kc_196_30 rfl rfl ?_
                  refine xi_iconst (pc' := 1535) (v := 1) kc_196_1534 rfl rfl ?_
                  refine xi_ireturn kc_196_1535 mr_196 rfl ?_
                  refine ⟨rfl, ?_, ?_⟩
                  · rw [eh9.2.2.1, eh8.2.2.1, eh7.2.2.1, eh6.2.2.1, eh5.2.2.1, eh4.2.2.1, eh3.2.2.1, eh2.2.2.1, eh1.2.2.1]; exact hn0
                  · rw [eh9.2.2.2, eh8.2.2.2, eh7.2.2.2, eh6.2.2.2, eh5.2.2.2, eh4.2.2.2, eh3.2.2.2, eh2.2.2.2, eh1.2.2.2]; exact hz0
                by_cases c32 : a1.toInt = 7
                · have qa1 : a1 = 7 := xc_of (Eq.trans (by omega) (show (7 : Int) = (7 : Int32).toInt by decide))
                  subst qa1
                  refine xi_aaload (pc' := 60) (b := 43) kc_104_59 rfl ((eh1.2.1 3 (by decide)).trans (F 3 _ hl_3)) rfl (xi_in (n := 12) (by decide) (by decide)) rfl ?_
                  refine xi_astore (pc' := 62) (lv' := [(5, .ref 43), (0, .ref 0), (1, .int 7), (2, .int a2), (3, .int a3), (4, .int 1)]) kc_104_60 rfl rfl (xm_lt ml_104 rfl) ?_
                  refine xi_aload (pc' := 64) (x := 43) kc_104_62 rfl rfl ?_
                  refine xi_virtual (mj := 106) (as := []) (st1 := []) (lv0 := [(0, .ref 43)]) kc_104_64 rfl rfl rfl rfl rfl ((eh1.2.1 43 (by decide)).trans (F 43 _ hl_43)) (Nat.le_of_ble_eq_true rfl) (hJ _ _ _ _ (by decide)) (xm_le ml_106 rfl) rfl ?_
                  refine xi_aload_n (pc' := 1) (x := 43) kc_106_0 rfl rfl ?_
                  refine xi_getfield (pc' := 4) (v := .int (-9)) kc_106_1 rfl rfl rfl ((eh1.2.1 43 (by decide)).trans (F 43 _ hl_43)) rfl ?_
                  refine xi_static (mj := 90) (as := [.int (-9)]) (st1 := []) (lv0 := [(0, .int (-9))]) kc_106_4 rfl rfl (Nat.le_of_ble_eq_true rfl) rfl rfl (Nat.le_of_ble_eq_true rfl) (hJ _ _ _ _ (by decide)) (xm_le ml_90 rfl) rfl ?_
                  refine xi_iload_n (pc' := 1) (x := (-9)) kc_90_0 rfl rfl ?_
                  refine xi_ift (pc' := 14) kc_90_1 rfl rfl ?_
                  refine xi_iconst (pc' := 15) (v := 0) kc_90_14 rfl rfl ?_
                  refine xi_ireturn kc_90_15 mr_90 rfl ?_
                  show xw J ov 98 106 (7, [(0, .ref 43)], [.int 0], hh1) _
                  refine xi_ireturn kc_106_7 mr_106 rfl ?_
                  show xw J ov 99 104 (67, [(5, .ref 43), (0, .ref 0), (1, .int 7), (2, .int a2), (3, .int a3), (4, .int 1)], [.int 0], hh1) _
                  refine xi_ift (pc' := 74) kc_104_67 rfl rfl ?_
                  refine xi_iconst (pc' := 75) (v := 1) kc_104_74 rfl rfl ?_
                  refine xi_istore (pc' := 77) (lv' := [(6, .int 1), (5, .ref 43), (0, .ref 0), (1, .int 7), (2, .int a2), (3, .int a3), (4, .int 1)]) kc_104_75 rfl rfl (xm_lt ml_104 rfl) ?_
                  refine xi_aload (pc' := 79) (x := 43) kc_104_77 rfl rfl ?_
                  refine xi_iload_n (pc' := 80) (x := a2) kc_104_79 rfl rfl ?_
                  refine xi_putfield (pc' := 83) (fs' := [.int a2, .int 0, .int 0, .int 0, .ref 44]) kc_104_80 rfl rfl rfl ((eh1.2.1 43 (by decide)).trans (F 43 _ hl_43)) rfl rfl rfl (Nat.le_of_ble_eq_true rfl) rfl (fun hh2 eh2 => ?_)
                  refine xi_aload (pc' := 85) (x := 43) kc_104_83 rfl rfl ?_
                  refine xi_iload_n (pc' := 86) (x := a3) kc_104_85 rfl rfl ?_
                  refine xi_putfield (pc' := 89) (fs' := [.int a2, .int a3, .int 0, .int 0, .ref 44]) kc_104_86 rfl rfl rfl eh2.1 rfl rfl rfl (Nat.le_of_ble_eq_true rfl) rfl (fun hh3 eh3 => ?_)
                  refine xi_aload (pc' := 91) (x := 43) kc_104_89 rfl rfl ?_
                  refine xi_iload (pc' := 93) (x := 1) kc_104_91 rfl rfl ?_
                  refine xi_putfield (pc' := 96) (fs' := [.int a2, .int a3, .int 1, .int 0, .ref 44]) kc_104_93 rfl rfl rfl eh3.1 rfl rfl rfl (Nat.le_of_ble_eq_true rfl) rfl (fun hh4 eh4 => ?_)
                  refine xi_iload (pc' := 98) (x := 1) kc_104_96 rfl rfl ?_
                  refine xi_ireturn kc_104_98 mr_104 rfl ?_
                  show xw J ov 100 196 (437, [(4, .int 0), (3, .ref 167), (2, .ref 115), (1, .ref 0), (0, .ref 1000000)], [.int 1], hh4) _
                  refine xi_aload_n (pc' := 438) (x := 115) kc_196_437 rfl rfl ?_
                  refine xi_aload_n (pc' := 439) (x := 1000000) kc_196_438 rfl rfl ?_
                  refine xi_iload (pc' := 441) (x := 0) kc_196_439 rfl rfl ?_
                  refine xi_iconst (pc' := 442) (v := 1) kc_196_441 rfl rfl ?_
                  refine xi_iadd (pc' := 443) (v := 1) kc_196_442 rfl rfl ?_
                  refine xi_ialoadO (pc' := 444) (v := 7) kc_196_443 rfl (by decide) hov0 (xi_in (n := 6) (by decide) (by decide)) rfl ?_
                  refine xi_aload_n (pc' := 445) (x := 1000000) kc_196_444 rfl rfl ?_
                  refine xi_iload (pc' := 447) (x := 0) kc_196_445 rfl rfl ?_
                  refine xi_iconst (pc' := 448) (v := 2) kc_196_447 rfl rfl ?_
                  refine xi_iadd (pc' := 449) (v := 2) kc_196_448 rfl rfl ?_
                  refine xi_ialoadO (pc' := 450) (v := a2) kc_196_449 rfl (by decide) hov0 (xi_in (n := 6) (by decide) (by decide)) rfl ?_
                  refine xi_aload_n (pc' := 451) (x := 1000000) kc_196_450 rfl rfl ?_
                  refine xi_iload (pc' := 453) (x := 0) kc_196_451 rfl rfl ?_
                  refine xi_iconst (pc' := 454) (v := 3) kc_196_453 rfl rfl ?_
                  refine xi_iadd (pc' := 455) (v := 3) kc_196_454 rfl rfl ?_
                  refine xi_ialoadO (pc' := 456) (v := a3) kc_196_455 rfl (by decide) hov0 (xi_in (n := 6) (by decide) (by decide)) rfl ?_
                  refine xi_aload_n (pc' := 457) (x := 1000000) kc_196_456 rfl rfl ?_
                  refine xi_iload (pc' := 459) (x := 0) kc_196_457 rfl rfl ?_
                  refine xi_iconst (pc' := 460) (v := 4) kc_196_459 rfl rfl ?_
                  refine xi_iadd (pc' := 461) (v := 4) kc_196_460 rfl rfl ?_
                  refine xi_ialoadO (pc' := 462) (v := a4) kc_196_461 rfl (by decide) hov0 (xi_in (n := 6) (by decide) (by decide)) rfl ?_
                  refine xi_iff (pc' := 465) kc_196_462 rfl (xc_eq_f (X := a4.toInt) (Y := 0) rfl (by decide) (by omega)) ?_
                  refine xi_iconst (pc' := 466) (v := 1) kc_196_465 rfl rfl ?_
                  refine xi_goto (pc' := 470) kc_196_466 rfl ?_
                  refine xi_virtual (mj := 24) (as := [.int 7, .int a2, .int a3, .int 1]) (st1 := [.int 1]) (lv0 := [(0, .ref 115), (1, .int 7), (2, .int a2), (3, .int a3), (4, .int 1)]) kc_196_470 rfl rfl rfl rfl rfl ((eh4.2.1 115 (by decide)).trans ((eh3.2.1 115 (by decide)).trans ((eh2.2.1 115 (by decide)).trans ((eh1.2.1 115 (by decide)).trans (F 115 _ hl_115))))) (Nat.le_of_ble_eq_true rfl) (hJ _ _ _ _ (by decide)) (xm_le ml_24 rfl) rfl ?_
                  refine xi_aload_n (pc' := 1) (x := 115) kc_24_0 rfl rfl ?_
                  refine xi_iconst (pc' := 2) (v := 0) kc_24_1 rfl rfl ?_
                  refine xi_putfield (pc' := 5) (fs' := [.int 0, .int 0, .ref 116, .ref 117, .ref 118, .ref 119, .ref 120, .ref 121, .ref 122, .ref 123, .ref 124, .ref 125, .ref 126, .ref 127, .ref 128, .ref 129, .int 4, .ref 130, .int 0, .ref 131, .ref 132, .ref 133, .ref 134, .int 0, .ref 135, .ref 136, .ref 137, .ref 138, .ref 139, .ref 140, .ref 141, .ref 142, .int 0, .int 0, .int 0, .ref 143, .ref 144, .ref 145, .ref 146, .ref 147, .ref 148, .int 0, .ref 149, .ref 150, .ref 151, .int 0, .ref 152, .ref 153, .ref 154, .ref 155, .ref 156, .ref 157, .ref 158, .ref 159, .int 0, .ref 160, .int 0, .ref 161, .ref 162, .ref 163, .ref 164, .int 0, .ref 165, .ref 166]) kc_24_2 rfl rfl rfl ((eh4.2.1 115 (by decide)).trans ((eh3.2.1 115 (by decide)).trans ((eh2.2.1 115 (by decide)).trans ((eh1.2.1 115 (by decide)).trans (F 115 _ hl_115))))) rfl rfl rfl (Nat.le_of_ble_eq_true rfl) rfl (fun hh5 eh5 => ?_)
                  refine xi_iload_n (pc' := 6) (x := 7) kc_24_5 rfl rfl ?_
                  refine xi_static (mj := 25) (as := [.int 7]) (st1 := []) (lv0 := [(0, .int 7)]) kc_24_6 rfl rfl (Nat.le_of_ble_eq_true rfl) rfl rfl (Nat.le_of_ble_eq_true rfl) (hJ _ _ _ _ (by decide)) (xm_le ml_25 rfl) rfl ?_
                  refine xi_iload_n (pc' := 1) (x := 7) kc_25_0 rfl rfl ?_
                  refine xi_iconst (pc' := 2) (v := 0) kc_25_1 rfl rfl ?_
                  refine xi_bipush (pc' := 4) (v := 11) kc_25_2 rfl rfl ?_
                  refine xi_static (mj := 12) (as := [.int 7, .int 0, .int 11]) (st1 := []) (lv0 := [(0, .int 7), (1, .int 0), (2, .int 11)]) kc_25_4 rfl rfl (Nat.le_of_ble_eq_true rfl) rfl rfl (Nat.le_of_ble_eq_true rfl) (hJ _ _ _ _ (by decide)) (xm_le ml_12 rfl) rfl ?_
                  refine xi_iload_n (pc' := 1) (x := 7) kc_12_0 rfl rfl ?_
                  refine xi_iload_n (pc' := 2) (x := 0) kc_12_1 rfl rfl ?_
                  refine xi_cmf (pc' := 5) kc_12_2 rfl rfl ?_
                  refine xi_iload_n (pc' := 6) (x := 7) kc_12_5 rfl rfl ?_
                  refine xi_iload_n (pc' := 7) (x := 11) kc_12_6 rfl rfl ?_
                  refine xi_cmf (pc' := 10) kc_12_7 rfl rfl ?_
                  refine xi_iconst (pc' := 11) (v := 1) kc_12_10 rfl rfl ?_
                  refine xi_goto (pc' := 15) kc_12_11 rfl ?_
                  refine xi_ireturn kc_12_15 mr_12 rfl ?_
                  show xw J ov 98 25 (7, [(0, .int 7)], [.int 1], hh5) _
                  refine xi_ireturn kc_25_7 mr_25 rfl ?_
                  show xw J ov 99 24 (9, [(0, .ref 115), (1, .int 7), (2, .int a2), (3, .int a3), (4, .int 1)], [.int 1], hh5) _
                  refine xi_iff (pc' := 12) kc_24_9 rfl rfl ?_
                  refine xi_iload_n (pc' := 13) (x := a2) kc_24_12 rfl rfl ?_
                  refine xi_static (mj := 11) (as := [.int a2]) (st1 := []) (lv0 := [(0, .int a2)]) kc_24_13 rfl rfl (Nat.le_of_ble_eq_true rfl) rfl rfl (Nat.le_of_ble_eq_true rfl) (hJ _ _ _ _ (by decide)) (xm_le ml_11 rfl) rfl ?_
                  refine xi_iload_n (pc' := 1) (x := a2) kc_11_0 rfl rfl ?_
                  refine xi_iconst (pc' := 2) (v := 0) kc_11_1 rfl rfl ?_
                  refine xi_iconst (pc' := 3) (v := 5) kc_11_2 rfl rfl ?_
                  refine xi_static (mj := 12) (as := [.int a2, .int 0, .int 5]) (st1 := []) (lv0 := [(0, .int a2), (1, .int 0), (2, .int 5)]) kc_11_3 rfl rfl (Nat.le_of_ble_eq_true rfl) rfl rfl (Nat.le_of_ble_eq_true rfl) (hJ _ _ _ _ (by decide)) (xm_le ml_12 rfl) rfl ?_
                  refine xi_iload_n (pc' := 1) (x := a2) kc_12_0 rfl rfl ?_
                  refine xi_iload_n (pc' := 2) (x := 0) kc_12_1 rfl rfl ?_
                  refine xi_cmf (pc' := 5) kc_12_2 rfl (xc_lt_f (X := a2.toInt) (Y := 0) rfl (by decide) (by omega)) ?_
                  refine xi_iload_n (pc' := 6) (x := a2) kc_12_5 rfl rfl ?_
                  refine xi_iload_n (pc' := 7) (x := 5) kc_12_6 rfl rfl ?_
                  refine xi_cmf (pc' := 10) kc_12_7 rfl (xc_gt_f (X := a2.toInt) (Y := 5) rfl (by decide) (by omega)) ?_
                  refine xi_iconst (pc' := 11) (v := 1) kc_12_10 rfl rfl ?_
                  refine xi_goto (pc' := 15) kc_12_11 rfl ?_
                  refine xi_ireturn kc_12_15 mr_12 rfl ?_
                  show xw J ov 98 11 (6, [(0, .int a2)], [.int 1], hh5) _
                  refine xi_ireturn kc_11_6 mr_11 rfl ?_
                  show xw J ov 99 24 (16, [(0, .ref 115), (1, .int 7), (2, .int a2), (3, .int a3), (4, .int 1)], [.int 1], hh5) _
                  refine xi_ift (pc' := 25) kc_24_16 rfl rfl ?_
                  refine xi_iload_n (pc' := 26) (x := a3) kc_24_25 rfl rfl ?_
                  refine xi_ift (pc' := 36) kc_24_26 rfl (xc_ge_t (X := a3.toInt) (Y := 0) rfl (by decide) (by omega)) ?_
                  refine xi_iload_n (pc' := 37) (x := a3) kc_24_36 rfl rfl ?_
                  refine xi_bipush (pc' := 39) (v := 100) kc_24_37 rfl rfl ?_
                  refine xi_cmt (pc' := 49) kc_24_39 rfl (xc_le_t (X := a3.toInt) (Y := 100) rfl (by decide) (by omega)) ?_
                  refine xi_aload_n (pc' := 50) (x := 115) kc_24_49 rfl rfl ?_
                  refine xi_getfield (pc' := 53) (v := .ref 125) kc_24_50 rfl rfl rfl eh5.1 rfl ?_
                  refine xi_iload_n (pc' := 54) (x := 7) kc_24_53 rfl rfl ?_
                  refine xi_iaload (pc' := 55) (v := (-9)) kc_24_54 rfl ((eh5.2.1 125 (by decide)).trans ((eh4.2.1 125 (by decide)).trans ((eh3.2.1 125 (by decide)).trans ((eh2.2.1 125 (by decide)).trans ((eh1.2.1 125 (by decide)).trans (F 125 _ hl_125)))))) (by decide) rfl (xi_in (n := 12) (by decide) (by decide)) rfl ?_
                  refine xi_ift (pc' := 62) kc_24_55 rfl rfl ?_
                  refine xi_iconst (pc' := 63) (v := 0) kc_24_62 rfl rfl ?_
                  refine xi_istore (pc' := 65) (lv' := [(5, .int 0), (0, .ref 115), (1, .int 7), (2, .int a2), (3, .int a3), (4, .int 1)]) kc_24_63 rfl rfl (xm_lt ml_24 rfl) ?_
                  refine xi_aload_n (pc' := 66) (x := 115) kc_24_65 rfl rfl ?_
                  refine xi_getfield (pc' := 69) (v := .ref 125) kc_24_66 rfl rfl rfl eh5.1 rfl ?_
                  refine xi_iload_n (pc' := 70) (x := 7) kc_24_69 rfl rfl ?_
                  refine xi_iload_n (pc' := 71) (x := a2) kc_24_70 rfl rfl ?_
                  refine xi_iastore (pc' := 72) (x' := [(-9), (-9), (-9), (-9), (-9), (-9), (-9), a2, (-9), (-9), (-9), (-9)]) kc_24_71 rfl ((eh5.2.1 125 (by decide)).trans ((eh4.2.1 125 (by decide)).trans ((eh3.2.1 125 (by decide)).trans ((eh2.2.1 125 (by decide)).trans ((eh1.2.1 125 (by decide)).trans (F 125 _ hl_125)))))) rfl (xi_in (n := 12) (by decide) (by decide)) rfl (fun hh6 eh6 => ?_)
                  refine xi_aload_n (pc' := 73) (x := 115) kc_24_72 rfl rfl ?_
                  refine xi_getfield (pc' := 76) (v := .ref 126) kc_24_73 rfl rfl rfl ((eh6.2.1 115 (by decide)).trans eh5.1) rfl ?_
                  refine xi_iload_n (pc' := 77) (x := 7) kc_24_76 rfl rfl ?_
                  refine xi_iload_n (pc' := 78) (x := a3) kc_24_77 rfl rfl ?_
                  refine xi_iastore (pc' := 79) (x' := [0, 0, 0, 0, 0, 0, 0, a3, 0, 0, 0, 0]) kc_24_78 rfl ((eh6.2.1 126 (by decide)).trans ((eh5.2.1 126 (by decide)).trans ((eh4.2.1 126 (by decide)).trans ((eh3.2.1 126 (by decide)).trans ((eh2.2.1 126 (by decide)).trans ((eh1.2.1 126 (by decide)).trans (F 126 _ hl_126))))))) rfl (xi_in (n := 12) (by decide) (by decide)) rfl (fun hh7 eh7 => ?_)
                  refine xi_aload_n (pc' := 80) (x := 115) kc_24_79 rfl rfl ?_
                  refine xi_getfield (pc' := 83) (v := .ref 127) kc_24_80 rfl rfl rfl ((eh7.2.1 115 (by decide)).trans ((eh6.2.1 115 (by decide)).trans eh5.1)) rfl ?_
                  refine xi_iload_n (pc' := 84) (x := 7) kc_24_83 rfl rfl ?_
                  refine xi_iload (pc' := 86) (x := 1) kc_24_84 rfl rfl ?_
                  refine xi_bastore (pc' := 87) (x' := [0, 0, 0, 0, 0, 0, 0, 1, 0, 0, 0, 0]) kc_24_86 rfl ((eh7.2.1 127 (by decide)).trans ((eh6.2.1 127 (by decide)).trans ((eh5.2.1 127 (by decide)).trans ((eh4.2.1 127 (by decide)).trans ((eh3.2.1 127 (by decide)).trans ((eh2.2.1 127 (by decide)).trans ((eh1.2.1 127 (by decide)).trans (F 127 _ hl_127)))))))) rfl (xi_in (n := 12) (by decide) (by decide)) rfl (fun hh8 eh8 => ?_)
                  refine xi_aload_n (pc' := 88) (x := 115) kc_24_87 rfl rfl ?_
                  refine xi_iconst (pc' := 89) (v := 0) kc_24_88 rfl rfl ?_
                  refine xi_putfield (pc' := 92) (fs' := [.int 0, .int 0, .ref 116, .ref 117, .ref 118, .ref 119, .ref 120, .ref 121, .ref 122, .ref 123, .ref 124, .ref 125, .ref 126, .ref 127, .ref 128, .ref 129, .int 4, .ref 130, .int 0, .ref 131, .ref 132, .ref 133, .ref 134, .int 0, .ref 135, .ref 136, .ref 137, .ref 138, .ref 139, .ref 140, .ref 141, .ref 142, .int 0, .int 0, .int 0, .ref 143, .ref 144, .ref 145, .ref 146, .ref 147, .ref 148, .int 0, .ref 149, .ref 150, .ref 151, .int 0, .ref 152, .ref 153, .ref 154, .ref 155, .ref 156, .ref 157, .ref 158, .ref 159, .int 0, .ref 160, .int 0, .ref 161, .ref 162, .ref 163, .ref 164, .int 0, .ref 165, .ref 166]) kc_24_89 rfl rfl rfl ((eh8.2.1 115 (by decide)).trans ((eh7.2.1 115 (by decide)).trans ((eh6.2.1 115 (by decide)).trans eh5.1))) rfl rfl rfl (Nat.le_of_ble_eq_true rfl) rfl (fun hh9 eh9 => ?_)
                  refine xi_iload (pc' := 94) (x := 0) kc_24_92 rfl rfl ?_
                  refine xi_ift (pc' := 101) kc_24_94 rfl rfl ?_
                  refine xi_iconst (pc' := 102) (v := 1) kc_24_101 rfl rfl ?_
                  refine xi_ireturn kc_24_102 mr_24 rfl ?_
                  show xw J ov 100 196 (473, [(4, .int 0), (3, .ref 167), (2, .ref 115), (1, .ref 0), (0, .ref 1000000)], [.int 1, .int 1], hh9) _
                  refine xi_cmt (pc' := 1528) kc_196_473 rfl rfl ?_
                  refine xi_iinc (pc' := 1531) (x := 0) (v := 6) (lv' := [(4, .int 6), (3, .ref 167), (2, .ref 115), (1, .ref 0), (0, .ref 1000000)]) kc_196_1528 rfl rfl rfl rfl (xm_lt ml_196 rfl) ?_
                  refine xi_goto (pc' := 23) kc_196_1531 rfl ?_
                  refine xi_iload (pc' := 25) (x := 6) kc_196_23 rfl rfl ?_
                  refine xi_aload_n (pc' := 26) (x := 1000000) kc_196_25 rfl rfl ?_
                  refine xi_arraylength (pc' := 27) (n := 6) (v := 6) kc_196_26 rfl (xl_lenO (by decide) hov0 rfl) rfl ?_
                  refine xi_bipush (pc' := 29) (v := 6) kc_196_27 rfl rfl ?_
                  refine xi_isub (pc' := 30) (v := 0) kc_196_29 rfl rfl ?_
                  refine xi_cmt (pc' := 1534) kc_196_30 rfl rfl ?_
                  refine xi_iconst (pc' := 1535) (v := 1) kc_196_1534 rfl rfl ?_
                  refine xi_ireturn kc_196_1535 mr_196 rfl ?_
                  refine ⟨rfl, ?_, ?_⟩
                  · rw [eh9.2.2.1, eh8.2.2.1, eh7.2.2.1, eh6.2.2.1, eh5.2.2.1, eh4.2.2.1, eh3.2.2.1, eh2.2.2.1, eh1.2.2.1]; exact hn0
                  · rw [eh9.2.2.2, eh8.2.2.2, eh7.2.2.2, eh6.2.2.2, eh5.2.2.2, eh4.2.2.2, eh3.2.2.2, eh2.2.2.2, eh1.2.2.2]; exact hz0
                by_cases c33 : a1.toInt = 8
                · have qa1 : a1 = 8 := xc_of (Eq.trans (by omega) (show (8 : Int) = (8 : Int32).toInt by decide))
                  subst qa1
                  refine xi_aaload (pc' := 60) (b := 45) kc_104_59 rfl ((eh1.2.1 3 (by decide)).trans (F 3 _ hl_3)) rfl (xi_in (n := 12) (by decide) (by decide)) rfl ?_
                  refine xi_astore (pc' := 62) (lv' := [(5, .ref 45), (0, .ref 0), (1, .int 8), (2, .int a2), (3, .int a3), (4, .int 1)]) kc_104_60 rfl rfl (xm_lt ml_104 rfl) ?_
                  refine xi_aload (pc' := 64) (x := 45) kc_104_62 rfl rfl ?_
                  refine xi_virtual (mj := 106) (as := []) (st1 := []) (lv0 := [(0, .ref 45)]) kc_104_64 rfl rfl rfl rfl rfl ((eh1.2.1 45 (by decide)).trans (F 45 _ hl_45)) (Nat.le_of_ble_eq_true rfl) (hJ _ _ _ _ (by decide)) (xm_le ml_106 rfl) rfl ?_
                  refine xi_aload_n (pc' := 1) (x := 45) kc_106_0 rfl rfl ?_
                  refine xi_getfield (pc' := 4) (v := .int (-9)) kc_106_1 rfl rfl rfl ((eh1.2.1 45 (by decide)).trans (F 45 _ hl_45)) rfl ?_
                  refine xi_static (mj := 90) (as := [.int (-9)]) (st1 := []) (lv0 := [(0, .int (-9))]) kc_106_4 rfl rfl (Nat.le_of_ble_eq_true rfl) rfl rfl (Nat.le_of_ble_eq_true rfl) (hJ _ _ _ _ (by decide)) (xm_le ml_90 rfl) rfl ?_
                  refine xi_iload_n (pc' := 1) (x := (-9)) kc_90_0 rfl rfl ?_
                  refine xi_ift (pc' := 14) kc_90_1 rfl rfl ?_
                  refine xi_iconst (pc' := 15) (v := 0) kc_90_14 rfl rfl ?_
                  refine xi_ireturn kc_90_15 mr_90 rfl ?_
                  show xw J ov 98 106 (7, [(0, .ref 45)], [.int 0], hh1) _
                  refine xi_ireturn kc_106_7 mr_106 rfl ?_
                  show xw J ov 99 104 (67, [(5, .ref 45), (0, .ref 0), (1, .int 8), (2, .int a2), (3, .int a3), (4, .int 1)], [.int 0], hh1) _
                  refine xi_ift (pc' := 74) kc_104_67 rfl rfl ?_
                  refine xi_iconst (pc' := 75) (v := 1) kc_104_74 rfl rfl ?_
                  refine xi_istore (pc' := 77) (lv' := [(6, .int 1), (5, .ref 45), (0, .ref 0), (1, .int 8), (2, .int a2), (3, .int a3), (4, .int 1)]) kc_104_75 rfl rfl (xm_lt ml_104 rfl) ?_
                  refine xi_aload (pc' := 79) (x := 45) kc_104_77 rfl rfl ?_
                  refine xi_iload_n (pc' := 80) (x := a2) kc_104_79 rfl rfl ?_
                  refine xi_putfield (pc' := 83) (fs' := [.int a2, .int 0, .int 0, .int 0, .ref 46]) kc_104_80 rfl rfl rfl ((eh1.2.1 45 (by decide)).trans (F 45 _ hl_45)) rfl rfl rfl (Nat.le_of_ble_eq_true rfl) rfl (fun hh2 eh2 => ?_)
                  refine xi_aload (pc' := 85) (x := 45) kc_104_83 rfl rfl ?_
                  refine xi_iload_n (pc' := 86) (x := a3) kc_104_85 rfl rfl ?_
                  refine xi_putfield (pc' := 89) (fs' := [.int a2, .int a3, .int 0, .int 0, .ref 46]) kc_104_86 rfl rfl rfl eh2.1 rfl rfl rfl (Nat.le_of_ble_eq_true rfl) rfl (fun hh3 eh3 => ?_)
                  refine xi_aload (pc' := 91) (x := 45) kc_104_89 rfl rfl ?_
                  refine xi_iload (pc' := 93) (x := 1) kc_104_91 rfl rfl ?_
                  refine xi_putfield (pc' := 96) (fs' := [.int a2, .int a3, .int 1, .int 0, .ref 46]) kc_104_93 rfl rfl rfl eh3.1 rfl rfl rfl (Nat.le_of_ble_eq_true rfl) rfl (fun hh4 eh4 => ?_)
                  refine xi_iload (pc' := 98) (x := 1) kc_104_96 rfl rfl ?_
                  refine xi_ireturn kc_104_98 mr_104 rfl ?_
                  show xw J ov 100 196 (437, [(4, .int 0), (3, .ref 167), (2, .ref 115), (1, .ref 0), (0, .ref 1000000)], [.int 1], hh4) _
                  refine xi_aload_n (pc' := 438) (x := 115) kc_196_437 rfl rfl ?_
                  refine xi_aload_n (pc' := 439) (x := 1000000) kc_196_438 rfl rfl ?_
                  refine xi_iload (pc' := 441) (x := 0) kc_196_439 rfl rfl ?_
                  refine xi_iconst (pc' := 442) (v := 1) kc_196_441 rfl rfl ?_
                  refine xi_iadd (pc' := 443) (v := 1) kc_196_442 rfl rfl ?_
                  refine xi_ialoadO (pc' := 444) (v := 8) kc_196_443 rfl (by decide) hov0 (xi_in (n := 6) (by decide) (by decide)) rfl ?_
                  refine xi_aload_n (pc' := 445) (x := 1000000) kc_196_444 rfl rfl ?_
                  refine xi_iload (pc' := 447) (x := 0) kc_196_445 rfl rfl ?_
                  refine xi_iconst (pc' := 448) (v := 2) kc_196_447 rfl rfl ?_
                  refine xi_iadd (pc' := 449) (v := 2) kc_196_448 rfl rfl ?_
                  refine xi_ialoadO (pc' := 450) (v := a2) kc_196_449 rfl (by decide) hov0 (xi_in (n := 6) (by decide) (by decide)) rfl ?_
                  refine xi_aload_n (pc' := 451) (x := 1000000) kc_196_450 rfl rfl ?_
                  refine xi_iload (pc' := 453) (x := 0) kc_196_451 rfl rfl ?_
                  refine xi_iconst (pc' := 454) (v := 3) kc_196_453 rfl rfl ?_
                  refine xi_iadd (pc' := 455) (v := 3) kc_196_454 rfl rfl ?_
                  refine xi_ialoadO (pc' := 456) (v := a3) kc_196_455 rfl (by decide) hov0 (xi_in (n := 6) (by decide) (by decide)) rfl ?_
                  refine xi_aload_n (pc' := 457) (x := 1000000) kc_196_456 rfl rfl ?_
                  refine xi_iload (pc' := 459) (x := 0) kc_196_457 rfl rfl ?_
                  refine xi_iconst (pc' := 460) (v := 4) kc_196_459 rfl rfl ?_
                  refine xi_iadd (pc' := 461) (v := 4) kc_196_460 rfl rfl ?_
                  refine xi_ialoadO (pc' := 462) (v := a4) kc_196_461 rfl (by decide) hov0 (xi_in (n := 6) (by decide) (by decide)) rfl ?_
                  refine xi_iff (pc' := 465) kc_196_462 rfl (xc_eq_f (X := a4.toInt) (Y := 0) rfl (by decide) (by omega)) ?_
                  refine xi_iconst (pc' := 466) (v := 1) kc_196_465 rfl rfl ?_
                  refine xi_goto (pc' := 470) kc_196_466 rfl ?_
                  refine xi_virtual (mj := 24) (as := [.int 8, .int a2, .int a3, .int 1]) (st1 := [.int 1]) (lv0 := [(0, .ref 115), (1, .int 8), (2, .int a2), (3, .int a3), (4, .int 1)]) kc_196_470 rfl rfl rfl rfl rfl ((eh4.2.1 115 (by decide)).trans ((eh3.2.1 115 (by decide)).trans ((eh2.2.1 115 (by decide)).trans ((eh1.2.1 115 (by decide)).trans (F 115 _ hl_115))))) (Nat.le_of_ble_eq_true rfl) (hJ _ _ _ _ (by decide)) (xm_le ml_24 rfl) rfl ?_
                  refine xi_aload_n (pc' := 1) (x := 115) kc_24_0 rfl rfl ?_
                  refine xi_iconst (pc' := 2) (v := 0) kc_24_1 rfl rfl ?_
                  refine xi_putfield (pc' := 5) (fs' := [.int 0, .int 0, .ref 116, .ref 117, .ref 118, .ref 119, .ref 120, .ref 121, .ref 122, .ref 123, .ref 124, .ref 125, .ref 126, .ref 127, .ref 128, .ref 129, .int 4, .ref 130, .int 0, .ref 131, .ref 132, .ref 133, .ref 134, .int 0, .ref 135, .ref 136, .ref 137, .ref 138, .ref 139, .ref 140, .ref 141, .ref 142, .int 0, .int 0, .int 0, .ref 143, .ref 144, .ref 145, .ref 146, .ref 147, .ref 148, .int 0, .ref 149, .ref 150, .ref 151, .int 0, .ref 152, .ref 153, .ref 154, .ref 155, .ref 156, .ref 157, .ref 158, .ref 159, .int 0, .ref 160, .int 0, .ref 161, .ref 162, .ref 163, .ref 164, .int 0, .ref 165, .ref 166]) kc_24_2 rfl rfl rfl ((eh4.2.1 115 (by decide)).trans ((eh3.2.1 115 (by decide)).trans ((eh2.2.1 115 (by decide)).trans ((eh1.2.1 115 (by decide)).trans (F 115 _ hl_115))))) rfl rfl rfl (Nat.le_of_ble_eq_true rfl) rfl (fun hh5 eh5 => ?_)
                  refine xi_iload_n (pc' := 6) (x := 8) kc_24_5 rfl rfl ?_
                  refine xi_static (mj := 25) (as := [.int 8]) (st1 := []) (lv0 := [(0, .int 8)]) kc_24_6 rfl rfl (Nat.le_of_ble_eq_true rfl) rfl rfl (Nat.le_of_ble_eq_true rfl) (hJ _ _ _ _ (by decide)) (xm_le ml_25 rfl) rfl ?_
                  refine xi_iload_n (pc' := 1) (x := 8) kc_25_0 rfl rfl ?_
                  refine xi_iconst (pc' := 2) (v := 0) kc_25_1 rfl rfl ?_
                  refine xi_bipush (pc' := 4) (v := 11) kc_25_2 rfl rfl ?_
                  refine xi_static (mj := 12) (as := [.int 8, .int 0, .int 11]) (st1 := []) (lv0 := [(0, .int 8), (1, .int 0), (2, .int 11)]) kc_25_4 rfl rfl (Nat.le_of_ble_eq_true rfl) rfl rfl (Nat.le_of_ble_eq_true rfl) (hJ _ _ _ _ (by decide)) (xm_le ml_12 rfl) rfl ?_
                  refine xi_iload_n (pc' := 1) (x := 8) kc_12_0 rfl rfl ?_
                  refine xi_iload_n (pc' := 2) (x := 0) kc_12_1 rfl rfl ?_
                  refine xi_cmf (pc' := 5) kc_12_2 rfl rfl ?_
                  refine xi_iload_n (pc' := 6) (x := 8) kc_12_5 rfl rfl ?_
                  refine xi_iload_n (pc' := 7) (x := 11) kc_12_6 rfl rfl ?_
                  refine xi_cmf (pc' := 10) kc_12_7 rfl rfl ?_
                  refine xi_iconst (pc' := 11) (v := 1) kc_12_10 rfl rfl ?_
                  refine xi_goto (pc' := 15) kc_12_11 rfl ?_
                  refine xi_ireturn kc_12_15 mr_12 rfl ?_
                  show xw J ov 98 25 (7, [(0, .int 8)], [.int 1], hh5) _
                  refine xi_ireturn kc_25_7 mr_25 rfl ?_
                  show xw J ov 99 24 (9, [(0, .ref 115), (1, .int 8), (2, .int a2), (3, .int a3), (4, .int 1)], [.int 1], hh5) _
                  refine xi_iff (pc' := 12) kc_24_9 rfl rfl ?_
                  refine xi_iload_n (pc' := 13) (x := a2) kc_24_12 rfl rfl ?_
                  refine xi_static (mj := 11) (as := [.int a2]) (st1 := []) (lv0 := [(0, .int a2)]) kc_24_13 rfl rfl (Nat.le_of_ble_eq_true rfl) rfl rfl (Nat.le_of_ble_eq_true rfl) (hJ _ _ _ _ (by decide)) (xm_le ml_11 rfl) rfl ?_
                  refine xi_iload_n (pc' := 1) (x := a2) kc_11_0 rfl rfl ?_
                  refine xi_iconst (pc' := 2) (v := 0) kc_11_1 rfl rfl ?_
                  refine xi_iconst (pc' := 3) (v := 5) kc_11_2 rfl rfl ?_
                  refine xi_static (mj := 12) (as := [.int a2, .int 0, .int 5]) (st1 := []) (lv0 := [(0, .int a2), (1, .int 0), (2, .int 5)]) kc_11_3 rfl rfl (Nat.le_of_ble_eq_true rfl) rfl rfl (Nat.le_of_ble_eq_true rfl) (hJ _ _ _ _ (by decide)) (xm_le ml_12 rfl) rfl ?_
                  refine xi_iload_n (pc' := 1) (x := a2) kc_12_0 rfl rfl ?_
                  refine xi_iload_n (pc' := 2) (x := 0) kc_12_1 rfl rfl ?_
                  refine xi_cmf (pc' := 5) kc_12_2 rfl (xc_lt_f (X := a2.toInt) (Y := 0) rfl (by decide) (by omega)) ?_
                  refine xi_iload_n (pc' := 6) (x := a2) kc_12_5 rfl rfl ?_
                  refine xi_iload_n (pc' := 7) (x := 5) kc_12_6 rfl rfl ?_
                  refine xi_cmf (pc' := 10) kc_12_7 rfl (xc_gt_f (X := a2.toInt) (Y := 5) rfl (by decide) (by omega)) ?_
                  refine xi_iconst (pc' := 11) (v := 1) kc_12_10 rfl rfl ?_
                  refine xi_goto (pc' := 15) kc_12_11 rfl ?_
                  refine xi_ireturn kc_12_15 mr_12 rfl ?_
                  show xw J ov 98 11 (6, [(0, .int a2)], [.int 1], hh5) _
                  refine xi_ireturn kc_11_6 mr_11 rfl ?_
                  show xw J ov 99 24 (16, [(0, .ref 115), (1, .int 8), (2, .int a2), (3, .int a3), (4, .int 1)], [.int 1], hh5) _
                  refine xi_ift (pc' := 25) kc_24_16 rfl rfl ?_
                  refine xi_iload_n (pc' := 26) (x := a3) kc_24_25 rfl rfl ?_
                  refine xi_ift (pc' := 36) kc_24_26 rfl (xc_ge_t (X := a3.toInt) (Y := 0) rfl (by decide) (by omega)) ?_
                  refine xi_iload_n (pc' := 37) (x := a3) kc_24_36 rfl rfl ?_
                  refine xi_bipush (pc' := 39) (v := 100) kc_24_37 rfl rfl ?_
                  refine xi_cmt (pc' := 49) kc_24_39 rfl (xc_le_t (X := a3.toInt) (Y := 100) rfl (by decide) (by omega)) ?_
                  refine xi_aload_n (pc' := 50) (x := 115) kc_24_49 rfl rfl ?_
                  refine xi_getfield (pc' := 53) (v := .ref 125) kc_24_50 rfl rfl rfl eh5.1 rfl ?_
                  refine xi_iload_n (pc' := 54) (x := 8) kc_24_53 rfl rfl ?_
                  refine xi_iaload (pc' := 55) (v := (-9)) kc_24_54 rfl ((eh5.2.1 125 (by decide)).trans ((eh4.2.1 125 (by decide)).trans ((eh3.2.1 125 (by decide)).trans ((eh2.2.1 125 (by decide)).trans ((eh1.2.1 125 (by decide)).trans (F 125 _ hl_125)))))) (by decide) rfl (xi_in (n := 12) (by decide) (by decide)) rfl ?_
                  refine xi_ift (pc' := 62) kc_24_55 rfl rfl ?_
                  refine xi_iconst (pc' := 63) (v := 0) kc_24_62 rfl rfl ?_
                  refine xi_istore (pc' := 65) (lv' := [(5, .int 0), (0, .ref 115), (1, .int 8), (2, .int a2), (3, .int a3), (4, .int 1)]) kc_24_63 rfl rfl (xm_lt ml_24 rfl) ?_
                  refine xi_aload_n (pc' := 66) (x := 115) kc_24_65 rfl rfl ?_
                  refine xi_getfield (pc' := 69) (v := .ref 125) kc_24_66 rfl rfl rfl eh5.1 rfl ?_
                  refine xi_iload_n (pc' := 70) (x := 8) kc_24_69 rfl rfl ?_
                  refine xi_iload_n (pc' := 71) (x := a2) kc_24_70 rfl rfl ?_
                  refine xi_iastore (pc' := 72) (x' := [(-9), (-9), (-9), (-9), (-9), (-9), (-9), (-9), a2, (-9), (-9), (-9)]) kc_24_71 rfl ((eh5.2.1 125 (by decide)).trans ((eh4.2.1 125 (by decide)).trans ((eh3.2.1 125 (by decide)).trans ((eh2.2.1 125 (by decide)).trans ((eh1.2.1 125 (by decide)).trans (F 125 _ hl_125)))))) rfl (xi_in (n := 12) (by decide) (by decide)) rfl (fun hh6 eh6 => ?_)
                  refine xi_aload_n (pc' := 73) (x := 115) kc_24_72 rfl rfl ?_
                  refine xi_getfield (pc' := 76) (v := .ref 126) kc_24_73 rfl rfl rfl ((eh6.2.1 115 (by decide)).trans eh5.1) rfl ?_
                  refine xi_iload_n (pc' := 77) (x := 8) kc_24_76 rfl rfl ?_
                  refine xi_iload_n (pc' := 78) (x := a3) kc_24_77 rfl rfl ?_
                  refine xi_iastore (pc' := 79) (x' := [0, 0, 0, 0, 0, 0, 0, 0, a3, 0, 0, 0]) kc_24_78 rfl ((eh6.2.1 126 (by decide)).trans ((eh5.2.1 126 (by decide)).trans ((eh4.2.1 126 (by decide)).trans ((eh3.2.1 126 (by decide)).trans ((eh2.2.1 126 (by decide)).trans ((eh1.2.1 126 (by decide)).trans (F 126 _ hl_126))))))) rfl (xi_in (n := 12) (by decide) (by decide)) rfl (fun hh7 eh7 => ?_)
                  refine xi_aload_n (pc' := 80) (x := 115) kc_24_79 rfl rfl ?_
                  refine xi_getfield (pc' := 83) (v := .ref 127) kc_24_80 rfl rfl rfl ((eh7.2.1 115 (by decide)).trans ((eh6.2.1 115 (by decide)).trans eh5.1)) rfl ?_
                  refine xi_iload_n (pc' := 84) (x := 8) kc_24_83 rfl rfl ?_
                  refine xi_iload (pc' := 86) (x := 1) kc_24_84 rfl rfl ?_
                  refine xi_bastore (pc' := 87) (x' := [0, 0, 0, 0, 0, 0, 0, 0, 1, 0, 0, 0]) kc_24_86 rfl ((eh7.2.1 127 (by decide)).trans ((eh6.2.1 127 (by decide)).trans ((eh5.2.1 127 (by decide)).trans ((eh4.2.1 127 (by decide)).trans ((eh3.2.1 127 (by decide)).trans ((eh2.2.1 127 (by decide)).trans ((eh1.2.1 127 (by decide)).trans (F 127 _ hl_127)))))))) rfl (xi_in (n := 12) (by decide) (by decide)) rfl (fun hh8 eh8 => ?_)
                  refine xi_aload_n (pc' := 88) (x := 115) kc_24_87 rfl rfl ?_
                  refine xi_iconst (pc' := 89) (v := 0) kc_24_88 rfl rfl ?_
                  refine xi_putfield (pc' := 92) (fs' := [.int 0, .int 0, .ref 116, .ref 117, .ref 118, .ref 119, .ref 120, .ref 121, .ref 122, .ref 123, .ref 124, .ref 125, .ref 126, .ref 127, .ref 128, .ref 129, .int 4, .ref 130, .int 0, .ref 131, .ref 132, .ref 133, .ref 134, .int 0, .ref 135, .ref 136, .ref 137, .ref 138, .ref 139, .ref 140, .ref 141, .ref 142, .int 0, .int 0, .int 0, .ref 143, .ref 144, .ref 145, .ref 146, .ref 147, .ref 148, .int 0, .ref 149, .ref 150, .ref 151, .int 0, .ref 152, .ref 153, .ref 154, .ref 155, .ref 156, .ref 157, .ref 158, .ref 159, .int 0, .ref 160, .int 0, .ref 161, .ref 162, .ref 163, .ref 164, .int 0, .ref 165, .ref 166]) kc_24_89 rfl rfl rfl ((eh8.2.1 115 (by decide)).trans ((eh7.2.1 115 (by decide)).trans ((eh6.2.1 115 (by decide)).trans eh5.1))) rfl rfl rfl (Nat.le_of_ble_eq_true rfl) rfl (fun hh9 eh9 => ?_)
                  refine xi_iload (pc' := 94) (x := 0) kc_24_92 rfl rfl ?_
                  refine xi_ift (pc' := 101) kc_24_94 rfl rfl ?_
                  refine xi_iconst (pc' := 102) (v := 1) kc_24_101 rfl rfl ?_
                  refine xi_ireturn kc_24_102 mr_24 rfl ?_
                  show xw J ov 100 196 (473, [(4, .int 0), (3, .ref 167), (2, .ref 115), (1, .ref 0), (0, .ref 1000000)], [.int 1, .int 1], hh9) _
                  refine xi_cmt (pc' := 1528) kc_196_473 rfl rfl ?_
                  refine xi_iinc (pc' := 1531) (x := 0) (v := 6) (lv' := [(4, .int 6), (3, .ref 167), (2, .ref 115), (1, .ref 0), (0, .ref 1000000)]) kc_196_1528 rfl rfl rfl rfl (xm_lt ml_196 rfl) ?_
                  refine xi_goto (pc' := 23) kc_196_1531 rfl ?_
                  refine xi_iload (pc' := 25) (x := 6) kc_196_23 rfl rfl ?_
                  refine xi_aload_n (pc' := 26) (x := 1000000) kc_196_25 rfl rfl ?_
                  refine xi_arraylength (pc' := 27) (n := 6) (v := 6) kc_196_26 rfl (xl_lenO (by decide) hov0 rfl) rfl ?_
                  refine xi_bipush (pc' := 29) (v := 6) kc_196_27 rfl rfl ?_
                  refine xi_isub (pc' := 30) (v := 0) kc_196_29 rfl rfl ?_
                  refine xi_cmt (pc' := 1534) kc_196_30 rfl rfl ?_
                  refine xi_iconst (pc' := 1535) (v := 1) kc_196_1534 rfl rfl ?_
                  refine xi_ireturn kc_196_1535 mr_196 rfl ?_
                  refine ⟨rfl, ?_, ?_⟩
                  · rw [eh9.2.2.1, eh8.2.2.1, eh7.2.2.1, eh6.2.2.1, eh5.2.2.1, eh4.2.2.1, eh3.2.2.1, eh2.2.2.1, eh1.2.2.1]; exact hn0
                  · rw [eh9.2.2.2, eh8.2.2.2, eh7.2.2.2, eh6.2.2.2, eh5.2.2.2, eh4.2.2.2, eh3.2.2.2, eh2.2.2.2, eh1.2.2.2]; exact hz0
                by_cases c34 : a1.toInt = 9
                · have qa1 : a1 = 9 := xc_of (Eq.trans (by omega) (show (9 : Int) = (9 : Int32).toInt by decide))
                  subst qa1
                  refine xi_aaload (pc' := 60) (b := 47) kc_104_59 rfl ((eh1.2.1 3 (by decide)).trans (F 3 _ hl_3)) rfl (xi_in (n := 12) (by decide) (by decide)) rfl ?_
                  refine xi_astore (pc' := 62) (lv' := [(5, .ref 47), (0, .ref 0), (1, .int 9), (2, .int a2), (3, .int a3), (4, .int 1)]) kc_104_60 rfl rfl (xm_lt ml_104 rfl) ?_
                  refine xi_aload (pc' := 64) (x := 47) kc_104_62 rfl rfl ?_
                  refine xi_virtual (mj := 106) (as := []) (st1 := []) (lv0 := [(0, .ref 47)]) kc_104_64 rfl rfl rfl rfl rfl ((eh1.2.1 47 (by decide)).trans (F 47 _ hl_47)) (Nat.le_of_ble_eq_true rfl) (hJ _ _ _ _ (by decide)) (xm_le ml_106 rfl) rfl ?_
                  refine xi_aload_n (pc' := 1) (x := 47) kc_106_0 rfl rfl ?_
                  refine xi_getfield (pc' := 4) (v := .int (-9)) kc_106_1 rfl rfl rfl ((eh1.2.1 47 (by decide)).trans (F 47 _ hl_47)) rfl ?_
                  refine xi_static (mj := 90) (as := [.int (-9)]) (st1 := []) (lv0 := [(0, .int (-9))]) kc_106_4 rfl rfl (Nat.le_of_ble_eq_true rfl) rfl rfl (Nat.le_of_ble_eq_true rfl) (hJ _ _ _ _ (by decide)) (xm_le ml_90 rfl) rfl ?_
                  refine xi_iload_n (pc' := 1) (x := (-9)) kc_90_0 rfl rfl ?_
                  refine xi_ift (pc' := 14) kc_90_1 rfl rfl ?_
                  refine xi_iconst (pc' := 15) (v := 0) kc_90_14 rfl rfl ?_
                  refine xi_ireturn kc_90_15 mr_90 rfl ?_
                  show xw J ov 98 106 (7, [(0, .ref 47)], [.int 0], hh1) _
                  refine xi_ireturn kc_106_7 mr_106 rfl ?_
                  show xw J ov 99 104 (67, [(5, .ref 47), (0, .ref 0), (1, .int 9), (2, .int a2), (3, .int a3), (4, .int 1)], [.int 0], hh1) _
                  refine xi_ift (pc' := 74) kc_104_67 rfl rfl ?_
                  refine xi_iconst (pc' := 75) (v := 1) kc_104_74 rfl rfl ?_
                  refine xi_istore (pc' := 77) (lv' := [(6, .int 1), (5, .ref 47), (0, .ref 0), (1, .int 9), (2, .int a2), (3, .int a3), (4, .int 1)]) kc_104_75 rfl rfl (xm_lt ml_104 rfl) ?_
                  refine xi_aload (pc' := 79) (x := 47) kc_104_77 rfl rfl ?_
                  refine xi_iload_n (pc' := 80) (x := a2) kc_104_79 rfl rfl ?_
                  refine xi_putfield (pc' := 83) (fs' := [.int a2, .int 0, .int 0, .int 0, .ref 48]) kc_104_80 rfl rfl rfl ((eh1.2.1 47 (by decide)).trans (F 47 _ hl_47)) rfl rfl rfl (Nat.le_of_ble_eq_true rfl) rfl (fun hh2 eh2 => ?_)
                  refine xi_aload (pc' := 85) (x := 47) kc_104_83 rfl rfl ?_
                  refine xi_iload_n (pc' := 86) (x := a3) kc_104_85 rfl rfl ?_
                  refine xi_putfield (pc' := 89) (fs' := [.int a2, .int a3, .int 0, .int 0, .ref 48]) kc_104_86 rfl rfl rfl eh2.1 rfl rfl rfl (Nat.le_of_ble_eq_true rfl) rfl (fun hh3 eh3 => ?_)
                  refine xi_aload (pc' := 91) (x := 47) kc_104_89 rfl rfl ?_
                  refine xi_iload (pc' := 93) (x := 1) kc_104_91 rfl rfl ?_
                  refine xi_putfield (pc' := 96) (fs' := [.int a2, .int a3, .int 1, .int 0, .ref 48]) kc_104_93 rfl rfl rfl eh3.1 rfl rfl rfl (Nat.le_of_ble_eq_true rfl) rfl (fun hh4 eh4 => ?_)
                  refine xi_iload (pc' := 98) (x := 1) kc_104_96 rfl rfl ?_
                  refine xi_ireturn kc_104_98 mr_104 rfl ?_
                  show xw J ov 100 196 (437, [(4, .int 0), (3, .ref 167), (2, .ref 115), (1, .ref 0), (0, .ref 1000000)], [.int 1], hh4) _
                  refine xi_aload_n (pc' := 438) (x := 115) kc_196_437 rfl rfl ?_
                  refine xi_aload_n (pc' := 439) (x := 1000000) kc_196_438 rfl rfl ?_
                  refine xi_iload (pc' := 441) (x := 0) kc_196_439 rfl rfl ?_
                  refine xi_iconst (pc' := 442) (v := 1) kc_196_441 rfl rfl ?_
                  refine xi_iadd (pc' := 443) (v := 1) kc_196_442 rfl rfl ?_
                  refine xi_ialoadO (pc' := 444) (v := 9) kc_196_443 rfl (by decide) hov0 (xi_in (n := 6) (by decide) (by decide)) rfl ?_
                  refine xi_aload_n (pc' := 445) (x := 1000000) kc_196_444 rfl rfl ?_
                  refine xi_iload (pc' := 447) (x := 0) kc_196_445 rfl rfl ?_
                  refine xi_iconst (pc' := 448) (v := 2) kc_196_447 rfl rfl ?_
                  refine xi_iadd (pc' := 449) (v := 2) kc_196_448 rfl rfl ?_
                  refine xi_ialoadO (pc' := 450) (v := a2) kc_196_449 rfl (by decide) hov0 (xi_in (n := 6) (by decide) (by decide)) rfl ?_
                  refine xi_aload_n (pc' := 451) (x := 1000000) kc_196_450 rfl rfl ?_
                  refine xi_iload (pc' := 453) (x := 0) kc_196_451 rfl rfl ?_
                  refine xi_iconst (pc' := 454) (v := 3) kc_196_453 rfl rfl ?_
                  refine xi_iadd (pc' := 455) (v := 3) kc_196_454 rfl rfl ?_
                  refine xi_ialoadO (pc' := 456) (v := a3) kc_196_455 rfl (by decide) hov0 (xi_in (n := 6) (by decide) (by decide)) rfl ?_
                  refine xi_aload_n (pc' := 457) (x := 1000000) kc_196_456 rfl rfl ?_
                  refine xi_iload (pc' := 459) (x := 0) kc_196_457 rfl rfl ?_
                  refine xi_iconst (pc' := 460) (v := 4) kc_196_459 rfl rfl ?_
                  refine xi_iadd (pc' := 461) (v := 4) kc_196_460 rfl rfl ?_
                  refine xi_ialoadO (pc' := 462) (v := a4) kc_196_461 rfl (by decide) hov0 (xi_in (n := 6) (by decide) (by decide)) rfl ?_
                  refine xi_iff (pc' := 465) kc_196_462 rfl (xc_eq_f (X := a4.toInt) (Y := 0) rfl (by decide) (by omega)) ?_
                  refine xi_iconst (pc' := 466) (v := 1) kc_196_465 rfl rfl ?_
                  refine xi_goto (pc' := 470) kc_196_466 rfl ?_
                  refine xi_virtual (mj := 24) (as := [.int 9, .int a2, .int a3, .int 1]) (st1 := [.int 1]) (lv0 := [(0, .ref 115), (1, .int 9), (2, .int a2), (3, .int a3), (4, .int 1)]) kc_196_470 rfl rfl rfl rfl rfl ((eh4.2.1 115 (by decide)).trans ((eh3.2.1 115 (by decide)).trans ((eh2.2.1 115 (by decide)).trans ((eh1.2.1 115 (by decide)).trans (F 115 _ hl_115))))) (Nat.le_of_ble_eq_true rfl) (hJ _ _ _ _ (by decide)) (xm_le ml_24 rfl) rfl ?_
                  refine xi_aload_n (pc' := 1) (x := 115) kc_24_0 rfl rfl ?_
                  refine xi_iconst (pc' := 2) (v := 0) kc_24_1 rfl rfl ?_
                  refine xi_putfield (pc' := 5) (fs' := [.int 0, .int 0, .ref 116, .ref 117, .ref 118, .ref 119, .ref 120, .ref 121, .ref 122, .ref 123, .ref 124, .ref 125, .ref 126, .ref 127, .ref 128, .ref 129, .int 4, .ref 130, .int 0, .ref 131, .ref 132, .ref 133, .ref 134, .int 0, .ref 135, .ref 136, .ref 137, .ref 138, .ref 139, .ref 140, .ref 141, .ref 142, .int 0, .int 0, .int 0, .ref 143, .ref 144, .ref 145, .ref 146, .ref 147, .ref 148, .int 0, .ref 149, .ref 150, .ref 151, .int 0, .ref 152, .ref 153, .ref 154, .ref 155, .ref 156, .ref 157, .ref 158, .ref 159, .int 0, .ref 160, .int 0, .ref 161, .ref 162, .ref 163, .ref 164, .int 0, .ref 165, .ref 166]) kc_24_2 rfl rfl rfl ((eh4.2.1 115 (by decide)).trans ((eh3.2.1 115 (by decide)).trans ((eh2.2.1 115 (by decide)).trans ((eh1.2.1 115 (by decide)).trans (F 115 _ hl_115))))) rfl rfl rfl (Nat.le_of_ble_eq_true rfl) rfl (fun hh5 eh5 => ?_)
                  refine xi_iload_n (pc' := 6) (x := 9) kc_24_5 rfl rfl ?_
                  refine xi_static (mj := 25) (as := [.int 9]) (st1 := []) (lv0 := [(0, .int 9)]) kc_24_6 rfl rfl (Nat.le_of_ble_eq_true rfl) rfl rfl (Nat.le_of_ble_eq_true rfl) (hJ _ _ _ _ (by decide)) (xm_le ml_25 rfl) rfl ?_
                  refine xi_iload_n (pc' := 1) (x := 9) kc_25_0 rfl rfl ?_
                  refine xi_iconst (pc' := 2) (v := 0) kc_25_1 rfl rfl ?_
                  refine xi_bipush (pc' := 4) (v := 11) kc_25_2 rfl rfl ?_
                  refine xi_static (mj := 12) (as := [.int 9, .int 0, .int 11]) (st1 := []) (lv0 := [(0, .int 9), (1, .int 0), (2, .int 11)]) kc_25_4 rfl rfl (Nat.le_of_ble_eq_true rfl) rfl rfl (Nat.le_of_ble_eq_true rfl) (hJ _ _ _ _ (by decide)) (xm_le ml_12 rfl) rfl ?_
                  refine xi_iload_n (pc' := 1) (x := 9) kc_12_0 rfl rfl ?_
                  refine xi_iload_n (pc' := 2) (x := 0) kc_12_1 rfl rfl ?_
                  refine xi_cmf (pc' := 5) kc_12_2 rfl rfl ?_
                  refine xi_iload_n (pc' := 6) (x := 9) kc_12_5 rfl rfl ?_
                  refine xi_iload_n (pc' := 7) (x := 11) kc_12_6 rfl rfl ?_
                  refine xi_cmf (pc' := 10) kc_12_7 rfl rfl ?_
                  refine xi_iconst (pc' := 11) (v := 1) kc_12_10 rfl rfl ?_
                  refine xi_goto (pc' := 15) kc_12_11 rfl ?_
                  refine xi_ireturn kc_12_15 mr_12 rfl ?_
                  show xw J ov 98 25 (7, [(0, .int 9)], [.int 1], hh5) _
                  refine xi_ireturn kc_25_7 mr_25 rfl ?_
                  show xw J ov 99 24 (9, [(0, .ref 115), (1, .int 9), (2, .int a2), (3, .int a3), (4, .int 1)], [.int 1], hh5) _
                  refine xi_iff (pc' := 12) kc_24_9 rfl rfl ?_
                  refine xi_iload_n (pc' := 13) (x := a2) kc_24_12 rfl rfl ?_
                  refine xi_static (mj := 11) (as := [.int a2]) (st1 := []) (lv0 := [(0, .int a2)]) kc_24_13 rfl rfl (Nat.le_of_ble_eq_true rfl) rfl rfl (Nat.le_of_ble_eq_true rfl) (hJ _ _ _ _ (by decide)) (xm_le ml_11 rfl) rfl ?_
                  refine xi_iload_n (pc' := 1) (x := a2) kc_11_0 rfl rfl ?_
                  refine xi_iconst (pc' := 2) (v := 0) kc_11_1 rfl rfl ?_
                  refine xi_iconst (pc' := 3) (v := 5) kc_11_2 rfl rfl ?_
                  refine xi_static (mj := 12) (as := [.int a2, .int 0, .int 5]) (st1 := []) (lv0 := [(0, .int a2), (1, .int 0), (2, .int 5)]) kc_11_3 rfl rfl (Nat.le_of_ble_eq_true rfl) rfl rfl (Nat.le_of_ble_eq_true rfl) (hJ _ _ _ _ (by decide)) (xm_le ml_12 rfl) rfl ?_
                  refine xi_iload_n (pc' := 1) (x := a2) kc_12_0 rfl rfl ?_
                  refine xi_iload_n (pc' := 2) (x := 0) kc_12_1 rfl rfl ?_
                  refine xi_cmf (pc' := 5) kc_12_2 rfl (xc_lt_f (X := a2.toInt) (Y := 0) rfl (by decide) (by omega)) ?_
                  refine xi_iload_n (pc' := 6) (x := a2) kc_12_5 rfl rfl ?_
                  refine xi_iload_n (pc' := 7) (x := 5) kc_12_6 rfl rfl ?_
                  refine xi_cmf (pc' := 10) kc_12_7 rfl (xc_gt_f (X := a2.toInt) (Y := 5) rfl (by decide) (by omega)) ?_
                  refine xi_iconst (pc' := 11) (v := 1) kc_12_10 rfl rfl ?_
                  refine xi_goto (pc' := 15) kc_12_11 rfl ?_
                  refine xi_ireturn kc_12_15 mr_12 rfl ?_
                  show xw J ov 98 11 (6, [(0, .int a2)], [.int 1], hh5) _
                  refine xi_ireturn kc_11_6 mr_11 rfl ?_
                  show xw J ov 99 24 (16, [(0, .ref 115), (1, .int 9), (2, .int a2), (3, .int a3), (4, .int 1)], [.int 1], hh5) _
                  refine xi_ift (pc' := 25) kc_24_16 rfl rfl ?_
                  refine xi_iload_n (pc' := 26) (x := a3) kc_24_25 rfl rfl ?_
                  refine xi_ift (pc' := 36) kc_24_26 rfl (xc_ge_t (X := a3.toInt) (Y := 0) rfl (by decide) (by omega)) ?_
                  refine xi_iload_n (pc' := 37) (x := a3) kc_24_36 rfl rfl ?_
                  refine xi_bipush (pc' := 39) (v := 100) kc_24_37 rfl rfl ?_
                  refine xi_cmt (pc' := 49) kc_24_39 rfl (xc_le_t (X := a3.toInt) (Y := 100) rfl (by decide) (by omega)) ?_
                  refine xi_aload_n (pc' := 50) (x := 115) kc_24_49 rfl rfl ?_
                  refine xi_getfield (pc' := 53) (v := .ref 125) kc_24_50 rfl rfl rfl eh5.1 rfl ?_
                  refine xi_iload_n (pc' := 54) (x := 9) kc_24_53 rfl rfl ?_
                  refine xi_iaload (pc' := 55) (v := (-9)) kc_24_54 rfl ((eh5.2.1 125 (by decide)).trans ((eh4.2.1 125 (by decide)).trans ((eh3.2.1 125 (by decide)).trans ((eh2.2.1 125 (by decide)).trans ((eh1.2.1 125 (by decide)).trans (F 125 _ hl_125)))))) (by decide) rfl (xi_in (n := 12) (by decide) (by decide)) rfl ?_
                  refine xi_ift (pc' := 62) kc_24_55 rfl rfl ?_
                  refine xi_iconst (pc' := 63) (v := 0) kc_24_62 rfl rfl ?_
                  refine xi_istore (pc' := 65) (lv' := [(5, .int 0), (0, .ref 115), (1, .int 9), (2, .int a2), (3, .int a3), (4, .int 1)]) kc_24_63 rfl rfl (xm_lt ml_24 rfl) ?_
                  refine xi_aload_n (pc' := 66) (x := 115) kc_24_65 rfl rfl ?_
                  refine xi_getfield (pc' := 69) (v := .ref 125) kc_24_66 rfl rfl rfl eh5.1 rfl ?_
                  refine xi_iload_n (pc' := 70) (x := 9) kc_24_69 rfl rfl ?_
                  refine xi_iload_n (pc' := 71) (x := a2) kc_24_70 rfl rfl ?_
                  refine xi_iastore (pc' := 72) (x' := [(-9), (-9), (-9), (-9), (-9), (-9), (-9), (-9), (-9), a2, (-9), (-9)]) kc_24_71 rfl ((eh5.2.1 125 (by decide)).trans ((eh4.2.1 125 (by decide)).trans ((eh3.2.1 125 (by decide)).trans ((eh2.2.1 125 (by decide)).trans ((eh1.2.1 125 (by decide)).trans (F 125 _ hl_125)))))) rfl (xi_in (n := 12) (by decide) (by decide)) rfl (fun hh6 eh6 => ?_)
                  refine xi_aload_n (pc' := 73) (x := 115) kc_24_72 rfl rfl ?_
                  refine xi_getfield (pc' := 76) (v := .ref 126) kc_24_73 rfl rfl rfl ((eh6.2.1 115 (by decide)).trans eh5.1) rfl ?_
                  refine xi_iload_n (pc' := 77) (x := 9) kc_24_76 rfl rfl ?_
                  refine xi_iload_n (pc' := 78) (x := a3) kc_24_77 rfl rfl ?_
                  refine xi_iastore (pc' := 79) (x' := [0, 0, 0, 0, 0, 0, 0, 0, 0, a3, 0, 0]) kc_24_78 rfl ((eh6.2.1 126 (by decide)).trans ((eh5.2.1 126 (by decide)).trans ((eh4.2.1 126 (by decide)).trans ((eh3.2.1 126 (by decide)).trans ((eh2.2.1 126 (by decide)).trans ((eh1.2.1 126 (by decide)).trans (F 126 _ hl_126))))))) rfl (xi_in (n := 12) (by decide) (by decide)) rfl (fun hh7 eh7 => ?_)
                  refine xi_aload_n (pc' := 80) (x := 115) kc_24_79 rfl rfl ?_
                  refine xi_getfield (pc' := 83) (v := .ref 127) kc_24_80 rfl rfl rfl ((eh7.2.1 115 (by decide)).trans ((eh6.2.1 115 (by decide)).trans eh5.1)) rfl ?_
                  refine xi_iload_n (pc' := 84) (x := 9) kc_24_83 rfl rfl ?_
                  refine xi_iload (pc' := 86) (x := 1) kc_24_84 rfl rfl ?_
                  refine xi_bastore (pc' := 87) (x' := [0, 0, 0, 0, 0, 0, 0, 0, 0, 1, 0, 0]) kc_24_86 rfl ((eh7.2.1 127 (by decide)).trans ((eh6.2.1 127 (by decide)).trans ((eh5.2.1 127 (by decide)).trans ((eh4.2.1 127 (by decide)).trans ((eh3.2.1 127 (by decide)).trans ((eh2.2.1 127 (by decide)).trans ((eh1.2.1 127 (by decide)).trans (F 127 _ hl_127)))))))) rfl (xi_in (n := 12) (by decide) (by decide)) rfl (fun hh8 eh8 => ?_)
                  refine xi_aload_n (pc' := 88) (x := 115) kc_24_87 rfl rfl ?_
                  refine xi_iconst (pc' := 89) (v := 0) kc_24_88 rfl rfl ?_
                  refine xi_putfield (pc' := 92) (fs' := [.int 0, .int 0, .ref 116, .ref 117, .ref 118, .ref 119, .ref 120, .ref 121, .ref 122, .ref 123, .ref 124, .ref 125, .ref 126, .ref 127, .ref 128, .ref 129, .int 4, .ref 130, .int 0, .ref 131, .ref 132, .ref 133, .ref 134, .int 0, .ref 135, .ref 136, .ref 137, .ref 138, .ref 139, .ref 140, .ref 141, .ref 142, .int 0, .int 0, .int 0, .ref 143, .ref 144, .ref 145, .ref 146, .ref 147, .ref 148, .int 0, .ref 149, .ref 150, .ref 151, .int 0, .ref 152, .ref 153, .ref 154, .ref 155, .ref 156, .ref 157, .ref 158, .ref 159, .int 0, .ref 160, .int 0, .ref 161, .ref 162, .ref 163, .ref 164, .int 0, .ref 165, .ref 166]) kc_24_89 rfl rfl rfl ((eh8.2.1 115 (by decide)).trans ((eh7.2.1 115 (by decide)).trans ((eh6.2.1 115 (by decide)).trans eh5.1))) rfl rfl rfl (Nat.le_of_ble_eq_true rfl) rfl (fun hh9 eh9 => ?_)
                  refine xi_iload (pc' := 94) (x := 0) kc_24_92 rfl rfl ?_
                  refine xi_ift (pc' := 101) kc_24_94 rfl rfl ?_
                  refine xi_iconst (pc' := 102) (v := 1) kc_24_101 rfl rfl ?_
                  refine xi_ireturn kc_24_102 mr_24 rfl ?_
                  show xw J ov 100 196 (473, [(4, .int 0), (3, .ref 167), (2, .ref 115), (1, .ref 0), (0, .ref 1000000)], [.int 1, .int 1], hh9) _
                  refine xi_cmt (pc' := 1528) kc_196_473 rfl rfl ?_
                  refine xi_iinc (pc' := 1531) (x := 0) (v := 6) (lv' := [(4, .int 6), (3, .ref 167), (2, .ref 115), (1, .ref 0), (0, .ref 1000000)]) kc_196_1528 rfl rfl rfl rfl (xm_lt ml_196 rfl) ?_
                  refine xi_goto (pc' := 23) kc_196_1531 rfl ?_
                  refine xi_iload (pc' := 25) (x := 6) kc_196_23 rfl rfl ?_
                  refine xi_aload_n (pc' := 26) (x := 1000000) kc_196_25 rfl rfl ?_
                  refine xi_arraylength (pc' := 27) (n := 6) (v := 6) kc_196_26 rfl (xl_lenO (by decide) hov0 rfl) rfl ?_
                  refine xi_bipush (pc' := 29) (v := 6) kc_196_27 rfl rfl ?_
                  refine xi_isub (pc' := 30) (v := 0) kc_196_29 rfl rfl ?_
                  refine xi_cmt (pc' := 1534) kc_196_30 rfl rfl ?_
                  refine xi_iconst (pc' := 1535) (v := 1) kc_196_1534 rfl rfl ?_
                  refine xi_ireturn kc_196_1535 mr_196 rfl ?_
                  refine ⟨rfl, ?_, ?_⟩
                  · rw [eh9.2.2.1, eh8.2.2.1, eh7.2.2.1, eh6.2.2.1, eh5.2.2.1, eh4.2.2.1, eh3.2.2.1, eh2.2.2.1, eh1.2.2.1]; exact hn0
                  · rw [eh9.2.2.2, eh8.2.2.2, eh7.2.2.2, eh6.2.2.2, eh5.2.2.2, eh4.2.2.2, eh3.2.2.2, eh2.2.2.2, eh1.2.2.2]; exact hz0
                by_cases c35 : a1.toInt = 10
                · have qa1 : a1 = 10 := xc_of (Eq.trans (by omega) (show (10 : Int) = (10 : Int32).toInt by decide))
                  subst qa1
                  refine xi_aaload (pc' := 60) (b := 49) kc_104_59 rfl ((eh1.2.1 3 (by decide)).trans (F 3 _ hl_3)) rfl (xi_in (n := 12) (by decide) (by decide)) rfl ?_
                  refine xi_astore (pc' := 62) (lv' := [(5, .ref 49), (0, .ref 0), (1, .int 10), (2, .int a2), (3, .int a3), (4, .int 1)]) kc_104_60 rfl rfl (xm_lt ml_104 rfl) ?_
                  refine xi_aload (pc' := 64) (x := 49) kc_104_62 rfl rfl ?_
                  refine xi_virtual (mj := 106) (as := []) (st1 := []) (lv0 := [(0, .ref 49)]) kc_104_64 rfl rfl rfl rfl rfl ((eh1.2.1 49 (by decide)).trans (F 49 _ hl_49)) (Nat.le_of_ble_eq_true rfl) (hJ _ _ _ _ (by decide)) (xm_le ml_106 rfl) rfl ?_
                  refine xi_aload_n (pc' := 1) (x := 49) kc_106_0 rfl rfl ?_
                  refine xi_getfield (pc' := 4) (v := .int (-9)) kc_106_1 rfl rfl rfl ((eh1.2.1 49 (by decide)).trans (F 49 _ hl_49)) rfl ?_
                  refine xi_static (mj := 90) (as := [.int (-9)]) (st1 := []) (lv0 := [(0, .int (-9))]) kc_106_4 rfl rfl (Nat.le_of_ble_eq_true rfl) rfl rfl (Nat.le_of_ble_eq_true rfl) (hJ _ _ _ _ (by decide)) (xm_le ml_90 rfl) rfl ?_
                  refine xi_iload_n (pc' := 1) (x := (-9)) kc_90_0 rfl rfl ?_
                  refine xi_ift (pc' := 14) kc_90_1 rfl rfl ?_
                  refine xi_iconst (pc' := 15) (v := 0) kc_90_14 rfl rfl ?_
                  refine xi_ireturn kc_90_15 mr_90 rfl ?_
                  show xw J ov 98 106 (7, [(0, .ref 49)], [.int 0], hh1) _
                  refine xi_ireturn kc_106_7 mr_106 rfl ?_
                  show xw J ov 99 104 (67, [(5, .ref 49), (0, .ref 0), (1, .int 10), (2, .int a2), (3, .int a3), (4, .int 1)], [.int 0], hh1) _
                  refine xi_ift (pc' := 74) kc_104_67 rfl rfl ?_
                  refine xi_iconst (pc' := 75) (v := 1) kc_104_74 rfl rfl ?_
                  refine xi_istore (pc' := 77) (lv' := [(6, .int 1), (5, .ref 49), (0, .ref 0), (1, .int 10), (2, .int a2), (3, .int a3), (4, .int 1)]) kc_104_75 rfl rfl (xm_lt ml_104 rfl) ?_
                  refine xi_aload (pc' := 79) (x := 49) kc_104_77 rfl rfl ?_
                  refine xi_iload_n (pc' := 80) (x := a2) kc_104_79 rfl rfl ?_
                  refine xi_putfield (pc' := 83) (fs' := [.int a2, .int 0, .int 0, .int 0, .ref 50]) kc_104_80 rfl rfl rfl ((eh1.2.1 49 (by decide)).trans (F 49 _ hl_49)) rfl rfl rfl (Nat.le_of_ble_eq_true rfl) rfl (fun hh2 eh2 => ?_)
                  refine xi_aload (pc' := 85) (x := 49) kc_104_83 rfl rfl ?_
                  refine xi_iload_n (pc' := 86) (x := a3) kc_104_85 rfl rfl ?_
                  refine xi_putfield (pc' := 89) (fs' := [.int a2, .int a3, .int 0, .int 0, .ref 50]) kc_104_86 rfl rfl rfl eh2.1 rfl rfl rfl (Nat.le_of_ble_eq_true rfl) rfl (fun hh3 eh3 => ?_)
                  refine xi_aload (pc' := 91) (x := 49) kc_104_89 rfl rfl ?_
                  refine xi_iload (pc' := 93) (x := 1) kc_104_91 rfl rfl ?_
                  refine xi_putfield (pc' := 96) (fs' := [.int a2, .int a3, .int 1, .int 0, .ref 50]) kc_104_93 rfl rfl rfl eh3.1 rfl rfl rfl (Nat.le_of_ble_eq_true rfl) rfl (fun hh4 eh4 => ?_)
                  refine xi_iload (pc' := 98) (x := 1) kc_104_96 rfl rfl ?_
                  refine xi_ireturn kc_104_98 mr_104 rfl ?_
                  show xw J ov 100 196 (437, [(4, .int 0), (3, .ref 167), (2, .ref 115), (1, .ref 0), (0, .ref 1000000)], [.int 1], hh4) _
                  refine xi_aload_n (pc' := 438) (x := 115) kc_196_437 rfl rfl ?_
                  refine xi_aload_n (pc' := 439) (x := 1000000) kc_196_438 rfl rfl ?_
                  refine xi_iload (pc' := 441) (x := 0) kc_196_439 rfl rfl ?_
                  refine xi_iconst (pc' := 442) (v := 1) kc_196_441 rfl rfl ?_
                  refine xi_iadd (pc' := 443) (v := 1) kc_196_442 rfl rfl ?_
                  refine xi_ialoadO (pc' := 444) (v := 10) kc_196_443 rfl (by decide) hov0 (xi_in (n := 6) (by decide) (by decide)) rfl ?_
                  refine xi_aload_n (pc' := 445) (x := 1000000) kc_196_444 rfl rfl ?_
                  refine xi_iload (pc' := 447) (x := 0) kc_196_445 rfl rfl ?_
                  refine xi_iconst (pc' := 448) (v := 2) kc_196_447 rfl rfl ?_
                  refine xi_iadd (pc' := 449) (v := 2) kc_196_448 rfl rfl ?_
                  refine xi_ialoadO (pc' := 450) (v := a2) kc_196_449 rfl (by decide) hov0 (xi_in (n := 6) (by decide) (by decide)) rfl ?_
                  refine xi_aload_n (pc' := 451) (x := 1000000) kc_196_450 rfl rfl ?_
                  refine xi_iload (pc' := 453) (x := 0) kc_196_451 rfl rfl ?_
                  refine xi_iconst (pc' := 454) (v := 3) kc_196_453 rfl rfl ?_
                  refine xi_iadd (pc' := 455) (v := 3) kc_196_454 rfl rfl ?_
                  refine xi_ialoadO (pc' := 456) (v := a3) kc_196_455 rfl (by decide) hov0 (xi_in (n := 6) (by decide) (by decide)) rfl ?_
                  refine xi_aload_n (pc' := 457) (x := 1000000) kc_196_456 rfl rfl ?_
                  refine xi_iload (pc' := 459) (x := 0) kc_196_457 rfl rfl ?_
                  refine xi_iconst (pc' := 460) (v := 4) kc_196_459 rfl rfl ?_
                  refine xi_iadd (pc' := 461) (v := 4) kc_196_460 rfl rfl ?_
                  refine xi_ialoadO (pc' := 462) (v := a4) kc_196_461 rfl (by decide) hov0 (xi_in (n := 6) (by decide) (by decide)) rfl ?_
                  refine xi_iff (pc' := 465) kc_196_462 rfl (xc_eq_f (X := a4.toInt) (Y := 0) rfl (by decide) (by omega)) ?_
                  refine xi_iconst (pc' := 466) (v := 1) kc_196_465 rfl rfl ?_
                  refine xi_goto (pc' := 470) kc_196_466 rfl ?_
                  refine xi_virtual (mj := 24) (as := [.int 10, .int a2, .int a3, .int 1]) (st1 := [.int 1]) (lv0 := [(0, .ref 115), (1, .int 10), (2, .int a2), (3, .int a3), (4, .int 1)]) kc_196_470 rfl rfl rfl rfl rfl ((eh4.2.1 115 (by decide)).trans ((eh3.2.1 115 (by decide)).trans ((eh2.2.1 115 (by decide)).trans ((eh1.2.1 115 (by decide)).trans (F 115 _ hl_115))))) (Nat.le_of_ble_eq_true rfl) (hJ _ _ _ _ (by decide)) (xm_le ml_24 rfl) rfl ?_
                  refine xi_aload_n (pc' := 1) (x := 115) kc_24_0 rfl rfl ?_
                  refine xi_iconst (pc' := 2) (v := 0) kc_24_1 rfl rfl ?_
                  refine xi_putfield (pc' := 5) (fs' := [.int 0, .int 0, .ref 116, .ref 117, .ref 118, .ref 119, .ref 120, .ref 121, .ref 122, .ref 123, .ref 124, .ref 125, .ref 126, .ref 127, .ref 128, .ref 129, .int 4, .ref 130, .int 0, .ref 131, .ref 132, .ref 133, .ref 134, .int 0, .ref 135, .ref 136, .ref 137, .ref 138, .ref 139, .ref 140, .ref 141, .ref 142, .int 0, .int 0, .int 0, .ref 143, .ref 144, .ref 145, .ref 146, .ref 147, .ref 148, .int 0, .ref 149, .ref 150, .ref 151, .int 0, .ref 152, .ref 153, .ref 154, .ref 155, .ref 156, .ref 157, .ref 158, .ref 159, .int 0, .ref 160, .int 0, .ref 161, .ref 162, .ref 163, .ref 164, .int 0, .ref 165, .ref 166]) kc_24_2 rfl rfl rfl ((eh4.2.1 115 (by decide)).trans ((eh3.2.1 115 (by decide)).trans ((eh2.2.1 115 (by decide)).trans ((eh1.2.1 115 (by decide)).trans (F 115 _ hl_115))))) rfl rfl rfl (Nat.le_of_ble_eq_true rfl) rfl (fun hh5 eh5 => ?_)
                  refine xi_iload_n (pc' := 6) (x := 10) kc_24_5 rfl rfl ?_
                  refine xi_static (mj := 25) (as := [.int 10]) (st1 := []) (lv0 := [(0, .int 10)]) kc_24_6 rfl rfl (Nat.le_of_ble_eq_true rfl) rfl rfl (Nat.le_of_ble_eq_true rfl) (hJ _ _ _ _ (by decide)) (xm_le ml_25 rfl) rfl ?_
                  refine xi_iload_n (pc' := 1) (x := 10) kc_25_0 rfl rfl ?_
                  refine xi_iconst (pc' := 2) (v := 0) kc_25_1 rfl rfl ?_
                  refine xi_bipush (pc' := 4) (v := 11) kc_25_2 rfl rfl ?_
                  refine xi_static (mj := 12) (as := [.int 10, .int 0, .int 11]) (st1 := []) (lv0 := [(0, .int 10), (1, .int 0), (2, .int 11)]) kc_25_4 rfl rfl (Nat.le_of_ble_eq_true rfl) rfl rfl (Nat.le_of_ble_eq_true rfl) (hJ _ _ _ _ (by decide)) (xm_le ml_12 rfl) rfl ?_
                  refine xi_iload_n (pc' := 1) (x := 10) kc_12_0 rfl rfl ?_
                  refine xi_iload_n (pc' := 2) (x := 0) kc_12_1 rfl rfl ?_
                  refine xi_cmf (pc' := 5) kc_12_2 rfl rfl ?_
                  refine xi_iload_n (pc' := 6) (x := 10) kc_12_5 rfl rfl ?_
                  refine xi_iload_n (pc' := 7) (x := 11) kc_12_6 rfl rfl ?_
                  refine xi_cmf (pc' := 10) kc_12_7 rfl rfl ?_
                  refine xi_iconst (pc' := 11) (v := 1) kc_12_10 rfl rfl ?_
                  refine xi_goto (pc' := 15) kc_12_11 rfl ?_
                  refine xi_ireturn kc_12_15 mr_12 rfl ?_
                  show xw J ov 98 25 (7, [(0, .int 10)], [.int 1], hh5) _
                  refine xi_ireturn kc_25_7 mr_25 rfl ?_
                  show xw J ov 99 24 (9, [(0, .ref 115), (1, .int 10), (2, .int a2), (3, .int a3), (4, .int 1)], [.int 1], hh5) _
                  refine xi_iff (pc' := 12) kc_24_9 rfl rfl ?_
                  refine xi_iload_n (pc' := 13) (x := a2) kc_24_12 rfl rfl ?_
                  refine xi_static (mj := 11) (as := [.int a2]) (st1 := []) (lv0 := [(0, .int a2)]) kc_24_13 rfl rfl (Nat.le_of_ble_eq_true rfl) rfl rfl (Nat.le_of_ble_eq_true rfl) (hJ _ _ _ _ (by decide)) (xm_le ml_11 rfl) rfl ?_
                  refine xi_iload_n (pc' := 1) (x := a2) kc_11_0 rfl rfl ?_
                  refine xi_iconst (pc' := 2) (v := 0) kc_11_1 rfl rfl ?_
                  refine xi_iconst (pc' := 3) (v := 5) kc_11_2 rfl rfl ?_
                  refine xi_static (mj := 12) (as := [.int a2, .int 0, .int 5]) (st1 := []) (lv0 := [(0, .int a2), (1, .int 0), (2, .int 5)]) kc_11_3 rfl rfl (Nat.le_of_ble_eq_true rfl) rfl rfl (Nat.le_of_ble_eq_true rfl) (hJ _ _ _ _ (by decide)) (xm_le ml_12 rfl) rfl ?_
                  refine xi_iload_n (pc' := 1) (x := a2) kc_12_0 rfl rfl ?_
                  refine xi_iload_n (pc' := 2) (x := 0) kc_12_1 rfl rfl ?_
                  refine xi_cmf (pc' := 5) kc_12_2 rfl (xc_lt_f (X := a2.toInt) (Y := 0) rfl (by decide) (by omega)) ?_
                  refine xi_iload_n (pc' := 6) (x := a2) kc_12_5 rfl rfl ?_
                  refine xi_iload_n (pc' := 7) (x := 5) kc_12_6 rfl rfl ?_
                  refine xi_cmf (pc' := 10) kc_12_7 rfl (xc_gt_f (X := a2.toInt) (Y := 5) rfl (by decide) (by omega)) ?_
                  refine xi_iconst (pc' := 11) (v := 1) kc_12_10 rfl rfl ?_
                  refine xi_goto (pc' := 15) kc_12_11 rfl ?_
                  refine xi_ireturn kc_12_15 mr_12 rfl ?_
                  show xw J ov 98 11 (6, [(0, .int a2)], [.int 1], hh5) _
                  refine xi_ireturn kc_11_6 mr_11 rfl ?_
                  show xw J ov 99 24 (16, [(0, .ref 115), (1, .int 10), (2, .int a2), (3, .int a3), (4, .int 1)], [.int 1], hh5) _
                  refine xi_ift (pc' := 25) kc_24_16 rfl rfl ?_
                  refine xi_iload_n (pc' := 26) (x := a3) kc_24_25 rfl rfl ?_
                  refine xi_ift (pc' := 36) kc_24_26 rfl (xc_ge_t (X := a3.toInt) (Y := 0) rfl (by decide) (by omega)) ?_
                  refine xi_iload_n (pc' := 37) (x := a3) kc_24_36 rfl rfl ?_
                  refine xi_bipush (pc' := 39) (v := 100) kc_24_37 rfl rfl ?_
                  refine xi_cmt (pc' := 49) kc_24_39 rfl (xc_le_t (X := a3.toInt) (Y := 100) rfl (by decide) (by omega)) ?_
                  refine xi_aload_n (pc' := 50) (x := 115) kc_24_49 rfl rfl ?_
                  refine xi_getfield (pc' := 53) (v := .ref 125) kc_24_50 rfl rfl rfl eh5.1 rfl ?_
                  refine xi_iload_n (pc' := 54) (x := 10) kc_24_53 rfl rfl ?_
                  refine xi_iaload (pc' := 55) (v := (-9)) kc_24_54 rfl ((eh5.2.1 125 (by decide)).trans ((eh4.2.1 125 (by decide)).trans ((eh3.2.1 125 (by decide)).trans ((eh2.2.1 125 (by decide)).trans ((eh1.2.1 125 (by decide)).trans (F 125 _ hl_125)))))) (by decide) rfl (xi_in (n := 12) (by decide) (by decide)) rfl ?_
                  refine xi_ift (pc' := 62) kc_24_55 rfl rfl ?_
                  refine xi_iconst (pc' := 63) (v := 0) kc_24_62 rfl rfl ?_
                  refine xi_istore (pc' := 65) (lv' := [(5, .int 0), (0, .ref 115), (1, .int 10), (2, .int a2), (3, .int a3), (4, .int 1)]) kc_24_63 rfl rfl (xm_lt ml_24 rfl) ?_
                  refine xi_aload_n (pc' := 66) (x := 115) kc_24_65 rfl rfl ?_
                  refine xi_getfield (pc' := 69) (v := .ref 125) kc_24_66 rfl rfl rfl eh5.1 rfl ?_
                  refine xi_iload_n (pc' := 70) (x := 10) kc_24_69 rfl rfl ?_
                  refine xi_iload_n (pc' := 71) (x := a2) kc_24_70 rfl rfl ?_
                  refine xi_iastore (pc' := 72) (x' := [(-9), (-9), (-9), (-9), (-9), (-9), (-9), (-9), (-9), (-9), a2, (-9)]) kc_24_71 rfl ((eh5.2.1 125 (by decide)).trans ((eh4.2.1 125 (by decide)).trans ((eh3.2.1 125 (by decide)).trans ((eh2.2.1 125 (by decide)).trans ((eh1.2.1 125 (by decide)).trans (F 125 _ hl_125)))))) rfl (xi_in (n := 12) (by decide) (by decide)) rfl (fun hh6 eh6 => ?_)
                  refine xi_aload_n (pc' := 73) (x := 115) kc_24_72 rfl rfl ?_
                  refine xi_getfield (pc' := 76) (v := .ref 126) kc_24_73 rfl rfl rfl ((eh6.2.1 115 (by decide)).trans eh5.1) rfl ?_
                  refine xi_iload_n (pc' := 77) (x := 10) kc_24_76 rfl rfl ?_
                  refine xi_iload_n (pc' := 78) (x := a3) kc_24_77 rfl rfl ?_
                  refine xi_iastore (pc' := 79) (x' := [0, 0, 0, 0, 0, 0, 0, 0, 0, 0, a3, 0]) kc_24_78 rfl ((eh6.2.1 126 (by decide)).trans ((eh5.2.1 126 (by decide)).trans ((eh4.2.1 126 (by decide)).trans ((eh3.2.1 126 (by decide)).trans ((eh2.2.1 126 (by decide)).trans ((eh1.2.1 126 (by decide)).trans (F 126 _ hl_126))))))) rfl (xi_in (n := 12) (by decide) (by decide)) rfl (fun hh7 eh7 => ?_)
                  refine xi_aload_n (pc' := 80) (x := 115) kc_24_79 rfl rfl ?_
                  refine xi_getfield (pc' := 83) (v := .ref 127) kc_24_80 rfl rfl rfl ((eh7.2.1 115 (by decide)).trans ((eh6.2.1 115 (by decide)).trans eh5.1)) rfl ?_
                  refine xi_iload_n (pc' := 84) (x := 10) kc_24_83 rfl rfl ?_
                  refine xi_iload (pc' := 86) (x := 1) kc_24_84 rfl rfl ?_
                  refine xi_bastore (pc' := 87) (x' := [0, 0, 0, 0, 0, 0, 0, 0, 0, 0, 1, 0]) kc_24_86 rfl ((eh7.2.1 127 (by decide)).trans ((eh6.2.1 127 (by decide)).trans ((eh5.2.1 127 (by decide)).trans ((eh4.2.1 127 (by decide)).trans ((eh3.2.1 127 (by decide)).trans ((eh2.2.1 127 (by decide)).trans ((eh1.2.1 127 (by decide)).trans (F 127 _ hl_127)))))))) rfl (xi_in (n := 12) (by decide) (by decide)) rfl (fun hh8 eh8 => ?_)
                  refine xi_aload_n (pc' := 88) (x := 115) kc_24_87 rfl rfl ?_
                  refine xi_iconst (pc' := 89) (v := 0) kc_24_88 rfl rfl ?_
                  refine xi_putfield (pc' := 92) (fs' := [.int 0, .int 0, .ref 116, .ref 117, .ref 118, .ref 119, .ref 120, .ref 121, .ref 122, .ref 123, .ref 124, .ref 125, .ref 126, .ref 127, .ref 128, .ref 129, .int 4, .ref 130, .int 0, .ref 131, .ref 132, .ref 133, .ref 134, .int 0, .ref 135, .ref 136, .ref 137, .ref 138, .ref 139, .ref 140, .ref 141, .ref 142, .int 0, .int 0, .int 0, .ref 143, .ref 144, .ref 145, .ref 146, .ref 147, .ref 148, .int 0, .ref 149, .ref 150, .ref 151, .int 0, .ref 152, .ref 153, .ref 154, .ref 155, .ref 156, .ref 157, .ref 158, .ref 159, .int 0, .ref 160, .int 0, .ref 161, .ref 162, .ref 163, .ref 164, .int 0, .ref 165, .ref 166]) kc_24_89 rfl rfl rfl ((eh8.2.1 115 (by decide)).trans ((eh7.2.1 115 (by decide)).trans ((eh6.2.1 115 (by decide)).trans eh5.1))) rfl rfl rfl (Nat.le_of_ble_eq_true rfl) rfl (fun hh9 eh9 => ?_)
                  refine xi_iload (pc' := 94) (x := 0) kc_24_92 rfl rfl ?_
                  refine xi_ift (pc' := 101) kc_24_94 rfl rfl ?_
                  refine xi_iconst (pc' := 102) (v := 1) kc_24_101 rfl rfl ?_
                  refine xi_ireturn kc_24_102 mr_24 rfl ?_
                  show xw J ov 100 196 (473, [(4, .int 0), (3, .ref 167), (2, .ref 115), (1, .ref 0), (0, .ref 1000000)], [.int 1, .int 1], hh9) _
                  refine xi_cmt (pc' := 1528) kc_196_473 rfl rfl ?_
                  refine xi_iinc (pc' := 1531) (x := 0) (v := 6) (lv' := [(4, .int 6), (3, .ref 167), (2, .ref 115), (1, .ref 0), (0, .ref 1000000)]) kc_196_1528 rfl rfl rfl rfl (xm_lt ml_196 rfl) ?_
                  refine xi_goto (pc' := 23) kc_196_1531 rfl ?_
                  refine xi_iload (pc' := 25) (x := 6) kc_196_23 rfl rfl ?_
                  refine xi_aload_n (pc' := 26) (x := 1000000) kc_196_25 rfl rfl ?_
                  refine xi_arraylength (pc' := 27) (n := 6) (v := 6) kc_196_26 rfl (xl_lenO (by decide) hov0 rfl) rfl ?_
                  refine xi_bipush (pc' := 29) (v := 6) kc_196_27 rfl rfl ?_
                  refine xi_isub (pc' := 30) (v := 0) kc_196_29 rfl rfl ?_
                  refine xi_cmt (pc' := 1534) kc_196_30 rfl rfl ?_
                  refine xi_iconst (pc' := 1535) (v := 1) kc_196_1534 rfl rfl ?_
                  refine xi_ireturn kc_196_1535 mr_196 rfl ?_
                  refine ⟨rfl, ?_, ?_⟩
                  · rw [eh9.2.2.1, eh8.2.2.1, eh7.2.2.1, eh6.2.2.1, eh5.2.2.1, eh4.2.2.1, eh3.2.2.1, eh2.2.2.1, eh1.2.2.1]; exact hn0
                  · rw [eh9.2.2.2, eh8.2.2.2, eh7.2.2.2, eh6.2.2.2, eh5.2.2.2, eh4.2.2.2, eh3.2.2.2, eh2.2.2.2, eh1.2.2.2]; exact hz0
                have qa1 : a1 = 11 := xc_of (Eq.trans (by omega) (show (11 : Int) = (11 : Int32).toInt by decide))
                subst qa1
                refine xi_aaload (pc' := 60) (b := 51) kc_104_59 rfl ((eh1.2.1 3 (by decide)).trans (F 3 _ hl_3)) rfl (xi_in (n := 12) (by decide) (by decide)) rfl ?_
                refine xi_astore (pc' := 62) (lv' := [(5, .ref 51), (0, .ref 0), (1, .int 11), (2, .int a2), (3, .int a3), (4, .int 1)]) kc_104_60 rfl rfl (xm_lt ml_104 rfl) ?_
                refine xi_aload (pc' := 64) (x := 51) kc_104_62 rfl rfl ?_
                refine xi_virtual (mj := 106) (as := []) (st1 := []) (lv0 := [(0, .ref 51)]) kc_104_64 rfl rfl rfl rfl rfl ((eh1.2.1 51 (by decide)).trans (F 51 _ hl_51)) (Nat.le_of_ble_eq_true rfl) (hJ _ _ _ _ (by decide)) (xm_le ml_106 rfl) rfl ?_
                refine xi_aload_n (pc' := 1) (x := 51) kc_106_0 rfl rfl ?_
                refine xi_getfield (pc' := 4) (v := .int (-9)) kc_106_1 rfl rfl rfl ((eh1.2.1 51 (by decide)).trans (F 51 _ hl_51)) rfl ?_
                refine xi_static (mj := 90) (as := [.int (-9)]) (st1 := []) (lv0 := [(0, .int (-9))]) kc_106_4 rfl rfl (Nat.le_of_ble_eq_true rfl) rfl rfl (Nat.le_of_ble_eq_true rfl) (hJ _ _ _ _ (by decide)) (xm_le ml_90 rfl) rfl ?_
                refine xi_iload_n (pc' := 1) (x := (-9)) kc_90_0 rfl rfl ?_
                refine xi_ift (pc' := 14) kc_90_1 rfl rfl ?_
                refine xi_iconst (pc' := 15) (v := 0) kc_90_14 rfl rfl ?_
                refine xi_ireturn kc_90_15 mr_90 rfl ?_
                show xw J ov 98 106 (7, [(0, .ref 51)], [.int 0], hh1) _
                refine xi_ireturn kc_106_7 mr_106 rfl ?_
                show xw J ov 99 104 (67, [(5, .ref 51), (0, .ref 0), (1, .int 11), (2, .int a2), (3, .int a3), (4, .int 1)], [.int 0], hh1) _
                refine xi_ift (pc' := 74) kc_104_67 rfl rfl ?_
                refine xi_iconst (pc' := 75) (v := 1) kc_104_74 rfl rfl ?_
                refine xi_istore (pc' := 77) (lv' := [(6, .int 1), (5, .ref 51), (0, .ref 0), (1, .int 11), (2, .int a2), (3, .int a3), (4, .int 1)]) kc_104_75 rfl rfl (xm_lt ml_104 rfl) ?_
                refine xi_aload (pc' := 79) (x := 51) kc_104_77 rfl rfl ?_
                refine xi_iload_n (pc' := 80) (x := a2) kc_104_79 rfl rfl ?_
                refine xi_putfield (pc' := 83) (fs' := [.int a2, .int 0, .int 0, .int 0, .ref 52]) kc_104_80 rfl rfl rfl ((eh1.2.1 51 (by decide)).trans (F 51 _ hl_51)) rfl rfl rfl (Nat.le_of_ble_eq_true rfl) rfl (fun hh2 eh2 => ?_)
                refine xi_aload (pc' := 85) (x := 51) kc_104_83 rfl rfl ?_
                refine xi_iload_n (pc' := 86) (x := a3) kc_104_85 rfl rfl ?_
                refine xi_putfield (pc' := 89) (fs' := [.int a2, .int a3, .int 0, .int 0, .ref 52]) kc_104_86 rfl rfl rfl eh2.1 rfl rfl rfl (Nat.le_of_ble_eq_true rfl) rfl (fun hh3 eh3 => ?_)
                refine xi_aload (pc' := 91) (x := 51) kc_104_89 rfl rfl ?_
                refine xi_iload (pc' := 93) (x := 1) kc_104_91 rfl rfl ?_
                refine xi_putfield (pc' := 96) (fs' := [.int a2, .int a3, .int 1, .int 0, .ref 52]) kc_104_93 rfl rfl rfl eh3.1 rfl rfl rfl (Nat.le_of_ble_eq_true rfl) rfl (fun hh4 eh4 => ?_)
                refine xi_iload (pc' := 98) (x := 1) kc_104_96 rfl rfl ?_
                refine xi_ireturn kc_104_98 mr_104 rfl ?_
                show xw J ov 100 196 (437, [(4, .int 0), (3, .ref 167), (2, .ref 115), (1, .ref 0), (0, .ref 1000000)], [.int 1], hh4) _
                refine xi_aload_n (pc' := 438) (x := 115) kc_196_437 rfl rfl ?_
                refine xi_aload_n (pc' := 439) (x := 1000000) kc_196_438 rfl rfl ?_
                refine xi_iload (pc' := 441) (x := 0) kc_196_439 rfl rfl ?_
                refine xi_iconst (pc' := 442) (v := 1) kc_196_441 rfl rfl ?_
                refine xi_iadd (pc' := 443) (v := 1) kc_196_442 rfl rfl ?_
                refine xi_ialoadO (pc' := 444) (v := 11) kc_196_443 rfl (by decide) hov0 (xi_in (n := 6) (by decide) (by decide)) rfl ?_
                refine xi_aload_n (pc' := 445) (x := 1000000) kc_196_444 rfl rfl ?_
                refine xi_iload (pc' := 447) (x := 0) kc_196_445 rfl rfl ?_
                refine xi_iconst (pc' := 448) (v := 2) kc_196_447 rfl rfl ?_
                refine xi_iadd (pc' := 449) (v := 2) kc_196_448 rfl rfl ?_
                refine xi_ialoadO (pc' := 450) (v := a2) kc_196_449 rfl (by decide) hov0 (xi_in (n := 6) (by decide) (by decide)) rfl ?_
                refine xi_aload_n (pc' := 451) (x := 1000000) kc_196_450 rfl rfl ?_
                refine xi_iload (pc' := 453) (x := 0) kc_196_451 rfl rfl ?_
                refine xi_iconst (pc' := 454) (v := 3) kc_196_453 rfl rfl ?_
                refine xi_iadd (pc' := 455) (v := 3) kc_196_454 rfl rfl ?_
                refine xi_ialoadO (pc' := 456) (v := a3) kc_196_455 rfl (by decide) hov0 (xi_in (n := 6) (by decide) (by decide)) rfl ?_
                refine xi_aload_n (pc' := 457) (x := 1000000) kc_196_456 rfl rfl ?_
                refine xi_iload (pc' := 459) (x := 0) kc_196_457 rfl rfl ?_
                refine xi_iconst (pc' := 460) (v := 4) kc_196_459 rfl rfl ?_
                refine xi_iadd (pc' := 461) (v := 4) kc_196_460 rfl rfl ?_
                refine xi_ialoadO (pc' := 462) (v := a4) kc_196_461 rfl (by decide) hov0 (xi_in (n := 6) (by decide) (by decide)) rfl ?_
                refine xi_iff (pc' := 465) kc_196_462 rfl (xc_eq_f (X := a4.toInt) (Y := 0) rfl (by decide) (by omega)) ?_
                refine xi_iconst (pc' := 466) (v := 1) kc_196_465 rfl rfl ?_
                refine xi_goto (pc' := 470) kc_196_466 rfl ?_
                refine xi_virtual (mj := 24) (as := [.int 11, .int a2, .int a3, .int 1]) (st1 := [.int 1]) (lv0 := [(0, .ref 115), (1, .int 11), (2, .int a2), (3, .int a3), (4, .int 1)]) kc_196_470 rfl rfl rfl rfl rfl ((eh4.2.1 115 (by decide)).trans ((eh3.2.1 115 (by decide)).trans ((eh2.2.1 115 (by decide)).trans ((eh1.2.1 115 (by decide)).trans (F 115 _ hl_115))))) (Nat.le_of_ble_eq_true rfl) (hJ _ _ _ _ (by decide)) (xm_le ml_24 rfl) rfl ?_
                refine xi_aload_n (pc' := 1) (x := 115) kc_24_0 rfl rfl ?_
                refine xi_iconst (pc' := 2) (v := 0) kc_24_1 rfl rfl ?_
                refine xi_putfield (pc' := 5) (fs' := [.int 0, .int 0, .ref 116, .ref 117, .ref 118, .ref 119, .ref 120, .ref 121, .ref 122, .ref 123, .ref 124, .ref 125, .ref 126, .ref 127, .ref 128, .ref 129, .int 4, .ref 130, .int 0, .ref 131, .ref 132, .ref 133, .ref 134, .int 0, .ref 135, .ref 136, .ref 137, .ref 138, .ref 139, .ref 140, .ref 141, .ref 142, .int 0, .int 0, .int 0, .ref 143, .ref 144, .ref 145, .ref 146, .ref 147, .ref 148, .int 0, .ref 149, .ref 150, .ref 151, .int 0, .ref 152, .ref 153, .ref 154, .ref 155, .ref 156, .ref 157, .ref 158, .ref 159, .int 0, .ref 160, .int 0, .ref 161, .ref 162, .ref 163, .ref 164, .int 0, .ref 165, .ref 166]) kc_24_2 rfl rfl rfl ((eh4.2.1 115 (by decide)).trans ((eh3.2.1 115 (by decide)).trans ((eh2.2.1 115 (by decide)).trans ((eh1.2.1 115 (by decide)).trans (F 115 _ hl_115))))) rfl rfl rfl (Nat.le_of_ble_eq_true rfl) rfl (fun hh5 eh5 => ?_)
                refine xi_iload_n (pc' := 6) (x := 11) kc_24_5 rfl rfl ?_
                refine xi_static (mj := 25) (as := [.int 11]) (st1 := []) (lv0 := [(0, .int 11)]) kc_24_6 rfl rfl (Nat.le_of_ble_eq_true rfl) rfl rfl (Nat.le_of_ble_eq_true rfl) (hJ _ _ _ _ (by decide)) (xm_le ml_25 rfl) rfl ?_
                refine xi_iload_n (pc' := 1) (x := 11) kc_25_0 rfl rfl ?_
                refine xi_iconst (pc' := 2) (v := 0) kc_25_1 rfl rfl ?_
                refine xi_bipush (pc' := 4) (v := 11) kc_25_2 rfl rfl ?_
                refine xi_static (mj := 12) (as := [.int 11, .int 0, .int 11]) (st1 := []) (lv0 := [(0, .int 11), (1, .int 0), (2, .int 11)]) kc_25_4 rfl rfl (Nat.le_of_ble_eq_true rfl) rfl rfl (Nat.le_of_ble_eq_true rfl) (hJ _ _ _ _ (by decide)) (xm_le ml_12 rfl) rfl ?_
                refine xi_iload_n (pc' := 1) (x := 11) kc_12_0 rfl rfl ?_
                refine xi_iload_n (pc' := 2) (x := 0) kc_12_1 rfl rfl ?_
                refine xi_cmf (pc' := 5) kc_12_2 rfl rfl ?_
                refine xi_iload_n (pc' := 6) (x := 11) kc_12_5 rfl rfl ?_
                refine xi_iload_n (pc' := 7) (x := 11) kc_12_6 rfl rfl ?_
                refine xi_cmf (pc' := 10) kc_12_7 rfl rfl ?_
                refine xi_iconst (pc' := 11) (v := 1) kc_12_10 rfl rfl ?_
                refine xi_goto (pc' := 15) kc_12_11 rfl ?_
                refine xi_ireturn kc_12_15 mr_12 rfl ?_
                show xw J ov 98 25 (7, [(0, .int 11)], [.int 1], hh5) _
                refine xi_ireturn kc_25_7 mr_25 rfl ?_
                show xw J ov 99 24 (9, [(0, .ref 115), (1, .int 11), (2, .int a2), (3, .int a3), (4, .int 1)], [.int 1], hh5) _
                refine xi_iff (pc' := 12) kc_24_9 rfl rfl ?_
                refine xi_iload_n (pc' := 13) (x := a2) kc_24_12 rfl rfl ?_
                refine xi_static (mj := 11) (as := [.int a2]) (st1 := []) (lv0 := [(0, .int a2)]) kc_24_13 rfl rfl (Nat.le_of_ble_eq_true rfl) rfl rfl (Nat.le_of_ble_eq_true rfl) (hJ _ _ _ _ (by decide)) (xm_le ml_11 rfl) rfl ?_
                refine xi_iload_n (pc' := 1) (x := a2) kc_11_0 rfl rfl ?_
                refine xi_iconst (pc' := 2) (v := 0) kc_11_1 rfl rfl ?_
                refine xi_iconst (pc' := 3) (v := 5) kc_11_2 rfl rfl ?_
                refine xi_static (mj := 12) (as := [.int a2, .int 0, .int 5]) (st1 := []) (lv0 := [(0, .int a2), (1, .int 0), (2, .int 5)]) kc_11_3 rfl rfl (Nat.le_of_ble_eq_true rfl) rfl rfl (Nat.le_of_ble_eq_true rfl) (hJ _ _ _ _ (by decide)) (xm_le ml_12 rfl) rfl ?_
                refine xi_iload_n (pc' := 1) (x := a2) kc_12_0 rfl rfl ?_
                refine xi_iload_n (pc' := 2) (x := 0) kc_12_1 rfl rfl ?_
                refine xi_cmf (pc' := 5) kc_12_2 rfl (xc_lt_f (X := a2.toInt) (Y := 0) rfl (by decide) (by omega)) ?_
                refine xi_iload_n (pc' := 6) (x := a2) kc_12_5 rfl rfl ?_
                refine xi_iload_n (pc' := 7) (x := 5) kc_12_6 rfl rfl ?_
                refine xi_cmf (pc' := 10) kc_12_7 rfl (xc_gt_f (X := a2.toInt) (Y := 5) rfl (by decide) (by omega)) ?_
                refine xi_iconst (pc' := 11) (v := 1) kc_12_10 rfl rfl ?_
                refine xi_goto (pc' := 15) kc_12_11 rfl ?_
                refine xi_ireturn kc_12_15 mr_12 rfl ?_
                show xw J ov 98 11 (6, [(0, .int a2)], [.int 1], hh5) _
                refine xi_ireturn kc_11_6 mr_11 rfl ?_
                show xw J ov 99 24 (16, [(0, .ref 115), (1, .int 11), (2, .int a2), (3, .int a3), (4, .int 1)], [.int 1], hh5) _
                refine xi_ift (pc' := 25) kc_24_16 rfl rfl ?_
                refine xi_iload_n (pc' := 26) (x := a3) kc_24_25 rfl rfl ?_
                refine xi_ift (pc' := 36) kc_24_26 rfl (xc_ge_t (X := a3.toInt) (Y := 0) rfl (by decide) (by omega)) ?_
                refine xi_iload_n (pc' := 37) (x := a3) kc_24_36 rfl rfl ?_
                refine xi_bipush (pc' := 39) (v := 100) kc_24_37 rfl rfl ?_
                refine xi_cmt (pc' := 49) kc_24_39 rfl (xc_le_t (X := a3.toInt) (Y := 100) rfl (by decide) (by omega)) ?_
                refine xi_aload_n (pc' := 50) (x := 115) kc_24_49 rfl rfl ?_
                refine xi_getfield (pc' := 53) (v := .ref 125) kc_24_50 rfl rfl rfl eh5.1 rfl ?_
                refine xi_iload_n (pc' := 54) (x := 11) kc_24_53 rfl rfl ?_
                refine xi_iaload (pc' := 55) (v := (-9)) kc_24_54 rfl ((eh5.2.1 125 (by decide)).trans ((eh4.2.1 125 (by decide)).trans ((eh3.2.1 125 (by decide)).trans ((eh2.2.1 125 (by decide)).trans ((eh1.2.1 125 (by decide)).trans (F 125 _ hl_125)))))) (by decide) rfl (xi_in (n := 12) (by decide) (by decide)) rfl ?_
                refine xi_ift (pc' := 62) kc_24_55 rfl rfl ?_
                refine xi_iconst (pc' := 63) (v := 0) kc_24_62 rfl rfl ?_
                refine xi_istore (pc' := 65) (lv' := [(5, .int 0), (0, .ref 115), (1, .int 11), (2, .int a2), (3, .int a3), (4, .int 1)]) kc_24_63 rfl rfl (xm_lt ml_24 rfl) ?_
                refine xi_aload_n (pc' := 66) (x := 115) kc_24_65 rfl rfl ?_
                refine xi_getfield (pc' := 69) (v := .ref 125) kc_24_66 rfl rfl rfl eh5.1 rfl ?_
                refine xi_iload_n (pc' := 70) (x := 11) kc_24_69 rfl rfl ?_
                refine xi_iload_n (pc' := 71) (x := a2) kc_24_70 rfl rfl ?_
                refine xi_iastore (pc' := 72) (x' := [(-9), (-9), (-9), (-9), (-9), (-9), (-9), (-9), (-9), (-9), (-9), a2]) kc_24_71 rfl ((eh5.2.1 125 (by decide)).trans ((eh4.2.1 125 (by decide)).trans ((eh3.2.1 125 (by decide)).trans ((eh2.2.1 125 (by decide)).trans ((eh1.2.1 125 (by decide)).trans (F 125 _ hl_125)))))) rfl (xi_in (n := 12) (by decide) (by decide)) rfl (fun hh6 eh6 => ?_)
                refine xi_aload_n (pc' := 73) (x := 115) kc_24_72 rfl rfl ?_
                refine xi_getfield (pc' := 76) (v := .ref 126) kc_24_73 rfl rfl rfl ((eh6.2.1 115 (by decide)).trans eh5.1) rfl ?_
                refine xi_iload_n (pc' := 77) (x := 11) kc_24_76 rfl rfl ?_
                refine xi_iload_n (pc' := 78) (x := a3) kc_24_77 rfl rfl ?_
                refine xi_iastore (pc' := 79) (x' := [0, 0, 0, 0, 0, 0, 0, 0, 0, 0, 0, a3]) kc_24_78 rfl ((eh6.2.1 126 (by decide)).trans ((eh5.2.1 126 (by decide)).trans ((eh4.2.1 126 (by decide)).trans ((eh3.2.1 126 (by decide)).trans ((eh2.2.1 126 (by decide)).trans ((eh1.2.1 126 (by decide)).trans (F 126 _ hl_126))))))) rfl (xi_in (n := 12) (by decide) (by decide)) rfl (fun hh7 eh7 => ?_)
                refine xi_aload_n (pc' := 80) (x := 115) kc_24_79 rfl rfl ?_
                refine xi_getfield (pc' := 83) (v := .ref 127) kc_24_80 rfl rfl rfl ((eh7.2.1 115 (by decide)).trans ((eh6.2.1 115 (by decide)).trans eh5.1)) rfl ?_
                refine xi_iload_n (pc' := 84) (x := 11) kc_24_83 rfl rfl ?_
                refine xi_iload (pc' := 86) (x := 1) kc_24_84 rfl rfl ?_
                refine xi_bastore (pc' := 87) (x' := [0, 0, 0, 0, 0, 0, 0, 0, 0, 0, 0, 1]) kc_24_86 rfl ((eh7.2.1 127 (by decide)).trans ((eh6.2.1 127 (by decide)).trans ((eh5.2.1 127 (by decide)).trans ((eh4.2.1 127 (by decide)).trans ((eh3.2.1 127 (by decide)).trans ((eh2.2.1 127 (by decide)).trans ((eh1.2.1 127 (by decide)).trans (F 127 _ hl_127)))))))) rfl (xi_in (n := 12) (by decide) (by decide)) rfl (fun hh8 eh8 => ?_)
                refine xi_aload_n (pc' := 88) (x := 115) kc_24_87 rfl rfl ?_
                refine xi_iconst (pc' := 89) (v := 0) kc_24_88 rfl rfl ?_
                refine xi_putfield (pc' := 92) (fs' := [.int 0, .int 0, .ref 116, .ref 117, .ref 118, .ref 119, .ref 120, .ref 121, .ref 122, .ref 123, .ref 124, .ref 125, .ref 126, .ref 127, .ref 128, .ref 129, .int 4, .ref 130, .int 0, .ref 131, .ref 132, .ref 133, .ref 134, .int 0, .ref 135, .ref 136, .ref 137, .ref 138, .ref 139, .ref 140, .ref 141, .ref 142, .int 0, .int 0, .int 0, .ref 143, .ref 144, .ref 145, .ref 146, .ref 147, .ref 148, .int 0, .ref 149, .ref 150, .ref 151, .int 0, .ref 152, .ref 153, .ref 154, .ref 155, .ref 156, .ref 157, .ref 158, .ref 159, .int 0, .ref 160, .int 0, .ref 161, .ref 162, .ref 163, .ref 164, .int 0, .ref 165, .ref 166]) kc_24_89 rfl rfl rfl ((eh8.2.1 115 (by decide)).trans ((eh7.2.1 115 (by decide)).trans ((eh6.2.1 115 (by decide)).trans eh5.1))) rfl rfl rfl (Nat.le_of_ble_eq_true rfl) rfl (fun hh9 eh9 => ?_)
                refine xi_iload (pc' := 94) (x := 0) kc_24_92 rfl rfl ?_
                refine xi_ift (pc' := 101) kc_24_94 rfl rfl ?_
                refine xi_iconst (pc' := 102) (v := 1) kc_24_101 rfl rfl ?_
                refine xi_ireturn kc_24_102 mr_24 rfl ?_
                show xw J ov 100 196 (473, [(4, .int 0), (3, .ref 167), (2, .ref 115), (1, .ref 0), (0, .ref 1000000)], [.int 1, .int 1], hh9) _
                refine xi_cmt (pc' := 1528) kc_196_473 rfl rfl ?_
                refine xi_iinc (pc' := 1531) (x := 0) (v := 6) (lv' := [(4, .int 6), (3, .ref 167), (2, .ref 115), (1, .ref 0), (0, .ref 1000000)]) kc_196_1528 rfl rfl rfl rfl (xm_lt ml_196 rfl) ?_
                refine xi_goto (pc' := 23) kc_196_1531 rfl ?_
                refine xi_iload (pc' := 25) (x := 6) kc_196_23 rfl rfl ?_
                refine xi_aload_n (pc' := 26) (x := 1000000) kc_196_25 rfl rfl ?_
                refine xi_arraylength (pc' := 27) (n := 6) (v := 6) kc_196_26 rfl (xl_lenO (by decide) hov0 rfl) rfl ?_
                refine xi_bipush (pc' := 29) (v := 6) kc_196_27 rfl rfl ?_
                refine xi_isub (pc' := 30) (v := 0) kc_196_29 rfl rfl ?_
                refine xi_cmt (pc' := 1534) kc_196_30 rfl rfl ?_
                refine xi_iconst (pc' := 1535) (v := 1) kc_196_1534 rfl rfl ?_
                refine xi_ireturn kc_196_1535 mr_196 rfl ?_
                refine ⟨rfl, ?_, ?_⟩
                · rw [eh9.2.2.1, eh8.2.2.1, eh7.2.2.1, eh6.2.2.1, eh5.2.2.1, eh4.2.2.1, eh3.2.2.1, eh2.2.2.1, eh1.2.2.1]; exact hn0
                · rw [eh9.2.2.2, eh8.2.2.2, eh7.2.2.2, eh6.2.2.2, eh5.2.2.2, eh4.2.2.2, eh3.2.2.2, eh2.2.2.2, eh1.2.2.2]; exact hz0
              · refine xi_cmf (pc' := 37) kc_104_34 rfl (xc_le_f (X := a3.toInt) (Y := 100) rfl (by decide) (by omega)) ?_
                refine xi_aload_n (pc' := 38) (x := 0) kc_104_37 rfl rfl ?_
                refine xi_bipush (pc' := 40) (v := (-6)) kc_104_38 rfl rfl ?_
                refine xi_virtual (mj := 91) (as := [.int (-6)]) (st1 := []) (lv0 := [(0, .ref 0), (1, .int (-6))]) kc_104_40 rfl rfl rfl rfl rfl (F 0 _ hl_0) (Nat.le_of_ble_eq_true rfl) (hJ _ _ _ _ (by decide)) (xm_le ml_91 rfl) rfl ?_
                refine xi_iload_n (pc' := 1) (x := (-6)) kc_91_0 rfl rfl ?_
                refine xi_ineg (pc' := 2) (v := 6) kc_91_1 rfl rfl ?_
                refine xi_istore_n (pc' := 3) (lv' := [(2, .int 6), (0, .ref 0), (1, .int (-6))]) kc_91_2 rfl rfl (xm_lt ml_91 rfl) ?_
                refine xi_iload_n (pc' := 4) (x := 6) kc_91_3 rfl rfl ?_
                refine xi_iff (pc' := 7) kc_91_4 rfl rfl ?_
                refine xi_iload_n (pc' := 8) (x := 6) kc_91_7 rfl rfl ?_
                refine xi_aload_n (pc' := 9) (x := 0) kc_91_8 rfl rfl ?_
                refine xi_getfield (pc' := 12) (v := .ref 94) kc_91_9 rfl rfl rfl (F 0 _ hl_0) rfl ?_
                refine xi_arraylength (pc' := 13) (n := 7) (v := 7) kc_91_12 rfl (xl_lenI (by decide) (by decide) (F 94 _ hl_94) (by simp only [List.length_replicate, List.length_cons, List.length_nil])) rfl ?_
                refine xi_cmf (pc' := 16) kc_91_13 rfl rfl ?_
                refine xi_aload_n (pc' := 17) (x := 0) kc_91_16 rfl rfl ?_
                refine xi_getfield (pc' := 20) (v := .ref 94) kc_91_17 rfl rfl rfl (F 0 _ hl_0) rfl ?_
                refine xi_iload_n (pc' := 21) (x := 6) kc_91_20 rfl rfl ?_
                refine xi_dup2 (pc' := 22) kc_91_21 rfl ⟨rfl, rfl⟩ ?_
                refine xi_iaload (pc' := 23) (v := 0) kc_91_22 rfl (F 94 _ hl_94) (by decide) rfl (xi_in (n := 7) (by decide) (by decide)) rfl ?_
                refine xi_iconst (pc' := 24) (v := 1) kc_91_23 rfl rfl ?_
                refine xi_iadd (pc' := 25) (v := 1) kc_91_24 rfl rfl ?_
                refine xi_iastore (pc' := 26) (x' := [0, 0, 0, 0, 0, 0, 1]) kc_91_25 rfl (F 94 _ hl_94) rfl (xi_in (n := 7) (by decide) (by decide)) rfl (fun hh1 eh1 => ?_)
                refine xi_iload_n (pc' := 27) (x := (-6)) kc_91_26 rfl rfl ?_
                refine xi_ireturn kc_91_27 mr_91 rfl ?_
                show xw J ov 99 104 (43, [(0, .ref 0), (1, .int a1), (2, .int a2), (3, .int a3), (4, .int 1)], [.int (-6)], hh1) _
                refine xi_ireturn kc_104_43 mr_104 rfl ?_
                show xw J ov 100 196 (437, [(4, .int 0), (3, .ref 167), (2, .ref 115), (1, .ref 0), (0, .ref 1000000)], [.int (-6)], hh1) _
                refine xi_aload_n (pc' := 438) (x := 115) kc_196_437 rfl rfl ?_
                refine xi_aload_n (pc' := 439) (x := 1000000) kc_196_438 rfl rfl ?_
                refine xi_iload (pc' := 441) (x := 0) kc_196_439 rfl rfl ?_
                refine xi_iconst (pc' := 442) (v := 1) kc_196_441 rfl rfl ?_
                refine xi_iadd (pc' := 443) (v := 1) kc_196_442 rfl rfl ?_
                refine xi_ialoadO (pc' := 444) (v := a1) kc_196_443 rfl (by decide) hov0 (xi_in (n := 6) (by decide) (by decide)) rfl ?_
                refine xi_aload_n (pc' := 445) (x := 1000000) kc_196_444 rfl rfl ?_
                refine xi_iload (pc' := 447) (x := 0) kc_196_445 rfl rfl ?_
                refine xi_iconst (pc' := 448) (v := 2) kc_196_447 rfl rfl ?_
                refine xi_iadd (pc' := 449) (v := 2) kc_196_448 rfl rfl ?_
                refine xi_ialoadO (pc' := 450) (v := a2) kc_196_449 rfl (by decide) hov0 (xi_in (n := 6) (by decide) (by decide)) rfl ?_
                refine xi_aload_n (pc' := 451) (x := 1000000) kc_196_450 rfl rfl ?_
                refine xi_iload (pc' := 453) (x := 0) kc_196_451 rfl rfl ?_
                refine xi_iconst (pc' := 454) (v := 3) kc_196_453 rfl rfl ?_
                refine xi_iadd (pc' := 455) (v := 3) kc_196_454 rfl rfl ?_
                refine xi_ialoadO (pc' := 456) (v := a3) kc_196_455 rfl (by decide) hov0 (xi_in (n := 6) (by decide) (by decide)) rfl ?_
                refine xi_aload_n (pc' := 457) (x := 1000000) kc_196_456 rfl rfl ?_
                refine xi_iload (pc' := 459) (x := 0) kc_196_457 rfl rfl ?_
                refine xi_iconst (pc' := 460) (v := 4) kc_196_459 rfl rfl ?_
                refine xi_iadd (pc' := 461) (v := 4) kc_196_460 rfl rfl ?_
                refine xi_ialoadO (pc' := 462) (v := a4) kc_196_461 rfl (by decide) hov0 (xi_in (n := 6) (by decide) (by decide)) rfl ?_
                refine xi_iff (pc' := 465) kc_196_462 rfl (xc_eq_f (X := a4.toInt) (Y := 0) rfl (by decide) (by omega)) ?_
                refine xi_iconst (pc' := 466) (v := 1) kc_196_465 rfl rfl ?_
                refine xi_goto (pc' := 470) kc_196_466 rfl ?_
                refine xi_virtual (mj := 24) (as := [.int a1, .int a2, .int a3, .int 1]) (st1 := [.int (-6)]) (lv0 := [(0, .ref 115), (1, .int a1), (2, .int a2), (3, .int a3), (4, .int 1)]) kc_196_470 rfl rfl rfl rfl rfl ((eh1.2.1 115 (by decide)).trans (F 115 _ hl_115)) (Nat.le_of_ble_eq_true rfl) (hJ _ _ _ _ (by decide)) (xm_le ml_24 rfl) rfl ?_
                refine xi_aload_n (pc' := 1) (x := 115) kc_24_0 rfl rfl ?_
                refine xi_iconst (pc' := 2) (v := 0) kc_24_1 rfl rfl ?_
                refine xi_putfield (pc' := 5) (fs' := [.int 0, .int 0, .ref 116, .ref 117, .ref 118, .ref 119, .ref 120, .ref 121, .ref 122, .ref 123, .ref 124, .ref 125, .ref 126, .ref 127, .ref 128, .ref 129, .int 4, .ref 130, .int 0, .ref 131, .ref 132, .ref 133, .ref 134, .int 0, .ref 135, .ref 136, .ref 137, .ref 138, .ref 139, .ref 140, .ref 141, .ref 142, .int 0, .int 0, .int 0, .ref 143, .ref 144, .ref 145, .ref 146, .ref 147, .ref 148, .int 0, .ref 149, .ref 150, .ref 151, .int 0, .ref 152, .ref 153, .ref 154, .ref 155, .ref 156, .ref 157, .ref 158, .ref 159, .int 0, .ref 160, .int 0, .ref 161, .ref 162, .ref 163, .ref 164, .int 0, .ref 165, .ref 166]) kc_24_2 rfl rfl rfl ((eh1.2.1 115 (by decide)).trans (F 115 _ hl_115)) rfl rfl rfl (Nat.le_of_ble_eq_true rfl) rfl (fun hh2 eh2 => ?_)
                refine xi_iload_n (pc' := 6) (x := a1) kc_24_5 rfl rfl ?_
                refine xi_static (mj := 25) (as := [.int a1]) (st1 := []) (lv0 := [(0, .int a1)]) kc_24_6 rfl rfl (Nat.le_of_ble_eq_true rfl) rfl rfl (Nat.le_of_ble_eq_true rfl) (hJ _ _ _ _ (by decide)) (xm_le ml_25 rfl) rfl ?_
                refine xi_iload_n (pc' := 1) (x := a1) kc_25_0 rfl rfl ?_
                refine xi_iconst (pc' := 2) (v := 0) kc_25_1 rfl rfl ?_
                refine xi_bipush (pc' := 4) (v := 11) kc_25_2 rfl rfl ?_
                refine xi_static (mj := 12) (as := [.int a1, .int 0, .int 11]) (st1 := []) (lv0 := [(0, .int a1), (1, .int 0), (2, .int 11)]) kc_25_4 rfl rfl (Nat.le_of_ble_eq_true rfl) rfl rfl (Nat.le_of_ble_eq_true rfl) (hJ _ _ _ _ (by decide)) (xm_le ml_12 rfl) rfl ?_
                refine xi_iload_n (pc' := 1) (x := a1) kc_12_0 rfl rfl ?_
                refine xi_iload_n (pc' := 2) (x := 0) kc_12_1 rfl rfl ?_
                refine xi_cmf (pc' := 5) kc_12_2 rfl (xc_lt_f (X := a1.toInt) (Y := 0) rfl (by decide) (by omega)) ?_
                refine xi_iload_n (pc' := 6) (x := a1) kc_12_5 rfl rfl ?_
                refine xi_iload_n (pc' := 7) (x := 11) kc_12_6 rfl rfl ?_
                refine xi_cmf (pc' := 10) kc_12_7 rfl (xc_gt_f (X := a1.toInt) (Y := 11) rfl (by decide) (by omega)) ?_
                refine xi_iconst (pc' := 11) (v := 1) kc_12_10 rfl rfl ?_
                refine xi_goto (pc' := 15) kc_12_11 rfl ?_
                refine xi_ireturn kc_12_15 mr_12 rfl ?_
                show xw J ov 98 25 (7, [(0, .int a1)], [.int 1], hh2) _
                refine xi_ireturn kc_25_7 mr_25 rfl ?_
                show xw J ov 99 24 (9, [(0, .ref 115), (1, .int a1), (2, .int a2), (3, .int a3), (4, .int 1)], [.int 1], hh2) _
                refine xi_iff (pc' := 12) kc_24_9 rfl rfl ?_
                refine xi_iload_n (pc' := 13) (x := a2) kc_24_12 rfl rfl ?_
                refine xi_static (mj := 11) (as := [.int a2]) (st1 := []) (lv0 := [(0, .int a2)]) kc_24_13 rfl rfl (Nat.le_of_ble_eq_true rfl) rfl rfl (Nat.le_of_ble_eq_true rfl) (hJ _ _ _ _ (by decide)) (xm_le ml_11 rfl) rfl ?_
                refine xi_iload_n (pc' := 1) (x := a2) kc_11_0 rfl rfl ?_
                refine xi_iconst (pc' := 2) (v := 0) kc_11_1 rfl rfl ?_
                refine xi_iconst (pc' := 3) (v := 5) kc_11_2 rfl rfl ?_
                refine xi_static (mj := 12) (as := [.int a2, .int 0, .int 5]) (st1 := []) (lv0 := [(0, .int a2), (1, .int 0), (2, .int 5)]) kc_11_3 rfl rfl (Nat.le_of_ble_eq_true rfl) rfl rfl (Nat.le_of_ble_eq_true rfl) (hJ _ _ _ _ (by decide)) (xm_le ml_12 rfl) rfl ?_
                refine xi_iload_n (pc' := 1) (x := a2) kc_12_0 rfl rfl ?_
                refine xi_iload_n (pc' := 2) (x := 0) kc_12_1 rfl rfl ?_
                refine xi_cmf (pc' := 5) kc_12_2 rfl (xc_lt_f (X := a2.toInt) (Y := 0) rfl (by decide) (by omega)) ?_
                refine xi_iload_n (pc' := 6) (x := a2) kc_12_5 rfl rfl ?_
                refine xi_iload_n (pc' := 7) (x := 5) kc_12_6 rfl rfl ?_
                refine xi_cmf (pc' := 10) kc_12_7 rfl (xc_gt_f (X := a2.toInt) (Y := 5) rfl (by decide) (by omega)) ?_
                refine xi_iconst (pc' := 11) (v := 1) kc_12_10 rfl rfl ?_
                refine xi_goto (pc' := 15) kc_12_11 rfl ?_
                refine xi_ireturn kc_12_15 mr_12 rfl ?_
                show xw J ov 98 11 (6, [(0, .int a2)], [.int 1], hh2) _
                refine xi_ireturn kc_11_6 mr_11 rfl ?_
                show xw J ov 99 24 (16, [(0, .ref 115), (1, .int a1), (2, .int a2), (3, .int a3), (4, .int 1)], [.int 1], hh2) _
                refine xi_ift (pc' := 25) kc_24_16 rfl rfl ?_
                refine xi_iload_n (pc' := 26) (x := a3) kc_24_25 rfl rfl ?_
                refine xi_ift (pc' := 36) kc_24_26 rfl (xc_ge_t (X := a3.toInt) (Y := 0) rfl (by decide) (by omega)) ?_
                refine xi_iload_n (pc' := 37) (x := a3) kc_24_36 rfl rfl ?_
                refine xi_bipush (pc' := 39) (v := 100) kc_24_37 rfl rfl ?_
                refine xi_cmf (pc' := 42) kc_24_39 rfl (xc_le_f (X := a3.toInt) (Y := 100) rfl (by decide) (by omega)) ?_
                refine xi_aload_n (pc' := 43) (x := 115) kc_24_42 rfl rfl ?_
                refine xi_bipush (pc' := 45) (v := (-6)) kc_24_43 rfl rfl ?_
                refine xi_virtual (mj := 13) (as := [.int (-6)]) (st1 := []) (lv0 := [(0, .ref 115), (1, .int (-6))]) kc_24_45 rfl rfl rfl rfl rfl eh2.1 (Nat.le_of_ble_eq_true rfl) (hJ _ _ _ _ (by decide)) (xm_le ml_13 rfl) rfl ?_
                refine xi_aload_n (pc' := 1) (x := 115) kc_13_0 rfl rfl ?_
                refine xi_getfield (pc' := 4) (v := .ref 140) kc_13_1 rfl rfl rfl eh2.1 rfl ?_
                refine xi_iload_n (pc' := 5) (x := (-6)) kc_13_4 rfl rfl ?_
                refine xi_ineg (pc' := 6) (v := 6) kc_13_5 rfl rfl ?_
                refine xi_dup2 (pc' := 7) kc_13_6 rfl ⟨rfl, rfl⟩ ?_
                refine xi_iaload (pc' := 8) (v := 0) kc_13_7 rfl ((eh2.2.1 140 (by decide)).trans ((eh1.2.1 140 (by decide)).trans (F 140 _ hl_140))) (by decide) rfl (xi_in (n := 7) (by decide) (by decide)) rfl ?_
                refine xi_iconst (pc' := 9) (v := 1) kc_13_8 rfl rfl ?_
                refine xi_iadd (pc' := 10) (v := 1) kc_13_9 rfl rfl ?_
                refine xi_iastore (pc' := 11) (x' := [0, 0, 0, 0, 0, 0, 1]) kc_13_10 rfl ((eh2.2.1 140 (by decide)).trans ((eh1.2.1 140 (by decide)).trans (F 140 _ hl_140))) rfl (xi_in (n := 7) (by decide) (by decide)) rfl (fun hh3 eh3 => ?_)
                refine xi_iload_n (pc' := 12) (x := (-6)) kc_13_11 rfl rfl ?_
                refine xi_ireturn kc_13_12 mr_13 rfl ?_
                show xw J ov 99 24 (48, [(0, .ref 115), (1, .int a1), (2, .int a2), (3, .int a3), (4, .int 1)], [.int (-6)], hh3) _
                refine xi_ireturn kc_24_48 mr_24 rfl ?_
                show xw J ov 100 196 (473, [(4, .int 0), (3, .ref 167), (2, .ref 115), (1, .ref 0), (0, .ref 1000000)], [.int (-6), .int (-6)], hh3) _
                refine xi_cmt (pc' := 1528) kc_196_473 rfl rfl ?_
                refine xi_iinc (pc' := 1531) (x := 0) (v := 6) (lv' := [(4, .int 6), (3, .ref 167), (2, .ref 115), (1, .ref 0), (0, .ref 1000000)]) kc_196_1528 rfl rfl rfl rfl (xm_lt ml_196 rfl) ?_
                refine xi_goto (pc' := 23) kc_196_1531 rfl ?_
                refine xi_iload (pc' := 25) (x := 6) kc_196_23 rfl rfl ?_
                refine xi_aload_n (pc' := 26) (x := 1000000) kc_196_25 rfl rfl ?_
                refine xi_arraylength (pc' := 27) (n := 6) (v := 6) kc_196_26 rfl (xl_lenO (by decide) hov0 rfl) rfl ?_
                refine xi_bipush (pc' := 29) (v := 6) kc_196_27 rfl rfl ?_
                refine xi_isub (pc' := 30) (v := 0) kc_196_29 rfl rfl ?_
                refine xi_cmt (pc' := 1534) kc_196_30 rfl rfl ?_
                refine xi_iconst (pc' := 1535) (v := 1) kc_196_1534 rfl rfl ?_
                refine xi_ireturn kc_196_1535 mr_196 rfl ?_
                refine ⟨rfl, ?_, ?_⟩
                · rw [eh3.2.2.1, eh2.2.2.1, eh1.2.2.1]; exact hn0
                · rw [eh3.2.2.2, eh2.2.2.2, eh1.2.2.2]; exact hz0
            · refine xi_iff (pc' := 24) kc_104_21 rfl (xc_ge_f (X := a3.toInt) (Y := 0) rfl (by decide) (by omega)) ?_
              refine xi_aload_n (pc' := 25) (x := 0) kc_104_24 rfl rfl ?_
              refine xi_bipush (pc' := 27) (v := (-4)) kc_104_25 rfl rfl ?_
              refine xi_virtual (mj := 91) (as := [.int (-4)]) (st1 := []) (lv0 := [(0, .ref 0), (1, .int (-4))]) kc_104_27 rfl rfl rfl rfl rfl (F 0 _ hl_0) (Nat.le_of_ble_eq_true rfl) (hJ _ _ _ _ (by decide)) (xm_le ml_91 rfl) rfl ?_
              refine xi_iload_n (pc' := 1) (x := (-4)) kc_91_0 rfl rfl ?_
              refine xi_ineg (pc' := 2) (v := 4) kc_91_1 rfl rfl ?_
              refine xi_istore_n (pc' := 3) (lv' := [(2, .int 4), (0, .ref 0), (1, .int (-4))]) kc_91_2 rfl rfl (xm_lt ml_91 rfl) ?_
              refine xi_iload_n (pc' := 4) (x := 4) kc_91_3 rfl rfl ?_
              refine xi_iff (pc' := 7) kc_91_4 rfl rfl ?_
              refine xi_iload_n (pc' := 8) (x := 4) kc_91_7 rfl rfl ?_
              refine xi_aload_n (pc' := 9) (x := 0) kc_91_8 rfl rfl ?_
              refine xi_getfield (pc' := 12) (v := .ref 94) kc_91_9 rfl rfl rfl (F 0 _ hl_0) rfl ?_
              refine xi_arraylength (pc' := 13) (n := 7) (v := 7) kc_91_12 rfl (xl_lenI (by decide) (by decide) (F 94 _ hl_94) (by simp only [List.length_replicate, List.length_cons, List.length_nil])) rfl ?_
              refine xi_cmf (pc' := 16) kc_91_13 rfl rfl ?_
              refine xi_aload_n (pc' := 17) (x := 0) kc_91_16 rfl rfl ?_
              refine xi_getfield (pc' := 20) (v := .ref 94) kc_91_17 rfl rfl rfl (F 0 _ hl_0) rfl ?_
              refine xi_iload_n (pc' := 21) (x := 4) kc_91_20 rfl rfl ?_
              refine xi_dup2 (pc' := 22) kc_91_21 rfl ⟨rfl, rfl⟩ ?_
              refine xi_iaload (pc' := 23) (v := 0) kc_91_22 rfl (F 94 _ hl_94) (by decide) rfl (xi_in (n := 7) (by decide) (by decide)) rfl ?_
              refine xi_iconst (pc' := 24) (v := 1) kc_91_23 rfl rfl ?_
              refine xi_iadd (pc' := 25) (v := 1) kc_91_24 rfl rfl ?_
              refine xi_iastore (pc' := 26) (x' := [0, 0, 0, 0, 1, 0, 0]) kc_91_25 rfl (F 94 _ hl_94) rfl (xi_in (n := 7) (by decide) (by decide)) rfl (fun hh1 eh1 => ?_)
              refine xi_iload_n (pc' := 27) (x := (-4)) kc_91_26 rfl rfl ?_
              refine xi_ireturn kc_91_27 mr_91 rfl ?_
              show xw J ov 99 104 (30, [(0, .ref 0), (1, .int a1), (2, .int a2), (3, .int a3), (4, .int 1)], [.int (-4)], hh1) _
              refine xi_ireturn kc_104_30 mr_104 rfl ?_
              show xw J ov 100 196 (437, [(4, .int 0), (3, .ref 167), (2, .ref 115), (1, .ref 0), (0, .ref 1000000)], [.int (-4)], hh1) _
              refine xi_aload_n (pc' := 438) (x := 115) kc_196_437 rfl rfl ?_
              refine xi_aload_n (pc' := 439) (x := 1000000) kc_196_438 rfl rfl ?_
              refine xi_iload (pc' := 441) (x := 0) kc_196_439 rfl rfl ?_
              refine xi_iconst (pc' := 442) (v := 1) kc_196_441 rfl rfl ?_
              refine xi_iadd (pc' := 443) (v := 1) kc_196_442 rfl rfl ?_
              refine xi_ialoadO (pc' := 444) (v := a1) kc_196_443 rfl (by decide) hov0 (xi_in (n := 6) (by decide) (by decide)) rfl ?_
              refine xi_aload_n (pc' := 445) (x := 1000000) kc_196_444 rfl rfl ?_
              refine xi_iload (pc' := 447) (x := 0) kc_196_445 rfl rfl ?_
              refine xi_iconst (pc' := 448) (v := 2) kc_196_447 rfl rfl ?_
              refine xi_iadd (pc' := 449) (v := 2) kc_196_448 rfl rfl ?_
              refine xi_ialoadO (pc' := 450) (v := a2) kc_196_449 rfl (by decide) hov0 (xi_in (n := 6) (by decide) (by decide)) rfl ?_
              refine xi_aload_n (pc' := 451) (x := 1000000) kc_196_450 rfl rfl ?_
              refine xi_iload (pc' := 453) (x := 0) kc_196_451 rfl rfl ?_
              refine xi_iconst (pc' := 454) (v := 3) kc_196_453 rfl rfl ?_
              refine xi_iadd (pc' := 455) (v := 3) kc_196_454 rfl rfl ?_
              refine xi_ialoadO (pc' := 456) (v := a3) kc_196_455 rfl (by decide) hov0 (xi_in (n := 6) (by decide) (by decide)) rfl ?_
              refine xi_aload_n (pc' := 457) (x := 1000000) kc_196_456 rfl rfl ?_
              refine xi_iload (pc' := 459) (x := 0) kc_196_457 rfl rfl ?_
              refine xi_iconst (pc' := 460) (v := 4) kc_196_459 rfl rfl ?_
              refine xi_iadd (pc' := 461) (v := 4) kc_196_460 rfl rfl ?_
              refine xi_ialoadO (pc' := 462) (v := a4) kc_196_461 rfl (by decide) hov0 (xi_in (n := 6) (by decide) (by decide)) rfl ?_
              refine xi_iff (pc' := 465) kc_196_462 rfl (xc_eq_f (X := a4.toInt) (Y := 0) rfl (by decide) (by omega)) ?_
              refine xi_iconst (pc' := 466) (v := 1) kc_196_465 rfl rfl ?_
              refine xi_goto (pc' := 470) kc_196_466 rfl ?_
              refine xi_virtual (mj := 24) (as := [.int a1, .int a2, .int a3, .int 1]) (st1 := [.int (-4)]) (lv0 := [(0, .ref 115), (1, .int a1), (2, .int a2), (3, .int a3), (4, .int 1)]) kc_196_470 rfl rfl rfl rfl rfl ((eh1.2.1 115 (by decide)).trans (F 115 _ hl_115)) (Nat.le_of_ble_eq_true rfl) (hJ _ _ _ _ (by decide)) (xm_le ml_24 rfl) rfl ?_
              refine xi_aload_n (pc' := 1) (x := 115) kc_24_0 rfl rfl ?_
              refine xi_iconst (pc' := 2) (v := 0) kc_24_1 rfl rfl ?_
              refine xi_putfield (pc' := 5) (fs' := [.int 0, .int 0, .ref 116, .ref 117, .ref 118, .ref 119, .ref 120, .ref 121, .ref 122, .ref 123, .ref 124, .ref 125, .ref 126, .ref 127, .ref 128, .ref 129, .int 4, .ref 130, .int 0, .ref 131, .ref 132, .ref 133, .ref 134, .int 0, .ref 135, .ref 136, .ref 137, .ref 138, .ref 139, .ref 140, .ref 141, .ref 142, .int 0, .int 0, .int 0, .ref 143, .ref 144, .ref 145, .ref 146, .ref 147, .ref 148, .int 0, .ref 149, .ref 150, .ref 151, .int 0, .ref 152, .ref 153, .ref 154, .ref 155, .ref 156, .ref 157, .ref 158, .ref 159, .int 0, .ref 160, .int 0, .ref 161, .ref 162, .ref 163, .ref 164, .int 0, .ref 165, .ref 166]) kc_24_2 rfl rfl rfl ((eh1.2.1 115 (by decide)).trans (F 115 _ hl_115)) rfl rfl rfl (Nat.le_of_ble_eq_true rfl) rfl (fun hh2 eh2 => ?_)
              refine xi_iload_n (pc' := 6) (x := a1) kc_24_5 rfl rfl ?_
              refine xi_static (mj := 25) (as := [.int a1]) (st1 := []) (lv0 := [(0, .int a1)]) kc_24_6 rfl rfl (Nat.le_of_ble_eq_true rfl) rfl rfl (Nat.le_of_ble_eq_true rfl) (hJ _ _ _ _ (by decide)) (xm_le ml_25 rfl) rfl ?_
              refine xi_iload_n (pc' := 1) (x := a1) kc_25_0 rfl rfl ?_
              refine xi_iconst (pc' := 2) (v := 0) kc_25_1 rfl rfl ?_
              refine xi_bipush (pc' := 4) (v := 11) kc_25_2 rfl rfl ?_
              refine xi_static (mj := 12) (as := [.int a1, .int 0, .int 11]) (st1 := []) (lv0 := [(0, .int a1), (1, .int 0), (2, .int 11)]) kc_25_4 rfl rfl (Nat.le_of_ble_eq_true rfl) rfl rfl (Nat.le_of_ble_eq_true rfl) (hJ _ _ _ _ (by decide)) (xm_le ml_12 rfl) rfl ?_
              refine xi_iload_n (pc' := 1) (x := a1) kc_12_0 rfl rfl ?_
              refine xi_iload_n (pc' := 2) (x := 0) kc_12_1 rfl rfl ?_
              refine xi_cmf (pc' := 5) kc_12_2 rfl (xc_lt_f (X := a1.toInt) (Y := 0) rfl (by decide) (by omega)) ?_
              refine xi_iload_n (pc' := 6) (x := a1) kc_12_5 rfl rfl ?_
              refine xi_iload_n (pc' := 7) (x := 11) kc_12_6 rfl rfl ?_
              refine xi_cmf (pc' := 10) kc_12_7 rfl (xc_gt_f (X := a1.toInt) (Y := 11) rfl (by decide) (by omega)) ?_
              refine xi_iconst (pc' := 11) (v := 1) kc_12_10 rfl rfl ?_
              refine xi_goto (pc' := 15) kc_12_11 rfl ?_
              refine xi_ireturn kc_12_15 mr_12 rfl ?_
              show xw J ov 98 25 (7, [(0, .int a1)], [.int 1], hh2) _
              refine xi_ireturn kc_25_7 mr_25 rfl ?_
              show xw J ov 99 24 (9, [(0, .ref 115), (1, .int a1), (2, .int a2), (3, .int a3), (4, .int 1)], [.int 1], hh2) _
              refine xi_iff (pc' := 12) kc_24_9 rfl rfl ?_
              refine xi_iload_n (pc' := 13) (x := a2) kc_24_12 rfl rfl ?_
              refine xi_static (mj := 11) (as := [.int a2]) (st1 := []) (lv0 := [(0, .int a2)]) kc_24_13 rfl rfl (Nat.le_of_ble_eq_true rfl) rfl rfl (Nat.le_of_ble_eq_true rfl) (hJ _ _ _ _ (by decide)) (xm_le ml_11 rfl) rfl ?_
              refine xi_iload_n (pc' := 1) (x := a2) kc_11_0 rfl rfl ?_
              refine xi_iconst (pc' := 2) (v := 0) kc_11_1 rfl rfl ?_
              refine xi_iconst (pc' := 3) (v := 5) kc_11_2 rfl rfl ?_
              refine xi_static (mj := 12) (as := [.int a2, .int 0, .int 5]) (st1 := []) (lv0 := [(0, .int a2), (1, .int 0), (2, .int 5)]) kc_11_3 rfl rfl (Nat.le_of_ble_eq_true rfl) rfl rfl (Nat.le_of_ble_eq_true rfl) (hJ _ _ _ _ (by decide)) (xm_le ml_12 rfl) rfl ?_
              refine xi_iload_n (pc' := 1) (x := a2) kc_12_0 rfl rfl ?_
              refine xi_iload_n (pc' := 2) (x := 0) kc_12_1 rfl rfl ?_
              refine xi_cmf (pc' := 5) kc_12_2 rfl (xc_lt_f (X := a2.toInt) (Y := 0) rfl (by decide) (by omega)) ?_
              refine xi_iload_n (pc' := 6) (x := a2) kc_12_5 rfl rfl ?_
              refine xi_iload_n (pc' := 7) (x := 5) kc_12_6 rfl rfl ?_
              refine xi_cmf (pc' := 10) kc_12_7 rfl (xc_gt_f (X := a2.toInt) (Y := 5) rfl (by decide) (by omega)) ?_
              refine xi_iconst (pc' := 11) (v := 1) kc_12_10 rfl rfl ?_
              refine xi_goto (pc' := 15) kc_12_11 rfl ?_
              refine xi_ireturn kc_12_15 mr_12 rfl ?_
              show xw J ov 98 11 (6, [(0, .int a2)], [.int 1], hh2) _
              refine xi_ireturn kc_11_6 mr_11 rfl ?_
              show xw J ov 99 24 (16, [(0, .ref 115), (1, .int a1), (2, .int a2), (3, .int a3), (4, .int 1)], [.int 1], hh2) _
              refine xi_ift (pc' := 25) kc_24_16 rfl rfl ?_
              refine xi_iload_n (pc' := 26) (x := a3) kc_24_25 rfl rfl ?_
              refine xi_iff (pc' := 29) kc_24_26 rfl (xc_ge_f (X := a3.toInt) (Y := 0) rfl (by decide) (by omega)) ?_
              refine xi_aload_n (pc' := 30) (x := 115) kc_24_29 rfl rfl ?_
              refine xi_bipush (pc' := 32) (v := (-4)) kc_24_30 rfl rfl ?_
              refine xi_virtual (mj := 13) (as := [.int (-4)]) (st1 := []) (lv0 := [(0, .ref 115), (1, .int (-4))]) kc_24_32 rfl rfl rfl rfl rfl eh2.1 (Nat.le_of_ble_eq_true rfl) (hJ _ _ _ _ (by decide)) (xm_le ml_13 rfl) rfl ?_
              refine xi_aload_n (pc' := 1) (x := 115) kc_13_0 rfl rfl ?_
              refine xi_getfield (pc' := 4) (v := .ref 140) kc_13_1 rfl rfl rfl eh2.1 rfl ?_
              refine xi_iload_n (pc' := 5) (x := (-4)) kc_13_4 rfl rfl ?_
              refine xi_ineg (pc' := 6) (v := 4) kc_13_5 rfl rfl ?_
              refine xi_dup2 (pc' := 7) kc_13_6 rfl ⟨rfl, rfl⟩ ?_
              refine xi_iaload (pc' := 8) (v := 0) kc_13_7 rfl ((eh2.2.1 140 (by decide)).trans ((eh1.2.1 140 (by decide)).trans (F 140 _ hl_140))) (by decide) rfl (xi_in (n := 7) (by decide) (by decide)) rfl ?_
              refine xi_iconst (pc' := 9) (v := 1) kc_13_8 rfl rfl ?_
              refine xi_iadd (pc' := 10) (v := 1) kc_13_9 rfl rfl ?_
              refine xi_iastore (pc' := 11) (x' := [0, 0, 0, 0, 1, 0, 0]) kc_13_10 rfl ((eh2.2.1 140 (by decide)).trans ((eh1.2.1 140 (by decide)).trans (F 140 _ hl_140))) rfl (xi_in (n := 7) (by decide) (by decide)) rfl (fun hh3 eh3 => ?_)
              refine xi_iload_n (pc' := 12) (x := (-4)) kc_13_11 rfl rfl ?_
              refine xi_ireturn kc_13_12 mr_13 rfl ?_
              show xw J ov 99 24 (35, [(0, .ref 115), (1, .int a1), (2, .int a2), (3, .int a3), (4, .int 1)], [.int (-4)], hh3) _
              refine xi_ireturn kc_24_35 mr_24 rfl ?_
              show xw J ov 100 196 (473, [(4, .int 0), (3, .ref 167), (2, .ref 115), (1, .ref 0), (0, .ref 1000000)], [.int (-4), .int (-4)], hh3) _
              refine xi_cmt (pc' := 1528) kc_196_473 rfl rfl ?_
              refine xi_iinc (pc' := 1531) (x := 0) (v := 6) (lv' := [(4, .int 6), (3, .ref 167), (2, .ref 115), (1, .ref 0), (0, .ref 1000000)]) kc_196_1528 rfl rfl rfl rfl (xm_lt ml_196 rfl) ?_
              refine xi_goto (pc' := 23) kc_196_1531 rfl ?_
              refine xi_iload (pc' := 25) (x := 6) kc_196_23 rfl rfl ?_
              refine xi_aload_n (pc' := 26) (x := 1000000) kc_196_25 rfl rfl ?_
              refine xi_arraylength (pc' := 27) (n := 6) (v := 6) kc_196_26 rfl (xl_lenO (by decide) hov0 rfl) rfl ?_
              refine xi_bipush (pc' := 29) (v := 6) kc_196_27 rfl rfl ?_
              refine xi_isub (pc' := 30) (v := 0) kc_196_29 rfl rfl ?_
              refine xi_cmt (pc' := 1534) kc_196_30 rfl rfl ?_
              refine xi_iconst (pc' := 1535) (v := 1) kc_196_1534 rfl rfl ?_
              refine xi_ireturn kc_196_1535 mr_196 rfl ?_
              refine ⟨rfl, ?_, ?_⟩
              · rw [eh3.2.2.1, eh2.2.2.1, eh1.2.2.1]; exact hn0
              · rw [eh3.2.2.2, eh2.2.2.2, eh1.2.2.2]; exact hz0
