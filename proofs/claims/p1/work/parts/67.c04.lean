set_option maxHeartbeats 8000000 in
theorem lc_4 {J : xe_J} {ov : List (List Int32)} (hJ : ∀ d mj as h, mj ≠ xe_loff → J d mj as h = none) {a0 a1 a2 a3 a4 a5 : Int32} (hov0 : ov[0]? = some [a0, a1, a2, a3, a4, a5]) (hov1 : ov[1]? = some [10, 0, 0, 0, 0, 0]) (hov2 : ov[2]? = some [99, 30, 50, 50, 1, 99999]) {h0 : xe_H} (F : xf_fr h0) (hn0 : h0.length ≤ 600002) (hz0 : xe_sz h0 ≤ 7302232) : xw J ov 100 196 (376, [(4, .int 0), (3, .ref 167), (2, .ref 115), (1, .ref 0), (0, .ref 1000000)], [], h0) xf_Q := by
  have rr1 := xc_rng a1
  have rr2 := xc_rng a2
  have rr3 := xc_rng a3
  have rr4 := xc_rng a4
  have rr5 := xc_rng a5
  refine xi_aload_n (pc' := 377) (x := 0) kc_196_376 rfl rfl ?_
  refine xi_aload_n (pc' := 378) (x := 1000000) kc_196_377 rfl rfl ?_
  refine xi_iload (pc' := 380) (x := 0) kc_196_378 rfl rfl ?_
  refine xi_iconst (pc' := 381) (v := 1) kc_196_380 rfl rfl ?_
  refine xi_iadd (pc' := 382) (v := 1) kc_196_381 rfl rfl ?_
  refine xi_ialoadO (pc' := 383) (v := a1) kc_196_382 rfl (by decide) hov0 (xi_in (n := 6) (by decide) (by decide)) rfl ?_
  refine xi_virtual (mj := 102) (as := [.int a1]) (st1 := []) (lv0 := [(0, .ref 0), (1, .int a1)]) kc_196_383 rfl rfl rfl rfl rfl (F 0 _ hl_0) (Nat.le_of_ble_eq_true rfl) (hJ _ _ _ _ (by decide)) (xm_le ml_102 rfl) rfl ?_
  refine xi_iload_n (pc' := 1) (x := a1) kc_102_0 rfl rfl ?_
  refine xi_bipush (pc' := 3) (v := (-20)) kc_102_1 rfl rfl ?_
  by_cases c1 : (-20) ≤ a1.toInt
  · refine xi_cmt (pc' := 13) kc_102_3 rfl (xc_ge_t (X := a1.toInt) (Y := (-20)) rfl (by decide) (by omega)) ?_
    refine xi_iload_n (pc' := 14) (x := a1) kc_102_13 rfl rfl ?_
    refine xi_bipush (pc' := 16) (v := 30) kc_102_14 rfl rfl ?_
    by_cases c2 : a1.toInt ≤ 30
    · refine xi_cmt (pc' := 26) kc_102_16 rfl (xc_le_t (X := a1.toInt) (Y := 30) rfl (by decide) (by omega)) ?_
      refine xi_iload_n (pc' := 27) (x := a1) kc_102_26 rfl rfl ?_
      refine xi_static (mj := 103) (as := [.int a1]) (st1 := []) (lv0 := [(0, .int a1)]) kc_102_27 rfl rfl (Nat.le_of_ble_eq_true rfl) rfl rfl (Nat.le_of_ble_eq_true rfl) (hJ _ _ _ _ (by decide)) (xm_le ml_103 rfl) rfl ?_
      refine xi_iload_n (pc' := 1) (x := a1) kc_103_0 rfl rfl ?_
      by_cases c3 : a1.toInt < 0
      · refine xi_ift (pc' := 17) kc_103_1 rfl (xc_lt_t (X := a1.toInt) (Y := 0) rfl (by decide) (by omega)) ?_
        refine xi_iconst (pc' := 18) (v := 5) kc_103_17 rfl rfl ?_
        refine xi_iload_n (pc' := 19) (x := a1) kc_103_18 rfl rfl ?_
        refine xi_static (mj := 2) (as := [.int a1]) (st1 := [.int 5]) (lv0 := [(0, .int a1)]) kc_103_19 rfl rfl (Nat.le_of_ble_eq_true rfl) rfl rfl (Nat.le_of_ble_eq_true rfl) (hJ _ _ _ _ (by decide)) (xm_le ml_2 rfl) rfl ?_
        refine xi_iload_n (pc' := 1) (x := a1) kc_2_0 rfl rfl ?_
        refine xi_iff (pc' := 4) kc_2_1 rfl (xc_ge_f (X := a1.toInt) (Y := 0) rfl (by decide) (by omega)) ?_
        refine xi_iload_n (pc' := 5) (x := a1) kc_2_4 rfl rfl ?_
        by_cases c4 : a1.toInt = (-20)
        · have qa1 : a1 = (-20) := xc_of (Eq.trans (by omega) (show ((-20) : Int) = ((-20) : Int32).toInt by decide))
          subst qa1
          refine xi_ineg (pc' := 6) (v := 20) kc_2_5 rfl rfl ?_
          refine xi_goto (pc' := 10) kc_2_6 rfl ?_
          refine xi_ireturn kc_2_10 mr_2 rfl ?_
          show xw J ov 98 103 (22, [(0, .int (-20))], [.int 20, .int 5], h0) _
          refine xi_iconst (pc' := 23) (v := 5) kc_103_22 rfl rfl ?_
          refine xi_idiv (pc' := 24) (v := 4) kc_103_23 rfl rfl (by decide) ?_
          refine xi_isub (pc' := 25) (v := 1) kc_103_24 rfl rfl ?_
          refine xi_istore_n (pc' := 26) (lv' := [(1, .int 1), (0, .int (-20))]) kc_103_25 rfl rfl (xm_lt ml_103 rfl) ?_
          refine xi_iload_n (pc' := 27) (x := 1) kc_103_26 rfl rfl ?_
          refine xi_iconst (pc' := 28) (v := 1) kc_103_27 rfl rfl ?_
          refine xi_cmt (pc' := 35) kc_103_28 rfl rfl ?_
          refine xi_iload_n (pc' := 36) (x := 1) kc_103_35 rfl rfl ?_
          refine xi_ireturn kc_103_36 mr_103 rfl ?_
          show xw J ov 99 102 (30, [(0, .ref 0), (1, .int (-20))], [.int 1], h0) _
          refine xi_ireturn kc_102_30 mr_102 rfl ?_
          show xw J ov 100 196 (386, [(4, .int 0), (3, .ref 167), (2, .ref 115), (1, .ref 0), (0, .ref 1000000)], [.int 1], h0) _
          refine xi_aload_n (pc' := 387) (x := 115) kc_196_386 rfl rfl ?_
          refine xi_aload_n (pc' := 388) (x := 1000000) kc_196_387 rfl rfl ?_
          refine xi_iload (pc' := 390) (x := 0) kc_196_388 rfl rfl ?_
          refine xi_iconst (pc' := 391) (v := 1) kc_196_390 rfl rfl ?_
          refine xi_iadd (pc' := 392) (v := 1) kc_196_391 rfl rfl ?_
          refine xi_ialoadO (pc' := 393) (v := (-20)) kc_196_392 rfl (by decide) hov0 (xi_in (n := 6) (by decide) (by decide)) rfl ?_
          refine xi_virtual (mj := 22) (as := [.int (-20)]) (st1 := [.int 1]) (lv0 := [(0, .ref 115), (1, .int (-20))]) kc_196_393 rfl rfl rfl rfl rfl (F 115 _ hl_115) (Nat.le_of_ble_eq_true rfl) (hJ _ _ _ _ (by decide)) (xm_le ml_22 rfl) rfl ?_
          refine xi_aload_n (pc' := 1) (x := 115) kc_22_0 rfl rfl ?_
          refine xi_iconst (pc' := 2) (v := 0) kc_22_1 rfl rfl ?_
          refine xi_putfield (pc' := 5) (fs' := [.int 0, .int 0, .ref 116, .ref 117, .ref 118, .ref 119, .ref 120, .ref 121, .ref 122, .ref 123, .ref 124, .ref 125, .ref 126, .ref 127, .ref 128, .ref 129, .int 4, .ref 130, .int 0, .ref 131, .ref 132, .ref 133, .ref 134, .int 0, .ref 135, .ref 136, .ref 137, .ref 138, .ref 139, .ref 140, .ref 141, .ref 142, .int 0, .int 0, .int 0, .ref 143, .ref 144, .ref 145, .ref 146, .ref 147, .ref 148, .int 0, .ref 149, .ref 150, .ref 151, .int 0, .ref 152, .ref 153, .ref 154, .ref 155, .ref 156, .ref 157, .ref 158, .ref 159, .int 0, .ref 160, .int 0, .ref 161, .ref 162, .ref 163, .ref 164, .int 0, .ref 165, .ref 166]) kc_22_2 rfl rfl rfl (F 115 _ hl_115) rfl rfl rfl (Nat.le_of_ble_eq_true rfl) rfl (fun hh1 eh1 => ?_)
          refine xi_iload_n (pc' := 6) (x := (-20)) kc_22_5 rfl rfl ?_
          refine xi_bipush (pc' := 8) (v := (-20)) kc_22_6 rfl rfl ?_
          refine xi_cmt (pc' := 20) kc_22_8 rfl rfl ?_
          refine xi_iload_n (pc' := 21) (x := (-20)) kc_22_20 rfl rfl ?_
          refine xi_bipush (pc' := 23) (v := 30) kc_22_21 rfl rfl ?_
          refine xi_cmt (pc' := 35) kc_22_23 rfl rfl ?_
          refine xi_iload_n (pc' := 36) (x := (-20)) kc_22_35 rfl rfl ?_
          refine xi_static (mj := 23) (as := [.int (-20)]) (st1 := []) (lv0 := [(0, .int (-20))]) kc_22_36 rfl rfl (Nat.le_of_ble_eq_true rfl) rfl rfl (Nat.le_of_ble_eq_true rfl) (hJ _ _ _ _ (by decide)) (xm_le ml_23 rfl) rfl ?_
          refine xi_iload_n (pc' := 1) (x := (-20)) kc_23_0 rfl rfl ?_
          refine xi_ift (pc' := 17) kc_23_1 rfl rfl ?_
          refine xi_iconst (pc' := 18) (v := 5) kc_23_17 rfl rfl ?_
          refine xi_iload_n (pc' := 19) (x := (-20)) kc_23_18 rfl rfl ?_
          refine xi_ineg (pc' := 20) (v := 20) kc_23_19 rfl rfl ?_
          refine xi_iconst (pc' := 21) (v := 5) kc_23_20 rfl rfl ?_
          refine xi_idiv (pc' := 22) (v := 4) kc_23_21 rfl rfl (by decide) ?_
          refine xi_isub (pc' := 23) (v := 1) kc_23_22 rfl rfl ?_
          refine xi_istore_n (pc' := 24) (lv' := [(1, .int 1), (0, .int (-20))]) kc_23_23 rfl rfl (xm_lt ml_23 rfl) ?_
          refine xi_iload_n (pc' := 25) (x := 1) kc_23_24 rfl rfl ?_
          refine xi_iconst (pc' := 26) (v := 1) kc_23_25 rfl rfl ?_
          refine xi_cmt (pc' := 33) kc_23_26 rfl rfl ?_
          refine xi_iload_n (pc' := 34) (x := 1) kc_23_33 rfl rfl ?_
          refine xi_ireturn kc_23_34 mr_23 rfl ?_
          show xw J ov 99 22 (39, [(0, .ref 115), (1, .int (-20))], [.int 1], hh1) _
          refine xi_ireturn kc_22_39 mr_22 rfl ?_
          show xw J ov 100 196 (396, [(4, .int 0), (3, .ref 167), (2, .ref 115), (1, .ref 0), (0, .ref 1000000)], [.int 1, .int 1], hh1) _
          refine xi_cmt (pc' := 1528) kc_196_396 rfl rfl ?_
          refine xi_iinc (pc' := 1531) (x := 0) (v := 6) (lv' := [(4, .int 6), (3, .ref 167), (2, .ref 115), (1, .ref 0), (0, .ref 1000000)]) kc_196_1528 rfl rfl rfl rfl (xm_lt ml_196 rfl) ?_
          refine xi_goto (pc' := 23) kc_196_1531 rfl ?_
          refine xi_iload (pc' := 25) (x := 6) kc_196_23 rfl rfl ?_
          refine xi_aload_n (pc' := 26) (x := 1000000) kc_196_25 rfl rfl ?_
          refine xi_arraylength (pc' := 27) (n := 6) (v := 6) kc_196_26 rfl (xl_lenO (by decide) hov0 rfl) rfl ?_
          refine xi_bipush (pc' := 29) (v := 6) kc_196_27 rfl rfl ?_
          refine xi_isub (pc' := 30) (v := 0) kc_196_29 rfl rfl ?_
          refine xi_cmt (pc' := 1534) kc_196_30 rfl rfl ?_
          refine xi_iconst (pc' := 1535) (v := 1) kc_196_1534 rfl rfl ?_
          refine xi_ireturn kc_196_1535 mr_196 rfl ?_
          refine ⟨rfl, ?_, ?_⟩
          · rw [eh1.2.2.1]; exact hn0
          · rw [eh1.2.2.2]; exact hz0
        by_cases c5 : a1.toInt = (-19)
        · have qa1 : a1 = (-19) := xc_of (Eq.trans (by omega) (show ((-19) : Int) = ((-19) : Int32).toInt by decide))
          subst qa1
          refine xi_ineg (pc' := 6) (v := 19) kc_2_5 rfl rfl ?_
          refine xi_goto (pc' := 10) kc_2_6 rfl ?_
          refine xi_ireturn kc_2_10 mr_2 rfl ?_
          show xw J ov 98 103 (22, [(0, .int (-19))], [.int 19, .int 5], h0) _
          refine xi_iconst (pc' := 23) (v := 5) kc_103_22 rfl rfl ?_
          refine xi_idiv (pc' := 24) (v := 3) kc_103_23 rfl rfl (by decide) ?_
          refine xi_isub (pc' := 25) (v := 2) kc_103_24 rfl rfl ?_
          refine xi_istore_n (pc' := 26) (lv' := [(1, .int 2), (0, .int (-19))]) kc_103_25 rfl rfl (xm_lt ml_103 rfl) ?_
          refine xi_iload_n (pc' := 27) (x := 2) kc_103_26 rfl rfl ?_
          refine xi_iconst (pc' := 28) (v := 1) kc_103_27 rfl rfl ?_
          refine xi_cmt (pc' := 35) kc_103_28 rfl rfl ?_
          refine xi_iload_n (pc' := 36) (x := 2) kc_103_35 rfl rfl ?_
          refine xi_ireturn kc_103_36 mr_103 rfl ?_
          show xw J ov 99 102 (30, [(0, .ref 0), (1, .int (-19))], [.int 2], h0) _
          refine xi_ireturn kc_102_30 mr_102 rfl ?_
          show xw J ov 100 196 (386, [(4, .int 0), (3, .ref 167), (2, .ref 115), (1, .ref 0), (0, .ref 1000000)], [.int 2], h0) _
          refine xi_aload_n (pc' := 387) (x := 115) kc_196_386 rfl rfl ?_
          refine xi_aload_n (pc' := 388) (x := 1000000) kc_196_387 rfl rfl ?_
          refine xi_iload (pc' := 390) (x := 0) kc_196_388 rfl rfl ?_
          refine xi_iconst (pc' := 391) (v := 1) kc_196_390 rfl rfl ?_
          refine xi_iadd (pc' := 392) (v := 1) kc_196_391 rfl rfl ?_
          refine xi_ialoadO (pc' := 393) (v := (-19)) kc_196_392 rfl (by decide) hov0 (xi_in (n := 6) (by decide) (by decide)) rfl ?_
          refine xi_virtual (mj := 22) (as := [.int (-19)]) (st1 := [.int 2]) (lv0 := [(0, .ref 115), (1, .int (-19))]) kc_196_393 rfl rfl rfl rfl rfl (F 115 _ hl_115) (Nat.le_of_ble_eq_true rfl) (hJ _ _ _ _ (by decide)) (xm_le ml_22 rfl) rfl ?_
          refine xi_aload_n (pc' := 1) (x := 115) kc_22_0 rfl rfl ?_
          refine xi_iconst (pc' := 2) (v := 0) kc_22_1 rfl rfl ?_
          refine xi_putfield (pc' := 5) (fs' := [.int 0, .int 0, .ref 116, .ref 117, .ref 118, .ref 119, .ref 120, .ref 121, .ref 122, .ref 123, .ref 124, .ref 125, .ref 126, .ref 127, .ref 128, .ref 129, .int 4, .ref 130, .int 0, .ref 131, .ref 132, .ref 133, .ref 134, .int 0, .ref 135, .ref 136, .ref 137, .ref 138, .ref 139, .ref 140, .ref 141, .ref 142, .int 0, .int 0, .int 0, .ref 143, .ref 144, .ref 145, .ref 146, .ref 147, .ref 148, .int 0, .ref 149, .ref 150, .ref 151, .int 0, .ref 152, .ref 153, .ref 154, .ref 155, .ref 156, .ref 157, .ref 158, .ref 159, .int 0, .ref 160, .int 0, .ref 161, .ref 162, .ref 163, .ref 164, .int 0, .ref 165, .ref 166]) kc_22_2 rfl rfl rfl (F 115 _ hl_115) rfl rfl rfl (Nat.le_of_ble_eq_true rfl) rfl (fun hh1 eh1 => ?_)
          refine xi_iload_n (pc' := 6) (x := (-19)) kc_22_5 rfl rfl ?_
          refine xi_bipush (pc' := 8) (v := (-20)) kc_22_6 rfl rfl ?_
          refine xi_cmt (pc' := 20) kc_22_8 rfl rfl ?_
          refine xi_iload_n (pc' := 21) (x := (-19)) kc_22_20 rfl rfl ?_
          refine xi_bipush (pc' := 23) (v := 30) kc_22_21 rfl rfl ?_
          refine xi_cmt (pc' := 35) kc_22_23 rfl rfl ?_
          refine xi_iload_n (pc' := 36) (x := (-19)) kc_22_35 rfl rfl ?_
          refine xi_static (mj := 23) (as := [.int (-19)]) (st1 := []) (lv0 := [(0, .int (-19))]) kc_22_36 rfl rfl (Nat.le_of_ble_eq_true rfl) rfl rfl (Nat.le_of_ble_eq_true rfl) (hJ _ _ _ _ (by decide)) (xm_le ml_23 rfl) rfl ?_
          refine xi_iload_n (pc' := 1) (x := (-19)) kc_23_0 rfl rfl ?_
          refine xi_ift (pc' := 17) kc_23_1 rfl rfl ?_
          refine xi_iconst (pc' := 18) (v := 5) kc_23_17 rfl rfl ?_
          refine xi_iload_n (pc' := 19) (x := (-19)) kc_23_18 rfl rfl ?_
          refine xi_ineg (pc' := 20) (v := 19) kc_23_19 rfl rfl ?_
          refine xi_iconst (pc' := 21) (v := 5) kc_23_20 rfl rfl ?_
          refine xi_idiv (pc' := 22) (v := 3) kc_23_21 rfl rfl (by decide) ?_
          refine xi_isub (pc' := 23) (v := 2) kc_23_22 rfl rfl ?_
          refine xi_istore_n (pc' := 24) (lv' := [(1, .int 2), (0, .int (-19))]) kc_23_23 rfl rfl (xm_lt ml_23 rfl) ?_
          refine xi_iload_n (pc' := 25) (x := 2) kc_23_24 rfl rfl ?_
          refine xi_iconst (pc' := 26) (v := 1) kc_23_25 rfl rfl ?_
          refine xi_cmt (pc' := 33) kc_23_26 rfl rfl ?_
          refine xi_iload_n (pc' := 34) (x := 2) kc_23_33 rfl rfl ?_
          refine xi_ireturn kc_23_34 mr_23 rfl ?_
          show xw J ov 99 22 (39, [(0, .ref 115), (1, .int (-19))], [.int 2], hh1) _
          refine xi_ireturn kc_22_39 mr_22 rfl ?_
          show xw J ov 100 196 (396, [(4, .int 0), (3, .ref 167), (2, .ref 115), (1, .ref 0), (0, .ref 1000000)], [.int 2, .int 2], hh1) _
          refine xi_cmt (pc' := 1528) kc_196_396 rfl rfl ?_
          refine xi_iinc (pc' := 1531) (x := 0) (v := 6) (lv' := [(4, .int 6), (3, .ref 167), (2, .ref 115), (1, .ref 0), (0, .ref 1000000)]) kc_196_1528 rfl rfl rfl rfl (xm_lt ml_196 rfl) ?_
          refine xi_goto (pc' := 23) kc_196_1531 rfl ?_
          refine xi_iload (pc' := 25) (x := 6) kc_196_23 rfl rfl ?_
          refine xi_aload_n (pc' := 26) (x := 1000000) kc_196_25 rfl rfl ?_
          refine xi_arraylength (pc' := 27) (n := 6) (v := 6) kc_196_26 rfl (xl_lenO (by decide) hov0 rfl) rfl ?_
          refine xi_bipush (pc' := 29) (v := 6) kc_196_27 rfl rfl ?_
          refine xi_isub (pc' := 30) (v := 0) kc_196_29 rfl rfl ?_
          refine xi_cmt (pc' := 1534) kc_196_30 rfl rfl ?_
          refine xi_iconst (pc' := 1535) (v := 1) kc_196_1534 rfl rfl ?_
          refine xi_ireturn kc_196_1535 mr_196 rfl ?_
          refine ⟨rfl, ?_, ?_⟩
          · rw [eh1.2.2.1]; exact hn0
          · rw [eh1.2.2.2]; exact hz0
        by_cases c6 : a1.toInt = (-18)
        · have qa1 : a1 = (-18) := xc_of (Eq.trans (by omega) (show ((-18) : Int) = ((-18) : Int32).toInt by decide))
          subst qa1
          refine xi_ineg (pc' := 6) (v := 18) kc_2_5 rfl rfl ?_
          refine xi_goto (pc' := 10) kc_2_6 rfl ?_
          refine xi_ireturn kc_2_10 mr_2 rfl ?_
          show xw J ov 98 103 (22, [(0, .int (-18))], [.int 18, .int 5], h0) _
          refine xi_iconst (pc' := 23) (v := 5) kc_103_22 rfl rfl ?_
          refine xi_idiv (pc' := 24) (v := 3) kc_103_23 rfl rfl (by decide) ?_
          refine xi_isub (pc' := 25) (v := 2) kc_103_24 rfl rfl ?_
          refine xi_istore_n (pc' := 26) (lv' := [(1, .int 2), (0, .int (-18))]) kc_103_25 rfl rfl (xm_lt ml_103 rfl) ?_
          refine xi_iload_n (pc' := 27) (x := 2) kc_103_26 rfl rfl ?_
          refine xi_iconst (pc' := 28) (v := 1) kc_103_27 rfl rfl ?_
          refine xi_cmt (pc' := 35) kc_103_28 rfl rfl ?_
          refine xi_iload_n (pc' := 36) (x := 2) kc_103_35 rfl rfl ?_
          refine xi_ireturn kc_103_36 mr_103 rfl ?_
          show xw J ov 99 102 (30, [(0, .ref 0), (1, .int (-18))], [.int 2], h0) _
          refine xi_ireturn kc_102_30 mr_102 rfl ?_
          show xw J ov 100 196 (386, [(4, .int 0), (3, .ref 167), (2, .ref 115), (1, .ref 0), (0, .ref 1000000)], [.int 2], h0) _
          refine xi_aload_n (pc' := 387) (x := 115) kc_196_386 rfl rfl ?_
          refine xi_aload_n (pc' := 388) (x := 1000000) kc_196_387 rfl rfl ?_
          refine xi_iload (pc' := 390) (x := 0) kc_196_388 rfl rfl ?_
          refine xi_iconst (pc' := 391) (v := 1) kc_196_390 rfl rfl ?_
          refine xi_iadd (pc' := 392) (v := 1) kc_196_391 rfl rfl ?_
          refine xi_ialoadO (pc' := 393) (v := (-18)) kc_196_392 rfl (by decide) hov0 (xi_in (n := 6) (by decide) (by decide)) rfl ?_
          refine xi_virtual (mj := 22) (as := [.int (-18)]) (st1 := [.int 2]) (lv0 := [(0, .ref 115), (1, .int (-18))]) kc_196_393 rfl rfl rfl rfl rfl (F 115 _ hl_115) (Nat.le_of_ble_eq_true rfl) (hJ _ _ _ _ (by decide)) (xm_le ml_22 rfl) rfl ?_
          refine xi_aload_n (pc' := 1) (x := 115) kc_22_0 rfl rfl ?_
          refine xi_iconst (pc' := 2) (v := 0) kc_22_1 rfl rfl ?_
          refine xi_putfield (pc' := 5) (fs' := [.int 0, .int 0, .ref 116, .ref 117, .ref 118, .ref 119, .ref 120, .ref 121, .ref 122, .ref 123, .ref 124, .ref 125, .ref 126, .ref 127, .ref 128, .ref 129, .int 4, .ref 130, .int 0, .ref 131, .ref 132, .ref 133, .ref 134, .int 0, .ref 135, .ref 136, .ref 137, .ref 138, .ref 139, .ref 140, .ref 141, .ref 142, .int 0, .int 0, .int 0, .ref 143, .ref 144, .ref 145, .ref 146, .ref 147, .ref 148, .int 0, .ref 149, .ref 150, .ref 151, .int 0, .ref 152, .ref 153, .ref 154, .ref 155, .ref 156, .ref 157, .ref 158, .ref 159, .int 0, .ref 160, .int 0, .ref 161, .ref 162, .ref 163, .ref 164, .int 0, .ref 165, .ref 166]) kc_22_2 rfl rfl rfl (F 115 _ hl_115) rfl rfl rfl (Nat.le_of_ble_eq_true rfl) rfl (fun hh1 eh1 => ?_)
          refine xi_iload_n (pc' := 6) (x := (-18)) kc_22_5 rfl rfl ?_
          refine xi_bipush (pc' := 8) (v := (-20)) kc_22_6 rfl rfl ?_
          refine xi_cmt (pc' := 20) kc_22_8 rfl rfl ?_
          refine xi_iload_n (pc' := 21) (x := (-18)) kc_22_20 rfl rfl ?_
          refine xi_bipush (pc' := 23) (v := 30) kc_22_21 rfl rfl ?_
          refine xi_cmt (pc' := 35) kc_22_23 rfl rfl ?_
          refine xi_iload_n (pc' := 36) (x := (-18)) kc_22_35 rfl rfl ?_
          refine xi_static (mj := 23) (as := [.int (-18)]) (st1 := []) (lv0 := [(0, .int (-18))]) kc_22_36 rfl rfl (Nat.le_of_ble_eq_true rfl) rfl rfl (Nat.le_of_ble_eq_true rfl) (hJ _ _ _ _ (by decide)) (xm_le ml_23 rfl) rfl ?_
          refine xi_iload_n (pc' := 1) (x := (-18)) kc_23_0 rfl rfl ?_
          refine xi_ift (pc' := 17) kc_23_1 rfl rfl ?_
          refine xi_iconst (pc' := 18) (v := 5) kc_23_17 rfl rfl ?_
          refine xi_iload_n (pc' := 19) (x := (-18)) kc_23_18 rfl rfl ?_
          refine xi_ineg (pc' := 20) (v := 18) kc_23_19 rfl rfl ?_
          refine xi_iconst (pc' := 21) (v := 5) kc_23_20 rfl rfl ?_
          refine xi_idiv (pc' := 22) (v := 3) kc_23_21 rfl rfl (by decide) ?_
          refine xi_isub (pc' := 23) (v := 2) kc_23_22 rfl rfl ?_
          refine xi_istore_n (pc' := 24) (lv' := [(1, .int 2), (0, .int (-18))]) kc_23_23 rfl rfl (xm_lt ml_23 rfl) ?_
          refine xi_iload_n (pc' := 25) (x := 2) kc_23_24 rfl rfl ?_
          refine xi_iconst (pc' := 26) (v := 1) kc_23_25 rfl rfl ?_
          refine xi_cmt (pc' := 33) kc_23_26 rfl rfl ?_
          refine xi_iload_n (pc' := 34) (x := 2) kc_23_33 rfl rfl ?_
          refine xi_ireturn kc_23_34 mr_23 rfl ?_
          show xw J ov 99 22 (39, [(0, .ref 115), (1, .int (-18))], [.int 2], hh1) _
          refine xi_ireturn kc_22_39 mr_22 rfl ?_
          show xw J ov 100 196 (396, [(4, .int 0), (3, .ref 167), (2, .ref 115), (1, .ref 0), (0, .ref 1000000)], [.int 2, .int 2], hh1) _
          refine xi_cmt (pc' := 1528) kc_196_396 rfl rfl ?_
          refine xi_iinc (pc' := 1531) (x := 0) (v := 6) (lv' := [(4, .int 6), (3, .ref 167), (2, .ref 115), (1, .ref 0), (0, .ref 1000000)]) kc_196_1528 rfl rfl rfl rfl (xm_lt ml_196 rfl) ?_
          refine xi_goto (pc' := 23) kc_196_1531 rfl ?_
          refine xi_iload (pc' := 25) (x := 6) kc_196_23 rfl rfl ?_
          refine xi_aload_n (pc' := 26) (x := 1000000) kc_196_25 rfl rfl ?_
          refine xi_arraylength (pc' := 27) (n := 6) (v := 6) kc_196_26 rfl (xl_lenO (by decide) hov0 rfl) rfl ?_
          refine xi_bipush (pc' := 29) (v := 6) kc_196_27 rfl rfl ?_
          refine xi_isub (pc' := 30) (v := 0) kc_196_29 rfl rfl ?_
          refine xi_cmt (pc' := 1534) kc_196_30 rfl rfl ?_
          refine xi_iconst (pc' := 1535) (v := 1) kc_196_1534 rfl rfl ?_
          refine xi_ireturn kc_196_1535 mr_196 rfl ?_
          refine ⟨rfl, ?_, ?_⟩
          · rw [eh1.2.2.1]; exact hn0
          · rw [eh1.2.2.2]; exact hz0
        by_cases c7 : a1.toInt = (-17)
        · have qa1 : a1 = (-17) := xc_of (Eq.trans (by omega) (show ((-17) : Int) = ((-17) : Int32).toInt by decide))
          subst qa1
          refine xi_ineg (pc' := 6) (v := 17) kc_2_5 rfl rfl ?_
          refine xi_goto (pc' := 10) kc_2_6 rfl ?_
          refine xi_ireturn kc_2_10 mr_2 rfl ?_
          show xw J ov 98 103 (22, [(0, .int (-17))], [.int 17, .int 5], h0) _
          refine xi_iconst (pc' := 23) (v := 5) kc_103_22 rfl rfl ?_
          refine xi_idiv (pc' := 24) (v := 3) kc_103_23 rfl rfl (by decide) ?_
          refine xi_isub (pc' := 25) (v := 2) kc_103_24 rfl rfl ?_
          refine xi_istore_n (pc' := 26) (lv' := [(1, .int 2), (0, .int (-17))]) kc_103_25 rfl rfl (xm_lt ml_103 rfl) ?_
          refine xi_iload_n (pc' := 27) (x := 2) kc_103_26 rfl rfl ?_
          refine xi_iconst (pc' := 28) (v := 1) kc_103_27 rfl rfl ?_
          refine xi_cmt (pc' := 35) kc_103_28 rfl rfl ?_
          refine xi_iload_n (pc' := 36) (x := 2) kc_103_35 rfl rfl ?_
          refine xi_ireturn kc_103_36 mr_103 rfl ?_
          show xw J ov 99 102 (30, [(0, .ref 0), (1, .int (-17))], [.int 2], h0) _
          refine xi_ireturn kc_102_30 mr_102 rfl ?_
          show xw J ov 100 196 (386, [(4, .int 0), (3, .ref 167), (2, .ref 115), (1, .ref 0), (0, .ref 1000000)], [.int 2], h0) _
          refine xi_aload_n (pc' := 387) (x := 115) kc_196_386 rfl rfl ?_
          refine xi_aload_n (pc' := 388) (x := 1000000) kc_196_387 rfl rfl ?_
          refine xi_iload (pc' := 390) (x := 0) kc_196_388 rfl rfl ?_
          refine xi_iconst (pc' := 391) (v := 1) kc_196_390 rfl rfl ?_
          refine xi_iadd (pc' := 392) (v := 1) kc_196_391 rfl rfl ?_
          refine xi_ialoadO (pc' := 393) (v := (-17)) kc_196_392 rfl (by decide) hov0 (xi_in (n := 6) (by decide) (by decide)) rfl ?_
          refine xi_virtual (mj := 22) (as := [.int (-17)]) (st1 := [.int 2]) (lv0 := [(0, .ref 115), (1, .int (-17))]) kc_196_393 rfl rfl rfl rfl rfl (F 115 _ hl_115) (Nat.le_of_ble_eq_true rfl) (hJ _ _ _ _ (by decide)) (xm_le ml_22 rfl) rfl ?_
          refine xi_aload_n (pc' := 1) (x := 115) kc_22_0 rfl rfl ?_
          refine xi_iconst (pc' := 2) (v := 0) kc_22_1 rfl rfl ?_
          refine xi_putfield (pc' := 5) (fs' := [.int 0, .int 0, .ref 116, .ref 117, .ref 118, .ref 119, .ref 120, .ref 121, .ref 122, .ref 123, .ref 124, .ref 125, .ref 126, .ref 127, .ref 128, .ref 129, .int 4, .ref 130, .int 0, .ref 131, .ref 132, .ref 133, .ref 134, .int 0, .ref 135, .ref 136, .ref 137, .ref 138, .ref 139, .ref 140, .ref 141, .ref 142, .int 0, .int 0, .int 0, .ref 143, .ref 144, .ref 145, .ref 146, .ref 147, .ref 148, .int 0, .ref 149, .ref 150, .ref 151, .int 0, .ref 152, .ref 153, .ref 154, .ref 155, .ref 156, .ref 157, .ref 158, .ref 159, .int 0, .ref 160, .int 0, .ref 161, .ref 162, .ref 163, .ref 164, .int 0, .ref 165, .ref 166]) kc_22_2 rfl rfl rfl (F 115 _ hl_115) rfl rfl rfl (Nat.le_of_ble_eq_true rfl) rfl (fun hh1 eh1 => ?_)
          refine xi_iload_n (pc' := 6) (x := (-17)) kc_22_5 rfl rfl ?_
          refine xi_bipush (pc' := 8) (v := (-20)) kc_22_6 rfl rfl ?_
          refine xi_cmt (pc' := 20) kc_22_8 rfl rfl ?_
          refine xi_iload_n (pc' := 21) (x := (-17)) kc_22_20 rfl rfl ?_
          refine xi_bipush (pc' := 23) (v := 30) kc_22_21 rfl rfl ?_
          refine xi_cmt (pc' := 35) kc_22_23 rfl rfl ?_
          refine xi_iload_n (pc' := 36) (x := (-17)) kc_22_35 rfl rfl ?_
          refine xi_static (mj := 23) (as := [.int (-17)]) (st1 := []) (lv0 := [(0, .int (-17))]) kc_22_36 rfl rfl (Nat.le_of_ble_eq_true rfl) rfl rfl (Nat.le_of_ble_eq_true rfl) (hJ _ _ _ _ (by decide)) (xm_le ml_23 rfl) rfl ?_
          refine xi_iload_n (pc' := 1) (x := (-17)) kc_23_0 rfl rfl ?_
          refine xi_ift (pc' := 17) kc_23_1 rfl rfl ?_
          refine xi_iconst (pc' := 18) (v := 5) kc_23_17 rfl rfl ?_
          refine xi_iload_n (pc' := 19) (x := (-17)) kc_23_18 rfl rfl ?_
          refine xi_ineg (pc' := 20) (v := 17) kc_23_19 rfl rfl ?_
          refine xi_iconst (pc' := 21) (v := 5) kc_23_20 rfl rfl ?_
          refine xi_idiv (pc' := 22) (v := 3) kc_23_21 rfl rfl (by decide) ?_
          refine xi_isub (pc' := 23) (v := 2) kc_23_22 rfl rfl ?_
          refine xi_istore_n (pc' := 24) (lv' := [(1, .int 2), (0, .int (-17))]) kc_23_23 rfl rfl (xm_lt ml_23 rfl) ?_
          refine xi_iload_n (pc' := 25) (x := 2) kc_23_24 rfl rfl ?_
          refine xi_iconst (pc' := 26) (v := 1) kc_23_25 rfl rfl ?_
          refine xi_cmt (pc' := 33) kc_23_26 rfl rfl ?_
          refine xi_iload_n (pc' := 34) (x := 2) kc_23_33 rfl rfl ?_
          refine xi_ireturn kc_23_34 mr_23 rfl ?_
          show xw J ov 99 22 (39, [(0, .ref 115), (1, .int (-17))], [.int 2], hh1) _
          refine xi_ireturn kc_22_39 mr_22 rfl ?_
          show xw J ov 100 196 (396, [(4, .int 0), (3, .ref 167), (2, .ref 115), (1, .ref 0), (0, .ref 1000000)], [.int 2, .int 2], hh1) _
          refine xi_cmt (pc' := 1528) kc_196_396 rfl rfl ?_
          refine xi_iinc (pc' := 1531) (x := 0) (v := 6) (lv' := [(4, .int 6), (3, .ref 167), (2, .ref 115), (1, .ref 0), (0, .ref 1000000)]) kc_196_1528 rfl rfl rfl rfl (xm_lt ml_196 rfl) ?_
          refine xi_goto (pc' := 23) kc_196_1531 rfl ?_
          refine xi_iload (pc' := 25) (x := 6) kc_196_23 rfl rfl ?_
          refine xi_aload_n (pc' := 26) (x := 1000000) kc_196_25 rfl rfl ?_
          refine xi_arraylength (pc' := 27) (n := 6) (v := 6) kc_196_26 rfl (xl_lenO (by decide) hov0 rfl) rfl ?_
          refine xi_bipush (pc' := 29) (v := 6) kc_196_27 rfl rfl ?_
          refine xi_isub (pc' := 30) (v := 0) kc_196_29 rfl rfl ?_
          refine xi_cmt (pc' := 1534) kc_196_30 rfl rfl ?_
          refine xi_iconst (pc' := 1535) (v := 1) kc_196_1534 rfl rfl ?_
          refine xi_ireturn kc_196_1535 mr_196 rfl ?_
          refine ⟨rfl, ?_, ?_⟩
          · rw [eh1.2.2.1]; exact hn0
          · rw [eh1.2.2.2]; exact hz0
        by_cases c8 : a1.toInt = (-16)
        · have qa1 : a1 = (-16) := xc_of (Eq.trans (by omega) (show ((-16) : Int) = ((-16) : Int32).toInt by decide))
          subst qa1
          refine xi_ineg (pc' := 6) (v := 16) kc_2_5 rfl rfl ?_
          refine xi_goto (pc' := 10) kc_2_6 rfl ?_
          refine xi_ireturn kc_2_10 mr_2 rfl ?_
          show xw J ov 98 103 (22, [(0, .int (-16))], [.int 16, .int 5], h0) _
          refine xi_iconst (pc' := 23) (v := 5) kc_103_22 rfl rfl ?_
          refine xi_idiv (pc' := 24) (v := 3) kc_103_23 rfl rfl (by decide) ?_
          refine xi_isub (pc' := 25) (v := 2) kc_103_24 rfl rfl ?_
          refine xi_istore_n (pc' := 26) (lv' := [(1, .int 2), (0, .int (-16))]) kc_103_25 rfl rfl (xm_lt ml_103 rfl) ?_
          refine xi_iload_n (pc' := 27) (x := 2) kc_103_26 rfl rfl ?_
          refine xi_iconst (pc' := 28) (v := 1) kc_103_27 rfl rfl ?_
          refine xi_cmt (pc' := 35) kc_103_28 rfl rfl ?_
          refine xi_iload_n (pc' := 36) (x := 2) kc_103_35 rfl rfl ?_
          refine xi_ireturn kc_103_36 mr_103 rfl ?_
          show xw J ov 99 102 (30, [(0, .ref 0), (1, .int (-16))], [.int 2], h0) _
          refine xi_ireturn kc_102_30 mr_102 rfl ?_
          show xw J ov 100 196 (386, [(4, .int 0), (3, .ref 167), (2, .ref 115), (1, .ref 0), (0, .ref 1000000)], [.int 2], h0) _
          refine xi_aload_n (pc' := 387) (x := 115) kc_196_386 rfl rfl ?_
          refine xi_aload_n (pc' := 388) (x := 1000000) kc_196_387 rfl rfl ?_
          refine xi_iload (pc' := 390) (x := 0) kc_196_388 rfl rfl ?_
          refine xi_iconst (pc' := 391) (v := 1) kc_196_390 rfl rfl ?_
          refine xi_iadd (pc' := 392) (v := 1) kc_196_391 rfl rfl ?_
          refine xi_ialoadO (pc' := 393) (v := (-16)) kc_196_392 rfl (by decide) hov0 (xi_in (n := 6) (by decide) (by decide)) rfl ?_
          refine xi_virtual (mj := 22) (as := [.int (-16)]) (st1 := [.int 2]) (lv0 := [(0, .ref 115), (1, .int (-16))]) kc_196_393 rfl rfl rfl rfl rfl (F 115 _ hl_115) (Nat.le_of_ble_eq_true rfl) (hJ _ _ _ _ (by decide)) (xm_le ml_22 rfl) rfl ?_
          refine xi_aload_n (pc' := 1) (x := 115) kc_22_0 rfl rfl ?_
          refine xi_iconst (pc' := 2) (v := 0) kc_22_1 rfl rfl ?_
          refine xi_putfield (pc' := 5) (fs' := [.int 0, .int 0, .ref 116, .ref 117, .ref 118, .ref 119, .ref 120, .ref 121, .ref 122, .ref 123, .ref 124, .ref 125, .ref 126, .ref 127, .ref 128, .ref 129, .int 4, .ref 130, .int 0, .ref 131, .ref 132, .ref 133, .ref 134, .int 0, .ref 135, .ref 136, .ref 137, .ref 138, .ref 139, .ref 140, .ref 141, .ref 142, .int 0, .int 0, .int 0, .ref 143, .ref 144, .ref 145, .ref 146, .ref 147, .ref 148, .int 0, .ref 149, .ref 150, .ref 151, .int 0, .ref 152, .ref 153, .ref 154, .ref 155, .ref 156, .ref 157, .ref 158, .ref 159, .int 0, .ref 160, .int 0, .ref 161, .ref 162, .ref 163, .ref 164, .int 0, .ref 165, .ref 166]) kc_22_2 rfl rfl rfl (F 115 _ hl_115) rfl rfl rfl (Nat.le_of_ble_eq_true rfl) rfl (fun hh1 eh1 => ?_)
          refine xi_iload_n (pc' := 6) (x := (-16)) kc_22_5 rfl rfl ?_
          refine xi_bipush (pc' := 8) (v := (-20)) kc_22_6 rfl rfl ?_
          refine xi_cmt (pc' := 20) kc_22_8 rfl rfl ?_
          refine xi_iload_n (pc' := 21) (x := (-16)) kc_22_20 rfl rfl ?_
          refine xi_bipush (pc' := 23) (v := 30) kc_22_21 rfl rfl ?_
          refine xi_cmt (pc' := 35) kc_22_23 rfl rfl ?_
          refine xi_iload_n (pc' := 36) (x := (-16)) kc_22_35 rfl rfl ?_
          refine xi_static (mj := 23) (as := [.int (-16)]) (st1 := []) (lv0 := [(0, .int (-16))]) kc_22_36 rfl rfl (Nat.le_of_ble_eq_true rfl) rfl rfl (Nat.le_of_ble_eq_true rfl) (hJ _ _ _ _ (by decide)) (xm_le ml_23 rfl) rfl ?_
          refine xi_iload_n (pc' := 1) (x := (-16)) kc_23_0 rfl rfl ?_
          refine xi_ift (pc' := 17) kc_23_1 rfl rfl ?_
          refine xi_iconst (pc' := 18) (v := 5) kc_23_17 rfl rfl ?_
          refine xi_iload_n (pc' := 19) (x := (-16)) kc_23_18 rfl rfl ?_
          refine xi_ineg (pc' := 20) (v := 16) kc_23_19 rfl rfl ?_
          refine xi_iconst (pc' := 21) (v := 5) kc_23_20 rfl rfl ?_
          refine xi_idiv (pc' := 22) (v := 3) kc_23_21 rfl rfl (by decide) ?_
          refine xi_isub (pc' := 23) (v := 2) kc_23_22 rfl rfl ?_
          refine xi_istore_n (pc' := 24) (lv' := [(1, .int 2), (0, .int (-16))]) kc_23_23 rfl rfl (xm_lt ml_23 rfl) ?_
          refine xi_iload_n (pc' := 25) (x := 2) kc_23_24 rfl rfl ?_
          refine xi_iconst (pc' := 26) (v := 1) kc_23_25 rfl rfl ?_
          refine xi_cmt (pc' := 33) kc_23_26 rfl rfl ?_
          refine xi_iload_n (pc' := 34) (x := 2) kc_23_33 rfl rfl ?_
          refine xi_ireturn kc_23_34 mr_23 rfl ?_
          show xw J ov 99 22 (39, [(0, .ref 115), (1, .int (-16))], [.int 2], hh1) _
          refine xi_ireturn kc_22_39 mr_22 rfl ?_
          show xw J ov 100 196 (396, [(4, .int 0), (3, .ref 167), (2, .ref 115), (1, .ref 0), (0, .ref 1000000)], [.int 2, .int 2], hh1) _
          refine xi_cmt (pc' := 1528) kc_196_396 rfl rfl ?_
          refine xi_iinc (pc' := 1531) (x := 0) (v := 6) (lv' := [(4, .int 6), (3, .ref 167), (2, .ref 115), (1, .ref 0), (0, .ref 1000000)]) kc_196_1528 rfl rfl rfl rfl (xm_lt ml_196 rfl) ?_
          refine xi_goto (pc' := 23) kc_196_1531 rfl ?_
          refine xi_iload (pc' := 25) (x := 6) kc_196_23 rfl rfl ?_
          refine xi_aload_n (pc' := 26) (x := 1000000) kc_196_25 rfl rfl ?_
          refine xi_arraylength (pc' := 27) (n := 6) (v := 6) kc_196_26 rfl (xl_lenO (by decide) hov0 rfl) rfl ?_
          refine xi_bipush (pc' := 29) (v := 6) kc_196_27 rfl rfl ?_
          refine xi_isub (pc' := 30) (v := 0) kc_196_29 rfl rfl ?_
          refine xi_cmt (pc' := 1534) kc_196_30 rfl rfl ?_
          refine xi_iconst (pc' := 1535) (v := 1) kc_196_1534 rfl rfl ?_
          refine xi_ireturn kc_196_1535 mr_196 rfl ?_
          refine ⟨rfl, ?_, ?_⟩
          · rw [eh1.2.2.1]; exact hn0
          · rw [eh1.2.2.2]; exact hz0
        by_cases c9 : a1.toInt = (-15)
        · have qa1 : a1 = (-15) := xc_of (Eq.trans (by omega) (show ((-15) : Int) = ((-15) : Int32).toInt by decide))
          subst qa1
          refine xi_ineg (pc' := 6) (v := 15) kc_2_5 rfl rfl ?_
          refine xi_goto (pc' := 10) kc_2_6 rfl ?_
          refine xi_ireturn kc_2_10 mr_2 rfl ?_
          show xw J ov 98 103 (22, [(0, .int (-15))], [.int 15, .int 5], h0) _
          refine xi_iconst (pc' := 23) (v := 5) kc_103_22 rfl rfl ?_
          refine xi_idiv (pc' := 24) (v := 3) kc_103_23 rfl rfl (by decide) ?_
          refine xi_isub (pc' := 25) (v := 2) kc_103_24 rfl rfl ?_
          refine xi_istore_n (pc' := 26) (lv' := [(1, .int 2), (0, .int (-15))]) kc_103_25 rfl rfl (xm_lt ml_103 rfl) ?_
          refine xi_iload_n (pc' := 27) (x := 2) kc_103_26 rfl rfl ?_
          refine xi_iconst (pc' := 28) (v := 1) kc_103_27 rfl rfl ?_
          refine xi_cmt (pc' := 35) kc_103_28 rfl rfl ?_
          refine xi_iload_n (pc' := 36) (x := 2) kc_103_35 rfl rfl ?_
          refine xi_ireturn kc_103_36 mr_103 rfl ?_
          show xw J ov 99 102 (30, [(0, .ref 0), (1, .int (-15))], [.int 2], h0) _
          refine xi_ireturn kc_102_30 mr_102 rfl ?_
          show xw J ov 100 196 (386, [(4, .int 0), (3, .ref 167), (2, .ref 115), (1, .ref 0), (0, .ref 1000000)], [.int 2], h0) _
          refine xi_aload_n (pc' := 387) (x := 115) kc_196_386 rfl rfl ?_
          refine xi_aload_n (pc' := 388) (x := 1000000) kc_196_387 rfl rfl ?_
          refine xi_iload (pc' := 390) (x := 0) kc_196_388 rfl rfl ?_
          refine xi_iconst (pc' := 391) (v := 1) kc_196_390 rfl rfl ?_
          refine xi_iadd (pc' := 392) (v := 1) kc_196_391 rfl rfl ?_
          refine xi_ialoadO (pc' := 393) (v := (-15)) kc_196_392 rfl (by decide) hov0 (xi_in (n := 6) (by decide) (by decide)) rfl ?_
          refine xi_virtual (mj := 22) (as := [.int (-15)]) (st1 := [.int 2]) (lv0 := [(0, .ref 115), (1, .int (-15))]) kc_196_393 rfl rfl rfl rfl rfl (F 115 _ hl_115) (Nat.le_of_ble_eq_true rfl) (hJ _ _ _ _ (by decide)) (xm_le ml_22 rfl) rfl ?_
          refine xi_aload_n (pc' := 1) (x := 115) kc_22_0 rfl rfl ?_
          refine xi_iconst (pc' := 2) (v := 0) kc_22_1 rfl rfl ?_
          refine xi_putfield (pc' := 5) (fs' := [.int 0, .int 0, .ref 116, .ref 117, .ref 118, .ref 119, .ref 120, .ref 121, .ref 122, .ref 123, .ref 124, .ref 125, .ref 126, .ref 127, .ref 128, .ref 129, .int 4, .ref 130, .int 0, .ref 131, .ref 132, .ref 133, .ref 134, .int 0, .ref 135, .ref 136, .ref 137, .ref 138, .ref 139, .ref 140, .ref 141, .ref 142, .int 0, .int 0, .int 0, .ref 143, .ref 144, .ref 145, .ref 146, .ref 147, .ref 148, .int 0, .ref 149, .ref 150, .ref 151, .int 0, .ref 152, .ref 153, .ref 154, .ref 155, .ref 156, .ref 157, .ref 158, .ref 159, .int 0, .ref 160, .int 0, .ref 161, .ref 162, .ref 163, .ref 164, .int 0, .ref 165, .ref 166]) kc_22_2 rfl rfl rfl (F 115 _ hl_115) rfl rfl rfl (Nat.le_of_ble_eq_true rfl) rfl (fun hh1 eh1 => ?_)
          refine xi_iload_n (pc' := 6) (x := (-15)) kc_22_5 rfl rfl ?_
          refine xi_bipush (pc' := 8) (v := (-20)) kc_22_6 rfl rfl ?_
          refine xi_cmt (pc' := 20) kc_22_8 rfl rfl ?_
          refine xi_iload_n (pc' := 21) (x := (-15)) kc_22_20 rfl rfl ?_
          refine xi_bipush (pc' := 23) (v := 30) kc_22_21 rfl rfl ?_
          refine xi_cmt (pc' := 35) kc_22_23 rfl rfl ?_
          refine xi_iload_n (pc' := 36) (x := (-15)) kc_22_35 rfl rfl ?_
          refine xi_static (mj := 23) (as := [.int (-15)]) (st1 := []) (lv0 := [(0, .int (-15))]) kc_22_36 rfl rfl (Nat.le_of_ble_eq_true rfl) rfl rfl (Nat.le_of_ble_eq_true rfl) (hJ _ _ _ _ (by decide)) (xm_le ml_23 rfl) rfl ?_
          refine xi_iload_n (pc' := 1) (x := (-15)) kc_23_0 rfl rfl ?_
          refine xi_ift (pc' := 17) kc_23_1 rfl rfl ?_
          refine xi_iconst (pc' := 18) (v := 5) kc_23_17 rfl rfl ?_
          refine xi_iload_n (pc' := 19) (x := (-15)) kc_23_18 rfl rfl ?_
          refine xi_ineg (pc' := 20) (v := 15) kc_23_19 rfl rfl ?_
          refine xi_iconst (pc' := 21) (v := 5) kc_23_20 rfl rfl ?_
          refine xi_idiv (pc' := 22) (v := 3) kc_23_21 rfl rfl (by decide) ?_
          refine xi_isub (pc' := 23) (v := 2) kc_23_22 rfl rfl ?_
          refine xi_istore_n (pc' := 24) (lv' := [(1, .int 2), (0, .int (-15))]) kc_23_23 rfl rfl (xm_lt ml_23 rfl) ?_
          refine xi_iload_n (pc' := 25) (x := 2) kc_23_24 rfl rfl ?_
          refine xi_iconst (pc' := 26) (v := 1) kc_23_25 rfl rfl ?_
          refine xi_cmt (pc' := 33) kc_23_26 rfl rfl ?_
          refine xi_iload_n (pc' := 34) (x := 2) kc_23_33 rfl rfl ?_
          refine xi_ireturn kc_23_34 mr_23 rfl ?_
          show xw J ov 99 22 (39, [(0, .ref 115), (1, .int (-15))], [.int 2], hh1) _
          refine xi_ireturn kc_22_39 mr_22 rfl ?_
          show xw J ov 100 196 (396, [(4, .int 0), (3, .ref 167), (2, .ref 115), (1, .ref 0), (0, .ref 1000000)], [.int 2, .int 2], hh1) _
          refine xi_cmt (pc' := 1528) kc_196_396 rfl rfl ?_
          refine xi_iinc (pc' := 1531) (x := 0) (v := 6) (lv' := [(4, .int 6), (3, .ref 167), (2, .ref 115), (1, .ref 0), (0, .ref 1000000)]) kc_196_1528 rfl rfl rfl rfl (xm_lt ml_196 rfl) ?_
          refine xi_goto (pc' := 23) kc_196_1531 rfl ?_
          refine xi_iload (pc' := 25) (x := 6) kc_196_23 rfl rfl ?_
          refine xi_aload_n (pc' := 26) (x := 1000000) kc_196_25 rfl rfl ?_
          refine xi_arraylength (pc' := 27) (n := 6) (v := 6) kc_196_26 rfl (xl_lenO (by decide) hov0 rfl) rfl ?_
          refine xi_bipush (pc' := 29) (v := 6) kc_196_27 rfl rfl ?_
          refine xi_isub (pc' := 30) (v := 0) kc_196_29 rfl rfl ?_
          refine xi_cmt (pc' := 1534) kc_196_30 rfl rfl ?_
          refine xi_iconst (pc' := 1535) (v := 1) kc_196_1534 rfl rfl ?_
          refine xi_ireturn kc_196_1535 mr_196 rfl ?_
          refine ⟨rfl, ?_, ?_⟩
          · rw [eh1.2.2.1]; exact hn0
          · rw [eh1.2.2.2]; exact hz0
        by_cases c10 : a1.toInt = (-14)
        · have qa1 : a1 = (-14) := xc_of (Eq.trans (by omega) (show ((-14) : Int) = ((-14) : Int32).toInt by decide))
          subst qa1
          refine xi_ineg (pc' := 6) (v := 14) kc_2_5 rfl rfl ?_
          refine xi_goto (pc' := 10) kc_2_6 rfl ?_
          refine xi_ireturn kc_2_10 mr_2 rfl ?_
          show xw J ov 98 103 (22, [(0, .int (-14))], [.int 14, .int 5], h0) _
          refine xi_iconst (pc' := 23) (v := 5) kc_103_22 rfl rfl ?_
          refine xi_idiv (pc' := 24) (v := 2) kc_103_23 rfl rfl (by decide) ?_
          refine xi_isub (pc' := 25) (v := 3) kc_103_24 rfl rfl ?_
          refine xi_istore_n (pc' := 26) (lv' := [(1, .int 3), (0, .int (-14))]) kc_103_25 rfl rfl (xm_lt ml_103 rfl) ?_
          refine xi_iload_n (pc' := 27) (x := 3) kc_103_26 rfl rfl ?_
          refine xi_iconst (pc' := 28) (v := 1) kc_103_27 rfl rfl ?_
          refine xi_cmt (pc' := 35) kc_103_28 rfl rfl ?_
          refine xi_iload_n (pc' := 36) (x := 3) kc_103_35 rfl rfl ?_
          refine xi_ireturn kc_103_36 mr_103 rfl ?_
          show xw J ov 99 102 (30, [(0, .ref 0), (1, .int (-14))], [.int 3], h0) _
          refine xi_ireturn kc_102_30 mr_102 rfl ?_
          show xw J ov 100 196 (386, [(4, .int 0), (3, .ref 167), (2, .ref 115), (1, .ref 0), (0, .ref 1000000)], [.int 3], h0) _
          refine xi_aload_n (pc' := 387) (x := 115) kc_196_386 rfl rfl ?_
          refine xi_aload_n (pc' := 388) (x := 1000000) kc_196_387 rfl rfl ?_
          refine xi_iload (pc' := 390) (x := 0) kc_196_388 rfl rfl ?_
          refine xi_iconst (pc' := 391) (v := 1) kc_196_390 rfl rfl ?_
          refine xi_iadd (pc' := 392) (v := 1) kc_196_391 rfl rfl ?_
          refine xi_ialoadO (pc' := 393) (v := (-14)) kc_196_392 rfl (by decide) hov0 (xi_in (n := 6) (by decide) (by decide)) rfl ?_
          refine xi_virtual (mj := 22) (as := [.int (-14)]) (st1 := [.int 3]) (lv0 := [(0, .ref 115), (1, .int (-14))]) kc_196_393 rfl rfl rfl rfl rfl (F 115 _ hl_115) (Nat.le_of_ble_eq_true rfl) (hJ _ _ _ _ (by decide)) (xm_le ml_22 rfl) rfl ?_
          refine xi_aload_n (pc' := 1) (x := 115) kc_22_0 rfl rfl ?_
          refine xi_iconst (pc' := 2) (v := 0) kc_22_1 rfl rfl ?_
          refine xi_putfield (pc' := 5) (fs' := [.int 0, .int 0, .ref 116, .ref 117, .ref 118, .ref 119, .ref 120, .ref 121, .ref 122, .ref 123, .ref 124, .ref 125, .ref 126, .ref 127, .ref 128, .ref 129, .int 4, .ref 130, .int 0, .ref 131, .ref 132, .ref 133, .ref 134, .int 0, .ref 135, .ref 136, .ref 137, .ref 138, .ref 139, .ref 140, .ref 141, .ref 142, .int 0, .int 0, .int 0, .ref 143, .ref 144, .ref 145, .ref 146, .ref 147, .ref 148, .int 0, .ref 149, .ref 150, .ref 151, .int 0, .ref 152, .ref 153, .ref 154, .ref 155, .ref 156, .ref 157, .ref 158, .ref 159, .int 0, .ref 160, .int 0, .ref 161, .ref 162, .ref 163, .ref 164, .int 0, .ref 165, .ref 166]) kc_22_2 rfl rfl rfl (F 115 _ hl_115) rfl rfl rfl (Nat.le_of_ble_eq_true rfl) rfl (fun hh1 eh1 => ?_)
          refine xi_iload_n (pc' := 6) (x := (-14)) kc_22_5 rfl rfl ?_
          refine xi_bipush (pc' := 8) (v := (-20)) kc_22_6 rfl rfl ?_
          refine xi_cmt (pc' := 20) kc_22_8 rfl rfl ?_
          refine xi_iload_n (pc' := 21) (x := (-14)) kc_22_20 rfl rfl ?_
          refine xi_bipush (pc' := 23) (v := 30) kc_22_21 rfl rfl ?_
          refine xi_cmt (pc' := 35) kc_22_23 rfl rfl ?_
          refine xi_iload_n (pc' := 36) (x := (-14)) kc_22_35 rfl rfl ?_
          refine xi_static (mj := 23) (as := [.int (-14)]) (st1 := []) (lv0 := [(0, .int (-14))]) kc_22_36 rfl rfl (Nat.le_of_ble_eq_true rfl) rfl rfl (Nat.le_of_ble_eq_true rfl) (hJ _ _ _ _ (by decide)) (xm_le ml_23 rfl) rfl ?_
          refine xi_iload_n (pc' := 1) (x := (-14)) kc_23_0 rfl rfl ?_
          refine xi_ift (pc' := 17) kc_23_1 rfl rfl ?_
          refine xi_iconst (pc' := 18) (v := 5) kc_23_17 rfl rfl ?_
          refine xi_iload_n (pc' := 19) (x := (-14)) kc_23_18 rfl rfl ?_
          refine xi_ineg (pc' := 20) (v := 14) kc_23_19 rfl rfl ?_
          refine xi_iconst (pc' := 21) (v := 5) kc_23_20 rfl rfl ?_
          refine xi_idiv (pc' := 22) (v := 2) kc_23_21 rfl rfl (by decide) ?_
          refine xi_isub (pc' := 23) (v := 3) kc_23_22 rfl rfl ?_
          refine xi_istore_n (pc' := 24) (lv' := [(1, .int 3), (0, .int (-14))]) kc_23_23 rfl rfl (xm_lt ml_23 rfl) ?_
          refine xi_iload_n (pc' := 25) (x := 3) kc_23_24 rfl rfl ?_
          refine xi_iconst (pc' := 26) (v := 1) kc_23_25 rfl rfl ?_
          refine xi_cmt (pc' := 33) kc_23_26 rfl rfl ?_
          refine xi_iload_n (pc' := 34) (x := 3) kc_23_33 rfl rfl ?_
          refine xi_ireturn kc_23_34 mr_23 rfl ?_
          show xw J ov 99 22 (39, [(0, .ref 115), (1, .int (-14))], [.int 3], hh1) _
          refine xi_ireturn kc_22_39 mr_22 rfl ?_
          show xw J ov 100 196 (396, [(4, .int 0), (3, .ref 167), (2, .ref 115), (1, .ref 0), (0, .ref 1000000)], [.int 3, .int 3], hh1) _
          refine xi_cmt (pc' := 1528) kc_196_396 rfl rfl ?_
          refine xi_iinc (pc' := 1531) (x := 0) (v := 6) (lv' := [(4, .int 6), (3, .ref 167), (2, .ref 115), (1, .ref 0), (0, .ref 1000000)]) kc_196_1528 rfl rfl rfl rfl (xm_lt ml_196 rfl) ?_
          refine xi_goto (pc' := 23) kc_196_1531 rfl ?_
          refine xi_iload (pc' := 25) (x := 6) kc_196_23 rfl rfl ?_
          refine xi_aload_n (pc' := 26) (x := 1000000) kc_196_25 rfl rfl ?_
          refine xi_arraylength (pc' := 27) (n := 6) (v := 6) kc_196_26 rfl (xl_lenO (by decide) hov0 rfl) rfl ?_
          refine xi_bipush (pc' := 29) (v := 6) kc_196_27 rfl rfl ?_
          refine xi_isub (pc' := 30) (v := 0) kc_196_29 rfl rfl ?_
          refine xi_cmt (pc' := 1534) kc_196_30 rfl rfl ?_
          refine xi_iconst (pc' := 1535) (v := 1) kc_196_1534 rfl rfl ?_
          refine xi_ireturn kc_196_1535 mr_196 rfl ?_
          refine ⟨rfl, ?_, ?_⟩
          · rw [eh1.2.2.1]; exact hn0
          · rw [eh1.2.2.2]; exact hz0
        by_cases c11 : a1.toInt = (-13)
        · have qa1 : a1 = (-13) := xc_of (Eq.trans (by omega) (show ((-13) : Int) = ((-13) : Int32).toInt by decide))
          subst qa1
          refine xi_ineg (pc' := 6) (v := 13) kc_2_5 rfl rfl ?_
          refine xi_goto (pc' := 10) kc_2_6 rfl ?_
          refine xi_ireturn kc_2_10 mr_2 rfl ?_
          show xw J ov 98 103 (22, [(0, .int (-13))], [.int 13, .int 5], h0) _
          refine xi_iconst (pc' := 23) (v := 5) kc_103_22 rfl rfl ?_
          refine xi_idiv (pc' := 24) (v := 2) kc_103_23 rfl rfl (by decide) ?_
          refine xi_isub (pc' := 25) (v := 3) kc_103_24 rfl rfl ?_
          refine xi_istore_n (pc' := 26) (lv' := [(1, .int 3), (0, .int (-13))]) kc_103_25 rfl rfl (xm_lt ml_103 rfl) ?_
          refine xi_iload_n (pc' := 27) (x := 3) kc_103_26 rfl rfl ?_
          refine xi_iconst (pc' := 28) (v := 1) kc_103_27 rfl rfl ?_
          refine xi_cmt (pc' := 35) kc_103_28 rfl rfl ?_
          refine xi_iload_n (pc' := 36) (x := 3) kc_103_35 rfl rfl ?_
          refine xi_ireturn kc_103_36 mr_103 rfl ?_
          show xw J ov 99 102 (30, [(0, .ref 0), (1, .int (-13))], [.int 3], h0) _
          refine xi_ireturn kc_102_30 mr_102 rfl ?_
          show xw J ov 100 196 (386, [(4, .int 0), (3, .ref 167), (2, .ref 115), (1, .ref 0), (0, .ref 1000000)], [.int 3], h0) _
          refine xi_aload_n (pc' := 387) (x := 115) kc_196_386 rfl rfl ?_
          refine xi_aload_n (pc' := 388) (x := 1000000) kc_196_387 rfl rfl ?_
          refine xi_iload (pc' := 390) (x := 0) kc_196_388 rfl rfl ?_
          refine xi_iconst (pc' := 391) (v := 1) kc_196_390 rfl rfl ?_
          refine xi_iadd (pc' := 392) (v := 1) kc_196_391 rfl rfl ?_
          refine xi_ialoadO (pc' := 393) (v := (-13)) kc_196_392 rfl (by decide) hov0 (xi_in (n := 6) (by decide) (by decide)) rfl ?_
          refine xi_virtual (mj := 22) (as := [.int (-13)]) (st1 := [.int 3]) (lv0 := [(0, .ref 115), (1, .int (-13))]) kc_196_393 rfl rfl rfl rfl rfl (F 115 _ hl_115) (Nat.le_of_ble_eq_true rfl) (hJ _ _ _ _ (by decide)) (xm_le ml_22 rfl) rfl ?_
          refine xi_aload_n (pc' := 1) (x := 115) kc_22_0 rfl rfl ?_
          refine xi_iconst (pc' := 2) (v := 0) kc_22_1 rfl rfl ?_
          refine xi_putfield (pc' := 5) (fs' := [.int 0, .int 0, .ref 116, .ref 117, .ref 118, .ref 119, .ref 120, .ref 121, .ref 122, .ref 123, .ref 124, .ref 125, .ref 126, .ref 127, .ref 128, .ref 129, .int 4, .ref 130, .int 0, .ref 131, .ref 132, .ref 133, .ref 134, .int 0, .ref 135, .ref 136, .ref 137, .ref 138, .ref 139, .ref 140, .ref 141, .ref 142, .int 0, .int 0, .int 0, .ref 143, .ref 144, .ref 145, .ref 146, .ref 147, .ref 148, .int 0, .ref 149, .ref 150, .ref 151, .int 0, .ref 152, .ref 153, .ref 154, .ref 155, .ref 156, .ref 157, .ref 158, .ref 159, .int 0, .ref 160, .int 0, .ref 161, .ref 162, .ref 163, .ref 164, .int 0, .ref 165, .ref 166]) kc_22_2 rfl rfl rfl (F 115 _ hl_115) rfl rfl rfl (Nat.le_of_ble_eq_true rfl) rfl (fun hh1 eh1 => ?_)
          refine xi_iload_n (pc' := 6) (x := (-13)) kc_22_5 rfl rfl ?_
          refine xi_bipush (pc' := 8) (v := (-20)) kc_22_6 rfl rfl ?_
          refine xi_cmt (pc' := 20) kc_22_8 rfl rfl ?_
          refine xi_iload_n (pc' := 21) (x := (-13)) kc_22_20 rfl rfl ?_
          refine xi_bipush (pc' := 23) (v := 30) kc_22_21 rfl rfl ?_
          refine xi_cmt (pc' := 35) kc_22_23 rfl rfl ?_
          refine xi_iload_n (pc' := 36) (x := (-13)) kc_22_35 rfl rfl ?_
          refine xi_static (mj := 23) (as := [.int (-13)]) (st1 := []) (lv0 := [(0, .int (-13))]) kc_22_36 rfl rfl (Nat.le_of_ble_eq_true rfl) rfl rfl (Nat.le_of_ble_eq_true rfl) (hJ _ _ _ _ (by decide)) (xm_le ml_23 rfl) rfl ?_
          refine xi_iload_n (pc' := 1) (x := (-13)) kc_23_0 rfl rfl ?_
          refine xi_ift (pc' := 17) kc_23_1 rfl rfl ?_
          refine xi_iconst (pc' := 18) (v := 5) kc_23_17 rfl rfl ?_
          refine xi_iload_n (pc' := 19) (x := (-13)) kc_23_18 rfl rfl ?_
          refine xi_ineg (pc' := 20) (v := 13) kc_23_19 rfl rfl ?_
          refine xi_iconst (pc' := 21) (v := 5) kc_23_20 rfl rfl ?_
          refine xi_idiv (pc' := 22) (v := 2) kc_23_21 rfl rfl (by decide) ?_
          refine xi_isub (pc' := 23) (v := 3) kc_23_22 rfl rfl ?_
          refine xi_istore_n (pc' := 24) (lv' := [(1, .int 3), (0, .int (-13))]) kc_23_23 rfl rfl (xm_lt ml_23 rfl) ?_
          refine xi_iload_n (pc' := 25) (x := 3) kc_23_24 rfl rfl ?_
          refine xi_iconst (pc' := 26) (v := 1) kc_23_25 rfl rfl ?_
          refine xi_cmt (pc' := 33) kc_23_26 rfl rfl ?_
          refine xi_iload_n (pc' := 34) (x := 3) kc_23_33 rfl rfl ?_
          refine xi_ireturn kc_23_34 mr_23 rfl ?_
          show xw J ov 99 22 (39, [(0, .ref 115), (1, .int (-13))], [.int 3], hh1) _
          refine xi_ireturn kc_22_39 mr_22 rfl ?_
          show xw J ov 100 196 (396, [(4, .int 0), (3, .ref 167), (2, .ref 115), (1, .ref 0), (0, .ref 1000000)], [.int 3, .int 3], hh1) _
          refine xi_cmt (pc' := 1528) kc_196_396 rfl rfl ?_
          refine xi_iinc (pc' := 1531) (x := 0) (v := 6) (lv' := [(4, .int 6), (3, .ref 167), (2, .ref 115), (1, .ref 0), (0, .ref 1000000)]) kc_196_1528 rfl rfl rfl rfl (xm_lt ml_196 rfl) ?_
          refine xi_goto (pc' := 23) kc_196_1531 rfl ?_
          refine xi_iload (pc' := 25) (x := 6) kc_196_23 rfl rfl ?_
          refine xi_aload_n (pc' := 26) (x := 1000000) kc_196_25 rfl rfl ?_
          refine xi_arraylength (pc' := 27) (n := 6) (v := 6) kc_196_26 rfl (xl_lenO (by decide) hov0 rfl) rfl ?_
          refine xi_bipush (pc' := 29) (v := 6) kc_196_27 rfl rfl ?_
          refine xi_isub (pc' := 30) (v := 0) kc_196_29 rfl rfl ?_
          refine xi_cmt (pc' := 1534) kc_196_30 rfl rfl ?_
          refine xi_iconst (pc' := 1535) (v := 1) kc_196_1534 rfl rfl ?_
          refine xi_ireturn kc_196_1535 mr_196 rfl ?_
          refine ⟨rfl, ?_, ?_⟩
          · rw [eh1.2.2.1]; exact hn0
          · rw [eh1.2.2.2]; exact hz0
        by_cases c12 : a1.toInt = (-12)
        · have qa1 : a1 = (-12) := xc_of (Eq.trans (by omega) (show ((-12) : Int) = ((-12) : Int32).toInt by decide))
          subst qa1
          refine xi_ineg (pc' := 6) (v := 12) kc_2_5 rfl rfl ?_
          refine xi_goto (pc' := 10) kc_2_6 rfl ?_
          refine xi_ireturn kc_2_10 mr_2 rfl ?_
          show xw J ov 98 103 (22, [(0, .int (-12))], [.int 12, .int 5], h0) _
          refine xi_iconst (pc' := 23) (v := 5) kc_103_22 rfl rfl ?_
          refine xi_idiv (pc' := 24) (v := 2) kc_103_23 rfl rfl (by decide) ?_
          refine xi_isub (pc' := 25) (v := 3) kc_103_24 rfl rfl ?_
          refine xi_istore_n (pc' := 26) (lv' := [(1, .int 3), (0, .int (-12))]) kc_103_25 rfl rfl (xm_lt ml_103 rfl) ?_
          refine xi_iload_n (pc' := 27) (x := 3) kc_103_26 rfl rfl ?_
          refine xi_iconst (pc' := 28) (v := 1) kc_103_27 rfl rfl ?_
          refine xi_cmt (pc' := 35) kc_103_28 rfl rfl ?_
          refine xi_iload_n (pc' := 36) (x := 3) kc_103_35 rfl rfl ?_
          refine xi_ireturn kc_103_36 mr_103 rfl ?_
          show xw J ov 99 102 (30, [(0, .ref 0), (1, .int (-12))], [.int 3], h0) _
          refine xi_ireturn kc_102_30 mr_102 rfl ?_
          show xw J ov 100 196 (386, [(4, .int 0), (3, .ref 167), (2, .ref 115), (1, .ref 0), (0, .ref 1000000)], [.int 3], h0) _
          refine xi_aload_n (pc' := 387) (x := 115) kc_196_386 rfl rfl ?_
          refine xi_aload_n (pc' := 388) (x := 1000000) kc_196_387 rfl rfl ?_
          refine xi_iload (pc' := 390) (x := 0) kc_196_388 rfl rfl ?_
          refine xi_iconst (pc' := 391) (v := 1) kc_196_390 rfl rfl ?_
          refine xi_iadd (pc' := 392) (v := 1) kc_196_391 rfl rfl ?_
          refine xi_ialoadO (pc' := 393) (v := (-12)) kc_196_392 rfl (by decide) hov0 (xi_in (n := 6) (by decide) (by decide)) rfl ?_
          refine xi_virtual (mj := 22) (as := [.int (-12)]) (st1 := [.int 3]) (lv0 := [(0, .ref 115), (1, .int (-12))]) kc_196_393 rfl rfl rfl rfl rfl (F 115 _ hl_115) (Nat.le_of_ble_eq_true rfl) (hJ _ _ _ _ (by decide)) (xm_le ml_22 rfl) rfl ?_
          refine xi_aload_n (pc' := 1) (x := 115) kc_22_0 rfl rfl ?_
          refine xi_iconst (pc' := 2) (v := 0) kc_22_1 rfl rfl ?_
          refine xi_putfield (pc' := 5) (fs' := [.int 0, .int 0, .ref 116, .ref 117, .ref 118, .ref 119, .ref 120, .ref 121, .ref 122, .ref 123, .ref 124, .ref 125, .ref 126, .ref 127, .ref 128, .ref 129, .int 4, .ref 130, .int 0, .ref 131, .ref 132, .ref 133, .ref 134, .int 0, .ref 135, .ref 136, .ref 137, .ref 138, .ref 139, .ref 140, .ref 141, .ref 142, .int 0, .int 0, .int 0, .ref 143, .ref 144, .ref 145, .ref 146, .ref 147, .ref 148, .int 0, .ref 149, .ref 150, .ref 151, .int 0, .ref 152, .ref 153, .ref 154, .ref 155, .ref 156, .ref 157, .ref 158, .ref 159, .int 0, .ref 160, .int 0, .ref 161, .ref 162, .ref 163, .ref 164, .int 0, .ref 165, .ref 166]) kc_22_2 rfl rfl rfl (F 115 _ hl_115) rfl rfl rfl (Nat.le_of_ble_eq_true rfl) rfl (fun hh1 eh1 => ?_)
          refine xi_iload_n (pc' := 6) (x := (-12)) kc_22_5 rfl rfl ?_
          refine xi_bipush (pc' := 8) (v := (-20)) kc_22_6 rfl rfl ?_
          refine xi_cmt (pc' := 20) kc_22_8 rfl rfl ?_
          refine xi_iload_n (pc' := 21) (x := (-12)) kc_22_20 rfl rfl ?_
          refine xi_bipush (pc' := 23) (v := 30) kc_22_21 rfl rfl ?_
          refine xi_cmt (pc' := 35) kc_22_23 rfl rfl ?_
          refine xi_iload_n (pc' := 36) (x := (-12)) kc_22_35 rfl rfl ?_
          refine xi_static (mj := 23) (as := [.int (-12)]) (st1 := []) (lv0 := [(0, .int (-12))]) kc_22_36 rfl rfl (Nat.le_of_ble_eq_true rfl) rfl rfl (Nat.le_of_ble_eq_true rfl) (hJ _ _ _ _ (by decide)) (xm_le ml_23 rfl) rfl ?_
          refine xi_iload_n (pc' := 1) (x := (-12)) kc_23_0 rfl rfl ?_
          refine xi_ift (pc' := 17) kc_23_1 rfl rfl ?_
          refine xi_iconst (pc' := 18) (v := 5) kc_23_17 rfl rfl ?_
          refine xi_iload_n (pc' := 19) (x := (-12)) kc_23_18 rfl rfl ?_
          refine xi_ineg (pc' := 20) (v := 12) kc_23_19 rfl rfl ?_
          refine xi_iconst (pc' := 21) (v := 5) kc_23_20 rfl rfl ?_
          refine xi_idiv (pc' := 22) (v := 2) kc_23_21 rfl rfl (by decide) ?_
          refine xi_isub (pc' := 23) (v := 3) kc_23_22 rfl rfl ?_
          refine xi_istore_n (pc' := 24) (lv' := [(1, .int 3), (0, .int (-12))]) kc_23_23 rfl rfl (xm_lt ml_23 rfl) ?_
          refine xi_iload_n (pc' := 25) (x := 3) kc_23_24 rfl rfl ?_
          refine xi_iconst (pc' := 26) (v := 1) kc_23_25 rfl rfl ?_
          refine xi_cmt (pc' := 33) kc_23_26 rfl rfl ?_
          refine xi_iload_n (pc' := 34) (x := 3) kc_23_33 rfl rfl ?_
          refine xi_ireturn kc_23_34 mr_23 rfl ?_
          show xw J ov 99 22 (39, [(0, .ref 115), (1, .int (-12))], [.int 3], hh1) _
          refine xi_ireturn kc_22_39 mr_22 rfl ?_
          show xw J ov 100 196 (396, [(4, .int 0), (3, .ref 167), (2, .ref 115), (1, .ref 0), (0, .ref 1000000)], [.int 3, .int 3], hh1) _
          refine xi_cmt (pc' := 1528) kc_196_396 rfl rfl ?_
          refine xi_iinc (pc' := 1531) (x := 0) (v := 6) (lv' := [(4, .int 6), (3, .ref 167), (2, .ref 115), (1, .ref 0), (0, .ref 1000000)]) kc_196_1528 rfl rfl rfl rfl (xm_lt ml_196 rfl) ?_
          refine xi_goto (pc' := 23) kc_196_1531 rfl ?_
          refine xi_iload (pc' := 25) (x := 6) kc_196_23 rfl rfl ?_
          refine xi_aload_n (pc' := 26) (x := 1000000) kc_196_25 rfl rfl ?_
          refine xi_arraylength (pc' := 27) (n := 6) (v := 6) kc_196_26 rfl (xl_lenO (by decide) hov0 rfl) rfl ?_
          refine xi_bipush (pc' := 29) (v := 6) kc_196_27 rfl rfl ?_
          refine xi_isub (pc' := 30) (v := 0) kc_196_29 rfl rfl ?_
          refine xi_cmt (pc' := 1534) kc_196_30 rfl rfl ?_
          refine xi_iconst (pc' := 1535) (v := 1) kc_196_1534 rfl rfl ?_
          refine xi_ireturn kc_196_1535 mr_196 rfl ?_
          refine ⟨rfl, ?_, ?_⟩
          · rw [eh1.2.2.1]; exact hn0
          · rw [eh1.2.2.2]; exact hz0
        by_cases c13 : a1.toInt = (-11)
        · have qa1 : a1 = (-11) := xc_of (Eq.trans (by omega) (show ((-11) : Int) = ((-11) : Int32).toInt by decide))
          subst qa1
          refine xi_ineg (pc' := 6) (v := 11) kc_2_5 rfl rfl ?_
          refine xi_goto (pc' := 10) kc_2_6 rfl ?_
          refine xi_ireturn kc_2_10 mr_2 rfl ?_
          show xw J ov 98 103 (22, [(0, .int (-11))], [.int 11, .int 5], h0) _
          refine xi_iconst (pc' := 23) (v := 5) kc_103_22 rfl rfl ?_
          refine xi_idiv (pc' := 24) (v := 2) kc_103_23 rfl rfl (by decide) ?_
          refine xi_isub (pc' := 25) (v := 3) kc_103_24 rfl rfl ?_
          refine xi_istore_n (pc' := 26) (lv' := [(1, .int 3), (0, .int (-11))]) kc_103_25 rfl rfl (xm_lt ml_103 rfl) ?_
          refine xi_iload_n (pc' := 27) (x := 3) kc_103_26 rfl rfl ?_
          refine xi_iconst (pc' := 28) (v := 1) kc_103_27 rfl rfl ?_
          refine xi_cmt (pc' := 35) kc_103_28 rfl rfl ?_
          refine xi_iload_n (pc' := 36) (x := 3) kc_103_35 rfl rfl ?_
          refine xi_ireturn kc_103_36 mr_103 rfl ?_
          show xw J ov 99 102 (30, [(0, .ref 0), (1, .int (-11))], [.int 3], h0) _
          refine xi_ireturn kc_102_30 mr_102 rfl ?_
          show xw J ov 100 196 (386, [(4, .int 0), (3, .ref 167), (2, .ref 115), (1, .ref 0), (0, .ref 1000000)], [.int 3], h0) _
          refine xi_aload_n (pc' := 387) (x := 115) kc_196_386 rfl rfl ?_
          refine xi_aload_n (pc' := 388) (x := 1000000) kc_196_387 rfl rfl ?_
          refine xi_iload (pc' := 390) (x := 0) kc_196_388 rfl rfl ?_
          refine xi_iconst (pc' := 391) (v := 1) kc_196_390 rfl rfl ?_
          refine xi_iadd (pc' := 392) (v := 1) kc_196_391 rfl rfl ?_
          refine xi_ialoadO (pc' := 393) (v := (-11)) kc_196_392 rfl (by decide) hov0 (xi_in (n := 6) (by decide) (by decide)) rfl ?_
          refine xi_virtual (mj := 22) (as := [.int (-11)]) (st1 := [.int 3]) (lv0 := [(0, .ref 115), (1, .int (-11))]) kc_196_393 rfl rfl rfl rfl rfl (F 115 _ hl_115) (Nat.le_of_ble_eq_true rfl) (hJ _ _ _ _ (by decide)) (xm_le ml_22 rfl) rfl ?_
          refine xi_aload_n (pc' := 1) (x := 115) kc_22_0 rfl rfl ?_
          refine xi_iconst (pc' := 2) (v := 0) kc_22_1 rfl rfl ?_
          refine xi_putfield (pc' := 5) (fs' := [.int 0, .int 0, .ref 116, .ref 117, .ref 118, .ref 119, .ref 120, .ref 121, .ref 122, .ref 123, .ref 124, .ref 125, .ref 126, .ref 127, .ref 128, .ref 129, .int 4, .ref 130, .int 0, .ref 131, .ref 132, .ref 133, .ref 134, .int 0, .ref 135, .ref 136, .ref 137, .ref 138, .ref 139, .ref 140, .ref 141, .ref 142, .int 0, .int 0, .int 0, .ref 143, .ref 144, .ref 145, .ref 146, .ref 147, .ref 148, .int 0, .ref 149, .ref 150, .ref 151, .int 0, .ref 152, .ref 153, .ref 154, .ref 155, .ref 156, .ref 157, .ref 158, .ref 159, .int 0, .ref 160, .int 0, .ref 161, .ref 162, .ref 163, .ref 164, .int 0, .ref 165, .ref 166]) kc_22_2 rfl rfl rfl (F 115 _ hl_115) rfl rfl rfl (Nat.le_of_ble_eq_true rfl) rfl (fun hh1 eh1 => ?_)
          refine xi_iload_n (pc' := 6) (x := (-11)) kc_22_5 rfl rfl ?_
          refine xi_bipush (pc' := 8) (v := (-20)) kc_22_6 rfl rfl ?_
          refine xi_cmt (pc' := 20) kc_22_8 rfl rfl ?_
          refine xi_iload_n (pc' := 21) (x := (-11)) kc_22_20 rfl rfl ?_
          refine xi_bipush (pc' := 23) (v := 30) kc_22_21 rfl rfl ?_
          refine xi_cmt (pc' := 35) kc_22_23 rfl rfl ?_
          refine xi_iload_n (pc' := 36) (x := (-11)) kc_22_35 rfl rfl ?_
          refine xi_static (mj := 23) (as := [.int (-11)]) (st1 := []) (lv0 := [(0, .int (-11))]) kc_22_36 rfl rfl (Nat.le_of_ble_eq_true rfl) rfl rfl (Nat.le_of_ble_eq_true rfl) (hJ _ _ _ _ (by decide)) (xm_le ml_23 rfl) rfl ?_
          refine xi_iload_n (pc' := 1) (x := (-11)) kc_23_0 rfl rfl ?_
          refine xi_ift (pc' := 17) kc_23_1 rfl rfl ?_
          refine xi_iconst (pc' := 18) (v := 5) kc_23_17 rfl rfl ?_
          refine xi_iload_n (pc' := 19) (x := (-11)) kc_23_18 rfl rfl ?_
          refine xi_ineg (pc' := 20) (v := 11) kc_23_19 rfl rfl ?_
          refine xi_iconst (pc' := 21) (v := 5) kc_23_20 rfl rfl ?_
          refine xi_idiv (pc' := 22) (v := 2) kc_23_21 rfl rfl (by decide) ?_
          refine xi_isub (pc' := 23) (v := 3) kc_23_22 rfl rfl ?_
          refine xi_istore_n (pc' := 24) (lv' := [(1, .int 3), (0, .int (-11))]) kc_23_23 rfl rfl (xm_lt ml_23 rfl) ?_
          refine xi_iload_n (pc' := 25) (x := 3) kc_23_24 rfl rfl ?_
          refine xi_iconst (pc' := 26) (v := 1) kc_23_25 rfl rfl ?_
          refine xi_cmt (pc' := 33) kc_23_26 rfl rfl ?_
          refine xi_iload_n (pc' := 34) (x := 3) kc_23_33 rfl rfl ?_
          refine xi_ireturn kc_23_34 mr_23 rfl ?_
          show xw J ov 99 22 (39, [(0, .ref 115), (1, .int (-11))], [.int 3], hh1) _
          refine xi_ireturn kc_22_39 mr_22 rfl ?_
          show xw J ov 100 196 (396, [(4, .int 0), (3, .ref 167), (2, .ref 115), (1, .ref 0), (0, .ref 1000000)], [.int 3, .int 3], hh1) _
          refine xi_cmt (pc' := 1528) kc_196_396 rfl rfl ?_
          refine xi_iinc (pc' := 1531) (x := 0) (v := 6) (lv' := [(4, .int 6), (3, .ref 167), (2, .ref 115), (1, .ref 0), (0, .ref 1000000)]) kc_196_1528 rfl rfl rfl rfl (xm_lt ml_196 rfl) ?_
          refine xi_goto (pc' := 23) kc_196_1531 rfl ?_
          refine xi_iload (pc' := 25) (x := 6) kc_196_23 rfl rfl ?_
          refine xi_aload_n (pc' := 26) (x := 1000000) kc_196_25 rfl rfl ?_
          refine xi_arraylength (pc' := 27) (n := 6) (v := 6) kc_196_26 rfl (xl_lenO (by decide) hov0 rfl) rfl ?_
          refine xi_bipush (pc' := 29) (v := 6) kc_196_27 rfl rfl ?_
          refine xi_isub (pc' := 30) (v := 0) kc_196_29 rfl rfl ?_
          refine xi_cmt (pc' := 1534) kc_196_30 rfl rfl ?_
          refine xi_iconst (pc' := 1535) (v := 1) kc_196_1534 rfl rfl ?_
          refine xi_ireturn kc_196_1535 mr_196 rfl ?_
          refine ⟨rfl, ?_, ?_⟩
          · rw [eh1.2.2.1]; exact hn0
          · rw [eh1.2.2.2]; exact hz0
        by_cases c14 : a1.toInt = (-10)
        · have qa1 : a1 = (-10) := xc_of (Eq.trans (by omega) (show ((-10) : Int) = ((-10) : Int32).toInt by decide))
          subst qa1
          refine xi_ineg (pc' := 6) (v := 10) kc_2_5 rfl rfl ?_
          refine xi_goto (pc' := 10) kc_2_6 rfl ?_
          refine xi_ireturn kc_2_10 mr_2 rfl ?_
          show xw J ov 98 103 (22, [(0, .int (-10))], [.int 10, .int 5], h0) _
          refine xi_iconst (pc' := 23) (v := 5) kc_103_22 rfl rfl ?_
          refine xi_idiv (pc' := 24) (v := 2) kc_103_23 rfl rfl (by decide) ?_
          refine xi_isub (pc' := 25) (v := 3) kc_103_24 rfl rfl ?_
          refine xi_istore_n (pc' := 26) (lv' := [(1, .int 3), (0, .int (-10))]) kc_103_25 rfl rfl (xm_lt ml_103 rfl) ?_
          refine xi_iload_n (pc' := 27) (x := 3) kc_103_26 rfl rfl ?_
          refine xi_iconst (pc' := 28) (v := 1) kc_103_27 rfl rfl ?_
          refine xi_cmt (pc' := 35) kc_103_28 rfl rfl ?_
          refine xi_iload_n (pc' := 36) (x := 3) kc_103_35 rfl rfl ?_
          refine xi_ireturn kc_103_36 mr_103 rfl ?_
          show xw J ov 99 102 (30, [(0, .ref 0), (1, .int (-10))], [.int 3], h0) _
          refine xi_ireturn kc_102_30 mr_102 rfl ?_
          show xw J ov 100 196 (386, [(4, .int 0), (3, .ref 167), (2, .ref 115), (1, .ref 0), (0, .ref 1000000)], [.int 3], h0) _
          refine xi_aload_n (pc' := 387) (x := 115) kc_196_386 rfl rfl ?_
          refine xi_aload_n (pc' := 388) (x := 1000000) kc_196_387 rfl rfl ?_
          refine xi_iload (pc' := 390) (x := 0) kc_196_388 rfl rfl ?_
          refine xi_iconst (pc' := 391) (v := 1) kc_196_390 rfl rfl ?_
          refine xi_iadd (pc' := 392) (v := 1) kc_196_391 rfl rfl ?_
          refine xi_ialoadO (pc' := 393) (v := (-10)) kc_196_392 rfl (by decide) hov0 (xi_in (n := 6) (by decide) (by decide)) rfl ?_
          refine xi_virtual (mj := 22) (as := [.int (-10)]) (st1 := [.int 3]) (lv0 := [(0, .ref 115), (1, .int (-10))]) kc_196_393 rfl rfl rfl rfl rfl (F 115 _ hl_115) (Nat.le_of_ble_eq_true rfl) (hJ _ _ _ _ (by decide)) (xm_le ml_22 rfl) rfl ?_
          refine xi_aload_n (pc' := 1) (x := 115) kc_22_0 rfl rfl ?_
          refine xi_iconst (pc' := 2) (v := 0) kc_22_1 rfl rfl ?_
          refine xi_putfield (pc' := 5) (fs' := [.int 0, .int 0, .ref 116, .ref 117, .ref 118, .ref 119, .ref 120, .ref 121, .ref 122, .ref 123, .ref 124, .ref 125, .ref 126, .ref 127, .ref 128, .ref 129, .int 4, .ref 130, .int 0, .ref 131, .ref 132, .ref 133, .ref 134, .int 0, .ref 135, .ref 136, .ref 137, .ref 138, .ref 139, .ref 140, .ref 141, .ref 142, .int 0, .int 0, .int 0, .ref 143, .ref 144, .ref 145, .ref 146, .ref 147, .ref 148, .int 0, .ref 149, .ref 150, .ref 151, .int 0, .ref 152, .ref 153, .ref 154, .ref 155, .ref 156, .ref 157, .ref 158, .ref 159, .int 0, .ref 160, .int 0, .ref 161, .ref 162, .ref 163, .ref 164, .int 0, .ref 165, .ref 166]) kc_22_2 rfl rfl rfl (F 115 _ hl_115) rfl rfl rfl (Nat.le_of_ble_eq_true rfl) rfl (fun hh1 eh1 => ?_)
          refine xi_iload_n (pc' := 6) (x := (-10)) kc_22_5 rfl rfl ?_
          refine xi_bipush (pc' := 8) (v := (-20)) kc_22_6 rfl rfl ?_
          refine xi_cmt (pc' := 20) kc_22_8 rfl rfl ?_
          refine xi_iload_n (pc' := 21) (x := (-10)) kc_22_20 rfl rfl ?_
          refine xi_bipush (pc' := 23) (v := 30) kc_22_21 rfl rfl ?_
          refine xi_cmt (pc' := 35) kc_22_23 rfl rfl ?_
          refine xi_iload_n (pc' := 36) (x := (-10)) kc_22_35 rfl rfl ?_
          refine xi_static (mj := 23) (as := [.int (-10)]) (st1 := []) (lv0 := [(0, .int (-10))]) kc_22_36 rfl rfl (Nat.le_of_ble_eq_true rfl) rfl rfl (Nat.le_of_ble_eq_true rfl) (hJ _ _ _ _ (by decide)) (xm_le ml_23 rfl) rfl ?_
          refine xi_iload_n (pc' := 1) (x := (-10)) kc_23_0 rfl rfl ?_
          refine xi_ift (pc' := 17) kc_23_1 rfl rfl ?_
          refine xi_iconst (pc' := 18) (v := 5) kc_23_17 rfl rfl ?_
          refine xi_iload_n (pc' := 19) (x := (-10)) kc_23_18 rfl rfl ?_
          refine xi_ineg (pc' := 20) (v := 10) kc_23_19 rfl rfl ?_
          refine xi_iconst (pc' := 21) (v := 5) kc_23_20 rfl rfl ?_
          refine xi_idiv (pc' := 22) (v := 2) kc_23_21 rfl rfl (by decide) ?_
          refine xi_isub (pc' := 23) (v := 3) kc_23_22 rfl rfl ?_
          refine xi_istore_n (pc' := 24) (lv' := [(1, .int 3), (0, .int (-10))]) kc_23_23 rfl rfl (xm_lt ml_23 rfl) ?_
          refine xi_iload_n (pc' := 25) (x := 3) kc_23_24 rfl rfl ?_
          refine xi_iconst (pc' := 26) (v := 1) kc_23_25 rfl rfl ?_
          refine xi_cmt (pc' := 33) kc_23_26 rfl rfl ?_
          refine xi_iload_n (pc' := 34) (x := 3) kc_23_33 rfl rfl ?_
          refine xi_ireturn kc_23_34 mr_23 rfl ?_
          show xw J ov 99 22 (39, [(0, .ref 115), (1, .int (-10))], [.int 3], hh1) _
          refine xi_ireturn kc_22_39 mr_22 rfl ?_
          show xw J ov 100 196 (396, [(4, .int 0), (3, .ref 167), (2, .ref 115), (1, .ref 0), (0, .ref 1000000)], [.int 3, .int 3], hh1) _
          refine xi_cmt (pc' := 1528) kc_196_396 rfl rfl ?_
          refine xi_iinc (pc' := 1531) (x := 0) (v := 6) (lv' := [(4, .int 6), (3, .ref 167), (2, .ref 115), (1, .ref 0), (0, .ref 1000000)]) kc_196_1528 rfl rfl rfl rfl (xm_lt ml_196 rfl) ?_
          refine xi_goto (pc' := 23) kc_196_1531 rfl ?_
          refine xi_iload (pc' := 25) (x := 6) kc_196_23 rfl rfl ?_
          refine xi_aload_n (pc' := 26) (x := 1000000) kc_196_25 rfl rfl ?_
          refine xi_arraylength (pc' := 27) (n := 6) (v := 6) kc_196_26 rfl (xl_lenO (by decide) hov0 rfl) rfl ?_
          refine xi_bipush (pc' := 29) (v := 6) kc_196_27 rfl rfl ?_
          refine xi_isub (pc' := 30) (v := 0) kc_196_29 rfl rfl ?_
          refine xi_cmt (pc' := 1534) kc_196_30 rfl rfl ?_
          refine xi_iconst (pc' := 1535) (v := 1) kc_196_1534 rfl rfl ?_
          refine xi_ireturn kc_196_1535 mr_196 rfl ?_
          refine ⟨rfl, ?_, ?_⟩
          · rw [eh1.2.2.1]; exact hn0
          · rw [eh1.2.2.2]; exact hz0
        by_cases c15 : a1.toInt = (-9)
        · have qa1 : a1 = (-9) := xc_of (Eq.trans (by omega) (show ((-9) : Int) = ((-9) : Int32).toInt by decide))
          subst qa1
          refine xi_ineg (pc' := 6) (v := 9) kc_2_5 rfl rfl ?_
          refine xi_goto (pc' := 10) kc_2_6 rfl ?_
          refine xi_ireturn kc_2_10 mr_2 rfl ?_
          show xw J ov 98 103 (22, [(0, .int (-9))], [.int 9, .int 5], h0) _
          refine xi_iconst (pc' := 23) (v := 5) kc_103_22 rfl rfl ?_
          refine xi_idiv (pc' := 24) (v := 1) kc_103_23 rfl rfl (by decide) ?_
          refine xi_isub (pc' := 25) (v := 4) kc_103_24 rfl rfl ?_
          refine xi_istore_n (pc' := 26) (lv' := [(1, .int 4), (0, .int (-9))]) kc_103_25 rfl rfl (xm_lt ml_103 rfl) ?_
          refine xi_iload_n (pc' := 27) (x := 4) kc_103_26 rfl rfl ?_
          refine xi_iconst (pc' := 28) (v := 1) kc_103_27 rfl rfl ?_
          refine xi_cmt (pc' := 35) kc_103_28 rfl rfl ?_
          refine xi_iload_n (pc' := 36) (x := 4) kc_103_35 rfl rfl ?_
          refine xi_ireturn kc_103_36 mr_103 rfl ?_
          show xw J ov 99 102 (30, [(0, .ref 0), (1, .int (-9))], [.int 4], h0) _
          refine xi_ireturn kc_102_30 mr_102 rfl ?_
          show xw J ov 100 196 (386, [(4, .int 0), (3, .ref 167), (2, .ref 115), (1, .ref 0), (0, .ref 1000000)], [.int 4], h0) _
          refine xi_aload_n (pc' := 387) (x := 115) kc_196_386 rfl rfl ?_
          refine xi_aload_n (pc' := 388) (x := 1000000) kc_196_387 rfl rfl ?_
          refine xi_iload (pc' := 390) (x := 0) kc_196_388 rfl rfl ?_
          refine xi_iconst (pc' := 391) (v := 1) kc_196_390 rfl rfl ?_
          refine xi_iadd (pc' := 392) (v := 1) kc_196_391 rfl rfl ?_
          refine xi_ialoadO (pc' := 393) (v := (-9)) kc_196_392 rfl (by decide) hov0 (xi_in (n := 6) (by decide) (by decide)) rfl ?_
          refine xi_virtual (mj := 22) (as := [.int (-9)]) (st1 := [.int 4]) (lv0 := [(0, .ref 115), (1, .int (-9))]) kc_196_393 rfl rfl rfl rfl rfl (F 115 _ hl_115) (Nat.le_of_ble_eq_true rfl) (hJ _ _ _ _ (by decide)) (xm_le ml_22 rfl) rfl ?_
          refine xi_aload_n (pc' := 1) (x := 115) kc_22_0 rfl rfl ?_
          refine xi_iconst (pc' := 2) (v := 0) kc_22_1 rfl rfl ?_
          refine xi_putfield (pc' := 5) (fs' := [.int 0, .int 0, .ref 116, .ref 117, .ref 118, .ref 119, .ref 120, .ref 121, .ref 122, .ref 123, .ref 124, .ref 125, .ref 126, .ref 127, .ref 128, .ref 129, .int 4, .ref 130, .int 0, .ref 131, .ref 132, .ref 133, .ref 134, .int 0, .ref 135, .ref 136, .ref 137, .ref 138, .ref 139, .ref 140, .ref 141, .ref 142, .int 0, .int 0, .int 0, .ref 143, .ref 144, .ref 145, .ref 146, .ref 147, .ref 148, .int 0, .ref 149, .ref 150, .ref 151, .int 0, .ref 152, .ref 153, .ref 154, .ref 155, .ref 156, .ref 157, .ref 158, .ref 159, .int 0, .ref 160, .int 0, .ref 161, .ref 162, .ref 163, .ref 164, .int 0, .ref 165, .ref 166]) kc_22_2 rfl rfl rfl (F 115 _ hl_115) rfl rfl rfl (Nat.le_of_ble_eq_true rfl) rfl (fun hh1 eh1 => ?_)
          refine xi_iload_n (pc' := 6) (x := (-9)) kc_22_5 rfl rfl ?_
          refine xi_bipush (pc' := 8) (v := (-20)) kc_22_6 rfl rfl ?_
          refine xi_cmt (pc' := 20) kc_22_8 rfl rfl ?_
          refine xi_iload_n (pc' := 21) (x := (-9)) kc_22_20 rfl rfl ?_
          refine xi_bipush (pc' := 23) (v := 30) kc_22_21 rfl rfl ?_
          refine xi_cmt (pc' := 35) kc_22_23 rfl rfl ?_
          refine xi_iload_n (pc' := 36) (x := (-9)) kc_22_35 rfl rfl ?_
          refine xi_static (mj := 23) (as := [.int (-9)]) (st1 := []) (lv0 := [(0, .int (-9))]) kc_22_36 rfl rfl (Nat.le_of_ble_eq_true rfl) rfl rfl (Nat.le_of_ble_eq_true rfl) (hJ _ _ _ _ (by decide)) (xm_le ml_23 rfl) rfl ?_
          refine xi_iload_n (pc' := 1) (x := (-9)) kc_23_0 rfl rfl ?_
          refine xi_ift (pc' := 17) kc_23_1 rfl rfl ?_
          refine xi_iconst (pc' := 18) (v := 5) kc_23_17 rfl rfl ?_
          refine xi_iload_n (pc' := 19) (x := (-9)) kc_23_18 rfl rfl ?_
          refine xi_ineg (pc' := 20) (v := 9) kc_23_19 rfl rfl ?_
          refine xi_iconst (pc' := 21) (v := 5) kc_23_20 rfl rfl ?_
          refine xi_idiv (pc' := 22) (v := 1) kc_23_21 rfl rfl (by decide) ?_
          refine xi_isub (pc' := 23) (v := 4) kc_23_22 rfl rfl ?_
          refine xi_istore_n (pc' := 24) (lv' := [(1, .int 4), (0, .int (-9))]) kc_23_23 rfl rfl (xm_lt ml_23 rfl) ?_
          refine xi_iload_n (pc' := 25) (x := 4) kc_23_24 rfl rfl ?_
          refine xi_iconst (pc' := 26) (v := 1) kc_23_25 rfl rfl ?_
          refine xi_cmt (pc' := 33) kc_23_26 rfl rfl ?_
          refine xi_iload_n (pc' := 34) (x := 4) kc_23_33 rfl rfl ?_
          refine xi_ireturn kc_23_34 mr_23 rfl ?_
          show xw J ov 99 22 (39, [(0, .ref 115), (1, .int (-9))], [.int 4], hh1) _
          refine xi_ireturn kc_22_39 mr_22 rfl ?_
          show xw J ov 100 196 (396, [(4, .int 0), (3, .ref 167), (2, .ref 115), (1, .ref 0), (0, .ref 1000000)], [.int 4, .int 4], hh1) _
          refine xi_cmt (pc' := 1528) kc_196_396 rfl rfl ?_
          refine xi_iinc (pc' := 1531) (x := 0) (v := 6) (lv' := [(4, .int 6), (3, .ref 167), (2, .ref 115), (1, .ref 0), (0, .ref 1000000)]) kc_196_1528 rfl rfl rfl rfl (xm_lt ml_196 rfl) ?_
          refine xi_goto (pc' := 23) kc_196_1531 rfl ?_
          refine xi_iload (pc' := 25) (x := 6) kc_196_23 rfl rfl ?_
          refine xi_aload_n (pc' := 26) (x := 1000000) kc_196_25 rfl rfl ?_
          refine xi_arraylength (pc' := 27) (n := 6) (v := 6) kc_196_26 rfl (xl_lenO (by decide) hov0 rfl) rfl ?_
          refine xi_bipush (pc' := 29) (v := 6) kc_196_27 rfl rfl ?_
          refine xi_isub (pc' := 30) (v := 0) kc_196_29 rfl rfl ?_
          refine xi_cmt (pc' := 1534) kc_196_30 rfl rfl ?_
          refine xi_iconst (pc' := 1535) (v := 1) kc_196_1534 rfl rfl ?_
          refine xi_ireturn kc_196_1535 mr_196 rfl ?_
          refine ⟨rfl, ?_, ?_⟩
          · rw [eh1.2.2.1]; exact hn0
          · rw [eh1.2.2.2]; exact hz0
        by_cases c16 : a1.toInt = (-8)
        · have qa1 : a1 = (-8) := xc_of (Eq.trans (by omega) (show ((-8) : Int) = ((-8) : Int32).toInt by decide))
          subst qa1
          refine xi_ineg (pc' := 6) (v := 8) kc_2_5 rfl rfl ?_
          refine xi_goto (pc' := 10) kc_2_6 rfl ?_
          refine xi_ireturn kc_2_10 mr_2 rfl ?_
          show xw J ov 98 103 (22, [(0, .int (-8))], [.int 8, .int 5], h0) _
          refine xi_iconst (pc' := 23) (v := 5) kc_103_22 rfl rfl ?_
          refine xi_idiv (pc' := 24) (v := 1) kc_103_23 rfl rfl (by decide) ?_
          refine xi_isub (pc' := 25) (v := 4) kc_103_24 rfl rfl ?_
          refine xi_istore_n (pc' := 26) (lv' := [(1, .int 4), (0, .int (-8))]) kc_103_25 rfl rfl (xm_lt ml_103 rfl) ?_
          refine xi_iload_n (pc' := 27) (x := 4) kc_103_26 rfl rfl ?_
          refine xi_iconst (pc' := 28) (v := 1) kc_103_27 rfl rfl ?_
          refine xi_cmt (pc' := 35) kc_103_28 rfl rfl ?_
          refine xi_iload_n (pc' := 36) (x := 4) kc_103_35 rfl rfl ?_
          refine xi_ireturn kc_103_36 mr_103 rfl ?_
          show xw J ov 99 102 (30, [(0, .ref 0), (1, .int (-8))], [.int 4], h0) _
          refine xi_ireturn kc_102_30 mr_102 rfl ?_
          show xw J ov 100 196 (386, [(4, .int 0), (3, .ref 167), (2, .ref 115), (1, .ref 0), (0, .ref 1000000)], [.int 4], h0) _
          refine xi_aload_n (pc' := 387) (x := 115) kc_196_386 rfl rfl ?_
          refine xi_aload_n (pc' := 388) (x := 1000000) kc_196_387 rfl rfl ?_
          refine xi_iload (pc' := 390) (x := 0) kc_196_388 rfl rfl ?_
          refine xi_iconst (pc' := 391) (v := 1) kc_196_390 rfl rfl ?_
          refine xi_iadd (pc' := 392) (v := 1) kc_196_391 rfl rfl ?_
          refine xi_ialoadO (pc' := 393) (v := (-8)) kc_196_392 rfl (by decide) hov0 (xi_in (n := 6) (by decide) (by decide)) rfl ?_
          refine xi_virtual (mj := 22) (as := [.int (-8)]) (st1 := [.int 4]) (lv0 := [(0, .ref 115), (1, .int (-8))]) kc_196_393 rfl rfl rfl rfl rfl (F 115 _ hl_115) (Nat.le_of_ble_eq_true rfl) (hJ _ _ _ _ (by decide)) (xm_le ml_22 rfl) rfl ?_
          refine xi_aload_n (pc' := 1) (x := 115) kc_22_0 rfl rfl ?_
          refine xi_iconst (pc' := 2) (v := 0) kc_22_1 rfl rfl ?_
          refine xi_putfield (pc' := 5) (fs' := [.int 0, .int 0, .ref 116, .ref 117, .ref 118, .ref 119, .ref 120, .ref 121, .ref 122, .ref 123, .ref 124, .ref 125, .ref 126, .ref 127, .ref 128, .ref 129, .int 4, .ref 130, .int 0, .ref 131, .ref 132, .ref 133, .ref 134, .int 0, .ref 135, .ref 136, .ref 137, .ref 138, .ref 139, .ref 140, .ref 141, .ref 142, .int 0, .int 0, .int 0, .ref 143, .ref 144, .ref 145, .ref 146, .ref 147, .ref 148, .int 0, .ref 149, .ref 150, .ref 151, .int 0, .ref 152, .ref 153, .ref 154, .ref 155, .ref 156, .ref 157, .ref 158, .ref 159, .int 0, .ref 160, .int 0, .ref 161, .ref 162, .ref 163, .ref 164, .int 0, .ref 165, .ref 166]) kc_22_2 rfl rfl rfl (F 115 _ hl_115) rfl rfl rfl (Nat.le_of_ble_eq_true rfl) rfl (fun hh1 eh1 => ?_)
          refine xi_iload_n (pc' := 6) (x := (-8)) kc_22_5 rfl rfl ?_
          refine xi_bipush (pc' := 8) (v := (-20)) kc_22_6 rfl rfl ?_
          refine xi_cmt (pc' := 20) kc_22_8 rfl rfl ?_
          refine xi_iload_n (pc' := 21) (x := (-8)) kc_22_20 rfl rfl ?_
          refine xi_bipush (pc' := 23) (v := 30) kc_22_21 rfl rfl ?_
          refine xi_cmt (pc' := 35) kc_22_23 rfl rfl ?_
          refine xi_iload_n (pc' := 36) (x := (-8)) kc_22_35 rfl rfl ?_
          refine xi_static (mj := 23) (as := [.int (-8)]) (st1 := []) (lv0 := [(0, .int (-8))]) kc_22_36 rfl rfl (Nat.le_of_ble_eq_true rfl) rfl rfl (Nat.le_of_ble_eq_true rfl) (hJ _ _ _ _ (by decide)) (xm_le ml_23 rfl) rfl ?_
          refine xi_iload_n (pc' := 1) (x := (-8)) kc_23_0 rfl rfl ?_
          refine xi_ift (pc' := 17) kc_23_1 rfl rfl ?_
          refine xi_iconst (pc' := 18) (v := 5) kc_23_17 rfl rfl ?_
          refine xi_iload_n (pc' := 19) (x := (-8)) kc_23_18 rfl rfl ?_
          refine xi_ineg (pc' := 20) (v := 8) kc_23_19 rfl rfl ?_
          refine xi_iconst (pc' := 21) (v := 5) kc_23_20 rfl rfl ?_
          refine xi_idiv (pc' := 22) (v := 1) kc_23_21 rfl rfl (by decide) ?_
          refine xi_isub (pc' := 23) (v := 4) kc_23_22 rfl rfl ?_
          refine xi_istore_n (pc' := 24) (lv' := [(1, .int 4), (0, .int (-8))]) kc_23_23 rfl rfl (xm_lt ml_23 rfl) ?_
          refine xi_iload_n (pc' := 25) (x := 4) kc_23_24 rfl rfl ?_
          refine xi_iconst (pc' := 26) (v := 1) kc_23_25 rfl rfl ?_
          refine xi_cmt (pc' := 33) kc_23_26 rfl rfl ?_
          refine xi_iload_n (pc' := 34) (x := 4) kc_23_33 rfl rfl ?_
          refine xi_ireturn kc_23_34 mr_23 rfl ?_
          show xw J ov 99 22 (39, [(0, .ref 115), (1, .int (-8))], [.int 4], hh1) _
          refine xi_ireturn kc_22_39 mr_22 rfl ?_
          show xw J ov 100 196 (396, [(4, .int 0), (3, .ref 167), (2, .ref 115), (1, .ref 0), (0, .ref 1000000)], [.int 4, .int 4], hh1) _
          refine xi_cmt (pc' := 1528) kc_196_396 rfl rfl ?_
          refine xi_iinc (pc' := 1531) (x := 0) (v := 6) (lv' := [(4, .int 6), (3, .ref 167), (2, .ref 115), (1, .ref 0), (0, .ref 1000000)]) kc_196_1528 rfl rfl rfl rfl (xm_lt ml_196 rfl) ?_
          refine xi_goto (pc' := 23) kc_196_1531 rfl ?_
          refine xi_iload (pc' := 25) (x := 6) kc_196_23 rfl rfl ?_
          refine xi_aload_n (pc' := 26) (x := 1000000) kc_196_25 rfl rfl ?_
          refine xi_arraylength (pc' := 27) (n := 6) (v := 6) kc_196_26 rfl (xl_lenO (by decide) hov0 rfl) rfl ?_
          refine xi_bipush (pc' := 29) (v := 6) kc_196_27 rfl rfl ?_
          refine xi_isub (pc' := 30) (v := 0) kc_196_29 rfl rfl ?_
          refine xi_cmt (pc' := 1534) kc_196_30 rfl rfl ?_
          refine xi_iconst (pc' := 1535) (v := 1) kc_196_1534 rfl rfl ?_
          refine xi_ireturn kc_196_1535 mr_196 rfl ?_
          refine ⟨rfl, ?_, ?_⟩
          · rw [eh1.2.2.1]; exact hn0
          · rw [eh1.2.2.2]; exact hz0
        by_cases c17 : a1.toInt = (-7)
        · have qa1 : a1 = (-7) := xc_of (Eq.trans (by omega) (show ((-7) : Int) = ((-7) : Int32).toInt by decide))
          subst qa1
          refine xi_ineg (pc' := 6) (v := 7) kc_2_5 rfl rfl ?_
          refine xi_goto (pc' := 10) kc_2_6 rfl ?_
          refine xi_ireturn kc_2_10 mr_2 rfl ?_
          show xw J ov 98 103 (22, [(0, .int (-7))], [.int 7, .int 5], h0) _
          refine xi_iconst (pc' := 23) (v := 5) kc_103_22 rfl rfl ?_
          refine xi_idiv (pc' := 24) (v := 1) kc_103_23 rfl rfl (by decide) ?_
          refine xi_isub (pc' := 25) (v := 4) kc_103_24 rfl rfl ?_
          refine xi_istore_n (pc' := 26) (lv' := [(1, .int 4), (0, .int (-7))]) kc_103_25 rfl rfl (xm_lt ml_103 rfl) ?_
          refine xi_iload_n (pc' := 27) (x := 4) kc_103_26 rfl rfl ?_
          refine xi_iconst (pc' := 28) (v := 1) kc_103_27 rfl rfl ?_
          refine xi_cmt (pc' := 35) kc_103_28 rfl rfl ?_
          refine xi_iload_n (pc' := 36) (x := 4) kc_103_35 rfl rfl ?_
          refine xi_ireturn kc_103_36 mr_103 rfl ?_
          show xw J ov 99 102 (30, [(0, .ref 0), (1, .int (-7))], [.int 4], h0) _
          refine xi_ireturn kc_102_30 mr_102 rfl ?_
          show xw J ov 100 196 (386, [(4, .int 0), (3, .ref 167), (2, .ref 115), (1, .ref 0), (0, .ref 1000000)], [.int 4], h0) _
          refine xi_aload_n (pc' := 387) (x := 115) kc_196_386 rfl rfl ?_
          refine xi_aload_n (pc' := 388) (x := 1000000) kc_196_387 rfl rfl ?_
          refine xi_iload (pc' := 390) (x := 0) kc_196_388 rfl rfl ?_
          refine xi_iconst (pc' := 391) (v := 1) kc_196_390 rfl rfl ?_
          refine xi_iadd (pc' := 392) (v := 1) kc_196_391 rfl rfl ?_
          refine xi_ialoadO (pc' := 393) (v := (-7)) kc_196_392 rfl (by decide) hov0 (xi_in (n := 6) (by decide) (by decide)) rfl ?_
          refine xi_virtual (mj := 22) (as := [.int (-7)]) (st1 := [.int 4]) (lv0 := [(0, .ref 115), (1, .int (-7))]) kc_196_393 rfl rfl rfl rfl rfl (F 115 _ hl_115) (Nat.le_of_ble_eq_true rfl) (hJ _ _ _ _ (by decide)) (xm_le ml_22 rfl) rfl ?_
          refine xi_aload_n (pc' := 1) (x := 115) kc_22_0 rfl rfl ?_
          refine xi_iconst (pc' := 2) (v := 0) kc_22_1 rfl rfl ?_
          refine xi_putfield (pc' := 5) (fs' := [.int 0, .int 0, .ref 116, .ref 117, .ref 118, .ref 119, .ref 120, .ref 121, .ref 122, .ref 123, .ref 124, .ref 125, .ref 126, .ref 127, .ref 128, .ref 129, .int 4, .ref 130, .int 0, .ref 131, .ref 132, .ref 133, .ref 134, .int 0, .ref 135, .ref 136, .ref 137, .ref 138, .ref 139, .ref 140, .ref 141, .ref 142, .int 0, .int 0, .int 0, .ref 143, .ref 144, .ref 145, .ref 146, .ref 147, .ref 148, .int 0, .ref 149, .ref 150, .ref 151, .int 0, .ref 152, .ref 153, .ref 154, .ref 155, .ref 156, .ref 157, .ref 158, .ref 159, .int 0, .ref 160, .int 0, .ref 161, .ref 162, .ref 163, .ref 164, .int 0, .ref 165, .ref 166]) kc_22_2 rfl rfl rfl (F 115 _ hl_115) rfl rfl rfl (Nat.le_of_ble_eq_true rfl) rfl (fun hh1 eh1 => ?_)
          refine xi_iload_n (pc' := 6) (x := (-7)) kc_22_5 rfl rfl ?_
          refine xi_bipush (pc' := 8) (v := (-20)) kc_22_6 rfl rfl ?_
          refine xi_cmt (pc' := 20) kc_22_8 rfl rfl ?_
          refine xi_iload_n (pc' := 21) (x := (-7)) kc_22_20 rfl rfl ?_
          refine xi_bipush (pc' := 23) (v := 30) kc_22_21 rfl rfl ?_
          refine xi_cmt (pc' := 35) kc_22_23 rfl rfl ?_
          refine xi_iload_n (pc' := 36) (x := (-7)) kc_22_35 rfl rfl ?_
          refine xi_static (mj := 23) (as := [.int (-7)]) (st1 := []) (lv0 := [(0, .int (-7))]) kc_22_36 rfl rfl (Nat.le_of_ble_eq_true rfl) rfl rfl (Nat.le_of_ble_eq_true rfl) (hJ _ _ _ _ (by decide)) (xm_le ml_23 rfl) rfl ?_
          refine xi_iload_n (pc' := 1) (x := (-7)) kc_23_0 rfl rfl ?_
          refine xi_ift (pc' := 17) kc_23_1 rfl rfl ?_
          refine xi_iconst (pc' := 18) (v := 5) kc_23_17 rfl rfl ?_
          refine xi_iload_n (pc' := 19) (x := (-7)) kc_23_18 rfl rfl ?_
          refine xi_ineg (pc' := 20) (v := 7) kc_23_19 rfl rfl ?_
          refine xi_iconst (pc' := 21) (v := 5) kc_23_20 rfl rfl ?_
          refine xi_idiv (pc' := 22) (v := 1) kc_23_21 rfl rfl (by decide) ?_
          refine xi_isub (pc' := 23) (v := 4) kc_23_22 rfl rfl ?_
          refine xi_istore_n (pc' := 24) (lv' := [(1, .int 4), (0, .int (-7))]) kc_23_23 rfl rfl (xm_lt ml_23 rfl) ?_
          refine xi_iload_n (pc' := 25) (x := 4) kc_23_24 rfl rfl ?_
          refine xi_iconst (pc' := 26) (v := 1) kc_23_25 rfl rfl ?_
          refine xi_cmt (pc' := 33) kc_23_26 rfl rfl ?_
          refine xi_iload_n (pc' := 34) (x := 4) kc_23_33 rfl rfl ?_
          refine xi_ireturn kc_23_34 mr_23 rfl ?_
          show xw J ov 99 22 (39, [(0, .ref 115), (1, .int (-7))], [.int 4], hh1) _
          refine xi_ireturn kc_22_39 mr_22 rfl ?_
          show xw J ov 100 196 (396, [(4, .int 0), (3, .ref 167), (2, .ref 115), (1, .ref 0), (0, .ref 1000000)], [.int 4, .int 4], hh1) _
          refine xi_cmt (pc' := 1528) kc_196_396 rfl rfl ?_
          refine xi_iinc (pc' := 1531) (x := 0) (v := 6) (lv' := [(4, .int 6), (3, .ref 167), (2, .ref 115), (1, .ref 0), (0, .ref 1000000)]) kc_196_1528 rfl rfl rfl rfl (xm_lt ml_196 rfl) ?_
          refine xi_goto (pc' := 23) kc_196_1531 rfl ?_
          refine xi_iload (pc' := 25) (x := 6) kc_196_23 rfl rfl ?_
          refine xi_aload_n (pc' := 26) (x := 1000000) kc_196_25 rfl rfl ?_
          refine xi_arraylength (pc' := 27) (n := 6) (v := 6) kc_196_26 rfl (xl_lenO (by decide) hov0 rfl) rfl ?_
          refine xi_bipush (pc' := 29) (v := 6) kc_196_27 rfl rfl ?_
          refine xi_isub (pc' := 30) (v := 0) kc_196_29 rfl rfl ?_
          refine xi_cmt (pc' := 1534) kc_196_30 rfl rfl ?_
          refine xi_iconst (pc' := 1535) (v := 1) kc_196_1534 rfl rfl ?_
          refine xi_ireturn kc_196_1535 mr_196 rfl ?_
          refine ⟨rfl, ?_, ?_⟩
          · rw [eh1.2.2.1]; exact hn0
          · rw [eh1.2.2.2]; exact hz0
        by_cases c18 : a1.toInt = (-6)
        · have qa1 : a1 = (-6) := xc_of (Eq.trans (by omega) (show ((-6) : Int) = ((-6) : Int32).toInt by decide))
          subst qa1
          refine xi_ineg (pc' := 6) (v := 6) kc_2_5 rfl rfl ?_
          refine xi_goto (pc' := 10) kc_2_6 rfl ?_
          refine xi_ireturn kc_2_10 mr_2 rfl ?_
          show xw J ov 98 103 (22, [(0, .int (-6))], [.int 6, .int 5], h0) _
          refine xi_iconst (pc' := 23) (v := 5) kc_103_22 rfl rfl ?_
          refine xi_idiv (pc' := 24) (v := 1) kc_103_23 rfl rfl (by decide) ?_
          refine xi_isub (pc' := 25) (v := 4) kc_103_24 rfl rfl ?_
          refine xi_istore_n (pc' := 26) (lv' := [(1, .int 4), (0, .int (-6))]) kc_103_25 rfl rfl (xm_lt ml_103 rfl) ?_
          refine xi_iload_n (pc' := 27) (x := 4) kc_103_26 rfl rfl ?_
          refine xi_iconst (pc' := 28) (v := 1) kc_103_27 rfl rfl ?_
          refine xi_cmt (pc' := 35) kc_103_28 rfl rfl ?_
          refine xi_iload_n (pc' := 36) (x := 4) kc_103_35 rfl rfl ?_
          refine xi_ireturn kc_103_36 mr_103 rfl ?_
          show xw J ov 99 102 (30, [(0, .ref 0), (1, .int (-6))], [.int 4], h0) _
          refine xi_ireturn kc_102_30 mr_102 rfl ?_
          show xw J ov 100 196 (386, [(4, .int 0), (3, .ref 167), (2, .ref 115), (1, .ref 0), (0, .ref 1000000)], [.int 4], h0) _
          refine xi_aload_n (pc' := 387) (x := 115) kc_196_386 rfl rfl ?_
          refine xi_aload_n (pc' := 388) (x := 1000000) kc_196_387 rfl rfl ?_
          refine xi_iload (pc' := 390) (x := 0) kc_196_388 rfl rfl ?_
          refine xi_iconst (pc' := 391) (v := 1) kc_196_390 rfl rfl ?_
          refine xi_iadd (pc' := 392) (v := 1) kc_196_391 rfl rfl ?_
          refine xi_ialoadO (pc' := 393) (v := (-6)) kc_196_392 rfl (by decide) hov0 (xi_in (n := 6) (by decide) (by decide)) rfl ?_
          refine xi_virtual (mj := 22) (as := [.int (-6)]) (st1 := [.int 4]) (lv0 := [(0, .ref 115), (1, .int (-6))]) kc_196_393 rfl rfl rfl rfl rfl (F 115 _ hl_115) (Nat.le_of_ble_eq_true rfl) (hJ _ _ _ _ (by decide)) (xm_le ml_22 rfl) rfl ?_
          refine xi_aload_n (pc' := 1) (x := 115) kc_22_0 rfl rfl ?_
          refine xi_iconst (pc' := 2) (v := 0) kc_22_1 rfl rfl ?_
          refine xi_putfield (pc' := 5) (fs' := [.int 0, .int 0, .ref 116, .ref 117, .ref 118, .ref 119, .ref 120, .ref 121, .ref 122, .ref 123, .ref 124, .ref 125, .ref 126, .ref 127, .ref 128, .ref 129, .int 4, .ref 130, .int 0, .ref 131, .ref 132, .ref 133, .ref 134, .int 0, .ref 135, .ref 136, .ref 137, .ref 138, .ref 139, .ref 140, .ref 141, .ref 142, .int 0, .int 0, .int 0, .ref 143, .ref 144, .ref 145, .ref 146, .ref 147, .ref 148, .int 0, .ref 149, .ref 150, .ref 151, .int 0, .ref 152, .ref 153, .ref 154, .ref 155, .ref 156, .ref 157, .ref 158, .ref 159, .int 0, .ref 160, .int 0, .ref 161, .ref 162, .ref 163, .ref 164, .int 0, .ref 165, .ref 166]) kc_22_2 rfl rfl rfl (F 115 _ hl_115) rfl rfl rfl (Nat.le_of_ble_eq_true rfl) rfl (fun hh1 eh1 => ?_)
          refine xi_iload_n (pc' := 6) (x := (-6)) kc_22_5 rfl rfl ?_
          refine xi_bipush (pc' := 8) (v := (-20)) kc_22_6 rfl rfl ?_
          refine xi_cmt (pc' := 20) kc_22_8 rfl rfl ?_
          refine xi_iload_n (pc' := 21) (x := (-6)) kc_22_20 rfl rfl ?_
          refine xi_bipush (pc' := 23) (v := 30) kc_22_21 rfl rfl ?_
          refine xi_cmt (pc' := 35) kc_22_23 rfl rfl ?_
          refine xi_iload_n (pc' := 36) (x := (-6)) kc_22_35 rfl rfl ?_
          refine xi_static (mj := 23) (as := [.int (-6)]) (st1 := []) (lv0 := [(0, .int (-6))]) kc_22_36 rfl rfl (Nat.le_of_ble_eq_true rfl) rfl rfl (Nat.le_of_ble_eq_true rfl) (hJ _ _ _ _ (by decide)) (xm_le ml_23 rfl) rfl ?_
          refine xi_iload_n (pc' := 1) (x := (-6)) kc_23_0 rfl rfl ?_
          refine xi_ift (pc' := 17) kc_23_1 rfl rfl ?_
          refine xi_iconst (pc' := 18) (v := 5) kc_23_17 rfl rfl ?_
          refine xi_iload_n (pc' := 19) (x := (-6)) kc_23_18 rfl rfl ?_
          refine xi_ineg (pc' := 20) (v := 6) kc_23_19 rfl rfl ?_
          refine xi_iconst (pc' := 21) (v := 5) kc_23_20 rfl rfl ?_
          refine xi_idiv (pc' := 22) (v := 1) kc_23_21 rfl rfl (by decide) ?_
          refine xi_isub (pc' := 23) (v := 4) kc_23_22 rfl rfl ?_
          refine xi_istore_n (pc' := 24) (lv' := [(1, .int 4), (0, .int (-6))]) kc_23_23 rfl rfl (xm_lt ml_23 rfl) ?_
          refine xi_iload_n (pc' := 25) (x := 4) kc_23_24 rfl rfl ?_
          refine xi_iconst (pc' := 26) (v := 1) kc_23_25 rfl rfl ?_
          refine xi_cmt (pc' := 33) kc_23_26 rfl rfl ?_
          refine xi_iload_n (pc' := 34) (x := 4) kc_23_33 rfl rfl ?_
          refine xi_ireturn kc_23_34 mr_23 rfl ?_
          show xw J ov 99 22 (39, [(0, .ref 115), (1, .int (-6))], [.int 4], hh1) _
          refine xi_ireturn kc_22_39 mr_22 rfl ?_
          show xw J ov 100 196 (396, [(4, .int 0), (3, .ref 167), (2, .ref 115), (1, .ref 0), (0, .ref 1000000)], [.int 4, .int 4], hh1) _
          refine xi_cmt (pc' := 1528) kc_196_396 rfl rfl ?_
          refine xi_iinc (pc' := 1531) (x := 0) (v := 6) (lv' := [(4, .int 6), (3, .ref 167), (2, .ref 115), (1, .ref 0), (0, .ref 1000000)]) kc_196_1528 rfl rfl rfl rfl (xm_lt ml_196 rfl) ?_
          refine xi_goto (pc' := 23) kc_196_1531 rfl ?_
          refine xi_iload (pc' := 25) (x := 6) kc_196_23 rfl rfl ?_
          refine xi_aload_n (pc' := 26) (x := 1000000) kc_196_25 rfl rfl ?_
          refine xi_arraylength (pc' := 27) (n := 6) (v := 6) kc_196_26 rfl (xl_lenO (by decide) hov0 rfl) rfl ?_
          refine xi_bipush (pc' := 29) (v := 6) kc_196_27 rfl rfl ?_
          refine xi_isub (pc' := 30) (v := 0) kc_196_29 rfl rfl ?_
          refine xi_cmt (pc' := 1534) kc_196_30 rfl rfl ?_
          refine xi_iconst (pc' := 1535) (v := 1) kc_196_1534 rfl rfl ?_
          refine xi_ireturn kc_196_1535 mr_196 rfl ?_
          refine ⟨rfl, ?_, ?_⟩
          · rw [eh1.2.2.1]; exact hn0
          · rw [eh1.2.2.2]; exact hz0
        by_cases c19 : a1.toInt = (-5)
        · have qa1 : a1 = (-5) := xc_of (Eq.trans (by omega) (show ((-5) : Int) = ((-5) : Int32).toInt by decide))
          subst qa1
          refine xi_ineg (pc' := 6) (v := 5) kc_2_5 rfl rfl ?_
          refine xi_goto (pc' := 10) kc_2_6 rfl ?_
          refine xi_ireturn kc_2_10 mr_2 rfl ?_
          show xw J ov 98 103 (22, [(0, .int (-5))], [.int 5, .int 5], h0) _
          refine xi_iconst (pc' := 23) (v := 5) kc_103_22 rfl rfl ?_
          refine xi_idiv (pc' := 24) (v := 1) kc_103_23 rfl rfl (by decide) ?_
          refine xi_isub (pc' := 25) (v := 4) kc_103_24 rfl rfl ?_
          refine xi_istore_n (pc' := 26) (lv' := [(1, .int 4), (0, .int (-5))]) kc_103_25 rfl rfl (xm_lt ml_103 rfl) ?_
          refine xi_iload_n (pc' := 27) (x := 4) kc_103_26 rfl rfl ?_
          refine xi_iconst (pc' := 28) (v := 1) kc_103_27 rfl rfl ?_
          refine xi_cmt (pc' := 35) kc_103_28 rfl rfl ?_
          refine xi_iload_n (pc' := 36) (x := 4) kc_103_35 rfl rfl ?_
          refine xi_ireturn kc_103_36 mr_103 rfl ?_
          show xw J ov 99 102 (30, [(0, .ref 0), (1, .int (-5))], [.int 4], h0) _
          refine xi_ireturn kc_102_30 mr_102 rfl ?_
          show xw J ov 100 196 (386, [(4, .int 0), (3, .ref 167), (2, .ref 115), (1, .ref 0), (0, .ref 1000000)], [.int 4], h0) _
          refine xi_aload_n (pc' := 387) (x := 115) kc_196_386 rfl rfl ?_
          refine xi_aload_n (pc' := 388) (x := 1000000) kc_196_387 rfl rfl ?_
          refine xi_iload (pc' := 390) (x := 0) kc_196_388 rfl rfl ?_
          refine xi_iconst (pc' := 391) (v := 1) kc_196_390 rfl rfl ?_
          refine xi_iadd (pc' := 392) (v := 1) kc_196_391 rfl rfl ?_
          refine xi_ialoadO (pc' := 393) (v := (-5)) kc_196_392 rfl (by decide) hov0 (xi_in (n := 6) (by decide) (by decide)) rfl ?_
          refine xi_virtual (mj := 22) (as := [.int (-5)]) (st1 := [.int 4]) (lv0 := [(0, .ref 115), (1, .int (-5))]) kc_196_393 rfl rfl rfl rfl rfl (F 115 _ hl_115) (Nat.le_of_ble_eq_true rfl) (hJ _ _ _ _ (by decide)) (xm_le ml_22 rfl) rfl ?_
          refine xi_aload_n (pc' := 1) (x := 115) kc_22_0 rfl rfl ?_
          refine xi_iconst (pc' := 2) (v := 0) kc_22_1 rfl rfl ?_
          refine xi_putfield (pc' := 5) (fs' := [.int 0, .int 0, .ref 116, .ref 117, .ref 118, .ref 119, .ref 120, .ref 121, .ref 122, .ref 123, .ref 124, .ref 125, .ref 126, .ref 127, .ref 128, .ref 129, .int 4, .ref 130, .int 0, .ref 131, .ref 132, .ref 133, .ref 134, .int 0, .ref 135, .ref 136, .ref 137, .ref 138, .ref 139, .ref 140, .ref 141, .ref 142, .int 0, .int 0, .int 0, .ref 143, .ref 144, .ref 145, .ref 146, .ref 147, .ref 148, .int 0, .ref 149, .ref 150, .ref 151, .int 0, .ref 152, .ref 153, .ref 154, .ref 155, .ref 156, .ref 157, .ref 158, .ref 159, .int 0, .ref 160, .int 0, .ref 161, .ref 162, .ref 163, .ref 164, .int 0, .ref 165, .ref 166]) kc_22_2 rfl rfl rfl (F 115 _ hl_115) rfl rfl rfl (Nat.le_of_ble_eq_true rfl) rfl (fun hh1 eh1 => ?_)
          refine xi_iload_n (pc' := 6) (x := (-5)) kc_22_5 rfl rfl ?_
          refine xi_bipush (pc' := 8) (v := (-20)) kc_22_6 rfl rfl ?_
          refine xi_cmt (pc' := 20) kc_22_8 rfl rfl ?_
          refine xi_iload_n (pc' := 21) (x := (-5)) kc_22_20 rfl rfl ?_
          refine xi_bipush (pc' := 23) (v := 30) kc_22_21 rfl rfl ?_
          refine xi_cmt (pc' := 35) kc_22_23 rfl rfl ?_
          refine xi_iload_n (pc' := 36) (x := (-5)) kc_22_35 rfl rfl ?_
          refine xi_static (mj := 23) (as := [.int (-5)]) (st1 := []) (lv0 := [(0, .int (-5))]) kc_22_36 rfl rfl (Nat.le_of_ble_eq_true rfl) rfl rfl (Nat.le_of_ble_eq_true rfl) (hJ _ _ _ _ (by decide)) (xm_le ml_23 rfl) rfl ?_
          refine xi_iload_n (pc' := 1) (x := (-5)) kc_23_0 rfl rfl ?_
          refine xi_ift (pc' := 17) kc_23_1 rfl rfl ?_
          refine xi_iconst (pc' := 18) (v := 5) kc_23_17 rfl rfl ?_
          refine xi_iload_n (pc' := 19) (x := (-5)) kc_23_18 rfl rfl ?_
          refine xi_ineg (pc' := 20) (v := 5) kc_23_19 rfl rfl ?_
          refine xi_iconst (pc' := 21) (v := 5) kc_23_20 rfl rfl ?_
          refine xi_idiv (pc' := 22) (v := 1) kc_23_21 rfl rfl (by decide) ?_
          refine xi_isub (pc' := 23) (v := 4) kc_23_22 rfl rfl ?_
          refine xi_istore_n (pc' := 24) (lv' := [(1, .int 4), (0, .int (-5))]) kc_23_23 rfl rfl (xm_lt ml_23 rfl) ?_
          refine xi_iload_n (pc' := 25) (x := 4) kc_23_24 rfl rfl ?_
          refine xi_iconst (pc' := 26) (v := 1) kc_23_25 rfl rfl ?_
          refine xi_cmt (pc' := 33) kc_23_26 rfl rfl ?_
          refine xi_iload_n (pc' := 34) (x := 4) kc_23_33 rfl rfl ?_
          refine xi_ireturn kc_23_34 mr_23 rfl ?_
          show xw J ov 99 22 (39, [(0, .ref 115), (1, .int (-5))], [.int 4], hh1) _
          refine xi_ireturn kc_22_39 mr_22 rfl ?_
          show xw J ov 100 196 (396, [(4, .int 0), (3, .ref 167), (2, .ref 115), (1, .ref 0), (0, .ref 1000000)], [.int 4, .int 4], hh1) _
          refine xi_cmt (pc' := 1528) kc_196_396 rfl rfl ?_
          refine xi_iinc (pc' := 1531) (x := 0) (v := 6) (lv' := [(4, .int 6), (3, .ref 167), (2, .ref 115), (1, .ref 0), (0, .ref 1000000)]) kc_196_1528 rfl rfl rfl rfl (xm_lt ml_196 rfl) ?_
          refine xi_goto (pc' := 23) kc_196_1531 rfl ?_
          refine xi_iload (pc' := 25) (x := 6) kc_196_23 rfl rfl ?_
          refine xi_aload_n (pc' := 26) (x := 1000000) kc_196_25 rfl rfl ?_
          refine xi_arraylength (pc' := 27) (n := 6) (v := 6) kc_196_26 rfl (xl_lenO (by decide) hov0 rfl) rfl ?_
          refine xi_bipush (pc' := 29) (v := 6) kc_196_27 rfl rfl ?_
          refine xi_isub (pc' := 30) (v := 0) kc_196_29 rfl rfl ?_
          refine xi_cmt (pc' := 1534) kc_196_30 rfl rfl ?_
          refine xi_iconst (pc' := 1535) (v := 1) kc_196_1534 rfl rfl ?_
          refine xi_ireturn kc_196_1535 mr_196 rfl ?_
          refine ⟨rfl, ?_, ?_⟩
          · rw [eh1.2.2.1]; exact hn0
          · rw [eh1.2.2.2]; exact hz0
        by_cases c20 : a1.toInt = (-4)
        · have qa1 : a1 = (-4) := xc_of (Eq.trans (by omega) (show ((-4) : Int) = ((-4) : Int32).toInt by decide))
          subst qa1
          refine xi_ineg (pc' := 6) (v := 4) kc_2_5 rfl rfl ?_
          refine xi_goto (pc' := 10) kc_2_6 rfl ?_
          refine xi_ireturn kc_2_10 mr_2 rfl ?_
          show xw J ov 98 103 (22, [(0, .int (-4))], [.int 4, .int 5], h0) _
          refine xi_iconst (pc' := 23) (v := 5) kc_103_22 rfl rfl ?_
          refine xi_idiv (pc' := 24) (v := 0) kc_103_23 rfl rfl (by decide) ?_
          refine xi_isub (pc' := 25) (v := 5) kc_103_24 rfl rfl ?_
          refine xi_istore_n (pc' := 26) (lv' := [(1, .int 5), (0, .int (-4))]) kc_103_25 rfl rfl (xm_lt ml_103 rfl) ?_
          refine xi_iload_n (pc' := 27) (x := 5) kc_103_26 rfl rfl ?_
          refine xi_iconst (pc' := 28) (v := 1) kc_103_27 rfl rfl ?_
          refine xi_cmt (pc' := 35) kc_103_28 rfl rfl ?_
          refine xi_iload_n (pc' := 36) (x := 5) kc_103_35 rfl rfl ?_
          refine xi_ireturn kc_103_36 mr_103 rfl ?_
          show xw J ov 99 102 (30, [(0, .ref 0), (1, .int (-4))], [.int 5], h0) _
          refine xi_ireturn kc_102_30 mr_102 rfl ?_
          show xw J ov 100 196 (386, [(4, .int 0), (3, .ref 167), (2, .ref 115), (1, .ref 0), (0, .ref 1000000)], [.int 5], h0) _
          refine xi_aload_n (pc' := 387) (x := 115) kc_196_386 rfl rfl ?_
          refine xi_aload_n (pc' := 388) (x := 1000000) kc_196_387 rfl rfl ?_
          refine xi_iload (pc' := 390) (x := 0) kc_196_388 rfl rfl ?_
          refine xi_iconst (pc' := 391) (v := 1) kc_196_390 rfl rfl ?_
          refine xi_iadd (pc' := 392) (v := 1) kc_196_391 rfl rfl ?_
          refine xi_ialoadO (pc' := 393) (v := (-4)) kc_196_392 rfl (by decide) hov0 (xi_in (n := 6) (by decide) (by decide)) rfl ?_
          refine xi_virtual (mj := 22) (as := [.int (-4)]) (st1 := [.int 5]) (lv0 := [(0, .ref 115), (1, .int (-4))]) kc_196_393 rfl rfl rfl rfl rfl (F 115 _ hl_115) (Nat.le_of_ble_eq_true rfl) (hJ _ _ _ _ (by decide)) (xm_le ml_22 rfl) rfl ?_
          refine xi_aload_n (pc' := 1) (x := 115) kc_22_0 rfl rfl ?_
          refine xi_iconst (pc' := 2) (v := 0) kc_22_1 rfl rfl ?_
          refine xi_putfield (pc' := 5) (fs' := [.int 0, .int 0, .ref 116, .ref 117, .ref 118, .ref 119, .ref 120, .ref 121, .ref 122, .ref 123, .ref 124, .ref 125, .ref 126, .ref 127, .ref 128, .ref 129, .int 4, .ref 130, .int 0, .ref 131, .ref 132, .ref 133, .ref 134, .int 0, .ref 135, .ref 136, .ref 137, .ref 138, .ref 139, .ref 140, .ref 141, .ref 142, .int 0, .int 0, .int 0, .ref 143, .ref 144, .ref 145, .ref 146, .ref 147, .ref 148, .int 0, .ref 149, .ref 150, .ref 151, .int 0, .ref 152, .ref 153, .ref 154, .ref 155, .ref 156, .ref 157, .ref 158, .ref 159, .int 0, .ref 160, .int 0, .ref 161, .ref 162, .ref 163, .ref 164, .int 0, .ref 165, .ref 166]) kc_22_2 rfl rfl rfl (F 115 _ hl_115) rfl rfl rfl (Nat.le_of_ble_eq_true rfl) rfl (fun hh1 eh1 => ?_)
          refine xi_iload_n (pc' := 6) (x := (-4)) kc_22_5 rfl rfl ?_
          refine xi_bipush (pc' := 8) (v := (-20)) kc_22_6 rfl rfl ?_
          refine xi_cmt (pc' := 20) kc_22_8 rfl rfl ?_
          refine xi_iload_n (pc' := 21) (x := (-4)) kc_22_20 rfl rfl ?_
          refine xi_bipush (pc' := 23) (v := 30) kc_22_21 rfl rfl ?_
          refine xi_cmt (pc' := 35) kc_22_23 rfl rfl ?_
          refine xi_iload_n (pc' := 36) (x := (-4)) kc_22_35 rfl rfl ?_
          refine xi_static (mj := 23) (as := [.int (-4)]) (st1 := []) (lv0 := [(0, .int (-4))]) kc_22_36 rfl rfl (Nat.le_of_ble_eq_true rfl) rfl rfl (Nat.le_of_ble_eq_true rfl) (hJ _ _ _ _ (by decide)) (xm_le ml_23 rfl) rfl ?_
          refine xi_iload_n (pc' := 1) (x := (-4)) kc_23_0 rfl rfl ?_
          refine xi_ift (pc' := 17) kc_23_1 rfl rfl ?_
          refine xi_iconst (pc' := 18) (v := 5) kc_23_17 rfl rfl ?_
          refine xi_iload_n (pc' := 19) (x := (-4)) kc_23_18 rfl rfl ?_
          refine xi_ineg (pc' := 20) (v := 4) kc_23_19 rfl rfl ?_
          refine xi_iconst (pc' := 21) (v := 5) kc_23_20 rfl rfl ?_
          refine xi_idiv (pc' := 22) (v := 0) kc_23_21 rfl rfl (by decide) ?_
          refine xi_isub (pc' := 23) (v := 5) kc_23_22 rfl rfl ?_
          refine xi_istore_n (pc' := 24) (lv' := [(1, .int 5), (0, .int (-4))]) kc_23_23 rfl rfl (xm_lt ml_23 rfl) ?_
          refine xi_iload_n (pc' := 25) (x := 5) kc_23_24 rfl rfl ?_
          refine xi_iconst (pc' := 26) (v := 1) kc_23_25 rfl rfl ?_
          refine xi_cmt (pc' := 33) kc_23_26 rfl rfl ?_
          refine xi_iload_n (pc' := 34) (x := 5) kc_23_33 rfl rfl ?_
          refine xi_ireturn kc_23_34 mr_23 rfl ?_
          show xw J ov 99 22 (39, [(0, .ref 115), (1, .int (-4))], [.int 5], hh1) _
          refine xi_ireturn kc_22_39 mr_22 rfl ?_
          show xw J ov 100 196 (396, [(4, .int 0), (3, .ref 167), (2, .ref 115), (1, .ref 0), (0, .ref 1000000)], [.int 5, .int 5], hh1) _
          refine xi_cmt (pc' := 1528) kc_196_396 rfl rfl ?_
          refine xi_iinc (pc' := 1531) (x := 0) (v := 6) (lv' := [(4, .int 6), (3, .ref 167), (2, .ref 115), (1, .ref 0), (0, .ref 1000000)]) kc_196_1528 rfl rfl rfl rfl (xm_lt ml_196 rfl) ?_
          refine xi_goto (pc' := 23) kc_196_1531 rfl ?_
          refine xi_iload (pc' := 25) (x := 6) kc_196_23 rfl rfl ?_
          refine xi_aload_n (pc' := 26) (x := 1000000) kc_196_25 rfl rfl ?_
          refine xi_arraylength (pc' := 27) (n := 6) (v := 6) kc_196_26 rfl (xl_lenO (by decide) hov0 rfl) rfl ?_
          refine xi_bipush (pc' := 29) (v := 6) kc_196_27 rfl rfl ?_
          refine xi_isub (pc' := 30) (v := 0) kc_196_29 rfl rfl ?_
          refine xi_cmt (pc' := 1534) kc_196_30 rfl rfl ?_
          refine xi_iconst (pc' := 1535) (v := 1) kc_196_1534 rfl rfl ?_
          refine xi_ireturn kc_196_1535 mr_196 rfl ?_
          refine ⟨rfl, ?_, ?_⟩
          · rw [eh1.2.2.1]; exact hn0
          · rw [eh1.2.2.2]; exact hz0
        by_cases c21 : a1.toInt = (-3)
        · have qa1 : a1 = (-3) := xc_of (Eq.trans (by omega) (show ((-3) : Int) = ((-3) : Int32).toInt by decide))
          subst qa1
          refine xi_ineg (pc' := 6) (v := 3) kc_2_5 rfl rfl ?_
          refine xi_goto (pc' := 10) kc_2_6 rfl ?_
          refine xi_ireturn kc_2_10 mr_2 rfl ?_
          show xw J ov 98 103 (22, [(0, .int (-3))], [.int 3, .int 5], h0) _
          refine xi_iconst (pc' := 23) (v := 5) kc_103_22 rfl rfl ?_
          refine xi_idiv (pc' := 24) (v := 0) kc_103_23 rfl rfl (by decide) ?_
          refine xi_isub (pc' := 25) (v := 5) kc_103_24 rfl rfl ?_
          refine xi_istore_n (pc' := 26) (lv' := [(1, .int 5), (0, .int (-3))]) kc_103_25 rfl rfl (xm_lt ml_103 rfl) ?_
          refine xi_iload_n (pc' := 27) (x := 5) kc_103_26 rfl rfl ?_
          refine xi_iconst (pc' := 28) (v := 1) kc_103_27 rfl rfl ?_
          refine xi_cmt (pc' := 35) kc_103_28 rfl rfl ?_
          refine xi_iload_n (pc' := 36) (x := 5) kc_103_35 rfl rfl ?_
          refine xi_ireturn kc_103_36 mr_103 rfl ?_
          show xw J ov 99 102 (30, [(0, .ref 0), (1, .int (-3))], [.int 5], h0) _
          refine xi_ireturn kc_102_30 mr_102 rfl ?_
          show xw J ov 100 196 (386, [(4, .int 0), (3, .ref 167), (2, .ref 115), (1, .ref 0), (0, .ref 1000000)], [.int 5], h0) _
          refine xi_aload_n (pc' := 387) (x := 115) kc_196_386 rfl rfl ?_
          refine xi_aload_n (pc' := 388) (x := 1000000) kc_196_387 rfl rfl ?_
          refine xi_iload (pc' := 390) (x := 0) kc_196_388 rfl rfl ?_
          refine xi_iconst (pc' := 391) (v := 1) kc_196_390 rfl rfl ?_
          refine xi_iadd (pc' := 392) (v := 1) kc_196_391 rfl rfl ?_
          refine xi_ialoadO (pc' := 393) (v := (-3)) kc_196_392 rfl (by decide) hov0 (xi_in (n := 6) (by decide) (by decide)) rfl ?_
          refine xi_virtual (mj := 22) (as := [.int (-3)]) (st1 := [.int 5]) (lv0 := [(0, .ref 115), (1, .int (-3))]) kc_196_393 rfl rfl rfl rfl rfl (F 115 _ hl_115) (Nat.le_of_ble_eq_true rfl) (hJ _ _ _ _ (by decide)) (xm_le ml_22 rfl) rfl ?_
          refine xi_aload_n (pc' := 1) (x := 115) kc_22_0 rfl rfl ?_
          refine xi_iconst (pc' := 2) (v := 0) kc_22_1 rfl rfl ?_
          refine xi_putfield (pc' := 5) (fs' := [.int 0, .int 0, .ref 116, .ref 117, .ref 118, .ref 119, .ref 120, .ref 121, .ref 122, .ref 123, .ref 124, .ref 125, .ref 126, .ref 127, .ref 128, .ref 129, .int 4, .ref 130, .int 0, .ref 131, .ref 132, .ref 133, .ref 134, .int 0, .ref 135, .ref 136, .ref 137, .ref 138, .ref 139, .ref 140, .ref 141, .ref 142, .int 0, .int 0, .int 0, .ref 143, .ref 144, .ref 145, .ref 146, .ref 147, .ref 148, .int 0, .ref 149, .ref 150, .ref 151, .int 0, .ref 152, .ref 153, .ref 154, .ref 155, .ref 156, .ref 157, .ref 158, .ref 159, .int 0, .ref 160, .int 0, .ref 161, .ref 162, .ref 163, .ref 164, .int 0, .ref 165, .ref 166]) kc_22_2 rfl rfl rfl (F 115 _ hl_115) rfl rfl rfl (Nat.le_of_ble_eq_true rfl) rfl (fun hh1 eh1 => ?_)
          refine xi_iload_n (pc' := 6) (x := (-3)) kc_22_5 rfl rfl ?_
          refine xi_bipush (pc' := 8) (v := (-20)) kc_22_6 rfl rfl ?_
          refine xi_cmt (pc' := 20) kc_22_8 rfl rfl ?_
          refine xi_iload_n (pc' := 21) (x := (-3)) kc_22_20 rfl rfl ?_
          refine xi_bipush (pc' := 23) (v := 30) kc_22_21 rfl rfl ?_
          refine xi_cmt (pc' := 35) kc_22_23 rfl rfl ?_
          refine xi_iload_n (pc' := 36) (x := (-3)) kc_22_35 rfl rfl ?_
          refine xi_static (mj := 23) (as := [.int (-3)]) (st1 := []) (lv0 := [(0, .int (-3))]) kc_22_36 rfl rfl (Nat.le_of_ble_eq_true rfl) rfl rfl (Nat.le_of_ble_eq_true rfl) (hJ _ _ _ _ (by decide)) (xm_le ml_23 rfl) rfl ?_
          refine xi_iload_n (pc' := 1) (x := (-3)) kc_23_0 rfl rfl ?_
          refine xi_ift (pc' := 17) kc_23_1 rfl rfl ?_
          refine xi_iconst (pc' := 18) (v := 5) kc_23_17 rfl rfl ?_
          refine xi_iload_n (pc' := 19) (x := (-3)) kc_23_18 rfl rfl ?_
          refine xi_ineg (pc' := 20) (v := 3) kc_23_19 rfl rfl ?_
          refine xi_iconst (pc' := 21) (v := 5) kc_23_20 rfl rfl ?_
          refine xi_idiv (pc' := 22) (v := 0) kc_23_21 rfl rfl (by decide) ?_
          refine xi_isub (pc' := 23) (v := 5) kc_23_22 rfl rfl ?_
          refine xi_istore_n (pc' := 24) (lv' := [(1, .int 5), (0, .int (-3))]) kc_23_23 rfl rfl (xm_lt ml_23 rfl) ?_
          refine xi_iload_n (pc' := 25) (x := 5) kc_23_24 rfl rfl ?_
          refine xi_iconst (pc' := 26) (v := 1) kc_23_25 rfl rfl ?_
          refine xi_cmt (pc' := 33) kc_23_26 rfl rfl ?_
          refine xi_iload_n (pc' := 34) (x := 5) kc_23_33 rfl rfl ?_
          refine xi_ireturn kc_23_34 mr_23 rfl ?_
          show xw J ov 99 22 (39, [(0, .ref 115), (1, .int (-3))], [.int 5], hh1) _
          refine xi_ireturn kc_22_39 mr_22 rfl ?_
          show xw J ov 100 196 (396, [(4, .int 0), (3, .ref 167), (2, .ref 115), (1, .ref 0), (0, .ref 1000000)], [.int 5, .int 5], hh1) _
          refine xi_cmt (pc' := 1528) kc_196_396 rfl rfl ?_
          refine xi_iinc (pc' := 1531) (x := 0) (v := 6) (lv' := [(4, .int 6), (3, .ref 167), (2, .ref 115), (1, .ref 0), (0, .ref 1000000)]) kc_196_1528 rfl rfl rfl rfl (xm_lt ml_196 rfl) ?_
          refine xi_goto (pc' := 23) kc_196_1531 rfl ?_
          refine xi_iload (pc' := 25) (x := 6) kc_196_23 rfl rfl ?_
          refine xi_aload_n (pc' := 26) (x := 1000000) kc_196_25 rfl rfl ?_
          refine xi_arraylength (pc' := 27) (n := 6) (v := 6) kc_196_26 rfl (xl_lenO (by decide) hov0 rfl) rfl ?_
          refine xi_bipush (pc' := 29) (v := 6) kc_196_27 rfl rfl ?_
          refine xi_isub (pc' := 30) (v := 0) kc_196_29 rfl rfl ?_
          refine xi_cmt (pc' := 1534) kc_196_30 rfl rfl ?_
          refine xi_iconst (pc' := 1535) (v := 1) kc_196_1534 rfl rfl ?_
          refine xi_ireturn kc_196_1535 mr_196 rfl ?_
          refine ⟨rfl, ?_, ?_⟩
          · rw [eh1.2.2.1]; exact hn0
          · rw [eh1.2.2.2]; exact hz0
        by_cases c22 : a1.toInt = (-2)
        · have qa1 : a1 = (-2) := xc_of (Eq.trans (by omega) (show ((-2) : Int) = ((-2) : Int32).toInt by decide))
          subst qa1
          refine xi_ineg (pc' := 6) (v := 2) kc_2_5 rfl rfl ?_
          refine xi_goto (pc' := 10) kc_2_6 rfl ?_
          refine xi_ireturn kc_2_10 mr_2 rfl ?_
          show xw J ov 98 103 (22, [(0, .int (-2))], [.int 2, .int 5], h0) _
          refine xi_iconst (pc' := 23) (v := 5) kc_103_22 rfl rfl ?_
          refine xi_idiv (pc' := 24) (v := 0) kc_103_23 rfl rfl (by decide) ?_
          refine xi_isub (pc' := 25) (v := 5) kc_103_24 rfl rfl ?_
          refine xi_istore_n (pc' := 26) (lv' := [(1, .int 5), (0, .int (-2))]) kc_103_25 rfl rfl (xm_lt ml_103 rfl) ?_
          refine xi_iload_n (pc' := 27) (x := 5) kc_103_26 rfl rfl ?_
          refine xi_iconst (pc' := 28) (v := 1) kc_103_27 rfl rfl ?_
          refine xi_cmt (pc' := 35) kc_103_28 rfl rfl ?_
          refine xi_iload_n (pc' := 36) (x := 5) kc_103_35 rfl rfl ?_
          refine xi_ireturn kc_103_36 mr_103 rfl ?_
          show xw J ov 99 102 (30, [(0, .ref 0), (1, .int (-2))], [.int 5], h0) _
          refine xi_ireturn kc_102_30 mr_102 rfl ?_
          show xw J ov 100 196 (386, [(4, .int 0), (3, .ref 167), (2, .ref 115), (1, .ref 0), (0, .ref 1000000)], [.int 5], h0) _
          refine xi_aload_n (pc' := 387) (x := 115) kc_196_386 rfl rfl ?_
          refine xi_aload_n (pc' := 388) (x := 1000000) kc_196_387 rfl rfl ?_
          refine xi_iload (pc' := 390) (x := 0) kc_196_388 rfl rfl ?_
          refine xi_iconst (pc' := 391) (v := 1) kc_196_390 rfl rfl ?_
          refine xi_iadd (pc' := 392) (v := 1) kc_196_391 rfl rfl ?_
          refine xi_ialoadO (pc' := 393) (v := (-2)) kc_196_392 rfl (by decide) hov0 (xi_in (n := 6) (by decide) (by decide)) rfl ?_
          refine xi_virtual (mj := 22) (as := [.int (-2)]) (st1 := [.int 5]) (lv0 := [(0, .ref 115), (1, .int (-2))]) kc_196_393 rfl rfl rfl rfl rfl (F 115 _ hl_115) (Nat.le_of_ble_eq_true rfl) (hJ _ _ _ _ (by decide)) (xm_le ml_22 rfl) rfl ?_
          refine xi_aload_n (pc' := 1) (x := 115) kc_22_0 rfl rfl ?_
          refine xi_iconst (pc' := 2) (v := 0) kc_22_1 rfl rfl ?_
          refine xi_putfield (pc' := 5) (fs' := [.int 0, .int 0, .ref 116, .ref 117, .ref 118, .ref 119, .ref 120, .ref 121, .ref 122, .ref 123, .ref 124, .ref 125, .ref 126, .ref 127, .ref 128, .ref 129, .int 4, .ref 130, .int 0, .ref 131, .ref 132, .ref 133, .ref 134, .int 0, .ref 135, .ref 136, .ref 137, .ref 138, .ref 139, .ref 140, .ref 141, .ref 142, .int 0, .int 0, .int 0, .ref 143, .ref 144, .ref 145, .ref 146, .ref 147, .ref 148, .int 0, .ref 149, .ref 150, .ref 151, .int 0, .ref 152, .ref 153, .ref 154, .ref 155, .ref 156, .ref 157, .ref 158, .ref 159, .int 0, .ref 160, .int 0, .ref 161, .ref 162, .ref 163, .ref 164, .int 0, .ref 165, .ref 166]) kc_22_2 rfl rfl rfl (F 115 _ hl_115) rfl rfl rfl (Nat.le_of_ble_eq_true rfl) rfl (fun hh1 eh1 => ?_)
          refine xi_iload_n (pc' := 6) (x := (-2)) kc_22_5 rfl rfl ?_
          refine xi_bipush (pc' := 8) (v := (-20)) kc_22_6 rfl rfl ?_
          refine xi_cmt (pc' := 20) kc_22_8 rfl rfl ?_
          refine xi_iload_n (pc' := 21) (x := (-2)) kc_22_20 rfl rfl ?_
          refine xi_bipush (pc' := 23) (v := 30) kc_22_21 rfl rfl ?_
          refine xi_cmt (pc' := 35) kc_22_23 rfl rfl ?_
          refine xi_iload_n (pc' := 36) (x := (-2)) kc_22_35 rfl rfl ?_
          refine xi_static (mj := 23) (as := [.int (-2)]) (st1 := []) (lv0 := [(0, .int (-2))]) kc_22_36 rfl rfl (Nat.le_of_ble_eq_true rfl) rfl rfl (Nat.le_of_ble_eq_true rfl) (hJ _ _ _ _ (by decide)) (xm_le ml_23 rfl) rfl ?_
          refine xi_iload_n (pc' := 1) (x := (-2)) kc_23_0 rfl rfl ?_
          refine xi_ift (pc' := 17) kc_23_1 rfl rfl ?_
          refine xi_iconst (pc' := 18) (v := 5) kc_23_17 rfl rfl ?_
          refine xi_iload_n (pc' := 19) (x := (-2)) kc_23_18 rfl rfl ?_
          refine xi_ineg (pc' := 20) (v := 2) kc_23_19 rfl rfl ?_
          refine xi_iconst (pc' := 21) (v := 5) kc_23_20 rfl rfl ?_
          refine xi_idiv (pc' := 22) (v := 0) kc_23_21 rfl rfl (by decide) ?_
          refine xi_isub (pc' := 23) (v := 5) kc_23_22 rfl rfl ?_
          refine xi_istore_n (pc' := 24) (lv' := [(1, .int 5), (0, .int (-2))]) kc_23_23 rfl rfl (xm_lt ml_23 rfl) ?_
          refine xi_iload_n (pc' := 25) (x := 5) kc_23_24 rfl rfl ?_
          refine xi_iconst (pc' := 26) (v := 1) kc_23_25 rfl rfl ?_
          refine xi_cmt (pc' := 33) kc_23_26 rfl rfl ?_
          refine xi_iload_n (pc' := 34) (x := 5) kc_23_33 rfl rfl ?_
          refine xi_ireturn kc_23_34 mr_23 rfl ?_
          show xw J ov 99 22 (39, [(0, .ref 115), (1, .int (-2))], [.int 5], hh1) _
          refine xi_ireturn kc_22_39 mr_22 rfl ?_
          show xw J ov 100 196 (396, [(4, .int 0), (3, .ref 167), (2, .ref 115), (1, .ref 0), (0, .ref 1000000)], [.int 5, .int 5], hh1) _
          refine xi_cmt (pc' := 1528) kc_196_396 rfl rfl ?_
          refine xi_iinc (pc' := 1531) (x := 0) (v := 6) (lv' := [(4, .int 6), (3, .ref 167), (2, .ref 115), (1, .ref 0), (0, .ref 1000000)]) kc_196_1528 rfl rfl rfl rfl (xm_lt ml_196 rfl) ?_
          refine xi_goto (pc' := 23) kc_196_1531 rfl ?_
          refine xi_iload (pc' := 25) (x := 6) kc_196_23 rfl rfl ?_
          refine xi_aload_n (pc' := 26) (x := 1000000) kc_196_25 rfl rfl ?_
          refine xi_arraylength (pc' := 27) (n := 6) (v := 6) kc_196_26 rfl (xl_lenO (by decide) hov0 rfl) rfl ?_
          refine xi_bipush (pc' := 29) (v := 6) kc_196_27 rfl rfl ?_
          refine xi_isub (pc' := 30) (v := 0) kc_196_29 rfl rfl ?_
          refine xi_cmt (pc' := 1534) kc_196_30 rfl rfl ?_
          refine xi_iconst (pc' := 1535) (v := 1) kc_196_1534 rfl rfl ?_
          refine xi_ireturn kc_196_1535 mr_196 rfl ?_
          refine ⟨rfl, ?_, ?_⟩
          · rw [eh1.2.2.1]; exact hn0
          · rw [eh1.2.2.2]; exact hz0
        have qa1 : a1 = (-1) := xc_of (Eq.trans (by omega) (show ((-1) : Int) = ((-1) : Int32).toInt by decide))
        subst qa1
        refine xi_ineg (pc' := 6) (v := 1) kc_2_5 rfl rfl ?_
        refine xi_goto (pc' := 10) kc_2_6 rfl ?_
        refine xi_ireturn kc_2_10 mr_2 rfl ?_
        show xw J ov 98 103 (22, [(0, .int (-1))], [.int 1, .int 5], h0) _
        refine xi_iconst (pc' := 23) (v := 5) kc_103_22 rfl rfl ?_
        refine xi_idiv (pc' := 24) (v := 0) kc_103_23 rfl rfl (by decide) ?_
        refine xi_isub (pc' := 25) (v := 5) kc_103_24 rfl rfl ?_
        refine xi_istore_n (pc' := 26) (lv' := [(1, .int 5), (0, .int (-1))]) kc_103_25 rfl rfl (xm_lt ml_103 rfl) ?_
        refine xi_iload_n (pc' := 27) (x := 5) kc_103_26 rfl rfl ?_
        refine xi_iconst (pc' := 28) (v := 1) kc_103_27 rfl rfl ?_
        refine xi_cmt (pc' := 35) kc_103_28 rfl rfl ?_
        refine xi_iload_n (pc' := 36) (x := 5) kc_103_35 rfl rfl ?_
        refine xi_ireturn kc_103_36 mr_103 rfl ?_
        show xw J ov 99 102 (30, [(0, .ref 0), (1, .int (-1))], [.int 5], h0) _
        refine xi_ireturn kc_102_30 mr_102 rfl ?_
        show xw J ov 100 196 (386, [(4, .int 0), (3, .ref 167), (2, .ref 115), (1, .ref 0), (0, .ref 1000000)], [.int 5], h0) _
        refine xi_aload_n (pc' := 387) (x := 115) kc_196_386 rfl rfl ?_
        refine xi_aload_n (pc' := 388) (x := 1000000) kc_196_387 rfl rfl ?_
        refine xi_iload (pc' := 390) (x := 0) kc_196_388 rfl rfl ?_
        refine xi_iconst (pc' := 391) (v := 1) kc_196_390 rfl rfl ?_
        refine xi_iadd (pc' := 392) (v := 1) kc_196_391 rfl rfl ?_
        refine xi_ialoadO (pc' := 393) (v := (-1)) kc_196_392 rfl (by decide) hov0 (xi_in (n := 6) (by decide) (by decide)) rfl ?_
        refine xi_virtual (mj := 22) (as := [.int (-1)]) (st1 := [.int 5]) (lv0 := [(0, .ref 115), (1, .int (-1))]) kc_196_393 rfl rfl rfl rfl rfl (F 115 _ hl_115) (Nat.le_of_ble_eq_true rfl) (hJ _ _ _ _ (by decide)) (xm_le ml_22 rfl) rfl ?_
        refine xi_aload_n (pc' := 1) (x := 115) kc_22_0 rfl rfl ?_
        refine xi_iconst (pc' := 2) (v := 0) kc_22_1 rfl rfl ?_
        refine xi_putfield (pc' := 5) (fs' := [.int 0, .int 0, .ref 116, .ref 117, .ref 118, .ref 119, .ref 120, .ref 121, .ref 122, .ref 123, .ref 124, .ref 125, .ref 126, .ref 127, .ref 128, .ref 129, .int 4, .ref 130, .int 0, .ref 131, .ref 132, .ref 133, .ref 134, .int 0, .ref 135, .ref 136, .ref 137, .ref 138, .ref 139, .ref 140, .ref 141, .ref 142, .int 0, .int 0, .int 0, .ref 143, .ref 144, .ref 145, .ref 146, .ref 147, .ref 148, .int 0, .ref 149, .ref 150, .ref 151, .int 0, .ref 152, .ref 153, .ref 154, .ref 155, .ref 156, .ref 157, .ref 158, .ref 159, .int 0, .ref 160, .int 0, .ref 161, .ref 162, .ref 163, .ref 164, .int 0, .ref 165, .ref 166]) kc_22_2 rfl rfl rfl (F 115 _ hl_115) rfl rfl rfl (Nat.le_of_ble_eq_true rfl) rfl (fun hh1 eh1 => ?_)
        refine xi_iload_n (pc' := 6) (x := (-1)) kc_22_5 rfl rfl ?_
        refine xi_bipush (pc' := 8) (v := (-20)) kc_22_6 rfl rfl ?_
        refine xi_cmt (pc' := 20) kc_22_8 rfl rfl ?_
        refine xi_iload_n (pc' := 21) (x := (-1)) kc_22_20 rfl rfl ?_
        refine xi_bipush (pc' := 23) (v := 30) kc_22_21 rfl rfl ?_
        refine xi_cmt (pc' := 35) kc_22_23 rfl rfl ?_
        refine xi_iload_n (pc' := 36) (x := (-1)) kc_22_35 rfl rfl ?_
        refine xi_static (mj := 23) (as := [.int (-1)]) (st1 := []) (lv0 := [(0, .int (-1))]) kc_22_36 rfl rfl (Nat.le_of_ble_eq_true rfl) rfl rfl (Nat.le_of_ble_eq_true rfl) (hJ _ _ _ _ (by decide)) (xm_le ml_23 rfl) rfl ?_
        refine xi_iload_n (pc' := 1) (x := (-1)) kc_23_0 rfl rfl ?_
        refine xi_ift (pc' := 17) kc_23_1 rfl rfl ?_
        refine xi_iconst (pc' := 18) (v := 5) kc_23_17 rfl rfl ?_
        refine xi_iload_n (pc' := 19) (x := (-1)) kc_23_18 rfl rfl ?_
        refine xi_ineg (pc' := 20) (v := 1) kc_23_19 rfl rfl ?_
        refine xi_iconst (pc' := 21) (v := 5) kc_23_20 rfl rfl ?_
        refine xi_idiv (pc' := 22) (v := 0) kc_23_21 rfl rfl (by decide) ?_
        refine xi_isub (pc' := 23) (v := 5) kc_23_22 rfl rfl ?_
        refine xi_istore_n (pc' := 24) (lv' := [(1, .int 5), (0, .int (-1))]) kc_23_23 rfl rfl (xm_lt ml_23 rfl) ?_
        refine xi_iload_n (pc' := 25) (x := 5) kc_23_24 rfl rfl ?_
        refine xi_iconst (pc' := 26) (v := 1) kc_23_25 rfl rfl ?_
        refine xi_cmt (pc' := 33) kc_23_26 rfl rfl ?_
        refine xi_iload_n (pc' := 34) (x := 5) kc_23_33 rfl rfl ?_
        refine xi_ireturn kc_23_34 mr_23 rfl ?_
        show xw J ov 99 22 (39, [(0, .ref 115), (1, .int (-1))], [.int 5], hh1) _
        refine xi_ireturn kc_22_39 mr_22 rfl ?_
        show xw J ov 100 196 (396, [(4, .int 0), (3, .ref 167), (2, .ref 115), (1, .ref 0), (0, .ref 1000000)], [.int 5, .int 5], hh1) _
        refine xi_cmt (pc' := 1528) kc_196_396 rfl rfl ?_
        refine xi_iinc (pc' := 1531) (x := 0) (v := 6) (lv' := [(4, .int 6), (3, .ref 167), (2, .ref 115), (1, .ref 0), (0, .ref 1000000)]) kc_196_1528 rfl rfl rfl rfl (xm_lt ml_196 rfl) ?_
        refine xi_goto (pc' := 23) kc_196_1531 rfl ?_
        refine xi_iload (pc' := 25) (x := 6) kc_196_23 rfl rfl ?_
        refine xi_aload_n (pc' := 26) (x := 1000000) kc_196_25 rfl rfl ?_
        refine xi_arraylength (pc' := 27) (n := 6) (v := 6) kc_196_26 rfl (xl_lenO (by decide) hov0 rfl) rfl ?_
        refine xi_bipush (pc' := 29) (v := 6) kc_196_27 rfl rfl ?_
        refine xi_isub (pc' := 30) (v := 0) kc_196_29 rfl rfl ?_
        refine xi_cmt (pc' := 1534) kc_196_30 rfl rfl ?_
        refine xi_iconst (pc' := 1535) (v := 1) kc_196_1534 rfl rfl ?_
        refine xi_ireturn kc_196_1535 mr_196 rfl ?_
        refine ⟨rfl, ?_, ?_⟩
        · rw [eh1.2.2.1]; exact hn0
        · rw [eh1.2.2.2]; exact hz0
      · refine xi_iff (pc' := 4) kc_103_1 rfl (xc_lt_f (X := a1.toInt) (Y := 0) rfl (by decide) (by omega)) ?_
        refine xi_iconst (pc' := 5) (v := 5) kc_103_4 rfl rfl ?_
        refine xi_iload_n (pc' := 6) (x := a1) kc_103_5 rfl rfl ?_
        refine xi_iconst (pc' := 7) (v := 2) kc_103_6 rfl rfl ?_
        by_cases c23 : a1.toInt = 0
        · have qa1 : a1 = 0 := xc_of (Eq.trans (by omega) (show (0 : Int) = (0 : Int32).toInt by decide))
          subst qa1
          refine xi_idiv (pc' := 8) (v := 0) kc_103_7 rfl rfl (by decide) ?_
          refine xi_iadd (pc' := 9) (v := 5) kc_103_8 rfl rfl ?_
          refine xi_iload_n (pc' := 10) (x := 0) kc_103_9 rfl rfl ?_
          refine xi_iload_n (pc' := 11) (x := 0) kc_103_10 rfl rfl ?_
          refine xi_imul (pc' := 12) (v := 0) kc_103_11 rfl rfl ?_
          refine xi_bipush (pc' := 14) (v := 40) kc_103_12 rfl rfl ?_
          refine xi_idiv (pc' := 15) (v := 0) kc_103_14 rfl rfl (by decide) ?_
          refine xi_iadd (pc' := 16) (v := 5) kc_103_15 rfl rfl ?_
          refine xi_ireturn kc_103_16 mr_103 rfl ?_
          show xw J ov 99 102 (30, [(0, .ref 0), (1, .int 0)], [.int 5], h0) _
          refine xi_ireturn kc_102_30 mr_102 rfl ?_
          show xw J ov 100 196 (386, [(4, .int 0), (3, .ref 167), (2, .ref 115), (1, .ref 0), (0, .ref 1000000)], [.int 5], h0) _
          refine xi_aload_n (pc' := 387) (x := 115) kc_196_386 rfl rfl ?_
          refine xi_aload_n (pc' := 388) (x := 1000000) kc_196_387 rfl rfl ?_
          refine xi_iload (pc' := 390) (x := 0) kc_196_388 rfl rfl ?_
          refine xi_iconst (pc' := 391) (v := 1) kc_196_390 rfl rfl ?_
          refine xi_iadd (pc' := 392) (v := 1) kc_196_391 rfl rfl ?_
          refine xi_ialoadO (pc' := 393) (v := 0) kc_196_392 rfl (by decide) hov0 (xi_in (n := 6) (by decide) (by decide)) rfl ?_
          refine xi_virtual (mj := 22) (as := [.int 0]) (st1 := [.int 5]) (lv0 := [(0, .ref 115), (1, .int 0)]) kc_196_393 rfl rfl rfl rfl rfl (F 115 _ hl_115) (Nat.le_of_ble_eq_true rfl) (hJ _ _ _ _ (by decide)) (xm_le ml_22 rfl) rfl ?_
          refine xi_aload_n (pc' := 1) (x := 115) kc_22_0 rfl rfl ?_
          refine xi_iconst (pc' := 2) (v := 0) kc_22_1 rfl rfl ?_
          refine xi_putfield (pc' := 5) (fs' := [.int 0, .int 0, .ref 116, .ref 117, .ref 118, .ref 119, .ref 120, .ref 121, .ref 122, .ref 123, .ref 124, .ref 125, .ref 126, .ref 127, .ref 128, .ref 129, .int 4, .ref 130, .int 0, .ref 131, .ref 132, .ref 133, .ref 134, .int 0, .ref 135, .ref 136, .ref 137, .ref 138, .ref 139, .ref 140, .ref 141, .ref 142, .int 0, .int 0, .int 0, .ref 143, .ref 144, .ref 145, .ref 146, .ref 147, .ref 148, .int 0, .ref 149, .ref 150, .ref 151, .int 0, .ref 152, .ref 153, .ref 154, .ref 155, .ref 156, .ref 157, .ref 158, .ref 159, .int 0, .ref 160, .int 0, .ref 161, .ref 162, .ref 163, .ref 164, .int 0, .ref 165, .ref 166]) kc_22_2 rfl rfl rfl (F 115 _ hl_115) rfl rfl rfl (Nat.le_of_ble_eq_true rfl) rfl (fun hh1 eh1 => ?_)
          refine xi_iload_n (pc' := 6) (x := 0) kc_22_5 rfl rfl ?_
          refine xi_bipush (pc' := 8) (v := (-20)) kc_22_6 rfl rfl ?_
          refine xi_cmt (pc' := 20) kc_22_8 rfl rfl ?_
          refine xi_iload_n (pc' := 21) (x := 0) kc_22_20 rfl rfl ?_
          refine xi_bipush (pc' := 23) (v := 30) kc_22_21 rfl rfl ?_
          refine xi_cmt (pc' := 35) kc_22_23 rfl rfl ?_
          refine xi_iload_n (pc' := 36) (x := 0) kc_22_35 rfl rfl ?_
          refine xi_static (mj := 23) (as := [.int 0]) (st1 := []) (lv0 := [(0, .int 0)]) kc_22_36 rfl rfl (Nat.le_of_ble_eq_true rfl) rfl rfl (Nat.le_of_ble_eq_true rfl) (hJ _ _ _ _ (by decide)) (xm_le ml_23 rfl) rfl ?_
          refine xi_iload_n (pc' := 1) (x := 0) kc_23_0 rfl rfl ?_
          refine xi_iff (pc' := 4) kc_23_1 rfl rfl ?_
          refine xi_iconst (pc' := 5) (v := 5) kc_23_4 rfl rfl ?_
          refine xi_iload_n (pc' := 6) (x := 0) kc_23_5 rfl rfl ?_
          refine xi_iconst (pc' := 7) (v := 2) kc_23_6 rfl rfl ?_
          refine xi_idiv (pc' := 8) (v := 0) kc_23_7 rfl rfl (by decide) ?_
          refine xi_iadd (pc' := 9) (v := 5) kc_23_8 rfl rfl ?_
          refine xi_iload_n (pc' := 10) (x := 0) kc_23_9 rfl rfl ?_
          refine xi_iload_n (pc' := 11) (x := 0) kc_23_10 rfl rfl ?_
          refine xi_imul (pc' := 12) (v := 0) kc_23_11 rfl rfl ?_
          refine xi_bipush (pc' := 14) (v := 40) kc_23_12 rfl rfl ?_
          refine xi_idiv (pc' := 15) (v := 0) kc_23_14 rfl rfl (by decide) ?_
          refine xi_iadd (pc' := 16) (v := 5) kc_23_15 rfl rfl ?_
          refine xi_ireturn kc_23_16 mr_23 rfl ?_
          show xw J ov 99 22 (39, [(0, .ref 115), (1, .int 0)], [.int 5], hh1) _
          refine xi_ireturn kc_22_39 mr_22 rfl ?_
          show xw J ov 100 196 (396, [(4, .int 0), (3, .ref 167), (2, .ref 115), (1, .ref 0), (0, .ref 1000000)], [.int 5, .int 5], hh1) _
          refine xi_cmt (pc' := 1528) kc_196_396 rfl rfl ?_
          refine xi_iinc (pc' := 1531) (x := 0) (v := 6) (lv' := [(4, .int 6), (3, .ref 167), (2, .ref 115), (1, .ref 0), (0, .ref 1000000)]) kc_196_1528 rfl rfl rfl rfl (xm_lt ml_196 rfl) ?_
          refine xi_goto (pc' := 23) kc_196_1531 rfl ?_
          refine xi_iload (pc' := 25) (x := 6) kc_196_23 rfl rfl ?_
          refine xi_aload_n (pc' := 26) (x := 1000000) kc_196_25 rfl rfl ?_
          refine xi_arraylength (pc' := 27) (n := 6) (v := 6) kc_196_26 rfl (xl_lenO (by decide) hov0 rfl) rfl ?_
          refine xi_bipush (pc' := 29) (v := 6) kc_196_27 rfl rfl ?_
          refine xi_isub (pc' := 30) (v := 0) kc_196_29 rfl rfl ?_
          refine xi_cmt (pc' := 1534) kc_196_30 rfl rfl ?_
          refine xi_iconst (pc' := 1535) (v := 1) kc_196_1534 rfl rfl ?_
          refine xi_ireturn kc_196_1535 mr_196 rfl ?_
          refine ⟨rfl, ?_, ?_⟩
          · rw [eh1.2.2.1]; exact hn0
          · rw [eh1.2.2.2]; exact hz0
        by_cases c24 : a1.toInt = 1
        · have qa1 : a1 = 1 := xc_of (Eq.trans (by omega) (show (1 : Int) = (1 : Int32).toInt by decide))
          subst qa1
          refine xi_idiv (pc' := 8) (v := 0) kc_103_7 rfl rfl (by decide) ?_
          refine xi_iadd (pc' := 9) (v := 5) kc_103_8 rfl rfl ?_
          refine xi_iload_n (pc' := 10) (x := 1) kc_103_9 rfl rfl ?_
          refine xi_iload_n (pc' := 11) (x := 1) kc_103_10 rfl rfl ?_
          refine xi_imul (pc' := 12) (v := 1) kc_103_11 rfl rfl ?_
          refine xi_bipush (pc' := 14) (v := 40) kc_103_12 rfl rfl ?_
          refine xi_idiv (pc' := 15) (v := 0) kc_103_14 rfl rfl (by decide) ?_
          refine xi_iadd (pc' := 16) (v := 5) kc_103_15 rfl rfl ?_
          refine xi_ireturn kc_103_16 mr_103 rfl ?_
          show xw J ov 99 102 (30, [(0, .ref 0), (1, .int 1)], [.int 5], h0) _
          refine xi_ireturn kc_102_30 mr_102 rfl ?_
          show xw J ov 100 196 (386, [(4, .int 0), (3, .ref 167), (2, .ref 115), (1, .ref 0), (0, .ref 1000000)], [.int 5], h0) _
          refine xi_aload_n (pc' := 387) (x := 115) kc_196_386 rfl rfl ?_
          refine xi_aload_n (pc' := 388) (x := 1000000) kc_196_387 rfl rfl ?_
          refine xi_iload (pc' := 390) (x := 0) kc_196_388 rfl rfl ?_
          refine xi_iconst (pc' := 391) (v := 1) kc_196_390 rfl rfl ?_
          refine xi_iadd (pc' := 392) (v := 1) kc_196_391 rfl rfl ?_
          refine xi_ialoadO (pc' := 393) (v := 1) kc_196_392 rfl (by decide) hov0 (xi_in (n := 6) (by decide) (by decide)) rfl ?_
          refine xi_virtual (mj := 22) (as := [.int 1]) (st1 := [.int 5]) (lv0 := [(0, .ref 115), (1, .int 1)]) kc_196_393 rfl rfl rfl rfl rfl (F 115 _ hl_115) (Nat.le_of_ble_eq_true rfl) (hJ _ _ _ _ (by decide)) (xm_le ml_22 rfl) rfl ?_
          refine xi_aload_n (pc' := 1) (x := 115) kc_22_0 rfl rfl ?_
          refine xi_iconst (pc' := 2) (v := 0) kc_22_1 rfl rfl ?_
          refine xi_putfield (pc' := 5) (fs' := [.int 0, .int 0, .ref 116, .ref 117, .ref 118, .ref 119, .ref 120, .ref 121, .ref 122, .ref 123, .ref 124, .ref 125, .ref 126, .ref 127, .ref 128, .ref 129, .int 4, .ref 130, .int 0, .ref 131, .ref 132, .ref 133, .ref 134, .int 0, .ref 135, .ref 136, .ref 137, .ref 138, .ref 139, .ref 140, .ref 141, .ref 142, .int 0, .int 0, .int 0, .ref 143, .ref 144, .ref 145, .ref 146, .ref 147, .ref 148, .int 0, .ref 149, .ref 150, .ref 151, .int 0, .ref 152, .ref 153, .ref 154, .ref 155, .ref 156, .ref 157, .ref 158, .ref 159, .int 0, .ref 160, .int 0, .ref 161, .ref 162, .ref 163, .ref 164, .int 0, .ref 165, .ref 166]) kc_22_2 rfl rfl rfl (F 115 _ hl_115) rfl rfl rfl (Nat.le_of_ble_eq_true rfl) rfl (fun hh1 eh1 => ?_)
          refine xi_iload_n (pc' := 6) (x := 1) kc_22_5 rfl rfl ?_
          refine xi_bipush (pc' := 8) (v := (-20)) kc_22_6 rfl rfl ?_
          refine xi_cmt (pc' := 20) kc_22_8 rfl rfl ?_
          refine xi_iload_n (pc' := 21) (x := 1) kc_22_20 rfl rfl ?_
          refine xi_bipush (pc' := 23) (v := 30) kc_22_21 rfl rfl ?_
          refine xi_cmt (pc' := 35) kc_22_23 rfl rfl ?_
          refine xi_iload_n (pc' := 36) (x := 1) kc_22_35 rfl rfl ?_
          refine xi_static (mj := 23) (as := [.int 1]) (st1 := []) (lv0 := [(0, .int 1)]) kc_22_36 rfl rfl (Nat.le_of_ble_eq_true rfl) rfl rfl (Nat.le_of_ble_eq_true rfl) (hJ _ _ _ _ (by decide)) (xm_le ml_23 rfl) rfl ?_
          refine xi_iload_n (pc' := 1) (x := 1) kc_23_0 rfl rfl ?_
          refine xi_iff (pc' := 4) kc_23_1 rfl rfl ?_
          refine xi_iconst (pc' := 5) (v := 5) kc_23_4 rfl rfl ?_
          refine xi_iload_n (pc' := 6) (x := 1) kc_23_5 rfl rfl ?_
          refine xi_iconst (pc' := 7) (v := 2) kc_23_6 rfl rfl ?_
          refine xi_idiv (pc' := 8) (v := 0) kc_23_7 rfl rfl (by decide) ?_
          refine xi_iadd (pc' := 9) (v := 5) kc_23_8 rfl rfl ?_
          refine xi_iload_n (pc' := 10) (x := 1) kc_23_9 rfl rfl ?_
          refine xi_iload_n (pc' := 11) (x := 1) kc_23_10 rfl rfl ?_
          refine xi_imul (pc' := 12) (v := 1) kc_23_11 rfl rfl ?_
          refine xi_bipush (pc' := 14) (v := 40) kc_23_12 rfl rfl ?_
          refine xi_idiv (pc' := 15) (v := 0) kc_23_14 rfl rfl (by decide) ?_
          refine xi_iadd (pc' := 16) (v := 5) kc_23_15 rfl rfl ?_
          refine xi_ireturn kc_23_16 mr_23 rfl ?_
          show xw J ov 99 22 (39, [(0, .ref 115), (1, .int 1)], [.int 5], hh1) _
          refine xi_ireturn kc_22_39 mr_22 rfl ?_
          show xw J ov 100 196 (396, [(4, .int 0), (3, .ref 167), (2, .ref 115), (1, .ref 0), (0, .ref 1000000)], [.int 5, .int 5], hh1) _
          refine xi_cmt (pc' := 1528) kc_196_396 rfl rfl ?_
          refine xi_iinc (pc' := 1531) (x := 0) (v := 6) (lv' := [(4, .int 6), (3, .ref 167), (2, .ref 115), (1, .ref 0), (0, .ref 1000000)]) kc_196_1528 rfl rfl rfl rfl (xm_lt ml_196 rfl) ?_
          refine xi_goto (pc' := 23) kc_196_1531 rfl ?_
          refine xi_iload (pc' := 25) (x := 6) kc_196_23 rfl rfl ?_
          refine xi_aload_n (pc' := 26) (x := 1000000) kc_196_25 rfl rfl ?_
          refine xi_arraylength (pc' := 27) (n := 6) (v := 6) kc_196_26 rfl (xl_lenO (by decide) hov0 rfl) rfl ?_
          refine xi_bipush (pc' := 29) (v := 6) kc_196_27 rfl rfl ?_
          refine xi_isub (pc' := 30) (v := 0) kc_196_29 rfl rfl ?_
          refine xi_cmt (pc' := 1534) kc_196_30 rfl rfl ?_
          refine xi_iconst (pc' := 1535) (v := 1) kc_196_1534 rfl rfl ?_
          refine xi_ireturn kc_196_1535 mr_196 rfl ?_
          refine ⟨rfl, ?_, ?_⟩
          · rw [eh1.2.2.1]; exact hn0
          · rw [eh1.2.2.2]; exact hz0
        by_cases c25 : a1.toInt = 2
        · have qa1 : a1 = 2 := xc_of (Eq.trans (by omega) (show (2 : Int) = (2 : Int32).toInt by decide))
          subst qa1
          refine xi_idiv (pc' := 8) (v := 1) kc_103_7 rfl rfl (by decide) ?_
          refine xi_iadd (pc' := 9) (v := 6) kc_103_8 rfl rfl ?_
          refine xi_iload_n (pc' := 10) (x := 2) kc_103_9 rfl rfl ?_
          refine xi_iload_n (pc' := 11) (x := 2) kc_103_10 rfl rfl ?_
          refine xi_imul (pc' := 12) (v := 4) kc_103_11 rfl rfl ?_
          refine xi_bipush (pc' := 14) (v := 40) kc_103_12 rfl rfl ?_
          refine xi_idiv (pc' := 15) (v := 0) kc_103_14 rfl rfl (by decide) ?_
          refine xi_iadd (pc' := 16) (v := 6) kc_103_15 rfl rfl ?_
          refine xi_ireturn kc_103_16 mr_103 rfl ?_
          show xw J ov 99 102 (30, [(0, .ref 0), (1, .int 2)], [.int 6], h0) _
          refine xi_ireturn kc_102_30 mr_102 rfl ?_
          show xw J ov 100 196 (386, [(4, .int 0), (3, .ref 167), (2, .ref 115), (1, .ref 0), (0, .ref 1000000)], [.int 6], h0) _
          refine xi_aload_n (pc' := 387) (x := 115) kc_196_386 rfl rfl ?_
          refine xi_aload_n (pc' := 388) (x := 1000000) kc_196_387 rfl rfl ?_
          refine xi_iload (pc' := 390) (x := 0) kc_196_388 rfl rfl ?_
          refine xi_iconst (pc' := 391) (v := 1) kc_196_390 rfl rfl ?_
          refine xi_iadd (pc' := 392) (v := 1) kc_196_391 rfl rfl ?_
          refine xi_ialoadO (pc' := 393) (v := 2) kc_196_392 rfl (by decide) hov0 (xi_in (n := 6) (by decide) (by decide)) rfl ?_
          refine xi_virtual (mj := 22) (as := [.int 2]) (st1 := [.int 6]) (lv0 := [(0, .ref 115), (1, .int 2)]) kc_196_393 rfl rfl rfl rfl rfl (F 115 _ hl_115) (Nat.le_of_ble_eq_true rfl) (hJ _ _ _ _ (by decide)) (xm_le ml_22 rfl) rfl ?_
          refine xi_aload_n (pc' := 1) (x := 115) kc_22_0 rfl rfl ?_
          refine xi_iconst (pc' := 2) (v := 0) kc_22_1 rfl rfl ?_
          refine xi_putfield (pc' := 5) (fs' := [.int 0, .int 0, .ref 116, .ref 117, .ref 118, .ref 119, .ref 120, .ref 121, .ref 122, .ref 123, .ref 124, .ref 125, .ref 126, .ref 127, .ref 128, .ref 129, .int 4, .ref 130, .int 0, .ref 131, .ref 132, .ref 133, .ref 134, .int 0, .ref 135, .ref 136, .ref 137, .ref 138, .ref 139, .ref 140, .ref 141, .ref 142, .int 0, .int 0, .int 0, .ref 143, .ref 144, .ref 145, .ref 146, .ref 147, .ref 148, .int 0, .ref 149, .ref 150, .ref 151, .int 0, .ref 152, .ref 153, .ref 154, .ref 155, .ref 156, .ref 157, .ref 158, .ref 159, .int 0, .ref 160, .int 0, .ref 161, .ref 162, .ref 163, .ref 164, .int 0, .ref 165, .ref 166]) kc_22_2 rfl rfl rfl (F 115 _ hl_115) rfl rfl rfl (Nat.le_of_ble_eq_true rfl) rfl (fun hh1 eh1 => ?_)
          refine xi_iload_n (pc' := 6) (x := 2) kc_22_5 rfl rfl ?_
          refine xi_bipush (pc' := 8) (v := (-20)) kc_22_6 rfl rfl ?_
          refine xi_cmt (pc' := 20) kc_22_8 rfl rfl ?_
          refine xi_iload_n (pc' := 21) (x := 2) kc_22_20 rfl rfl ?_
          refine xi_bipush (pc' := 23) (v := 30) kc_22_21 rfl rfl ?_
          refine xi_cmt (pc' := 35) kc_22_23 rfl rfl ?_
          refine xi_iload_n (pc' := 36) (x := 2) kc_22_35 rfl rfl ?_
          refine xi_static (mj := 23) (as := [.int 2]) (st1 := []) (lv0 := [(0, .int 2)]) kc_22_36 rfl rfl (Nat.le_of_ble_eq_true rfl) rfl rfl (Nat.le_of_ble_eq_true rfl) (hJ _ _ _ _ (by decide)) (xm_le ml_23 rfl) rfl ?_
          refine xi_iload_n (pc' := 1) (x := 2) kc_23_0 rfl rfl ?_
          refine xi_iff (pc' := 4) kc_23_1 rfl rfl ?_
          refine xi_iconst (pc' := 5) (v := 5) kc_23_4 rfl rfl ?_
          refine xi_iload_n (pc' := 6) (x := 2) kc_23_5 rfl rfl ?_
          refine xi_iconst (pc' := 7) (v := 2) kc_23_6 rfl rfl ?_
          refine xi_idiv (pc' := 8) (v := 1) kc_23_7 rfl rfl (by decide) ?_
          refine xi_iadd (pc' := 9) (v := 6) kc_23_8 rfl rfl ?_
          refine xi_iload_n (pc' := 10) (x := 2) kc_23_9 rfl rfl ?_
          refine xi_iload_n (pc' := 11) (x := 2) kc_23_10 rfl rfl ?_
          refine xi_imul (pc' := 12) (v := 4) kc_23_11 rfl rfl ?_
          refine xi_bipush (pc' := 14) (v := 40) kc_23_12 rfl rfl ?_
          refine xi_idiv (pc' := 15) (v := 0) kc_23_14 rfl rfl (by decide) ?_
          refine xi_iadd (pc' := 16) (v := 6) kc_23_15 rfl rfl ?_
          refine xi_ireturn kc_23_16 mr_23 rfl ?_
          show xw J ov 99 22 (39, [(0, .ref 115), (1, .int 2)], [.int 6], hh1) _
          refine xi_ireturn kc_22_39 mr_22 rfl ?_
          show xw J ov 100 196 (396, [(4, .int 0), (3, .ref 167), (2, .ref 115), (1, .ref 0), (0, .ref 1000000)], [.int 6, .int 6], hh1) _
          refine xi_cmt (pc' := 1528) kc_196_396 rfl rfl ?_
          refine xi_iinc (pc' := 1531) (x := 0) (v := 6) (lv' := [(4, .int 6), (3, .ref 167), (2, .ref 115), (1, .ref 0), (0, .ref 1000000)]) kc_196_1528 rfl rfl rfl rfl (xm_lt ml_196 rfl) ?_
          refine xi_goto (pc' := 23) kc_196_1531 rfl ?_
          refine xi_iload (pc' := 25) (x := 6) kc_196_23 rfl rfl ?_
          refine xi_aload_n (pc' := 26) (x := 1000000) kc_196_25 rfl rfl ?_
          refine xi_arraylength (pc' := 27) (n := 6) (v := 6) kc_196_26 rfl (xl_lenO (by decide) hov0 rfl) rfl ?_
          refine xi_bipush (pc' := 29) (v := 6) kc_196_27 rfl rfl ?_
          refine xi_isub (pc' := 30) (v := 0) kc_196_29 rfl rfl ?_
          refine xi_cmt (pc' := 1534) kc_196_30 rfl rfl ?_
          refine xi_iconst (pc' := 1535) (v := 1) kc_196_1534 rfl rfl ?_
          refine xi_ireturn kc_196_1535 mr_196 rfl ?_
          refine ⟨rfl, ?_, ?_⟩
          · rw [eh1.2.2.1]; exact hn0
          · rw [eh1.2.2.2]; exact hz0
        by_cases c26 : a1.toInt = 3
        · have qa1 : a1 = 3 := xc_of (Eq.trans (by omega) (show (3 : Int) = (3 : Int32).toInt by decide))
          subst qa1
          refine xi_idiv (pc' := 8) (v := 1) kc_103_7 rfl rfl (by decide) ?_
          refine xi_iadd (pc' := 9) (v := 6) kc_103_8 rfl rfl ?_
          refine xi_iload_n (pc' := 10) (x := 3) kc_103_9 rfl rfl ?_
          refine xi_iload_n (pc' := 11) (x := 3) kc_103_10 rfl rfl ?_
          refine xi_imul (pc' := 12) (v := 9) kc_103_11 rfl rfl ?_
          refine xi_bipush (pc' := 14) (v := 40) kc_103_12 rfl rfl ?_
          refine xi_idiv (pc' := 15) (v := 0) kc_103_14 rfl rfl (by decide) ?_
          refine xi_iadd (pc' := 16) (v := 6) kc_103_15 rfl rfl ?_
          refine xi_ireturn kc_103_16 mr_103 rfl ?_
          show xw J ov 99 102 (30, [(0, .ref 0), (1, .int 3)], [.int 6], h0) _
          refine xi_ireturn kc_102_30 mr_102 rfl ?_
          show xw J ov 100 196 (386, [(4, .int 0), (3, .ref 167), (2, .ref 115), (1, .ref 0), (0, .ref 1000000)], [.int 6], h0) _
          refine xi_aload_n (pc' := 387) (x := 115) kc_196_386 rfl rfl ?_
          refine xi_aload_n (pc' := 388) (x := 1000000) kc_196_387 rfl rfl ?_
          refine xi_iload (pc' := 390) (x := 0) kc_196_388 rfl rfl ?_
          refine xi_iconst (pc' := 391) (v := 1) kc_196_390 rfl rfl ?_
          refine xi_iadd (pc' := 392) (v := 1) kc_196_391 rfl rfl ?_
          refine xi_ialoadO (pc' := 393) (v := 3) kc_196_392 rfl (by decide) hov0 (xi_in (n := 6) (by decide) (by decide)) rfl ?_
          refine xi_virtual (mj := 22) (as := [.int 3]) (st1 := [.int 6]) (lv0 := [(0, .ref 115), (1, .int 3)]) kc_196_393 rfl rfl rfl rfl rfl (F 115 _ hl_115) (Nat.le_of_ble_eq_true rfl) (hJ _ _ _ _ (by decide)) (xm_le ml_22 rfl) rfl ?_
          refine xi_aload_n (pc' := 1) (x := 115) kc_22_0 rfl rfl ?_
          refine xi_iconst (pc' := 2) (v := 0) kc_22_1 rfl rfl ?_
          refine xi_putfield (pc' := 5) (fs' := [.int 0, .int 0, .ref 116, .ref 117, .ref 118, .ref 119, .ref 120, .ref 121, .ref 122, .ref 123, .ref 124, .ref 125, .ref 126, .ref 127, .ref 128, .ref 129, .int 4, .ref 130, .int 0, .ref 131, .ref 132, .ref 133, .ref 134, .int 0, .ref 135, .ref 136, .ref 137, .ref 138, .ref 139, .ref 140, .ref 141, .ref 142, .int 0, .int 0, .int 0, .ref 143, .ref 144, .ref 145, .ref 146, .ref 147, .ref 148, .int 0, .ref 149, .ref 150, .ref 151, .int 0, .ref 152, .ref 153, .ref 154, .ref 155, .ref 156, .ref 157, .ref 158, .ref 159, .int 0, .ref 160, .int 0, .ref 161, .ref 162, .ref 163, .ref 164, .int 0, .ref 165, .ref 166]) kc_22_2 rfl rfl rfl (F 115 _ hl_115) rfl rfl rfl (Nat.le_of_ble_eq_true rfl) rfl (fun hh1 eh1 => ?_)
          refine xi_iload_n (pc' := 6) (x := 3) kc_22_5 rfl rfl ?_
          refine xi_bipush (pc' := 8) (v := (-20)) kc_22_6 rfl rfl ?_
          refine xi_cmt (pc' := 20) kc_22_8 rfl rfl ?_
          refine xi_iload_n (pc' := 21) (x := 3) kc_22_20 rfl rfl ?_
          refine xi_bipush (pc' := 23) (v := 30) kc_22_21 rfl rfl ?_
          refine xi_cmt (pc' := 35) kc_22_23 rfl rfl ?_
          refine xi_iload_n (pc' := 36) (x := 3) kc_22_35 rfl rfl ?_
          refine xi_static (mj := 23) (as := [.int 3]) (st1 := []) (lv0 := [(0, .int 3)]) kc_22_36 rfl rfl (Nat.le_of_ble_eq_true rfl) rfl rfl (Nat.le_of_ble_eq_true rfl) (hJ _ _ _ _ (by decide)) (xm_le ml_23 rfl) rfl ?_
          refine xi_iload_n (pc' := 1) (x := 3) kc_23_0 rfl rfl ?_
          refine xi_iff (pc' := 4) kc_23_1 rfl rfl ?_
          refine xi_iconst (pc' := 5) (v := 5) kc_23_4 rfl rfl ?_
          refine xi_iload_n (pc' := 6) (x := 3) kc_23_5 rfl rfl ?_
          refine xi_iconst (pc' := 7) (v := 2) kc_23_6 rfl rfl ?_
          refine xi_idiv (pc' := 8) (v := 1) kc_23_7 rfl rfl (by decide) ?_
          refine xi_iadd (pc' := 9) (v := 6) kc_23_8 rfl rfl ?_
          refine xi_iload_n (pc' := 10) (x := 3) kc_23_9 rfl rfl ?_
          refine xi_iload_n (pc' := 11) (x := 3) kc_23_10 rfl rfl ?_
          refine xi_imul (pc' := 12) (v := 9) kc_23_11 rfl rfl ?_
          refine xi_bipush (pc' := 14) (v := 40) kc_23_12 rfl rfl ?_
          refine xi_idiv (pc' := 15) (v := 0) kc_23_14 rfl rfl (by decide) ?_
          refine xi_iadd (pc' := 16) (v := 6) kc_23_15 rfl rfl ?_
          refine xi_ireturn kc_23_16 mr_23 rfl ?_
          show xw J ov 99 22 (39, [(0, .ref 115), (1, .int 3)], [.int 6], hh1) _
          refine xi_ireturn kc_22_39 mr_22 rfl ?_
          show xw J ov 100 196 (396, [(4, .int 0), (3, .ref 167), (2, .ref 115), (1, .ref 0), (0, .ref 1000000)], [.int 6, .int 6], hh1) _
          refine xi_cmt (pc' := 1528) kc_196_396 rfl rfl ?_
          refine xi_iinc (pc' := 1531) (x := 0) (v := 6) (lv' := [(4, .int 6), (3, .ref 167), (2, .ref 115), (1, .ref 0), (0, .ref 1000000)]) kc_196_1528 rfl rfl rfl rfl (xm_lt ml_196 rfl) ?_
          refine xi_goto (pc' := 23) kc_196_1531 rfl ?_
          refine xi_iload (pc' := 25) (x := 6) kc_196_23 rfl rfl ?_
          refine xi_aload_n (pc' := 26) (x := 1000000) kc_196_25 rfl rfl ?_
          refine xi_arraylength (pc' := 27) (n := 6) (v := 6) kc_196_26 rfl (xl_lenO (by decide) hov0 rfl) rfl ?_
          refine xi_bipush (pc' := 29) (v := 6) kc_196_27 rfl rfl ?_
          refine xi_isub (pc' := 30) (v := 0) kc_196_29 rfl rfl ?_
          refine xi_cmt (pc' := 1534) kc_196_30 rfl rfl ?_
          refine xi_iconst (pc' := 1535) (v := 1) kc_196_1534 rfl rfl ?_
          refine xi_ireturn kc_196_1535 mr_196 rfl ?_
          refine ⟨rfl, ?_, ?_⟩
          · rw [eh1.2.2.1]; exact hn0
          · rw [eh1.2.2.2]; exact hz0
        by_cases c27 : a1.toInt = 4
        · have qa1 : a1 = 4 := xc_of (Eq.trans (by omega) (show (4 : Int) = (4 : Int32).toInt by decide))
          subst qa1
          refine xi_idiv (pc' := 8) (v := 2) kc_103_7 rfl rfl (by decide) ?_
          refine xi_iadd (pc' := 9) (v := 7) kc_103_8 rfl rfl ?_
          refine xi_iload_n (pc' := 10) (x := 4) kc_103_9 rfl rfl ?_
          refine xi_iload_n (pc' := 11) (x := 4) kc_103_10 rfl rfl ?_
          refine xi_imul (pc' := 12) (v := 16) kc_103_11 rfl rfl ?_
          refine xi_bipush (pc' := 14) (v := 40) kc_103_12 rfl rfl ?_
          refine xi_idiv (pc' := 15) (v := 0) kc_103_14 rfl rfl (by decide) ?_
          refine xi_iadd (pc' := 16) (v := 7) kc_103_15 rfl rfl ?_
          refine xi_ireturn kc_103_16 mr_103 rfl ?_
          show xw J ov 99 102 (30, [(0, .ref 0), (1, .int 4)], [.int 7], h0) _
          refine xi_ireturn kc_102_30 mr_102 rfl ?_
          show xw J ov 100 196 (386, [(4, .int 0), (3, .ref 167), (2, .ref 115), (1, .ref 0), (0, .ref 1000000)], [.int 7], h0) _
          refine xi_aload_n (pc' := 387) (x := 115) kc_196_386 rfl rfl ?_
          refine xi_aload_n (pc' := 388) (x := 1000000) kc_196_387 rfl rfl ?_
          refine xi_iload (pc' := 390) (x := 0) kc_196_388 rfl rfl ?_
          refine xi_iconst (pc' := 391) (v := 1) kc_196_390 rfl rfl ?_
          refine xi_iadd (pc' := 392) (v := 1) kc_196_391 rfl rfl ?_
          refine xi_ialoadO (pc' := 393) (v := 4) kc_196_392 rfl (by decide) hov0 (xi_in (n := 6) (by decide) (by decide)) rfl ?_
          refine xi_virtual (mj := 22) (as := [.int 4]) (st1 := [.int 7]) (lv0 := [(0, .ref 115), (1, .int 4)]) kc_196_393 rfl rfl rfl rfl rfl (F 115 _ hl_115) (Nat.le_of_ble_eq_true rfl) (hJ _ _ _ _ (by decide)) (xm_le ml_22 rfl) rfl ?_
          refine xi_aload_n (pc' := 1) (x := 115) kc_22_0 rfl rfl ?_
          refine xi_iconst (pc' := 2) (v := 0) kc_22_1 rfl rfl ?_
          refine xi_putfield (pc' := 5) (fs' := [.int 0, .int 0, .ref 116, .ref 117, .ref 118, .ref 119, .ref 120, .ref 121, .ref 122, .ref 123, .ref 124, .ref 125, .ref 126, .ref 127, .ref 128, .ref 129, .int 4, .ref 130, .int 0, .ref 131, .ref 132, .ref 133, .ref 134, .int 0, .ref 135, .ref 136, .ref 137, .ref 138, .ref 139, .ref 140, .ref 141, .ref 142, .int 0, .int 0, .int 0, .ref 143, .ref 144, .ref 145, .ref 146, .ref 147, .ref 148, .int 0, .ref 149, .ref 150, .ref 151, .int 0, .ref 152, .ref 153, .ref 154, .ref 155, .ref 156, .ref 157, .ref 158, .ref 159, .int 0, .ref 160, .int 0, .ref 161, .ref 162, .ref 163, .ref 164, .int 0, .ref 165, .ref 166]) kc_22_2 rfl rfl rfl (F 115 _ hl_115) rfl rfl rfl (Nat.le_of_ble_eq_true rfl) rfl (fun hh1 eh1 => ?_)
          refine xi_iload_n (pc' := 6) (x := 4) kc_22_5 rfl rfl ?_
          refine xi_bipush (pc' := 8) (v := (-20)) kc_22_6 rfl rfl ?_
          refine xi_cmt (pc' := 20) kc_22_8 rfl rfl ?_
          refine xi_iload_n (pc' := 21) (x := 4) kc_22_20 rfl rfl ?_
          refine xi_bipush (pc' := 23) (v := 30) kc_22_21 rfl rfl ?_
          refine xi_cmt (pc' := 35) kc_22_23 rfl rfl ?_
          refine xi_iload_n (pc' := 36) (x := 4) kc_22_35 rfl rfl ?_
          refine xi_static (mj := 23) (as := [.int 4]) (st1 := []) (lv0 := [(0, .int 4)]) kc_22_36 rfl rfl (Nat.le_of_ble_eq_true rfl) rfl rfl (Nat.le_of_ble_eq_true rfl) (hJ _ _ _ _ (by decide)) (xm_le ml_23 rfl) rfl ?_
          refine xi_iload_n (pc' := 1) (x := 4) kc_23_0 rfl rfl ?_
          refine xi_iff (pc' := 4) kc_23_1 rfl rfl ?_
          refine xi_iconst (pc' := 5) (v := 5) kc_23_4 rfl rfl ?_
          refine xi_iload_n (pc' := 6) (x := 4) kc_23_5 rfl rfl ?_
          refine xi_iconst (pc' := 7) (v := 2) kc_23_6 rfl rfl ?_
          refine xi_idiv (pc' := 8) (v := 2) kc_23_7 rfl rfl (by decide) ?_
          refine xi_iadd (pc' := 9) (v := 7) kc_23_8 rfl rfl ?_
          refine xi_iload_n (pc' := 10) (x := 4) kc_23_9 rfl rfl ?_
          refine xi_iload_n (pc' := 11) (x := 4) kc_23_10 rfl rfl ?_
          refine xi_imul (pc' := 12) (v := 16) kc_23_11 rfl rfl ?_
          refine xi_bipush (pc' := 14) (v := 40) kc_23_12 rfl rfl ?_
          refine xi_idiv (pc' := 15) (v := 0) kc_23_14 rfl rfl (by decide) ?_
          refine xi_iadd (pc' := 16) (v := 7) kc_23_15 rfl rfl ?_
          refine xi_ireturn kc_23_16 mr_23 rfl ?_
          show xw J ov 99 22 (39, [(0, .ref 115), (1, .int 4)], [.int 7], hh1) _
          refine xi_ireturn kc_22_39 mr_22 rfl ?_
          show xw J ov 100 196 (396, [(4, .int 0), (3, .ref 167), (2, .ref 115), (1, .ref 0), (0, .ref 1000000)], [.int 7, .int 7], hh1) _
          refine xi_cmt (pc' := 1528) kc_196_396 rfl rfl ?_
          refine xi_iinc (pc' := 1531) (x := 0) (v := 6) (lv' := [(4, .int 6), (3, .ref 167), (2, .ref 115), (1, .ref 0), (0, .ref 1000000)]) kc_196_1528 rfl rfl rfl rfl (xm_lt ml_196 rfl) ?_
          refine xi_goto (pc' := 23) kc_196_1531 rfl ?_
          refine xi_iload (pc' := 25) (x := 6) kc_196_23 rfl rfl ?_
          refine xi_aload_n (pc' := 26) (x := 1000000) kc_196_25 rfl rfl ?_
          refine xi_arraylength (pc' := 27) (n := 6) (v := 6) kc_196_26 rfl (xl_lenO (by decide) hov0 rfl) rfl ?_
          refine xi_bipush (pc' := 29) (v := 6) kc_196_27 rfl rfl ?_
          refine xi_isub (pc' := 30) (v := 0) kc_196_29 rfl rfl ?_
          refine xi_cmt (pc' := 1534) kc_196_30 rfl rfl ?_
          refine xi_iconst (pc' := 1535) (v := 1) kc_196_1534 rfl rfl ?_
          refine xi_ireturn kc_196_1535 mr_196 rfl ?_
          refine ⟨rfl, ?_, ?_⟩
          · rw [eh1.2.2.1]; exact hn0
          · rw [eh1.2.2.2]; exact hz0
        by_cases c28 : a1.toInt = 5
        · have qa1 : a1 = 5 := xc_of (Eq.trans (by omega) (show (5 : Int) = (5 : Int32).toInt by decide))
          subst qa1
          refine xi_idiv (pc' := 8) (v := 2) kc_103_7 rfl rfl (by decide) ?_
          refine xi_iadd (pc' := 9) (v := 7) kc_103_8 rfl rfl ?_
          refine xi_iload_n (pc' := 10) (x := 5) kc_103_9 rfl rfl ?_
          refine xi_iload_n (pc' := 11) (x := 5) kc_103_10 rfl rfl ?_
          refine xi_imul (pc' := 12) (v := 25) kc_103_11 rfl rfl ?_
          refine xi_bipush (pc' := 14) (v := 40) kc_103_12 rfl rfl ?_
          refine xi_idiv (pc' := 15) (v := 0) kc_103_14 rfl rfl (by decide) ?_
          refine xi_iadd (pc' := 16) (v := 7) kc_103_15 rfl rfl ?_
          refine xi_ireturn kc_103_16 mr_103 rfl ?_
          show xw J ov 99 102 (30, [(0, .ref 0), (1, .int 5)], [.int 7], h0) _
          refine xi_ireturn kc_102_30 mr_102 rfl ?_
          show xw J ov 100 196 (386, [(4, .int 0), (3, .ref 167), (2, .ref 115), (1, .ref 0), (0, .ref 1000000)], [.int 7], h0) _
          refine xi_aload_n (pc' := 387) (x := 115) kc_196_386 rfl rfl ?_
          refine xi_aload_n (pc' := 388) (x := 1000000) kc_196_387 rfl rfl ?_
          refine xi_iload (pc' := 390) (x := 0) kc_196_388 rfl rfl ?_
          refine xi_iconst (pc' := 391) (v := 1) kc_196_390 rfl rfl ?_
          refine xi_iadd (pc' := 392) (v := 1) kc_196_391 rfl rfl ?_
          refine xi_ialoadO (pc' := 393) (v := 5) kc_196_392 rfl (by decide) hov0 (xi_in (n := 6) (by decide) (by decide)) rfl ?_
          refine xi_virtual (mj := 22) (as := [.int 5]) (st1 := [.int 7]) (lv0 := [(0, .ref 115), (1, .int 5)]) kc_196_393 rfl rfl rfl rfl rfl (F 115 _ hl_115) (Nat.le_of_ble_eq_true rfl) (hJ _ _ _ _ (by decide)) (xm_le ml_22 rfl) rfl ?_
          refine xi_aload_n (pc' := 1) (x := 115) kc_22_0 rfl rfl ?_
          refine xi_iconst (pc' := 2) (v := 0) kc_22_1 rfl rfl ?_
          refine xi_putfield (pc' := 5) (fs' := [.int 0, .int 0, .ref 116, .ref 117, .ref 118, .ref 119, .ref 120, .ref 121, .ref 122, .ref 123, .ref 124, .ref 125, .ref 126, .ref 127, .ref 128, .ref 129, .int 4, .ref 130, .int 0, .ref 131, .ref 132, .ref 133, .ref 134, .int 0, .ref 135, .ref 136, .ref 137, .ref 138, .ref 139, .ref 140, .ref 141, .ref 142, .int 0, .int 0, .int 0, .ref 143, .ref 144, .ref 145, .ref 146, .ref 147, .ref 148, .int 0, .ref 149, .ref 150, .ref 151, .int 0, .ref 152, .ref 153, .ref 154, .ref 155, .ref 156, .ref 157, .ref 158, .ref 159, .int 0, .ref 160, .int 0, .ref 161, .ref 162, .ref 163, .ref 164, .int 0, .ref 165, .ref 166]) kc_22_2 rfl rfl rfl (F 115 _ hl_115) rfl rfl rfl (Nat.le_of_ble_eq_true rfl) rfl (fun hh1 eh1 => ?_)
          refine xi_iload_n (pc' := 6) (x := 5) kc_22_5 rfl rfl ?_
          refine xi_bipush (pc' := 8) (v := (-20)) kc_22_6 rfl rfl ?_
          refine xi_cmt (pc' := 20) kc_22_8 rfl rfl ?_
          refine xi_iload_n (pc' := 21) (x := 5) kc_22_20 rfl rfl ?_
          refine xi_bipush (pc' := 23) (v := 30) kc_22_21 rfl rfl ?_
          refine xi_cmt (pc' := 35) kc_22_23 rfl rfl ?_
          refine xi_iload_n (pc' := 36) (x := 5) kc_22_35 rfl rfl ?_
          refine xi_static (mj := 23) (as := [.int 5]) (st1 := []) (lv0 := [(0, .int 5)]) kc_22_36 rfl rfl (Nat.le_of_ble_eq_true rfl) rfl rfl (Nat.le_of_ble_eq_true rfl) (hJ _ _ _ _ (by decide)) (xm_le ml_23 rfl) rfl ?_
          refine xi_iload_n (pc' := 1) (x := 5) kc_23_0 rfl rfl ?_
          refine xi_iff (pc' := 4) kc_23_1 rfl rfl ?_
          refine xi_iconst (pc' := 5) (v := 5) kc_23_4 rfl rfl ?_
          refine xi_iload_n (pc' := 6) (x := 5) kc_23_5 rfl rfl ?_
          refine xi_iconst (pc' := 7) (v := 2) kc_23_6 rfl rfl ?_
          refine xi_idiv (pc' := 8) (v := 2) kc_23_7 rfl rfl (by decide) ?_
          refine xi_iadd (pc' := 9) (v := 7) kc_23_8 rfl rfl ?_
          refine xi_iload_n (pc' := 10) (x := 5) kc_23_9 rfl rfl ?_
          refine xi_iload_n (pc' := 11) (x := 5) kc_23_10 rfl rfl ?_
          refine xi_imul (pc' := 12) (v := 25) kc_23_11 rfl rfl ?_
          refine xi_bipush (pc' := 14) (v := 40) kc_23_12 rfl rfl ?_
          refine xi_idiv (pc' := 15) (v := 0) kc_23_14 rfl rfl (by decide) ?_
          refine xi_iadd (pc' := 16) (v := 7) kc_23_15 rfl rfl ?_
          refine xi_ireturn kc_23_16 mr_23 rfl ?_
          show xw J ov 99 22 (39, [(0, .ref 115), (1, .int 5)], [.int 7], hh1) _
          refine xi_ireturn kc_22_39 mr_22 rfl ?_
          show xw J ov 100 196 (396, [(4, .int 0), (3, .ref 167), (2, .ref 115), (1, .ref 0), (0, .ref 1000000)], [.int 7, .int 7], hh1) _
          refine xi_cmt (pc' := 1528) kc_196_396 rfl rfl ?_
          refine xi_iinc (pc' := 1531) (x := 0) (v := 6) (lv' := [(4, .int 6), (3, .ref 167), (2, .ref 115), (1, .ref 0), (0, .ref 1000000)]) kc_196_1528 rfl rfl rfl rfl (xm_lt ml_196 rfl) ?_
          refine xi_goto (pc' := 23) kc_196_1531 rfl ?_
          refine xi_iload (pc' := 25) (x := 6) kc_196_23 rfl rfl ?_
          refine xi_aload_n (pc' := 26) (x := 1000000) kc_196_25 rfl rfl ?_
          refine xi_arraylength (pc' := 27) (n := 6) (v := 6) kc_196_26 rfl (xl_lenO (by decide) hov0 rfl) rfl ?_
          refine xi_bipush (pc' := 29) (v := 6) kc_196_27 rfl rfl ?_
          refine xi_isub (pc' := 30) (v := 0) kc_196_29 rfl rfl ?_
          refine xi_cmt (pc' := 1534) kc_196_30 rfl rfl ?_
          refine xi_iconst (pc' := 1535) (v := 1) kc_196_1534 rfl rfl ?_
          refine xi_ireturn kc_196_1535 mr_196 rfl ?_
          refine ⟨rfl, ?_, ?_⟩
          · rw [eh1.2.2.1]; exact hn0
          · rw [eh1.2.2.2]; exact hz0
        by_cases c29 : a1.toInt = 6
        · have qa1 : a1 = 6 := xc_of (Eq.trans (by omega) (show (6 : Int) = (6 : Int32).toInt by decide))
          subst qa1
          refine xi_idiv (pc' := 8) (v := 3) kc_103_7 rfl rfl (by decide) ?_
          refine xi_iadd (pc' := 9) (v := 8) kc_103_8 rfl rfl ?_
          refine xi_iload_n (pc' := 10) (x := 6) kc_103_9 rfl rfl ?_
          refine xi_iload_n (pc' := 11) (x := 6) kc_103_10 rfl rfl ?_
          refine xi_imul (pc' := 12) (v := 36) kc_103_11 rfl rfl ?_
          refine xi_bipush (pc' := 14) (v := 40) kc_103_12 rfl rfl ?_
          refine xi_idiv (pc' := 15) (v := 0) kc_103_14 rfl rfl (by decide) ?_
          refine xi_iadd (pc' := 16) (v := 8) kc_103_15 rfl rfl ?_
          refine xi_ireturn kc_103_16 mr_103 rfl ?_
          show xw J ov 99 102 (30, [(0, .ref 0), (1, .int 6)], [.int 8], h0) _
          refine xi_ireturn kc_102_30 mr_102 rfl ?_
          show xw J ov 100 196 (386, [(4, .int 0), (3, .ref 167), (2, .ref 115), (1, .ref 0), (0, .ref 1000000)], [.int 8], h0) _
          refine xi_aload_n (pc' := 387) (x := 115) kc_196_386 rfl rfl ?_
          refine xi_aload_n (pc' := 388) (x := 1000000) kc_196_387 rfl rfl ?_
          refine xi_iload (pc' := 390) (x := 0) kc_196_388 rfl rfl ?_
          refine xi_iconst (pc' := 391) (v := 1) kc_196_390 rfl rfl ?_
          refine xi_iadd (pc' := 392) (v := 1) kc_196_391 rfl rfl ?_
          refine xi_ialoadO (pc' := 393) (v := 6) kc_196_392 rfl (by decide) hov0 (xi_in (n := 6) (by decide) (by decide)) rfl ?_
          refine xi_virtual (mj := 22) (as := [.int 6]) (st1 := [.int 8]) (lv0 := [(0, .ref 115), (1, .int 6)]) kc_196_393 rfl rfl rfl rfl rfl (F 115 _ hl_115) (Nat.le_of_ble_eq_true rfl) (hJ _ _ _ _ (by decide)) (xm_le ml_22 rfl) rfl ?_
          refine xi_aload_n (pc' := 1) (x := 115) kc_22_0 rfl rfl ?_
          refine xi_iconst (pc' := 2) (v := 0) kc_22_1 rfl rfl ?_
          refine xi_putfield (pc' := 5) (fs' := [.int 0, .int 0, .ref 116, .ref 117, .ref 118, .ref 119, .ref 120, .ref 121, .ref 122, .ref 123, .ref 124, .ref 125, .ref 126, .ref 127, .ref 128, .ref 129, .int 4, .ref 130, .int 0, .ref 131, .ref 132, .ref 133, .ref 134, .int 0, .ref 135, .ref 136, .ref 137, .ref 138, .ref 139, .ref 140, .ref 141, .ref 142, .int 0, .int 0, .int 0, .ref 143, .ref 144, .ref 145, .ref 146, .ref 147, .ref 148, .int 0, .ref 149, .ref 150, .ref 151, .int 0, .ref 152, .ref 153, .ref 154, .ref 155, .ref 156, .ref 157, .ref 158, .ref 159, .int 0, .ref 160, .int 0, .ref 161, .ref 162, .ref 163, .ref 164, .int 0, .ref 165, .ref 166]) kc_22_2 rfl rfl rfl (F 115 _ hl_115) rfl rfl rfl (Nat.le_of_ble_eq_true rfl) rfl (fun hh1 eh1 => ?_)
          refine xi_iload_n (pc' := 6) (x := 6) kc_22_5 rfl rfl ?_
          refine xi_bipush (pc' := 8) (v := (-20)) kc_22_6 rfl rfl ?_
          refine xi_cmt (pc' := 20) kc_22_8 rfl rfl ?_
          refine xi_iload_n (pc' := 21) (x := 6) kc_22_20 rfl rfl ?_
          refine xi_bipush (pc' := 23) (v := 30) kc_22_21 rfl rfl ?_
          refine xi_cmt (pc' := 35) kc_22_23 rfl rfl ?_
          refine xi_iload_n (pc' := 36) (x := 6) kc_22_35 rfl rfl ?_
          refine xi_static (mj := 23) (as := [.int 6]) (st1 := []) (lv0 := [(0, .int 6)]) kc_22_36 rfl rfl (Nat.le_of_ble_eq_true rfl) rfl rfl (Nat.le_of_ble_eq_true rfl) (hJ _ _ _ _ (by decide)) (xm_le ml_23 rfl) rfl ?_
          refine xi_iload_n (pc' := 1) (x := 6) kc_23_0 rfl rfl ?_
          refine xi_iff (pc' := 4) kc_23_1 rfl rfl ?_
          refine xi_iconst (pc' := 5) (v := 5) kc_23_4 rfl rfl ?_
          refine xi_iload_n (pc' := 6) (x := 6) kc_23_5 rfl rfl ?_
          refine xi_iconst (pc' := 7) (v := 2) kc_23_6 rfl rfl ?_
          refine xi_idiv (pc' := 8) (v := 3) kc_23_7 rfl rfl (by decide) ?_
          refine xi_iadd (pc' := 9) (v := 8) kc_23_8 rfl rfl ?_
          refine xi_iload_n (pc' := 10) (x := 6) kc_23_9 rfl rfl ?_
          refine xi_iload_n (pc' := 11) (x := 6) kc_23_10 rfl rfl ?_
          refine xi_imul (pc' := 12) (v := 36) kc_23_11 rfl rfl ?_
          refine xi_bipush (pc' := 14) (v := 40) kc_23_12 rfl rfl ?_
          refine xi_idiv (pc' := 15) (v := 0) kc_23_14 rfl rfl (by decide) ?_
          refine xi_iadd (pc' := 16) (v := 8) kc_23_15 rfl rfl ?_
          refine xi_ireturn kc_23_16 mr_23 rfl ?_
          show xw J ov 99 22 (39, [(0, .ref 115), (1, .int 6)], [.int 8], hh1) _
          refine xi_ireturn kc_22_39 mr_22 rfl ?_
          show xw J ov 100 196 (396, [(4, .int 0), (3, .ref 167), (2, .ref 115), (1, .ref 0), (0, .ref 1000000)], [.int 8, .int 8], hh1) _
          refine xi_cmt (pc' := 1528) kc_196_396 rfl rfl ?_
          refine xi_iinc (pc' := 1531) (x := 0) (v := 6) (lv' := [(4, .int 6), (3, .ref 167), (2, .ref 115), (1, .ref 0), (0, .ref 1000000)]) kc_196_1528 rfl rfl rfl rfl (xm_lt ml_196 rfl) ?_
          refine xi_goto (pc' := 23) kc_196_1531 rfl ?_
          refine xi_iload (pc' := 25) (x := 6) kc_196_23 rfl rfl ?_
          refine xi_aload_n (pc' := 26) (x := 1000000) kc_196_25 rfl rfl ?_
          refine xi_arraylength (pc' := 27) (n := 6) (v := 6) kc_196_26 rfl (xl_lenO (by decide) hov0 rfl) rfl ?_
          refine xi_bipush (pc' := 29) (v := 6) kc_196_27 rfl rfl ?_
          refine xi_isub (pc' := 30) (v := 0) kc_196_29 rfl rfl ?_
          refine xi_cmt (pc' := 1534) kc_196_30 rfl rfl ?_
          refine xi_iconst (pc' := 1535) (v := 1) kc_196_1534 rfl rfl ?_
          refine xi_ireturn kc_196_1535 mr_196 rfl ?_
          refine ⟨rfl, ?_, ?_⟩
          · rw [eh1.2.2.1]; exact hn0
          · rw [eh1.2.2.2]; exact hz0
        by_cases c30 : a1.toInt = 7
        · have qa1 : a1 = 7 := xc_of (Eq.trans (by omega) (show (7 : Int) = (7 : Int32).toInt by decide))
          subst qa1
          refine xi_idiv (pc' := 8) (v := 3) kc_103_7 rfl rfl (by decide) ?_
          refine xi_iadd (pc' := 9) (v := 8) kc_103_8 rfl rfl ?_
          refine xi_iload_n (pc' := 10) (x := 7) kc_103_9 rfl rfl ?_
          refine xi_iload_n (pc' := 11) (x := 7) kc_103_10 rfl rfl ?_
          refine xi_imul (pc' := 12) (v := 49) kc_103_11 rfl rfl ?_
          refine xi_bipush (pc' := 14) (v := 40) kc_103_12 rfl rfl ?_
          refine xi_idiv (pc' := 15) (v := 1) kc_103_14 rfl rfl (by decide) ?_
          refine xi_iadd (pc' := 16) (v := 9) kc_103_15 rfl rfl ?_
          refine xi_ireturn kc_103_16 mr_103 rfl ?_
          show xw J ov 99 102 (30, [(0, .ref 0), (1, .int 7)], [.int 9], h0) _
          refine xi_ireturn kc_102_30 mr_102 rfl ?_
          show xw J ov 100 196 (386, [(4, .int 0), (3, .ref 167), (2, .ref 115), (1, .ref 0), (0, .ref 1000000)], [.int 9], h0) _
          refine xi_aload_n (pc' := 387) (x := 115) kc_196_386 rfl rfl ?_
          refine xi_aload_n (pc' := 388) (x := 1000000) kc_196_387 rfl rfl ?_
          refine xi_iload (pc' := 390) (x := 0) kc_196_388 rfl rfl ?_
          refine xi_iconst (pc' := 391) (v := 1) kc_196_390 rfl rfl ?_
          refine xi_iadd (pc' := 392) (v := 1) kc_196_391 rfl rfl ?_
          refine xi_ialoadO (pc' := 393) (v := 7) kc_196_392 rfl (by decide) hov0 (xi_in (n := 6) (by decide) (by decide)) rfl ?_
          refine xi_virtual (mj := 22) (as := [.int 7]) (st1 := [.int 9]) (lv0 := [(0, .ref 115), (1, .int 7)]) kc_196_393 rfl rfl rfl rfl rfl (F 115 _ hl_115) (Nat.le_of_ble_eq_true rfl) (hJ _ _ _ _ (by decide)) (xm_le ml_22 rfl) rfl ?_
          refine xi_aload_n (pc' := 1) (x := 115) kc_22_0 rfl rfl ?_
          refine xi_iconst (pc' := 2) (v := 0) kc_22_1 rfl rfl ?_
          refine xi_putfield (pc' := 5) (fs' := [.int 0, .int 0, .ref 116, .ref 117, .ref 118, .ref 119, .ref 120, .ref 121, .ref 122, .ref 123, .ref 124, .ref 125, .ref 126, .ref 127, .ref 128, .ref 129, .int 4, .ref 130, .int 0, .ref 131, .ref 132, .ref 133, .ref 134, .int 0, .ref 135, .ref 136, .ref 137, .ref 138, .ref 139, .ref 140, .ref 141, .ref 142, .int 0, .int 0, .int 0, .ref 143, .ref 144, .ref 145, .ref 146, .ref 147, .ref 148, .int 0, .ref 149, .ref 150, .ref 151, .int 0, .ref 152, .ref 153, .ref 154, .ref 155, .ref 156, .ref 157, .ref 158, .ref 159, .int 0, .ref 160, .int 0, .ref 161, .ref 162, .ref 163, .ref 164, .int 0, .ref 165, .ref 166]) kc_22_2 rfl rfl rfl (F 115 _ hl_115) rfl rfl rfl (Nat.le_of_ble_eq_true rfl) rfl (fun hh1 eh1 => ?_)
          refine xi_iload_n (pc' := 6) (x := 7) kc_22_5 rfl rfl ?_
          refine xi_bipush (pc' := 8) (v := (-20)) kc_22_6 rfl rfl ?_
          refine xi_cmt (pc' := 20) kc_22_8 rfl rfl ?_
          refine xi_iload_n (pc' := 21) (x := 7) kc_22_20 rfl rfl ?_
          refine xi_bipush (pc' := 23) (v := 30) kc_22_21 rfl rfl ?_
          refine xi_cmt (pc' := 35) kc_22_23 rfl rfl ?_
          refine xi_iload_n (pc' := 36) (x := 7) kc_22_35 rfl rfl ?_
          refine xi_static (mj := 23) (as := [.int 7]) (st1 := []) (lv0 := [(0, .int 7)]) kc_22_36 rfl rfl (Nat.le_of_ble_eq_true rfl) rfl rfl (Nat.le_of_ble_eq_true rfl) (hJ _ _ _ _ (by decide)) (xm_le ml_23 rfl) rfl ?_
          refine xi_iload_n (pc' := 1) (x := 7) kc_23_0 rfl rfl ?_
          refine xi_iff (pc' := 4) kc_23_1 rfl rfl ?_
          refine xi_iconst (pc' := 5) (v := 5) kc_23_4 rfl rfl ?_
          refine xi_iload_n (pc' := 6) (x := 7) kc_23_5 rfl rfl ?_
          refine xi_iconst (pc' := 7) (v := 2) kc_23_6 rfl rfl ?_
          refine xi_idiv (pc' := 8) (v := 3) kc_23_7 rfl rfl (by decide) ?_
          refine xi_iadd (pc' := 9) (v := 8) kc_23_8 rfl rfl ?_
          refine xi_iload_n (pc' := 10) (x := 7) kc_23_9 rfl rfl ?_
          refine xi_iload_n (pc' := 11) (x := 7) kc_23_10 rfl rfl ?_
          refine xi_imul (pc' := 12) (v := 49) kc_23_11 rfl rfl ?_
          refine xi_bipush (pc' := 14) (v := 40) kc_23_12 rfl rfl ?_
          refine xi_idiv (pc' := 15) (v := 1) kc_23_14 rfl rfl (by decide) ?_
          refine xi_iadd (pc' := 16) (v := 9) kc_23_15 rfl rfl ?_
          refine xi_ireturn kc_23_16 mr_23 rfl ?_
          show xw J ov 99 22 (39, [(0, .ref 115), (1, .int 7)], [.int 9], hh1) _
          refine xi_ireturn kc_22_39 mr_22 rfl ?_
          show xw J ov 100 196 (396, [(4, .int 0), (3, .ref 167), (2, .ref 115), (1, .ref 0), (0, .ref 1000000)], [.int 9, .int 9], hh1) _
          refine xi_cmt (pc' := 1528) kc_196_396 rfl rfl ?_
          refine xi_iinc (pc' := 1531) (x := 0) (v := 6) (lv' := [(4, .int 6), (3, .ref 167), (2, .ref 115), (1, .ref 0), (0, .ref 1000000)]) kc_196_1528 rfl rfl rfl rfl (xm_lt ml_196 rfl) ?_
          refine xi_goto (pc' := 23) kc_196_1531 rfl ?_
          refine xi_iload (pc' := 25) (x := 6) kc_196_23 rfl rfl ?_
          refine xi_aload_n (pc' := 26) (x := 1000000) kc_196_25 rfl rfl ?_
          refine xi_arraylength (pc' := 27) (n := 6) (v := 6) kc_196_26 rfl (xl_lenO (by decide) hov0 rfl) rfl ?_
          refine xi_bipush (pc' := 29) (v := 6) kc_196_27 rfl rfl ?_
          refine xi_isub (pc' := 30) (v := 0) kc_196_29 rfl rfl ?_
          refine xi_cmt (pc' := 1534) kc_196_30 rfl rfl ?_
          refine xi_iconst (pc' := 1535) (v := 1) kc_196_1534 rfl rfl ?_
          refine xi_ireturn kc_196_1535 mr_196 rfl ?_
          refine ⟨rfl, ?_, ?_⟩
          · rw [eh1.2.2.1]; exact hn0
          · rw [eh1.2.2.2]; exact hz0
        by_cases c31 : a1.toInt = 8
        · have qa1 : a1 = 8 := xc_of (Eq.trans (by omega) (show (8 : Int) = (8 : Int32).toInt by decide))
          subst qa1
          refine xi_idiv (pc' := 8) (v := 4) kc_103_7 rfl rfl (by decide) ?_
          refine xi_iadd (pc' := 9) (v := 9) kc_103_8 rfl rfl ?_
          refine xi_iload_n (pc' := 10) (x := 8) kc_103_9 rfl rfl ?_
          refine xi_iload_n (pc' := 11) (x := 8) kc_103_10 rfl rfl ?_
          refine xi_imul (pc' := 12) (v := 64) kc_103_11 rfl rfl ?_
          refine xi_bipush (pc' := 14) (v := 40) kc_103_12 rfl rfl ?_
          refine xi_idiv (pc' := 15) (v := 1) kc_103_14 rfl rfl (by decide) ?_
          refine xi_iadd (pc' := 16) (v := 10) kc_103_15 rfl rfl ?_
          refine xi_ireturn kc_103_16 mr_103 rfl ?_
          show xw J ov 99 102 (30, [(0, .ref 0), (1, .int 8)], [.int 10], h0) _
          refine xi_ireturn kc_102_30 mr_102 rfl ?_
          show xw J ov 100 196 (386, [(4, .int 0), (3, .ref 167), (2, .ref 115), (1, .ref 0), (0, .ref 1000000)], [.int 10], h0) _
          refine xi_aload_n (pc' := 387) (x := 115) kc_196_386 rfl rfl ?_
          refine xi_aload_n (pc' := 388) (x := 1000000) kc_196_387 rfl rfl ?_
          refine xi_iload (pc' := 390) (x := 0) kc_196_388 rfl rfl ?_
          refine xi_iconst (pc' := 391) (v := 1) kc_196_390 rfl rfl ?_
          refine xi_iadd (pc' := 392) (v := 1) kc_196_391 rfl rfl ?_
          refine xi_ialoadO (pc' := 393) (v := 8) kc_196_392 rfl (by decide) hov0 (xi_in (n := 6) (by decide) (by decide)) rfl ?_
          refine xi_virtual (mj := 22) (as := [.int 8]) (st1 := [.int 10]) (lv0 := [(0, .ref 115), (1, .int 8)]) kc_196_393 rfl rfl rfl rfl rfl (F 115 _ hl_115) (Nat.le_of_ble_eq_true rfl) (hJ _ _ _ _ (by decide)) (xm_le ml_22 rfl) rfl ?_
          refine xi_aload_n (pc' := 1) (x := 115) kc_22_0 rfl rfl ?_
          refine xi_iconst (pc' := 2) (v := 0) kc_22_1 rfl rfl ?_
          refine xi_putfield (pc' := 5) (fs' := [.int 0, .int 0, .ref 116, .ref 117, .ref 118, .ref 119, .ref 120, .ref 121, .ref 122, .ref 123, .ref 124, .ref 125, .ref 126, .ref 127, .ref 128, .ref 129, .int 4, .ref 130, .int 0, .ref 131, .ref 132, .ref 133, .ref 134, .int 0, .ref 135, .ref 136, .ref 137, .ref 138, .ref 139, .ref 140, .ref 141, .ref 142, .int 0, .int 0, .int 0, .ref 143, .ref 144, .ref 145, .ref 146, .ref 147, .ref 148, .int 0, .ref 149, .ref 150, .ref 151, .int 0, .ref 152, .ref 153, .ref 154, .ref 155, .ref 156, .ref 157, .ref 158, .ref 159, .int 0, .ref 160, .int 0, .ref 161, .ref 162, .ref 163, .ref 164, .int 0, .ref 165, .ref 166]) kc_22_2 rfl rfl rfl (F 115 _ hl_115) rfl rfl rfl (Nat.le_of_ble_eq_true rfl) rfl (fun hh1 eh1 => ?_)
          refine xi_iload_n (pc' := 6) (x := 8) kc_22_5 rfl rfl ?_
          refine xi_bipush (pc' := 8) (v := (-20)) kc_22_6 rfl rfl ?_
          refine xi_cmt (pc' := 20) kc_22_8 rfl rfl ?_
          refine xi_iload_n (pc' := 21) (x := 8) kc_22_20 rfl rfl ?_
          refine xi_bipush (pc' := 23) (v := 30) kc_22_21 rfl rfl ?_
          refine xi_cmt (pc' := 35) kc_22_23 rfl rfl ?_
          refine xi_iload_n (pc' := 36) (x := 8) kc_22_35 rfl rfl ?_
          refine xi_static (mj := 23) (as := [.int 8]) (st1 := []) (lv0 := [(0, .int 8)]) kc_22_36 rfl rfl (Nat.le_of_ble_eq_true rfl) rfl rfl (Nat.le_of_ble_eq_true rfl) (hJ _ _ _ _ (by decide)) (xm_le ml_23 rfl) rfl ?_
          refine xi_iload_n (pc' := 1) (x := 8) kc_23_0 rfl rfl ?_
          refine xi_iff (pc' := 4) kc_23_1 rfl rfl ?_
          refine xi_iconst (pc' := 5) (v := 5) kc_23_4 rfl rfl ?_
          refine xi_iload_n (pc' := 6) (x := 8) kc_23_5 rfl rfl ?_
          refine xi_iconst (pc' := 7) (v := 2) kc_23_6 rfl rfl ?_
          refine xi_idiv (pc' := 8) (v := 4) kc_23_7 rfl rfl (by decide) ?_
          refine xi_iadd (pc' := 9) (v := 9) kc_23_8 rfl rfl ?_
          refine xi_iload_n (pc' := 10) (x := 8) kc_23_9 rfl rfl ?_
          refine xi_iload_n (pc' := 11) (x := 8) kc_23_10 rfl rfl ?_
          refine xi_imul (pc' := 12) (v := 64) kc_23_11 rfl rfl ?_
          refine xi_bipush (pc' := 14) (v := 40) kc_23_12 rfl rfl ?_
          refine xi_idiv (pc' := 15) (v := 1) kc_23_14 rfl rfl (by decide) ?_
          refine xi_iadd (pc' := 16) (v := 10) kc_23_15 rfl rfl ?_
          refine xi_ireturn kc_23_16 mr_23 rfl ?_
          show xw J ov 99 22 (39, [(0, .ref 115), (1, .int 8)], [.int 10], hh1) _
          refine xi_ireturn kc_22_39 mr_22 rfl ?_
          show xw J ov 100 196 (396, [(4, .int 0), (3, .ref 167), (2, .ref 115), (1, .ref 0), (0, .ref 1000000)], [.int 10, .int 10], hh1) _
          refine xi_cmt (pc' := 1528) kc_196_396 rfl rfl ?_
          refine xi_iinc (pc' := 1531) (x := 0) (v := 6) (lv' := [(4, .int 6), (3, .ref 167), (2, .ref 115), (1, .ref 0), (0, .ref 1000000)]) kc_196_1528 rfl rfl rfl rfl (xm_lt ml_196 rfl) ?_
          refine xi_goto (pc' := 23) kc_196_1531 rfl ?_
          refine xi_iload (pc' := 25) (x := 6) kc_196_23 rfl rfl ?_
          refine xi_aload_n (pc' := 26) (x := 1000000) kc_196_25 rfl rfl ?_
          refine xi_arraylength (pc' := 27) (n := 6) (v := 6) kc_196_26 rfl (xl_lenO (by decide) hov0 rfl) rfl ?_
          refine xi_bipush (pc' := 29) (v := 6) kc_196_27 rfl rfl ?_
          refine xi_isub (pc' := 30) (v := 0) kc_196_29 rfl rfl ?_
          refine xi_cmt (pc' := 1534) kc_196_30 rfl rfl ?_
          refine xi_iconst (pc' := 1535) (v := 1) kc_196_1534 rfl rfl ?_
          refine xi_ireturn kc_196_1535 mr_196 rfl ?_
          refine ⟨rfl, ?_, ?_⟩
          · rw [eh1.2.2.1]; exact hn0
          · rw [eh1.2.2.2]; exact hz0
        by_cases c32 : a1.toInt = 9
        · have qa1 : a1 = 9 := xc_of (Eq.trans (by omega) (show (9 : Int) = (9 : Int32).toInt by decide))
          subst qa1
          refine xi_idiv (pc' := 8) (v := 4) kc_103_7 rfl rfl (by decide) ?_
          refine xi_iadd (pc' := 9) (v := 9) kc_103_8 rfl rfl ?_
          refine xi_iload_n (pc' := 10) (x := 9) kc_103_9 rfl rfl ?_
          refine xi_iload_n (pc' := 11) (x := 9) kc_103_10 rfl rfl ?_
          refine xi_imul (pc' := 12) (v := 81) kc_103_11 rfl rfl ?_
          refine xi_bipush (pc' := 14) (v := 40) kc_103_12 rfl rfl ?_
          refine xi_idiv (pc' := 15) (v := 2) kc_103_14 rfl rfl (by decide) ?_
          refine xi_iadd (pc' := 16) (v := 11) kc_103_15 rfl rfl ?_
          refine xi_ireturn kc_103_16 mr_103 rfl ?_
          show xw J ov 99 102 (30, [(0, .ref 0), (1, .int 9)], [.int 11], h0) _
          refine xi_ireturn kc_102_30 mr_102 rfl ?_
          show xw J ov 100 196 (386, [(4, .int 0), (3, .ref 167), (2, .ref 115), (1, .ref 0), (0, .ref 1000000)], [.int 11], h0) _
          refine xi_aload_n (pc' := 387) (x := 115) kc_196_386 rfl rfl ?_
          refine xi_aload_n (pc' := 388) (x := 1000000) kc_196_387 rfl rfl ?_
          refine xi_iload (pc' := 390) (x := 0) kc_196_388 rfl rfl ?_
          refine xi_iconst (pc' := 391) (v := 1) kc_196_390 rfl rfl ?_
          refine xi_iadd (pc' := 392) (v := 1) kc_196_391 rfl rfl ?_
          refine xi_ialoadO (pc' := 393) (v := 9) kc_196_392 rfl (by decide) hov0 (xi_in (n := 6) (by decide) (by decide)) rfl ?_
          refine xi_virtual (mj := 22) (as := [.int 9]) (st1 := [.int 11]) (lv0 := [(0, .ref 115), (1, .int 9)]) kc_196_393 rfl rfl rfl rfl rfl (F 115 _ hl_115) (Nat.le_of_ble_eq_true rfl) (hJ _ _ _ _ (by decide)) (xm_le ml_22 rfl) rfl ?_
          refine xi_aload_n (pc' := 1) (x := 115) kc_22_0 rfl rfl ?_
          refine xi_iconst (pc' := 2) (v := 0) kc_22_1 rfl rfl ?_
          refine xi_putfield (pc' := 5) (fs' := [.int 0, .int 0, .ref 116, .ref 117, .ref 118, .ref 119, .ref 120, .ref 121, .ref 122, .ref 123, .ref 124, .ref 125, .ref 126, .ref 127, .ref 128, .ref 129, .int 4, .ref 130, .int 0, .ref 131, .ref 132, .ref 133, .ref 134, .int 0, .ref 135, .ref 136, .ref 137, .ref 138, .ref 139, .ref 140, .ref 141, .ref 142, .int 0, .int 0, .int 0, .ref 143, .ref 144, .ref 145, .ref 146, .ref 147, .ref 148, .int 0, .ref 149, .ref 150, .ref 151, .int 0, .ref 152, .ref 153, .ref 154, .ref 155, .ref 156, .ref 157, .ref 158, .ref 159, .int 0, .ref 160, .int 0, .ref 161, .ref 162, .ref 163, .ref 164, .int 0, .ref 165, .ref 166]) kc_22_2 rfl rfl rfl (F 115 _ hl_115) rfl rfl rfl (Nat.le_of_ble_eq_true rfl) rfl (fun hh1 eh1 => ?_)
          refine xi_iload_n (pc' := 6) (x := 9) kc_22_5 rfl rfl ?_
          refine xi_bipush (pc' := 8) (v := (-20)) kc_22_6 rfl rfl ?_
          refine xi_cmt (pc' := 20) kc_22_8 rfl rfl ?_
          refine xi_iload_n (pc' := 21) (x := 9) kc_22_20 rfl rfl ?_
          refine xi_bipush (pc' := 23) (v := 30) kc_22_21 rfl rfl ?_
          refine xi_cmt (pc' := 35) kc_22_23 rfl rfl ?_
          refine xi_iload_n (pc' := 36) (x := 9) kc_22_35 rfl rfl ?_
          refine xi_static (mj := 23) (as := [.int 9]) (st1 := []) (lv0 := [(0, .int 9)]) kc_22_36 rfl rfl (Nat.le_of_ble_eq_true rfl) rfl rfl (Nat.le_of_ble_eq_true rfl) (hJ _ _ _ _ (by decide)) (xm_le ml_23 rfl) rfl ?_
          refine xi_iload_n (pc' := 1) (x := 9) kc_23_0 rfl rfl ?_
          refine xi_iff (pc' := 4) kc_23_1 rfl rfl ?_
          refine xi_iconst (pc' := 5) (v := 5) kc_23_4 rfl rfl ?_
          refine xi_iload_n (pc' := 6) (x := 9) kc_23_5 rfl rfl ?_
          refine xi_iconst (pc' := 7) (v := 2) kc_23_6 rfl rfl ?_
          refine xi_idiv (pc' := 8) (v := 4) kc_23_7 rfl rfl (by decide) ?_
          refine xi_iadd (pc' := 9) (v := 9) kc_23_8 rfl rfl ?_
          refine xi_iload_n (pc' := 10) (x := 9) kc_23_9 rfl rfl ?_
          refine xi_iload_n (pc' := 11) (x := 9) kc_23_10 rfl rfl ?_
          refine xi_imul (pc' := 12) (v := 81) kc_23_11 rfl rfl ?_
          refine xi_bipush (pc' := 14) (v := 40) kc_23_12 rfl rfl ?_
          refine xi_idiv (pc' := 15) (v := 2) kc_23_14 rfl rfl (by decide) ?_
          refine xi_iadd (pc' := 16) (v := 11) kc_23_15 rfl rfl ?_
          refine xi_ireturn kc_23_16 mr_23 rfl ?_
          show xw J ov 99 22 (39, [(0, .ref 115), (1, .int 9)], [.int 11], hh1) _
          refine xi_ireturn kc_22_39 mr_22 rfl ?_
          show xw J ov 100 196 (396, [(4, .int 0), (3, .ref 167), (2, .ref 115), (1, .ref 0), (0, .ref 1000000)], [.int 11, .int 11], hh1) _
          refine xi_cmt (pc' := 1528) kc_196_396 rfl rfl ?_
          refine xi_iinc (pc' := 1531) (x := 0) (v := 6) (lv' := [(4, .int 6), (3, .ref 167), (2, .ref 115), (1, .ref 0), (0, .ref 1000000)]) kc_196_1528 rfl rfl rfl rfl (xm_lt ml_196 rfl) ?_
          refine xi_goto (pc' := 23) kc_196_1531 rfl ?_
          refine xi_iload (pc' := 25) (x := 6) kc_196_23 rfl rfl ?_
          refine xi_aload_n (pc' := 26) (x := 1000000) kc_196_25 rfl rfl ?_
          refine xi_arraylength (pc' := 27) (n := 6) (v := 6) kc_196_26 rfl (xl_lenO (by decide) hov0 rfl) rfl ?_
          refine xi_bipush (pc' := 29) (v := 6) kc_196_27 rfl rfl ?_
          refine xi_isub (pc' := 30) (v := 0) kc_196_29 rfl rfl ?_
          refine xi_cmt (pc' := 1534) kc_196_30 rfl rfl ?_
          refine xi_iconst (pc' := 1535) (v := 1) kc_196_1534 rfl rfl ?_
          refine xi_ireturn kc_196_1535 mr_196 rfl ?_
          refine ⟨rfl, ?_, ?_⟩
          · rw [eh1.2.2.1]; exact hn0
          · rw [eh1.2.2.2]; exact hz0
        by_cases c33 : a1.toInt = 10
        · have qa1 : a1 = 10 := xc_of (Eq.trans (by omega) (show (10 : Int) = (10 : Int32).toInt by decide))
          subst qa1
          refine xi_idiv (pc' := 8) (v := 5) kc_103_7 rfl rfl (by decide) ?_
          refine xi_iadd (pc' := 9) (v := 10) kc_103_8 rfl rfl ?_
          refine xi_iload_n (pc' := 10) (x := 10) kc_103_9 rfl rfl ?_
          refine xi_iload_n (pc' := 11) (x := 10) kc_103_10 rfl rfl ?_
          refine xi_imul (pc' := 12) (v := 100) kc_103_11 rfl rfl ?_
          refine xi_bipush (pc' := 14) (v := 40) kc_103_12 rfl rfl ?_
          refine xi_idiv (pc' := 15) (v := 2) kc_103_14 rfl rfl (by decide) ?_
          refine xi_iadd (pc' := 16) (v := 12) kc_103_15 rfl rfl ?_
          refine xi_ireturn kc_103_16 mr_103 rfl ?_
          show xw J ov 99 102 (30, [(0, .ref 0), (1, .int 10)], [.int 12], h0) _
          refine xi_ireturn kc_102_30 mr_102 rfl ?_
          show xw J ov 100 196 (386, [(4, .int 0), (3, .ref 167), (2, .ref 115), (1, .ref 0), (0, .ref 1000000)], [.int 12], h0) _
          refine xi_aload_n (pc' := 387) (x := 115) kc_196_386 rfl rfl ?_
          refine xi_aload_n (pc' := 388) (x := 1000000) kc_196_387 rfl rfl ?_
          refine xi_iload (pc' := 390) (x := 0) kc_196_388 rfl rfl ?_
          refine xi_iconst (pc' := 391) (v := 1) kc_196_390 rfl rfl ?_
          refine xi_iadd (pc' := 392) (v := 1) kc_196_391 rfl rfl ?_
          refine xi_ialoadO (pc' := 393) (v := 10) kc_196_392 rfl (by decide) hov0 (xi_in (n := 6) (by decide) (by decide)) rfl ?_
          refine xi_virtual (mj := 22) (as := [.int 10]) (st1 := [.int 12]) (lv0 := [(0, .ref 115), (1, .int 10)]) kc_196_393 rfl rfl rfl rfl rfl (F 115 _ hl_115) (Nat.le_of_ble_eq_true rfl) (hJ _ _ _ _ (by decide)) (xm_le ml_22 rfl) rfl ?_
          refine xi_aload_n (pc' := 1) (x := 115) kc_22_0 rfl rfl ?_
          refine xi_iconst (pc' := 2) (v := 0) kc_22_1 rfl rfl ?_
          refine xi_putfield (pc' := 5) (fs' := [.int 0, .int 0, .ref 116, .ref 117, .ref 118, .ref 119, .ref 120, .ref 121, .ref 122, .ref 123, .ref 124, .ref 125, .ref 126, .ref 127, .ref 128, .ref 129, .int 4, .ref 130, .int 0, .ref 131, .ref 132, .ref 133, .ref 134, .int 0, .ref 135, .ref 136, .ref 137, .ref 138, .ref 139, .ref 140, .ref 141, .ref 142, .int 0, .int 0, .int 0, .ref 143, .ref 144, .ref 145, .ref 146, .ref 147, .ref 148, .int 0, .ref 149, .ref 150, .ref 151, .int 0, .ref 152, .ref 153, .ref 154, .ref 155, .ref 156, .ref 157, .ref 158, .ref 159, .int 0, .ref 160, .int 0, .ref 161, .ref 162, .ref 163, .ref 164, .int 0, .ref 165, .ref 166]) kc_22_2 rfl rfl rfl (F 115 _ hl_115) rfl rfl rfl (Nat.le_of_ble_eq_true rfl) rfl (fun hh1 eh1 => ?_)
          refine xi_iload_n (pc' := 6) (x := 10) kc_22_5 rfl rfl ?_
          refine xi_bipush (pc' := 8) (v := (-20)) kc_22_6 rfl rfl ?_
          refine xi_cmt (pc' := 20) kc_22_8 rfl rfl ?_
          refine xi_iload_n (pc' := 21) (x := 10) kc_22_20 rfl rfl ?_
          refine xi_bipush (pc' := 23) (v := 30) kc_22_21 rfl rfl ?_
          refine xi_cmt (pc' := 35) kc_22_23 rfl rfl ?_
          refine xi_iload_n (pc' := 36) (x := 10) kc_22_35 rfl rfl ?_
          refine xi_static (mj := 23) (as := [.int 10]) (st1 := []) (lv0 := [(0, .int 10)]) kc_22_36 rfl rfl (Nat.le_of_ble_eq_true rfl) rfl rfl (Nat.le_of_ble_eq_true rfl) (hJ _ _ _ _ (by decide)) (xm_le ml_23 rfl) rfl ?_
          refine xi_iload_n (pc' := 1) (x := 10) kc_23_0 rfl rfl ?_
          refine xi_iff (pc' := 4) kc_23_1 rfl rfl ?_
          refine xi_iconst (pc' := 5) (v := 5) kc_23_4 rfl rfl ?_
          refine xi_iload_n (pc' := 6) (x := 10) kc_23_5 rfl rfl ?_
          refine xi_iconst (pc' := 7) (v := 2) kc_23_6 rfl rfl ?_
          refine xi_idiv (pc' := 8) (v := 5) kc_23_7 rfl rfl (by decide) ?_
          refine xi_iadd (pc' := 9) (v := 10) kc_23_8 rfl rfl ?_
          refine xi_iload_n (pc' := 10) (x := 10) kc_23_9 rfl rfl ?_
          refine xi_iload_n (pc' := 11) (x := 10) kc_23_10 rfl rfl ?_
          refine xi_imul (pc' := 12) (v := 100) kc_23_11 rfl rfl ?_
          refine xi_bipush (pc' := 14) (v := 40) kc_23_12 rfl rfl ?_
          refine xi_idiv (pc' := 15) (v := 2) kc_23_14 rfl rfl (by decide) ?_
          refine xi_iadd (pc' := 16) (v := 12) kc_23_15 rfl rfl ?_
          refine xi_ireturn kc_23_16 mr_23 rfl ?_
          show xw J ov 99 22 (39, [(0, .ref 115), (1, .int 10)], [.int 12], hh1) _
          refine xi_ireturn kc_22_39 mr_22 rfl ?_
          show xw J ov 100 196 (396, [(4, .int 0), (3, .ref 167), (2, .ref 115), (1, .ref 0), (0, .ref 1000000)], [.int 12, .int 12], hh1) _
          refine xi_cmt (pc' := 1528) kc_196_396 rfl rfl ?_
          refine xi_iinc (pc' := 1531) (x := 0) (v := 6) (lv' := [(4, .int 6), (3, .ref 167), (2, .ref 115), (1, .ref 0), (0, .ref 1000000)]) kc_196_1528 rfl rfl rfl rfl (xm_lt ml_196 rfl) ?_
          refine xi_goto (pc' := 23) kc_196_1531 rfl ?_
          refine xi_iload (pc' := 25) (x := 6) kc_196_23 rfl rfl ?_
          refine xi_aload_n (pc' := 26) (x := 1000000) kc_196_25 rfl rfl ?_
          refine xi_arraylength (pc' := 27) (n := 6) (v := 6) kc_196_26 rfl (xl_lenO (by decide) hov0 rfl) rfl ?_
          refine xi_bipush (pc' := 29) (v := 6) kc_196_27 rfl rfl ?_
          refine xi_isub (pc' := 30) (v := 0) kc_196_29 rfl rfl ?_
          refine xi_cmt (pc' := 1534) kc_196_30 rfl rfl ?_
          refine xi_iconst (pc' := 1535) (v := 1) kc_196_1534 rfl rfl ?_
          refine xi_ireturn kc_196_1535 mr_196 rfl ?_
          refine ⟨rfl, ?_, ?_⟩
          · rw [eh1.2.2.1]; exact hn0
          · rw [eh1.2.2.2]; exact hz0
        by_cases c34 : a1.toInt = 11
        · have qa1 : a1 = 11 := xc_of (Eq.trans (by omega) (show (11 : Int) = (11 : Int32).toInt by decide))
          subst qa1
          refine xi_idiv (pc' := 8) (v := 5) kc_103_7 rfl rfl (by decide) ?_
          refine xi_iadd (pc' := 9) (v := 10) kc_103_8 rfl rfl ?_
          refine xi_iload_n (pc' := 10) (x := 11) kc_103_9 rfl rfl ?_
          refine xi_iload_n (pc' := 11) (x := 11) kc_103_10 rfl rfl ?_
          refine xi_imul (pc' := 12) (v := 121) kc_103_11 rfl rfl ?_
          refine xi_bipush (pc' := 14) (v := 40) kc_103_12 rfl rfl ?_
          refine xi_idiv (pc' := 15) (v := 3) kc_103_14 rfl rfl (by decide) ?_
          refine xi_iadd (pc' := 16) (v := 13) kc_103_15 rfl rfl ?_
          refine xi_ireturn kc_103_16 mr_103 rfl ?_
          show xw J ov 99 102 (30, [(0, .ref 0), (1, .int 11)], [.int 13], h0) _
          refine xi_ireturn kc_102_30 mr_102 rfl ?_
          show xw J ov 100 196 (386, [(4, .int 0), (3, .ref 167), (2, .ref 115), (1, .ref 0), (0, .ref 1000000)], [.int 13], h0) _
          refine xi_aload_n (pc' := 387) (x := 115) kc_196_386 rfl rfl ?_
          refine xi_aload_n (pc' := 388) (x := 1000000) kc_196_387 rfl rfl ?_
          refine xi_iload (pc' := 390) (x := 0) kc_196_388 rfl rfl ?_
          refine xi_iconst (pc' := 391) (v := 1) kc_196_390 rfl rfl ?_
          refine xi_iadd (pc' := 392) (v := 1) kc_196_391 rfl rfl ?_
          refine xi_ialoadO (pc' := 393) (v := 11) kc_196_392 rfl (by decide) hov0 (xi_in (n := 6) (by decide) (by decide)) rfl ?_
          refine xi_virtual (mj := 22) (as := [.int 11]) (st1 := [.int 13]) (lv0 := [(0, .ref 115), (1, .int 11)]) kc_196_393 rfl rfl rfl rfl rfl (F 115 _ hl_115) (Nat.le_of_ble_eq_true rfl) (hJ _ _ _ _ (by decide)) (xm_le ml_22 rfl) rfl ?_
          refine xi_aload_n (pc' := 1) (x := 115) kc_22_0 rfl rfl ?_
          refine xi_iconst (pc' := 2) (v := 0) kc_22_1 rfl rfl ?_
          refine xi_putfield (pc' := 5) (fs' := [.int 0, .int 0, .ref 116, .ref 117, .ref 118, .ref 119, .ref 120, .ref 121, .ref 122, .ref 123, .ref 124, .ref 125, .ref 126, .ref 127, .ref 128, .ref 129, .int 4, .ref 130, .int 0, .ref 131, .ref 132, .ref 133, .ref 134, .int 0, .ref 135, .ref 136, .ref 137, .ref 138, .ref 139, .ref 140, .ref 141, .ref 142, .int 0, .int 0, .int 0, .ref 143, .ref 144, .ref 145, .ref 146, .ref 147, .ref 148, .int 0, .ref 149, .ref 150, .ref 151, .int 0, .ref 152, .ref 153, .ref 154, .ref 155, .ref 156, .ref 157, .ref 158, .ref 159, .int 0, .ref 160, .int 0, .ref 161, .ref 162, .ref 163, .ref 164, .int 0, .ref 165, .ref 166]) kc_22_2 rfl rfl rfl (F 115 _ hl_115) rfl rfl rfl (Nat.le_of_ble_eq_true rfl) rfl (fun hh1 eh1 => ?_)
          refine xi_iload_n (pc' := 6) (x := 11) kc_22_5 rfl rfl ?_
          refine xi_bipush (pc' := 8) (v := (-20)) kc_22_6 rfl rfl ?_
          refine xi_cmt (pc' := 20) kc_22_8 rfl rfl ?_
          refine xi_iload_n (pc' := 21) (x := 11) kc_22_20 rfl rfl ?_
          refine xi_bipush (pc' := 23) (v := 30) kc_22_21 rfl rfl ?_
          refine xi_cmt (pc' := 35) kc_22_23 rfl rfl ?_
          refine xi_iload_n (pc' := 36) (x := 11) kc_22_35 rfl rfl ?_
          refine xi_static (mj := 23) (as := [.int 11]) (st1 := []) (lv0 := [(0, .int 11)]) kc_22_36 rfl rfl (Nat.le_of_ble_eq_true rfl) rfl rfl (Nat.le_of_ble_eq_true rfl) (hJ _ _ _ _ (by decide)) (xm_le ml_23 rfl) rfl ?_
          refine xi_iload_n (pc' := 1) (x := 11) kc_23_0 rfl rfl ?_
          refine xi_iff (pc' := 4) kc_23_1 rfl rfl ?_
          refine xi_iconst (pc' := 5) (v := 5) kc_23_4 rfl rfl ?_
          refine xi_iload_n (pc' := 6) (x := 11) kc_23_5 rfl rfl ?_
          refine xi_iconst (pc' := 7) (v := 2) kc_23_6 rfl rfl ?_
          refine xi_idiv (pc' := 8) (v := 5) kc_23_7 rfl rfl (by decide) ?_
          refine xi_iadd (pc' := 9) (v := 10) kc_23_8 rfl rfl ?_
          refine xi_iload_n (pc' := 10) (x := 11) kc_23_9 rfl rfl ?_
          refine xi_iload_n (pc' := 11) (x := 11) kc_23_10 rfl rfl ?_
          refine xi_imul (pc' := 12) (v := 121) kc_23_11 rfl rfl ?_
          refine xi_bipush (pc' := 14) (v := 40) kc_23_12 rfl rfl ?_
          refine xi_idiv (pc' := 15) (v := 3) kc_23_14 rfl rfl (by decide) ?_
          refine xi_iadd (pc' := 16) (v := 13) kc_23_15 rfl rfl ?_
          refine xi_ireturn kc_23_16 mr_23 rfl ?_
          show xw J ov 99 22 (39, [(0, .ref 115), (1, .int 11)], [.int 13], hh1) _
          refine xi_ireturn kc_22_39 mr_22 rfl ?_
          show xw J ov 100 196 (396, [(4, .int 0), (3, .ref 167), (2, .ref 115), (1, .ref 0), (0, .ref 1000000)], [.int 13, .int 13], hh1) _
          refine xi_cmt (pc' := 1528) kc_196_396 rfl rfl ?_
          refine xi_iinc (pc' := 1531) (x := 0) (v := 6) (lv' := [(4, .int 6), (3, .ref 167), (2, .ref 115), (1, .ref 0), (0, .ref 1000000)]) kc_196_1528 rfl rfl rfl rfl (xm_lt ml_196 rfl) ?_
          refine xi_goto (pc' := 23) kc_196_1531 rfl ?_
          refine xi_iload (pc' := 25) (x := 6) kc_196_23 rfl rfl ?_
          refine xi_aload_n (pc' := 26) (x := 1000000) kc_196_25 rfl rfl ?_
          refine xi_arraylength (pc' := 27) (n := 6) (v := 6) kc_196_26 rfl (xl_lenO (by decide) hov0 rfl) rfl ?_
          refine xi_bipush (pc' := 29) (v := 6) kc_196_27 rfl rfl ?_
          refine xi_isub (pc' := 30) (v := 0) kc_196_29 rfl rfl ?_
          refine xi_cmt (pc' := 1534) kc_196_30 rfl rfl ?_
          refine xi_iconst (pc' := 1535) (v := 1) kc_196_1534 rfl rfl ?_
          refine xi_ireturn kc_196_1535 mr_196 rfl ?_
          refine ⟨rfl, ?_, ?_⟩
          · rw [eh1.2.2.1]; exact hn0
          · rw [eh1.2.2.2]; exact hz0
        by_cases c35 : a1.toInt = 12
        · have qa1 : a1 = 12 := xc_of (Eq.trans (by omega) (show (12 : Int) = (12 : Int32).toInt by decide))
          subst qa1
          refine xi_idiv (pc' := 8) (v := 6) kc_103_7 rfl rfl (by decide) ?_
          refine xi_iadd (pc' := 9) (v := 11) kc_103_8 rfl rfl ?_
          refine xi_iload_n (pc' := 10) (x := 12) kc_103_9 rfl rfl ?_
          refine xi_iload_n (pc' := 11) (x := 12) kc_103_10 rfl rfl ?_
          refine xi_imul (pc' := 12) (v := 144) kc_103_11 rfl rfl ?_
          refine xi_bipush (pc' := 14) (v := 40) kc_103_12 rfl rfl ?_
          refine xi_idiv (pc' := 15) (v := 3) kc_103_14 rfl rfl (by decide) ?_
          refine xi_iadd (pc' := 16) (v := 14) kc_103_15 rfl rfl ?_
          refine xi_ireturn kc_103_16 mr_103 rfl ?_
          show xw J ov 99 102 (30, [(0, .ref 0), (1, .int 12)], [.int 14], h0) _
          refine xi_ireturn kc_102_30 mr_102 rfl ?_
          show xw J ov 100 196 (386, [(4, .int 0), (3, .ref 167), (2, .ref 115), (1, .ref 0), (0, .ref 1000000)], [.int 14], h0) _
          refine xi_aload_n (pc' := 387) (x := 115) kc_196_386 rfl rfl ?_
          refine xi_aload_n (pc' := 388) (x := 1000000) kc_196_387 rfl rfl ?_
          refine xi_iload (pc' := 390) (x := 0) kc_196_388 rfl rfl ?_
          refine xi_iconst (pc' := 391) (v := 1) kc_196_390 rfl rfl ?_
          refine xi_iadd (pc' := 392) (v := 1) kc_196_391 rfl rfl ?_
          refine xi_ialoadO (pc' := 393) (v := 12) kc_196_392 rfl (by decide) hov0 (xi_in (n := 6) (by decide) (by decide)) rfl ?_
          refine xi_virtual (mj := 22) (as := [.int 12]) (st1 := [.int 14]) (lv0 := [(0, .ref 115), (1, .int 12)]) kc_196_393 rfl rfl rfl rfl rfl (F 115 _ hl_115) (Nat.le_of_ble_eq_true rfl) (hJ _ _ _ _ (by decide)) (xm_le ml_22 rfl) rfl ?_
          refine xi_aload_n (pc' := 1) (x := 115) kc_22_0 rfl rfl ?_
          refine xi_iconst (pc' := 2) (v := 0) kc_22_1 rfl rfl ?_
          refine xi_putfield (pc' := 5) (fs' := [.int 0, .int 0, .ref 116, .ref 117, .ref 118, .ref 119, .ref 120, .ref 121, .ref 122, .ref 123, .ref 124, .ref 125, .ref 126, .ref 127, .ref 128, .ref 129, .int 4, .ref 130, .int 0, .ref 131, .ref 132, .ref 133, .ref 134, .int 0, .ref 135, .ref 136, .ref 137, .ref 138, .ref 139, .ref 140, .ref 141, .ref 142, .int 0, .int 0, .int 0, .ref 143, .ref 144, .ref 145, .ref 146, .ref 147, .ref 148, .int 0, .ref 149, .ref 150, .ref 151, .int 0, .ref 152, .ref 153, .ref 154, .ref 155, .ref 156, .ref 157, .ref 158, .ref 159, .int 0, .ref 160, .int 0, .ref 161, .ref 162, .ref 163, .ref 164, .int 0, .ref 165, .ref 166]) kc_22_2 rfl rfl rfl (F 115 _ hl_115) rfl rfl rfl (Nat.le_of_ble_eq_true rfl) rfl (fun hh1 eh1 => ?_)
          refine xi_iload_n (pc' := 6) (x := 12) kc_22_5 rfl rfl ?_
          refine xi_bipush (pc' := 8) (v := (-20)) kc_22_6 rfl rfl ?_
          refine xi_cmt (pc' := 20) kc_22_8 rfl rfl ?_
          refine xi_iload_n (pc' := 21) (x := 12) kc_22_20 rfl rfl ?_
          refine xi_bipush (pc' := 23) (v := 30) kc_22_21 rfl rfl ?_
          refine xi_cmt (pc' := 35) kc_22_23 rfl rfl ?_
          refine xi_iload_n (pc' := 36) (x := 12) kc_22_35 rfl rfl ?_
          refine xi_static (mj := 23) (as := [.int 12]) (st1 := []) (lv0 := [(0, .int 12)]) kc_22_36 rfl rfl (Nat.le_of_ble_eq_true rfl) rfl rfl (Nat.le_of_ble_eq_true rfl) (hJ _ _ _ _ (by decide)) (xm_le ml_23 rfl) rfl ?_
          refine xi_iload_n (pc' := 1) (x := 12) kc_23_0 rfl rfl ?_
          refine xi_iff (pc' := 4) kc_23_1 rfl rfl ?_
          refine xi_iconst (pc' := 5) (v := 5) kc_23_4 rfl rfl ?_
          refine xi_iload_n (pc' := 6) (x := 12) kc_23_5 rfl rfl ?_
          refine xi_iconst (pc' := 7) (v := 2) kc_23_6 rfl rfl ?_
          refine xi_idiv (pc' := 8) (v := 6) kc_23_7 rfl rfl (by decide) ?_
          refine xi_iadd (pc' := 9) (v := 11) kc_23_8 rfl rfl ?_
          refine xi_iload_n (pc' := 10) (x := 12) kc_23_9 rfl rfl ?_
          refine xi_iload_n (pc' := 11) (x := 12) kc_23_10 rfl rfl ?_
          refine xi_imul (pc' := 12) (v := 144) kc_23_11 rfl rfl ?_
          refine xi_bipush (pc' := 14) (v := 40) kc_23_12 rfl rfl ?_
          refine xi_idiv (pc' := 15) (v := 3) kc_23_14 rfl rfl (by decide) ?_
          refine xi_iadd (pc' := 16) (v := 14) kc_23_15 rfl rfl ?_
          refine xi_ireturn kc_23_16 mr_23 rfl ?_
          show xw J ov 99 22 (39, [(0, .ref 115), (1, .int 12)], [.int 14], hh1) _
          refine xi_ireturn kc_22_39 mr_22 rfl ?_
          show xw J ov 100 196 (396, [(4, .int 0), (3, .ref 167), (2, .ref 115), (1, .ref 0), (0, .ref 1000000)], [.int 14, .int 14], hh1) _
          refine xi_cmt (pc' := 1528) kc_196_396 rfl rfl ?_
          refine xi_iinc (pc' := 1531) (x := 0) (v := 6) (lv' := [(4, .int 6), (3, .ref 167), (2, .ref 115), (1, .ref 0), (0, .ref 1000000)]) kc_196_1528 rfl rfl rfl rfl (xm_lt ml_196 rfl) ?_
          refine xi_goto (pc' := 23) kc_196_1531 rfl ?_
          refine xi_iload (pc' := 25) (x := 6) kc_196_23 rfl rfl ?_
          refine xi_aload_n (pc' := 26) (x := 1000000) kc_196_25 rfl rfl ?_
          refine xi_arraylength (pc' := 27) (n := 6) (v := 6) kc_196_26 rfl (xl_lenO (by decide) hov0 rfl) rfl ?_
          refine xi_bipush (pc' := 29) (v := 6) kc_196_27 rfl rfl ?_
          refine xi_isub (pc' := 30) (v := 0) kc_196_29 rfl rfl ?_
          refine xi_cmt (pc' := 1534) kc_196_30 rfl rfl ?_
          refine xi_iconst (pc' := 1535) (v := 1) kc_196_1534 rfl rfl ?_
          refine xi_ireturn kc_196_1535 mr_196 rfl ?_
          refine ⟨rfl, ?_, ?_⟩
          · rw [eh1.2.2.1]; exact hn0
          · rw [eh1.2.2.2]; exact hz0
        by_cases c36 : a1.toInt = 13
        · have qa1 : a1 = 13 := xc_of (Eq.trans (by omega) (show (13 : Int) = (13 : Int32).toInt by decide))
          subst qa1
          refine xi_idiv (pc' := 8) (v := 6) kc_103_7 rfl rfl (by decide) ?_
          refine xi_iadd (pc' := 9) (v := 11) kc_103_8 rfl rfl ?_
          refine xi_iload_n (pc' := 10) (x := 13) kc_103_9 rfl rfl ?_
          refine xi_iload_n (pc' := 11) (x := 13) kc_103_10 rfl rfl ?_
          refine xi_imul (pc' := 12) (v := 169) kc_103_11 rfl rfl ?_
          refine xi_bipush (pc' := 14) (v := 40) kc_103_12 rfl rfl ?_
          refine xi_idiv (pc' := 15) (v := 4) kc_103_14 rfl rfl (by decide) ?_
          refine xi_iadd (pc' := 16) (v := 15) kc_103_15 rfl rfl ?_
          refine xi_ireturn kc_103_16 mr_103 rfl ?_
          show xw J ov 99 102 (30, [(0, .ref 0), (1, .int 13)], [.int 15], h0) _
          refine xi_ireturn kc_102_30 mr_102 rfl ?_
          show xw J ov 100 196 (386, [(4, .int 0), (3, .ref 167), (2, .ref 115), (1, .ref 0), (0, .ref 1000000)], [.int 15], h0) _
          refine xi_aload_n (pc' := 387) (x := 115) kc_196_386 rfl rfl ?_
          refine xi_aload_n (pc' := 388) (x := 1000000) kc_196_387 rfl rfl ?_
          refine xi_iload (pc' := 390) (x := 0) kc_196_388 rfl rfl ?_
          refine xi_iconst (pc' := 391) (v := 1) kc_196_390 rfl rfl ?_
          refine xi_iadd (pc' := 392) (v := 1) kc_196_391 rfl rfl ?_
          refine xi_ialoadO (pc' := 393) (v := 13) kc_196_392 rfl (by decide) hov0 (xi_in (n := 6) (by decide) (by decide)) rfl ?_
          refine xi_virtual (mj := 22) (as := [.int 13]) (st1 := [.int 15]) (lv0 := [(0, .ref 115), (1, .int 13)]) kc_196_393 rfl rfl rfl rfl rfl (F 115 _ hl_115) (Nat.le_of_ble_eq_true rfl) (hJ _ _ _ _ (by decide)) (xm_le ml_22 rfl) rfl ?_
          refine xi_aload_n (pc' := 1) (x := 115) kc_22_0 rfl rfl ?_
          refine xi_iconst (pc' := 2) (v := 0) kc_22_1 rfl rfl ?_
          refine xi_putfield (pc' := 5) (fs' := [.int 0, .int 0, .ref 116, .ref 117, .ref 118, .ref 119, .ref 120, .ref 121, .ref 122, .ref 123, .ref 124, .ref 125, .ref 126, .ref 127, .ref 128, .ref 129, .int 4, .ref 130, .int 0, .ref 131, .ref 132, .ref 133, .ref 134, .int 0, .ref 135, .ref 136, .ref 137, .ref 138, .ref 139, .ref 140, .ref 141, .ref 142, .int 0, .int 0, .int 0, .ref 143, .ref 144, .ref 145, .ref 146, .ref 147, .ref 148, .int 0, .ref 149, .ref 150, .ref 151, .int 0, .ref 152, .ref 153, .ref 154, .ref 155, .ref 156, .ref 157, .ref 158, .ref 159, .int 0, .ref 160, .int 0, .ref 161, .ref 162, .ref 163, .ref 164, .int 0, .ref 165, .ref 166]) kc_22_2 rfl rfl rfl (F 115 _ hl_115) rfl rfl rfl (Nat.le_of_ble_eq_true rfl) rfl (fun hh1 eh1 => ?_)
          refine xi_iload_n (pc' := 6) (x := 13) kc_22_5 rfl rfl ?_
          refine xi_bipush (pc' := 8) (v := (-20)) kc_22_6 rfl rfl ?_
          refine xi_cmt (pc' := 20) kc_22_8 rfl rfl ?_
          refine xi_iload_n (pc' := 21) (x := 13) kc_22_20 rfl rfl ?_
          refine xi_bipush (pc' := 23) (v := 30) kc_22_21 rfl rfl ?_
          refine xi_cmt (pc' := 35) kc_22_23 rfl rfl ?_
          refine xi_iload_n (pc' := 36) (x := 13) kc_22_35 rfl rfl ?_
          refine xi_static (mj := 23) (as := [.int 13]) (st1 := []) (lv0 := [(0, .int 13)]) kc_22_36 rfl rfl (Nat.le_of_ble_eq_true rfl) rfl rfl (Nat.le_of_ble_eq_true rfl) (hJ _ _ _ _ (by decide)) (xm_le ml_23 rfl) rfl ?_
          refine xi_iload_n (pc' := 1) (x := 13) kc_23_0 rfl rfl ?_
          refine xi_iff (pc' := 4) kc_23_1 rfl rfl ?_
          refine xi_iconst (pc' := 5) (v := 5) kc_23_4 rfl rfl ?_
          refine xi_iload_n (pc' := 6) (x := 13) kc_23_5 rfl rfl ?_
          refine xi_iconst (pc' := 7) (v := 2) kc_23_6 rfl rfl ?_
          refine xi_idiv (pc' := 8) (v := 6) kc_23_7 rfl rfl (by decide) ?_
          refine xi_iadd (pc' := 9) (v := 11) kc_23_8 rfl rfl ?_
          refine xi_iload_n (pc' := 10) (x := 13) kc_23_9 rfl rfl ?_
          refine xi_iload_n (pc' := 11) (x := 13) kc_23_10 rfl rfl ?_
          refine xi_imul (pc' := 12) (v := 169) kc_23_11 rfl rfl ?_
          refine xi_bipush (pc' := 14) (v := 40) kc_23_12 rfl rfl ?_
          refine xi_idiv (pc' := 15) (v := 4) kc_23_14 rfl rfl (by decide) ?_
          refine xi_iadd (pc' := 16) (v := 15) kc_23_15 rfl rfl ?_
          refine xi_ireturn kc_23_16 mr_23 rfl ?_
          show xw J ov 99 22 (39, [(0, .ref 115), (1, .int 13)], [.int 15], hh1) _
          refine xi_ireturn kc_22_39 mr_22 rfl ?_
          show xw J ov 100 196 (396, [(4, .int 0), (3, .ref 167), (2, .ref 115), (1, .ref 0), (0, .ref 1000000)], [.int 15, .int 15], hh1) _
          refine xi_cmt (pc' := 1528) kc_196_396 rfl rfl ?_
          refine xi_iinc (pc' := 1531) (x := 0) (v := 6) (lv' := [(4, .int 6), (3, .ref 167), (2, .ref 115), (1, .ref 0), (0, .ref 1000000)]) kc_196_1528 rfl rfl rfl rfl (xm_lt ml_196 rfl) ?_
          refine xi_goto (pc' := 23) kc_196_1531 rfl ?_
          refine xi_iload (pc' := 25) (x := 6) kc_196_23 rfl rfl ?_
          refine xi_aload_n (pc' := 26) (x := 1000000) kc_196_25 rfl rfl ?_
          refine xi_arraylength (pc' := 27) (n := 6) (v := 6) kc_196_26 rfl (xl_lenO (by decide) hov0 rfl) rfl ?_
          refine xi_bipush (pc' := 29) (v := 6) kc_196_27 rfl rfl ?_
          refine xi_isub (pc' := 30) (v := 0) kc_196_29 rfl rfl ?_
          refine xi_cmt (pc' := 1534) kc_196_30 rfl rfl ?_
          refine xi_iconst (pc' := 1535) (v := 1) kc_196_1534 rfl rfl ?_
          refine xi_ireturn kc_196_1535 mr_196 rfl ?_
          refine ⟨rfl, ?_, ?_⟩
          · rw [eh1.2.2.1]; exact hn0
          · rw [eh1.2.2.2]; exact hz0
        by_cases c37 : a1.toInt = 14
        · have qa1 : a1 = 14 := xc_of (Eq.trans (by omega) (show (14 : Int) = (14 : Int32).toInt by decide))
          subst qa1
          refine xi_idiv (pc' := 8) (v := 7) kc_103_7 rfl rfl (by decide) ?_
          refine xi_iadd (pc' := 9) (v := 12) kc_103_8 rfl rfl ?_
          refine xi_iload_n (pc' := 10) (x := 14) kc_103_9 rfl rfl ?_
          refine xi_iload_n (pc' := 11) (x := 14) kc_103_10 rfl rfl ?_
          refine xi_imul (pc' := 12) (v := 196) kc_103_11 rfl rfl ?_
          refine xi_bipush (pc' := 14) (v := 40) kc_103_12 rfl rfl ?_
          refine xi_idiv (pc' := 15) (v := 4) kc_103_14 rfl rfl (by decide) ?_
          refine xi_iadd (pc' := 16) (v := 16) kc_103_15 rfl rfl ?_
          refine xi_ireturn kc_103_16 mr_103 rfl ?_
          show xw J ov 99 102 (30, [(0, .ref 0), (1, .int 14)], [.int 16], h0) _
          refine xi_ireturn kc_102_30 mr_102 rfl ?_
          show xw J ov 100 196 (386, [(4, .int 0), (3, .ref 167), (2, .ref 115), (1, .ref 0), (0, .ref 1000000)], [.int 16], h0) _
          refine xi_aload_n (pc' := 387) (x := 115) kc_196_386 rfl rfl ?_
          refine xi_aload_n (pc' := 388) (x := 1000000) kc_196_387 rfl rfl ?_
          refine xi_iload (pc' := 390) (x := 0) kc_196_388 rfl rfl ?_
          refine xi_iconst (pc' := 391) (v := 1) kc_196_390 rfl rfl ?_
          refine xi_iadd (pc' := 392) (v := 1) kc_196_391 rfl rfl ?_
          refine xi_ialoadO (pc' := 393) (v := 14) kc_196_392 rfl (by decide) hov0 (xi_in (n := 6) (by decide) (by decide)) rfl ?_
          refine xi_virtual (mj := 22) (as := [.int 14]) (st1 := [.int 16]) (lv0 := [(0, .ref 115), (1, .int 14)]) kc_196_393 rfl rfl rfl rfl rfl (F 115 _ hl_115) (Nat.le_of_ble_eq_true rfl) (hJ _ _ _ _ (by decide)) (xm_le ml_22 rfl) rfl ?_
          refine xi_aload_n (pc' := 1) (x := 115) kc_22_0 rfl rfl ?_
          refine xi_iconst (pc' := 2) (v := 0) kc_22_1 rfl rfl ?_
          refine xi_putfield (pc' := 5) (fs' := [.int 0, .int 0, .ref 116, .ref 117, .ref 118, .ref 119, .ref 120, .ref 121, .ref 122, .ref 123, .ref 124, .ref 125, .ref 126, .ref 127, .ref 128, .ref 129, .int 4, .ref 130, .int 0, .ref 131, .ref 132, .ref 133, .ref 134, .int 0, .ref 135, .ref 136, .ref 137, .ref 138, .ref 139, .ref 140, .ref 141, .ref 142, .int 0, .int 0, .int 0, .ref 143, .ref 144, .ref 145, .ref 146, .ref 147, .ref 148, .int 0, .ref 149, .ref 150, .ref 151, .int 0, .ref 152, .ref 153, .ref 154, .ref 155, .ref 156, .ref 157, .ref 158, .ref 159, .int 0, .ref 160, .int 0, .ref 161, .ref 162, .ref 163, .ref 164, .int 0, .ref 165, .ref 166]) kc_22_2 rfl rfl rfl (F 115 _ hl_115) rfl rfl rfl (Nat.le_of_ble_eq_true rfl) rfl (fun hh1 eh1 => ?_)
          refine xi_iload_n (pc' := 6) (x := 14) kc_22_5 rfl rfl ?_
          refine xi_bipush (pc' := 8) (v := (-20)) kc_22_6 rfl rfl ?_
          refine xi_cmt (pc' := 20) kc_22_8 rfl rfl ?_
          refine xi_iload_n (pc' := 21) (x := 14) kc_22_20 rfl rfl ?_
          refine xi_bipush (pc' := 23) (v := 30) kc_22_21 rfl rfl ?_
          refine xi_cmt (pc' := 35) kc_22_23 rfl rfl ?_
          refine xi_iload_n (pc' := 36) (x := 14) kc_22_35 rfl rfl ?_
          refine xi_static (mj := 23) (as := [.int 14]) (st1 := []) (lv0 := [(0, .int 14)]) kc_22_36 rfl rfl (Nat.le_of_ble_eq_true rfl) rfl rfl (Nat.le_of_ble_eq_true rfl) (hJ _ _ _ _ (by decide)) (xm_le ml_23 rfl) rfl ?_
          refine xi_iload_n (pc' := 1) (x := 14) kc_23_0 rfl rfl ?_
          refine xi_iff (pc' := 4) kc_23_1 rfl rfl ?_
          refine xi_iconst (pc' := 5) (v := 5) kc_23_4 rfl rfl ?_
          refine xi_iload_n (pc' := 6) (x := 14) kc_23_5 rfl rfl ?_
          refine xi_iconst (pc' := 7) (v := 2) kc_23_6 rfl rfl ?_
          refine xi_idiv (pc' := 8) (v := 7) kc_23_7 rfl rfl (by decide) ?_
          refine xi_iadd (pc' := 9) (v := 12) kc_23_8 rfl rfl ?_
          refine xi_iload_n (pc' := 10) (x := 14) kc_23_9 rfl rfl ?_
          refine xi_iload_n (pc' := 11) (x := 14) kc_23_10 rfl rfl ?_
          refine xi_imul (pc' := 12) (v := 196) kc_23_11 rfl rfl ?_
          refine xi_bipush (pc' := 14) (v := 40) kc_23_12 rfl rfl ?_
          refine xi_idiv (pc' := 15) (v := 4) kc_23_14 rfl rfl (by decide) ?_
          refine xi_iadd (pc' := 16) (v := 16) kc_23_15 rfl rfl ?_
          refine xi_ireturn kc_23_16 mr_23 rfl ?_
          show xw J ov 99 22 (39, [(0, .ref 115), (1, .int 14)], [.int 16], hh1) _
          refine xi_ireturn kc_22_39 mr_22 rfl ?_
          show xw J ov 100 196 (396, [(4, .int 0), (3, .ref 167), (2, .ref 115), (1, .ref 0), (0, .ref 1000000)], [.int 16, .int 16], hh1) _
          refine xi_cmt (pc' := 1528) kc_196_396 rfl rfl ?_
          refine xi_iinc (pc' := 1531) (x := 0) (v := 6) (lv' := [(4, .int 6), (3, .ref 167), (2, .ref 115), (1, .ref 0), (0, .ref 1000000)]) kc_196_1528 rfl rfl rfl rfl (xm_lt ml_196 rfl) ?_
          refine xi_goto (pc' := 23) kc_196_1531 rfl ?_
          refine xi_iload (pc' := 25) (x := 6) kc_196_23 rfl rfl ?_
          refine xi_aload_n (pc' := 26) (x := 1000000) kc_196_25 rfl rfl ?_
          refine xi_arraylength (pc' := 27) (n := 6) (v := 6) kc_196_26 rfl (xl_lenO (by decide) hov0 rfl) rfl ?_
          refine xi_bipush (pc' := 29) (v := 6) kc_196_27 rfl rfl ?_
          refine xi_isub (pc' := 30) (v := 0) kc_196_29 rfl rfl ?_
          refine xi_cmt (pc' := 1534) kc_196_30 rfl rfl ?_
          refine xi_iconst (pc' := 1535) (v := 1) kc_196_1534 rfl rfl ?_
          refine xi_ireturn kc_196_1535 mr_196 rfl ?_
          refine ⟨rfl, ?_, ?_⟩
          · rw [eh1.2.2.1]; exact hn0
          · rw [eh1.2.2.2]; exact hz0
        by_cases c38 : a1.toInt = 15
        · have qa1 : a1 = 15 := xc_of (Eq.trans (by omega) (show (15 : Int) = (15 : Int32).toInt by decide))
          subst qa1
          refine xi_idiv (pc' := 8) (v := 7) kc_103_7 rfl rfl (by decide) ?_
          refine xi_iadd (pc' := 9) (v := 12) kc_103_8 rfl rfl ?_
          refine xi_iload_n (pc' := 10) (x := 15) kc_103_9 rfl rfl ?_
          refine xi_iload_n (pc' := 11) (x := 15) kc_103_10 rfl rfl ?_
          refine xi_imul (pc' := 12) (v := 225) kc_103_11 rfl rfl ?_
          refine xi_bipush (pc' := 14) (v := 40) kc_103_12 rfl rfl ?_
          refine xi_idiv (pc' := 15) (v := 5) kc_103_14 rfl rfl (by decide) ?_
          refine xi_iadd (pc' := 16) (v := 17) kc_103_15 rfl rfl ?_
          refine xi_ireturn kc_103_16 mr_103 rfl ?_
          show xw J ov 99 102 (30, [(0, .ref 0), (1, .int 15)], [.int 17], h0) _
          refine xi_ireturn kc_102_30 mr_102 rfl ?_
          show xw J ov 100 196 (386, [(4, .int 0), (3, .ref 167), (2, .ref 115), (1, .ref 0), (0, .ref 1000000)], [.int 17], h0) _
          refine xi_aload_n (pc' := 387) (x := 115) kc_196_386 rfl rfl ?_
          refine xi_aload_n (pc' := 388) (x := 1000000) kc_196_387 rfl rfl ?_
          refine xi_iload (pc' := 390) (x := 0) kc_196_388 rfl rfl ?_
          refine xi_iconst (pc' := 391) (v := 1) kc_196_390 rfl rfl ?_
          refine xi_iadd (pc' := 392) (v := 1) kc_196_391 rfl rfl ?_
          refine xi_ialoadO (pc' := 393) (v := 15) kc_196_392 rfl (by decide) hov0 (xi_in (n := 6) (by decide) (by decide)) rfl ?_
          refine xi_virtual (mj := 22) (as := [.int 15]) (st1 := [.int 17]) (lv0 := [(0, .ref 115), (1, .int 15)]) kc_196_393 rfl rfl rfl rfl rfl (F 115 _ hl_115) (Nat.le_of_ble_eq_true rfl) (hJ _ _ _ _ (by decide)) (xm_le ml_22 rfl) rfl ?_
          refine xi_aload_n (pc' := 1) (x := 115) kc_22_0 rfl rfl ?_
          refine xi_iconst (pc' := 2) (v := 0) kc_22_1 rfl rfl ?_
          refine xi_putfield (pc' := 5) (fs' := [.int 0, .int 0, .ref 116, .ref 117, .ref 118, .ref 119, .ref 120, .ref 121, .ref 122, .ref 123, .ref 124, .ref 125, .ref 126, .ref 127, .ref 128, .ref 129, .int 4, .ref 130, .int 0, .ref 131, .ref 132, .ref 133, .ref 134, .int 0, .ref 135, .ref 136, .ref 137, .ref 138, .ref 139, .ref 140, .ref 141, .ref 142, .int 0, .int 0, .int 0, .ref 143, .ref 144, .ref 145, .ref 146, .ref 147, .ref 148, .int 0, .ref 149, .ref 150, .ref 151, .int 0, .ref 152, .ref 153, .ref 154, .ref 155, .ref 156, .ref 157, .ref 158, .ref 159, .int 0, .ref 160, .int 0, .ref 161, .ref 162, .ref 163, .ref 164, .int 0, .ref 165, .ref 166]) kc_22_2 rfl rfl rfl (F 115 _ hl_115) rfl rfl rfl (Nat.le_of_ble_eq_true rfl) rfl (fun hh1 eh1 => ?_)
          refine xi_iload_n (pc' := 6) (x := 15) kc_22_5 rfl rfl ?_
          refine xi_bipush (pc' := 8) (v := (-20)) kc_22_6 rfl rfl ?_
          refine xi_cmt (pc' := 20) kc_22_8 rfl rfl ?_
          refine xi_iload_n (pc' := 21) (x := 15) kc_22_20 rfl rfl ?_
          refine xi_bipush (pc' := 23) (v := 30) kc_22_21 rfl rfl ?_
          refine xi_cmt (pc' := 35) kc_22_23 rfl rfl ?_
          refine xi_iload_n (pc' := 36) (x := 15) kc_22_35 rfl rfl ?_
          refine xi_static (mj := 23) (as := [.int 15]) (st1 := []) (lv0 := [(0, .int 15)]) kc_22_36 rfl rfl (Nat.le_of_ble_eq_true rfl) rfl rfl (Nat.le_of_ble_eq_true rfl) (hJ _ _ _ _ (by decide)) (xm_le ml_23 rfl) rfl ?_
          refine xi_iload_n (pc' := 1) (x := 15) kc_23_0 rfl rfl ?_
          refine xi_iff (pc' := 4) kc_23_1 rfl rfl ?_
          refine xi_iconst (pc' := 5) (v := 5) kc_23_4 rfl rfl ?_
          refine xi_iload_n (pc' := 6) (x := 15) kc_23_5 rfl rfl ?_
          refine xi_iconst (pc' := 7) (v := 2) kc_23_6 rfl rfl ?_
          refine xi_idiv (pc' := 8) (v := 7) kc_23_7 rfl rfl (by decide) ?_
          refine xi_iadd (pc' := 9) (v := 12) kc_23_8 rfl rfl ?_
          refine xi_iload_n (pc' := 10) (x := 15) kc_23_9 rfl rfl ?_
          refine xi_iload_n (pc' := 11) (x := 15) kc_23_10 rfl rfl ?_
          refine xi_imul (pc' := 12) (v := 225) kc_23_11 rfl rfl ?_
          refine xi_bipush (pc' := 14) (v := 40) kc_23_12 rfl rfl ?_
          refine xi_idiv (pc' := 15) (v := 5) kc_23_14 rfl rfl (by decide) ?_
          refine xi_iadd (pc' := 16) (v := 17) kc_23_15 rfl rfl ?_
          refine xi_ireturn kc_23_16 mr_23 rfl ?_
          show xw J ov 99 22 (39, [(0, .ref 115), (1, .int 15)], [.int 17], hh1) _
          refine xi_ireturn kc_22_39 mr_22 rfl ?_
          show xw J ov 100 196 (396, [(4, .int 0), (3, .ref 167), (2, .ref 115), (1, .ref 0), (0, .ref 1000000)], [.int 17, .int 17], hh1) _
          refine xi_cmt (pc' := 1528) kc_196_396 rfl rfl ?_
          refine xi_iinc (pc' := 1531) (x := 0) (v := 6) (lv' := [(4, .int 6), (3, .ref 167), (2, .ref 115), (1, .ref 0), (0, .ref 1000000)]) kc_196_1528 rfl rfl rfl rfl (xm_lt ml_196 rfl) ?_
          refine xi_goto (pc' := 23) kc_196_1531 rfl ?_
          refine xi_iload (pc' := 25) (x := 6) kc_196_23 rfl rfl ?_
          refine xi_aload_n (pc' := 26) (x := 1000000) kc_196_25 rfl rfl ?_
          refine xi_arraylength (pc' := 27) (n := 6) (v := 6) kc_196_26 rfl (xl_lenO (by decide) hov0 rfl) rfl ?_
          refine xi_bipush (pc' := 29) (v := 6) kc_196_27 rfl rfl ?_
          refine xi_isub (pc' := 30) (v := 0) kc_196_29 rfl rfl ?_
          refine xi_cmt (pc' := 1534) kc_196_30 rfl rfl ?_
          refine xi_iconst (pc' := 1535) (v := 1) kc_196_1534 rfl rfl ?_
          refine xi_ireturn kc_196_1535 mr_196 rfl ?_
          refine ⟨rfl, ?_, ?_⟩
          · rw [eh1.2.2.1]; exact hn0
          · rw [eh1.2.2.2]; exact hz0
        by_cases c39 : a1.toInt = 16
        · have qa1 : a1 = 16 := xc_of (Eq.trans (by omega) (show (16 : Int) = (16 : Int32).toInt by decide))
          subst qa1
          refine xi_idiv (pc' := 8) (v := 8) kc_103_7 rfl rfl (by decide) ?_
          refine xi_iadd (pc' := 9) (v := 13) kc_103_8 rfl rfl ?_
          refine xi_iload_n (pc' := 10) (x := 16) kc_103_9 rfl rfl ?_
          refine xi_iload_n (pc' := 11) (x := 16) kc_103_10 rfl rfl ?_
          refine xi_imul (pc' := 12) (v := 256) kc_103_11 rfl rfl ?_
          refine xi_bipush (pc' := 14) (v := 40) kc_103_12 rfl rfl ?_
          refine xi_idiv (pc' := 15) (v := 6) kc_103_14 rfl rfl (by decide) ?_
          refine xi_iadd (pc' := 16) (v := 19) kc_103_15 rfl rfl ?_
          refine xi_ireturn kc_103_16 mr_103 rfl ?_
          show xw J ov 99 102 (30, [(0, .ref 0), (1, .int 16)], [.int 19], h0) _
          refine xi_ireturn kc_102_30 mr_102 rfl ?_
          show xw J ov 100 196 (386, [(4, .int 0), (3, .ref 167), (2, .ref 115), (1, .ref 0), (0, .ref 1000000)], [.int 19], h0) _
          refine xi_aload_n (pc' := 387) (x := 115) kc_196_386 rfl rfl ?_
          refine xi_aload_n (pc' := 388) (x := 1000000) kc_196_387 rfl rfl ?_
          refine xi_iload (pc' := 390) (x := 0) kc_196_388 rfl rfl ?_
          refine xi_iconst (pc' := 391) (v := 1) kc_196_390 rfl rfl ?_
          refine xi_iadd (pc' := 392) (v := 1) kc_196_391 rfl rfl ?_
          refine xi_ialoadO (pc' := 393) (v := 16) kc_196_392 rfl (by decide) hov0 (xi_in (n := 6) (by decide) (by decide)) rfl ?_
          refine xi_virtual (mj := 22) (as := [.int 16]) (st1 := [.int 19]) (lv0 := [(0, .ref 115), (1, .int 16)]) kc_196_393 rfl rfl rfl rfl rfl (F 115 _ hl_115) (Nat.le_of_ble_eq_true rfl) (hJ _ _ _ _ (by decide)) (xm_le ml_22 rfl) rfl ?_
          refine xi_aload_n (pc' := 1) (x := 115) kc_22_0 rfl rfl ?_
          refine xi_iconst (pc' := 2) (v := 0) kc_22_1 rfl rfl ?_
          refine xi_putfield (pc' := 5) (fs' := [.int 0, .int 0, .ref 116, .ref 117, .ref 118, .ref 119, .ref 120, .ref 121, .ref 122, .ref 123, .ref 124, .ref 125, .ref 126, .ref 127, .ref 128, .ref 129, .int 4, .ref 130, .int 0, .ref 131, .ref 132, .ref 133, .ref 134, .int 0, .ref 135, .ref 136, .ref 137, .ref 138, .ref 139, .ref 140, .ref 141, .ref 142, .int 0, .int 0, .int 0, .ref 143, .ref 144, .ref 145, .ref 146, .ref 147, .ref 148, .int 0, .ref 149, .ref 150, .ref 151, .int 0, .ref 152, .ref 153, .ref 154, .ref 155, .ref 156, .ref 157, .ref 158, .ref 159, .int 0, .ref 160, .int 0, .ref 161, .ref 162, .ref 163, .ref 164, .int 0, .ref 165, .ref 166]) kc_22_2 rfl rfl rfl (F 115 _ hl_115) rfl rfl rfl (Nat.le_of_ble_eq_true rfl) rfl (fun hh1 eh1 => ?_)
          refine xi_iload_n (pc' := 6) (x := 16) kc_22_5 rfl rfl ?_
          refine xi_bipush (pc' := 8) (v := (-20)) kc_22_6 rfl rfl ?_
          refine xi_cmt (pc' := 20) kc_22_8 rfl rfl ?_
          refine xi_iload_n (pc' := 21) (x := 16) kc_22_20 rfl rfl ?_
          refine xi_bipush (pc' := 23) (v := 30) kc_22_21 rfl rfl ?_
          refine xi_cmt (pc' := 35) kc_22_23 rfl rfl ?_
          refine xi_iload_n (pc' := 36) (x := 16) kc_22_35 rfl rfl ?_
          refine xi_static (mj := 23) (as := [.int 16]) (st1 := []) (lv0 := [(0, .int 16)]) kc_22_36 rfl rfl (Nat.le_of_ble_eq_true rfl) rfl rfl (Nat.le_of_ble_eq_true rfl) (hJ _ _ _ _ (by decide)) (xm_le ml_23 rfl) rfl ?_
          refine xi_iload_n (pc' := 1) (x := 16) kc_23_0 rfl rfl ?_
          refine xi_iff (pc' := 4) kc_23_1 rfl rfl ?_
          refine xi_iconst (pc' := 5) (v := 5) kc_23_4 rfl rfl ?_
          refine xi_iload_n (pc' := 6) (x := 16) kc_23_5 rfl rfl ?_
          refine xi_iconst (pc' := 7) (v := 2) kc_23_6 rfl rfl ?_
          refine xi_idiv (pc' := 8) (v := 8) kc_23_7 rfl rfl (by decide) ?_
          refine xi_iadd (pc' := 9) (v := 13) kc_23_8 rfl rfl ?_
          refine xi_iload_n (pc' := 10) (x := 16) kc_23_9 rfl rfl ?_
          refine xi_iload_n (pc' := 11) (x := 16) kc_23_10 rfl rfl ?_
          refine xi_imul (pc' := 12) (v := 256) kc_23_11 rfl rfl ?_
          refine xi_bipush (pc' := 14) (v := 40) kc_23_12 rfl rfl ?_
          refine xi_idiv (pc' := 15) (v := 6) kc_23_14 rfl rfl (by decide) ?_
          refine xi_iadd (pc' := 16) (v := 19) kc_23_15 rfl rfl ?_
          refine xi_ireturn kc_23_16 mr_23 rfl ?_
          show xw J ov 99 22 (39, [(0, .ref 115), (1, .int 16)], [.int 19], hh1) _
          refine xi_ireturn kc_22_39 mr_22 rfl ?_
          show xw J ov 100 196 (396, [(4, .int 0), (3, .ref 167), (2, .ref 115), (1, .ref 0), (0, .ref 1000000)], [.int 19, .int 19], hh1) _
          refine xi_cmt (pc' := 1528) kc_196_396 rfl rfl ?_
          refine xi_iinc (pc' := 1531) (x := 0) (v := 6) (lv' := [(4, .int 6), (3, .ref 167), (2, .ref 115), (1, .ref 0), (0, .ref 1000000)]) kc_196_1528 rfl rfl rfl rfl (xm_lt ml_196 rfl) ?_
          refine xi_goto (pc' := 23) kc_196_1531 rfl ?_
          refine xi_iload (pc' := 25) (x := 6) kc_196_23 rfl rfl ?_
          refine xi_aload_n (pc' := 26) (x := 1000000) kc_196_25 rfl rfl ?_
          refine xi_arraylength (pc' := 27) (n := 6) (v := 6) kc_196_26 rfl (xl_lenO (by decide) hov0 rfl) rfl ?_
          refine xi_bipush (pc' := 29) (v := 6) kc_196_27 rfl rfl ?_
          refine xi_isub (pc' := 30) (v := 0) kc_196_29 rfl rfl ?_
          refine xi_cmt (pc' := 1534) kc_196_30 rfl rfl ?_
          refine xi_iconst (pc' := 1535) (v := 1) kc_196_1534 rfl rfl ?_
          refine xi_ireturn kc_196_1535 mr_196 rfl ?_
          refine ⟨rfl, ?_, ?_⟩
          · rw [eh1.2.2.1]; exact hn0
          · rw [eh1.2.2.2]; exact hz0
        by_cases c40 : a1.toInt = 17
        · have qa1 : a1 = 17 := xc_of (Eq.trans (by omega) (show (17 : Int) = (17 : Int32).toInt by decide))
          subst qa1
          refine xi_idiv (pc' := 8) (v := 8) kc_103_7 rfl rfl (by decide) ?_
          refine xi_iadd (pc' := 9) (v := 13) kc_103_8 rfl rfl ?_
          refine xi_iload_n (pc' := 10) (x := 17) kc_103_9 rfl rfl ?_
          refine xi_iload_n (pc' := 11) (x := 17) kc_103_10 rfl rfl ?_
          refine xi_imul (pc' := 12) (v := 289) kc_103_11 rfl rfl ?_
          refine xi_bipush (pc' := 14) (v := 40) kc_103_12 rfl rfl ?_
          refine xi_idiv (pc' := 15) (v := 7) kc_103_14 rfl rfl (by decide) ?_
          refine xi_iadd (pc' := 16) (v := 20) kc_103_15 rfl rfl ?_
          refine xi_ireturn kc_103_16 mr_103 rfl ?_
          show xw J ov 99 102 (30, [(0, .ref 0), (1, .int 17)], [.int 20], h0) _
          refine xi_ireturn kc_102_30 mr_102 rfl ?_
          show xw J ov 100 196 (386, [(4, .int 0), (3, .ref 167), (2, .ref 115), (1, .ref 0), (0, .ref 1000000)], [.int 20], h0) _
          refine xi_aload_n (pc' := 387) (x := 115) kc_196_386 rfl rfl ?_
          refine xi_aload_n (pc' := 388) (x := 1000000) kc_196_387 rfl rfl ?_
          refine xi_iload (pc' := 390) (x := 0) kc_196_388 rfl rfl ?_
          refine xi_iconst (pc' := 391) (v := 1) kc_196_390 rfl rfl ?_
          refine xi_iadd (pc' := 392) (v := 1) kc_196_391 rfl rfl ?_
          refine xi_ialoadO (pc' := 393) (v := 17) kc_196_392 rfl (by decide) hov0 (xi_in (n := 6) (by decide) (by decide)) rfl ?_
          refine xi_virtual (mj := 22) (as := [.int 17]) (st1 := [.int 20]) (lv0 := [(0, .ref 115), (1, .int 17)]) kc_196_393 rfl rfl rfl rfl rfl (F 115 _ hl_115) (Nat.le_of_ble_eq_true rfl) (hJ _ _ _ _ (by decide)) (xm_le ml_22 rfl) rfl ?_
          refine xi_aload_n (pc' := 1) (x := 115) kc_22_0 rfl rfl ?_
          refine xi_iconst (pc' := 2) (v := 0) kc_22_1 rfl rfl ?_
          refine xi_putfield (pc' := 5) (fs' := [.int 0, .int 0, .ref 116, .ref 117, .ref 118, .ref 119, .ref 120, .ref 121, .ref 122, .ref 123, .ref 124, .ref 125, .ref 126, .ref 127, .ref 128, .ref 129, .int 4, .ref 130, .int 0, .ref 131, .ref 132, .ref 133, .ref 134, .int 0, .ref 135, .ref 136, .ref 137, .ref 138, .ref 139, .ref 140, .ref 141, .ref 142, .int 0, .int 0, .int 0, .ref 143, .ref 144, .ref 145, .ref 146, .ref 147, .ref 148, .int 0, .ref 149, .ref 150, .ref 151, .int 0, .ref 152, .ref 153, .ref 154, .ref 155, .ref 156, .ref 157, .ref 158, .ref 159, .int 0, .ref 160, .int 0, .ref 161, .ref 162, .ref 163, .ref 164, .int 0, .ref 165, .ref 166]) kc_22_2 rfl rfl rfl (F 115 _ hl_115) rfl rfl rfl (Nat.le_of_ble_eq_true rfl) rfl (fun hh1 eh1 => ?_)
          refine xi_iload_n (pc' := 6) (x := 17) kc_22_5 rfl rfl ?_
          refine xi_bipush (pc' := 8) (v := (-20)) kc_22_6 rfl rfl ?_
          refine xi_cmt (pc' := 20) kc_22_8 rfl rfl ?_
          refine xi_iload_n (pc' := 21) (x := 17) kc_22_20 rfl rfl ?_
          refine xi_bipush (pc' := 23) (v := 30) kc_22_21 rfl rfl ?_
          refine xi_cmt (pc' := 35) kc_22_23 rfl rfl ?_
          refine xi_iload_n (pc' := 36) (x := 17) kc_22_35 rfl rfl ?_
          refine xi_static (mj := 23) (as := [.int 17]) (st1 := []) (lv0 := [(0, .int 17)]) kc_22_36 rfl rfl (Nat.le_of_ble_eq_true rfl) rfl rfl (Nat.le_of_ble_eq_true rfl) (hJ _ _ _ _ (by decide)) (xm_le ml_23 rfl) rfl ?_
          refine xi_iload_n (pc' := 1) (x := 17) kc_23_0 rfl rfl ?_
          refine xi_iff (pc' := 4) kc_23_1 rfl rfl ?_
          refine xi_iconst (pc' := 5) (v := 5) kc_23_4 rfl rfl ?_
          refine xi_iload_n (pc' := 6) (x := 17) kc_23_5 rfl rfl ?_
          refine xi_iconst (pc' := 7) (v := 2) kc_23_6 rfl rfl ?_
          refine xi_idiv (pc' := 8) (v := 8) kc_23_7 rfl rfl (by decide) ?_
          refine xi_iadd (pc' := 9) (v := 13) kc_23_8 rfl rfl ?_
          refine xi_iload_n (pc' := 10) (x := 17) kc_23_9 rfl rfl ?_
          refine xi_iload_n (pc' := 11) (x := 17) kc_23_10 rfl rfl ?_
          refine xi_imul (pc' := 12) (v := 289) kc_23_11 rfl rfl ?_
          refine xi_bipush (pc' := 14) (v := 40) kc_23_12 rfl rfl ?_
          refine xi_idiv (pc' := 15) (v := 7) kc_23_14 rfl rfl (by decide) ?_
          refine xi_iadd (pc' := 16) (v := 20) kc_23_15 rfl rfl ?_
          refine xi_ireturn kc_23_16 mr_23 rfl ?_
          show xw J ov 99 22 (39, [(0, .ref 115), (1, .int 17)], [.int 20], hh1) _
          refine xi_ireturn kc_22_39 mr_22 rfl ?_
          show xw J ov 100 196 (396, [(4, .int 0), (3, .ref 167), (2, .ref 115), (1, .ref 0), (0, .ref 1000000)], [.int 20, .int 20], hh1) _
          refine xi_cmt (pc' := 1528) kc_196_396 rfl rfl ?_
          refine xi_iinc (pc' := 1531) (x := 0) (v := 6) (lv' := [(4, .int 6), (3, .ref 167), (2, .ref 115), (1, .ref 0), (0, .ref 1000000)]) kc_196_1528 rfl rfl rfl rfl (xm_lt ml_196 rfl) ?_
          refine xi_goto (pc' := 23) kc_196_1531 rfl ?_
          refine xi_iload (pc' := 25) (x := 6) kc_196_23 rfl rfl ?_
          refine xi_aload_n (pc' := 26) (x := 1000000) kc_196_25 rfl rfl ?_
          refine xi_arraylength (pc' := 27) (n := 6) (v := 6) kc_196_26 rfl (xl_lenO (by decide) hov0 rfl) rfl ?_
          refine xi_bipush (pc' := 29) (v := 6) kc_196_27 rfl rfl ?_
          refine xi_isub (pc' := 30) (v := 0) kc_196_29 rfl rfl ?_
          refine xi_cmt (pc' := 1534) kc_196_30 rfl rfl ?_
          refine xi_iconst (pc' := 1535) (v := 1) kc_196_1534 rfl rfl ?_
          refine xi_ireturn kc_196_1535 mr_196 rfl ?_
          refine ⟨rfl, ?_, ?_⟩
          · rw [eh1.2.2.1]; exact hn0
          · rw [eh1.2.2.2]; exact hz0
        by_cases c41 : a1.toInt = 18
        · have qa1 : a1 = 18 := xc_of (Eq.trans (by omega) (show (18 : Int) = (18 : Int32).toInt by decide))
          subst qa1
          refine xi_idiv (pc' := 8) (v := 9) kc_103_7 rfl rfl (by decide) ?_
          refine xi_iadd (pc' := 9) (v := 14) kc_103_8 rfl rfl ?_
          refine xi_iload_n (pc' := 10) (x := 18) kc_103_9 rfl rfl ?_
          refine xi_iload_n (pc' := 11) (x := 18) kc_103_10 rfl rfl ?_
          refine xi_imul (pc' := 12) (v := 324) kc_103_11 rfl rfl ?_
          refine xi_bipush (pc' := 14) (v := 40) kc_103_12 rfl rfl ?_
          refine xi_idiv (pc' := 15) (v := 8) kc_103_14 rfl rfl (by decide) ?_
          refine xi_iadd (pc' := 16) (v := 22) kc_103_15 rfl rfl ?_
          refine xi_ireturn kc_103_16 mr_103 rfl ?_
          show xw J ov 99 102 (30, [(0, .ref 0), (1, .int 18)], [.int 22], h0) _
          refine xi_ireturn kc_102_30 mr_102 rfl ?_
          show xw J ov 100 196 (386, [(4, .int 0), (3, .ref 167), (2, .ref 115), (1, .ref 0), (0, .ref 1000000)], [.int 22], h0) _
          refine xi_aload_n (pc' := 387) (x := 115) kc_196_386 rfl rfl ?_
          refine xi_aload_n (pc' := 388) (x := 1000000) kc_196_387 rfl rfl ?_
          refine xi_iload (pc' := 390) (x := 0) kc_196_388 rfl rfl ?_
          refine xi_iconst (pc' := 391) (v := 1) kc_196_390 rfl rfl ?_
          refine xi_iadd (pc' := 392) (v := 1) kc_196_391 rfl rfl ?_
          refine xi_ialoadO (pc' := 393) (v := 18) kc_196_392 rfl (by decide) hov0 (xi_in (n := 6) (by decide) (by decide)) rfl ?_
          refine xi_virtual (mj := 22) (as := [.int 18]) (st1 := [.int 22]) (lv0 := [(0, .ref 115), (1, .int 18)]) kc_196_393 rfl rfl rfl rfl rfl (F 115 _ hl_115) (Nat.le_of_ble_eq_true rfl) (hJ _ _ _ _ (by decide)) (xm_le ml_22 rfl) rfl ?_
          refine xi_aload_n (pc' := 1) (x := 115) kc_22_0 rfl rfl ?_
          refine xi_iconst (pc' := 2) (v := 0) kc_22_1 rfl rfl ?_
          refine xi_putfield (pc' := 5) (fs' := [.int 0, .int 0, .ref 116, .ref 117, .ref 118, .ref 119, .ref 120, .ref 121, .ref 122, .ref 123, .ref 124, .ref 125, .ref 126, .ref 127, .ref 128, .ref 129, .int 4, .ref 130, .int 0, .ref 131, .ref 132, .ref 133, .ref 134, .int 0, .ref 135, .ref 136, .ref 137, .ref 138, .ref 139, .ref 140, .ref 141, .ref 142, .int 0, .int 0, .int 0, .ref 143, .ref 144, .ref 145, .ref 146, .ref 147, .ref 148, .int 0, .ref 149, .ref 150, .ref 151, .int 0, .ref 152, .ref 153, .ref 154, .ref 155, .ref 156, .ref 157, .ref 158, .ref 159, .int 0, .ref 160, .int 0, .ref 161, .ref 162, .ref 163, .ref 164, .int 0, .ref 165, .ref 166]) kc_22_2 rfl rfl rfl (F 115 _ hl_115) rfl rfl rfl (Nat.le_of_ble_eq_true rfl) rfl (fun hh1 eh1 => ?_)
          refine xi_iload_n (pc' := 6) (x := 18) kc_22_5 rfl rfl ?_
          refine xi_bipush (pc' := 8) (v := (-20)) kc_22_6 rfl rfl ?_
          refine xi_cmt (pc' := 20) kc_22_8 rfl rfl ?_
          refine xi_iload_n (pc' := 21) (x := 18) kc_22_20 rfl rfl ?_
          refine xi_bipush (pc' := 23) (v := 30) kc_22_21 rfl rfl ?_
          refine xi_cmt (pc' := 35) kc_22_23 rfl rfl ?_
          refine xi_iload_n (pc' := 36) (x := 18) kc_22_35 rfl rfl ?_
          refine xi_static (mj := 23) (as := [.int 18]) (st1 := []) (lv0 := [(0, .int 18)]) kc_22_36 rfl rfl (Nat.le_of_ble_eq_true rfl) rfl rfl (Nat.le_of_ble_eq_true rfl) (hJ _ _ _ _ (by decide)) (xm_le ml_23 rfl) rfl ?_
          refine xi_iload_n (pc' := 1) (x := 18) kc_23_0 rfl rfl ?_
          refine xi_iff (pc' := 4) kc_23_1 rfl rfl ?_
          refine xi_iconst (pc' := 5) (v := 5) kc_23_4 rfl rfl ?_
          refine xi_iload_n (pc' := 6) (x := 18) kc_23_5 rfl rfl ?_
          refine xi_iconst (pc' := 7) (v := 2) kc_23_6 rfl rfl ?_
          refine xi_idiv (pc' := 8) (v := 9) kc_23_7 rfl rfl (by decide) ?_
          refine xi_iadd (pc' := 9) (v := 14) kc_23_8 rfl rfl ?_
          refine xi_iload_n (pc' := 10) (x := 18) kc_23_9 rfl rfl ?_
          refine xi_iload_n (pc' := 11) (x := 18) kc_23_10 rfl rfl ?_
          refine xi_imul (pc' := 12) (v := 324) kc_23_11 rfl rfl ?_
          refine xi_bipush (pc' := 14) (v := 40) kc_23_12 rfl rfl ?_
          refine xi_idiv (pc' := 15) (v := 8) kc_23_14 rfl rfl (by decide) ?_
          refine xi_iadd (pc' := 16) (v := 22) kc_23_15 rfl rfl ?_
          refine xi_ireturn kc_23_16 mr_23 rfl ?_
          show xw J ov 99 22 (39, [(0, .ref 115), (1, .int 18)], [.int 22], hh1) _
          refine xi_ireturn kc_22_39 mr_22 rfl ?_
          show xw J ov 100 196 (396, [(4, .int 0), (3, .ref 167), (2, .ref 115), (1, .ref 0), (0, .ref 1000000)], [.int 22, .int 22], hh1) _
          refine xi_cmt (pc' := 1528) kc_196_396 rfl rfl ?_
          refine xi_iinc (pc' := 1531) (x := 0) (v := 6) (lv' := [(4, .int 6), (3, .ref 167), (2, .ref 115), (1, .ref 0), (0, .ref 1000000)]) kc_196_1528 rfl rfl rfl rfl (xm_lt ml_196 rfl) ?_
          refine xi_goto (pc' := 23) kc_196_1531 rfl ?_
          refine xi_iload (pc' := 25) (x := 6) kc_196_23 rfl rfl ?_
          refine xi_aload_n (pc' := 26) (x := 1000000) kc_196_25 rfl rfl ?_
          refine xi_arraylength (pc' := 27) (n := 6) (v := 6) kc_196_26 rfl (xl_lenO (by decide) hov0 rfl) rfl ?_
          refine xi_bipush (pc' := 29) (v := 6) kc_196_27 rfl rfl ?_
          refine xi_isub (pc' := 30) (v := 0) kc_196_29 rfl rfl ?_
          refine xi_cmt (pc' := 1534) kc_196_30 rfl rfl ?_
          refine xi_iconst (pc' := 1535) (v := 1) kc_196_1534 rfl rfl ?_
          refine xi_ireturn kc_196_1535 mr_196 rfl ?_
          refine ⟨rfl, ?_, ?_⟩
          · rw [eh1.2.2.1]; exact hn0
          · rw [eh1.2.2.2]; exact hz0
        by_cases c42 : a1.toInt = 19
        · have qa1 : a1 = 19 := xc_of (Eq.trans (by omega) (show (19 : Int) = (19 : Int32).toInt by decide))
          subst qa1
          refine xi_idiv (pc' := 8) (v := 9) kc_103_7 rfl rfl (by decide) ?_
          refine xi_iadd (pc' := 9) (v := 14) kc_103_8 rfl rfl ?_
          refine xi_iload_n (pc' := 10) (x := 19) kc_103_9 rfl rfl ?_
          refine xi_iload_n (pc' := 11) (x := 19) kc_103_10 rfl rfl ?_
          refine xi_imul (pc' := 12) (v := 361) kc_103_11 rfl rfl ?_
          refine xi_bipush (pc' := 14) (v := 40) kc_103_12 rfl rfl ?_
          refine xi_idiv (pc' := 15) (v := 9) kc_103_14 rfl rfl (by decide) ?_
          refine xi_iadd (pc' := 16) (v := 23) kc_103_15 rfl rfl ?_
          refine xi_ireturn kc_103_16 mr_103 rfl ?_
          show xw J ov 99 102 (30, [(0, .ref 0), (1, .int 19)], [.int 23], h0) _
          refine xi_ireturn kc_102_30 mr_102 rfl ?_
          show xw J ov 100 196 (386, [(4, .int 0), (3, .ref 167), (2, .ref 115), (1, .ref 0), (0, .ref 1000000)], [.int 23], h0) _
          refine xi_aload_n (pc' := 387) (x := 115) kc_196_386 rfl rfl ?_
          refine xi_aload_n (pc' := 388) (x := 1000000) kc_196_387 rfl rfl ?_
          refine xi_iload (pc' := 390) (x := 0) kc_196_388 rfl rfl ?_
          refine xi_iconst (pc' := 391) (v := 1) kc_196_390 rfl rfl ?_
          refine xi_iadd (pc' := 392) (v := 1) kc_196_391 rfl rfl ?_
          refine xi_ialoadO (pc' := 393) (v := 19) kc_196_392 rfl (by decide) hov0 (xi_in (n := 6) (by decide) (by decide)) rfl ?_
          refine xi_virtual (mj := 22) (as := [.int 19]) (st1 := [.int 23]) (lv0 := [(0, .ref 115), (1, .int 19)]) kc_196_393 rfl rfl rfl rfl rfl (F 115 _ hl_115) (Nat.le_of_ble_eq_true rfl) (hJ _ _ _ _ (by decide)) (xm_le ml_22 rfl) rfl ?_
          refine xi_aload_n (pc' := 1) (x := 115) kc_22_0 rfl rfl ?_
          refine xi_iconst (pc' := 2) (v := 0) kc_22_1 rfl rfl ?_
          refine xi_putfield (pc' := 5) (fs' := [.int 0, .int 0, .ref 116, .ref 117, .ref 118, .ref 119, .ref 120, .ref 121, .ref 122, .ref 123, .ref 124, .ref 125, .ref 126, .ref 127, .ref 128, .ref 129, .int 4, .ref 130, .int 0, .ref 131, .ref 132, .ref 133, .ref 134, .int 0, .ref 135, .ref 136, .ref 137, .ref 138, .ref 139, .ref 140, .ref 141, .ref 142, .int 0, .int 0, .int 0, .ref 143, .ref 144, .ref 145, .ref 146, .ref 147, .ref 148, .int 0, .ref 149, .ref 150, .ref 151, .int 0, .ref 152, .ref 153, .ref 154, .ref 155, .ref 156, .ref 157, .ref 158, .ref 159, .int 0, .ref 160, .int 0, .ref 161, .ref 162, .ref 163, .ref 164, .int 0, .ref 165, .ref 166]) kc_22_2 rfl rfl rfl (F 115 _ hl_115) rfl rfl rfl (Nat.le_of_ble_eq_true rfl) rfl (fun hh1 eh1 => ?_)
          refine xi_iload_n (pc' := 6) (x := 19) kc_22_5 rfl rfl ?_
          refine xi_bipush (pc' := 8) (v := (-20)) kc_22_6 rfl rfl ?_
          refine xi_cmt (pc' := 20) kc_22_8 rfl rfl ?_
          refine xi_iload_n (pc' := 21) (x := 19) kc_22_20 rfl rfl ?_
          refine xi_bipush (pc' := 23) (v := 30) kc_22_21 rfl rfl ?_
          refine xi_cmt (pc' := 35) kc_22_23 rfl rfl ?_
          refine xi_iload_n (pc' := 36) (x := 19) kc_22_35 rfl rfl ?_
          refine xi_static (mj := 23) (as := [.int 19]) (st1 := []) (lv0 := [(0, .int 19)]) kc_22_36 rfl rfl (Nat.le_of_ble_eq_true rfl) rfl rfl (Nat.le_of_ble_eq_true rfl) (hJ _ _ _ _ (by decide)) (xm_le ml_23 rfl) rfl ?_
          refine xi_iload_n (pc' := 1) (x := 19) kc_23_0 rfl rfl ?_
          refine xi_iff (pc' := 4) kc_23_1 rfl rfl ?_
          refine xi_iconst (pc' := 5) (v := 5) kc_23_4 rfl rfl ?_
          refine xi_iload_n (pc' := 6) (x := 19) kc_23_5 rfl rfl ?_
          refine xi_iconst (pc' := 7) (v := 2) kc_23_6 rfl rfl ?_
          refine xi_idiv (pc' := 8) (v := 9) kc_23_7 rfl rfl (by decide) ?_
          refine xi_iadd (pc' := 9) (v := 14) kc_23_8 rfl rfl ?_
          refine xi_iload_n (pc' := 10) (x := 19) kc_23_9 rfl rfl ?_
          refine xi_iload_n (pc' := 11) (x := 19) kc_23_10 rfl rfl ?_
          refine xi_imul (pc' := 12) (v := 361) kc_23_11 rfl rfl ?_
          refine xi_bipush (pc' := 14) (v := 40) kc_23_12 rfl rfl ?_
          refine xi_idiv (pc' := 15) (v := 9) kc_23_14 rfl rfl (by decide) ?_
          refine xi_iadd (pc' := 16) (v := 23) kc_23_15 rfl rfl ?_
          refine xi_ireturn kc_23_16 mr_23 rfl ?_
          show xw J ov 99 22 (39, [(0, .ref 115), (1, .int 19)], [.int 23], hh1) _
          refine xi_ireturn kc_22_39 mr_22 rfl ?_
          show xw J ov 100 196 (396, [(4, .int 0), (3, .ref 167), (2, .ref 115), (1, .ref 0), (0, .ref 1000000)], [.int 23, .int 23], hh1) _
          refine xi_cmt (pc' := 1528) kc_196_396 rfl rfl ?_
          refine xi_iinc (pc' := 1531) (x := 0) (v := 6) (lv' := [(4, .int 6), (3, .ref 167), (2, .ref 115), (1, .ref 0), (0, .ref 1000000)]) kc_196_1528 rfl rfl rfl rfl (xm_lt ml_196 rfl) ?_
          refine xi_goto (pc' := 23) kc_196_1531 rfl ?_
          refine xi_iload (pc' := 25) (x := 6) kc_196_23 rfl rfl ?_
          refine xi_aload_n (pc' := 26) (x := 1000000) kc_196_25 rfl rfl ?_
          refine xi_arraylength (pc' := 27) (n := 6) (v := 6) kc_196_26 rfl (xl_lenO (by decide) hov0 rfl) rfl ?_
          refine xi_bipush (pc' := 29) (v := 6) kc_196_27 rfl rfl ?_
          refine xi_isub (pc' := 30) (v := 0) kc_196_29 rfl rfl ?_
          refine xi_cmt (pc' := 1534) kc_196_30 rfl rfl ?_
          refine xi_iconst (pc' := 1535) (v := 1) kc_196_1534 rfl rfl ?_
          refine xi_ireturn kc_196_1535 mr_196 rfl ?_
          refine ⟨rfl, ?_, ?_⟩
          · rw [eh1.2.2.1]; exact hn0
          · rw [eh1.2.2.2]; exact hz0
        by_cases c43 : a1.toInt = 20
        · have qa1 : a1 = 20 := xc_of (Eq.trans (by omega) (show (20 : Int) = (20 : Int32).toInt by decide))
          subst qa1
          refine xi_idiv (pc' := 8) (v := 10) kc_103_7 rfl rfl (by decide) ?_
          refine xi_iadd (pc' := 9) (v := 15) kc_103_8 rfl rfl ?_
          refine xi_iload_n (pc' := 10) (x := 20) kc_103_9 rfl rfl ?_
          refine xi_iload_n (pc' := 11) (x := 20) kc_103_10 rfl rfl ?_
          refine xi_imul (pc' := 12) (v := 400) kc_103_11 rfl rfl ?_
          refine xi_bipush (pc' := 14) (v := 40) kc_103_12 rfl rfl ?_
          refine xi_idiv (pc' := 15) (v := 10) kc_103_14 rfl rfl (by decide) ?_
          refine xi_iadd (pc' := 16) (v := 25) kc_103_15 rfl rfl ?_
          refine xi_ireturn kc_103_16 mr_103 rfl ?_
          show xw J ov 99 102 (30, [(0, .ref 0), (1, .int 20)], [.int 25], h0) _
          refine xi_ireturn kc_102_30 mr_102 rfl ?_
          show xw J ov 100 196 (386, [(4, .int 0), (3, .ref 167), (2, .ref 115), (1, .ref 0), (0, .ref 1000000)], [.int 25], h0) _
          refine xi_aload_n (pc' := 387) (x := 115) kc_196_386 rfl rfl ?_
          refine xi_aload_n (pc' := 388) (x := 1000000) kc_196_387 rfl rfl ?_
          refine xi_iload (pc' := 390) (x := 0) kc_196_388 rfl rfl ?_
          refine xi_iconst (pc' := 391) (v := 1) kc_196_390 rfl rfl ?_
          refine xi_iadd (pc' := 392) (v := 1) kc_196_391 rfl rfl ?_
          refine xi_ialoadO (pc' := 393) (v := 20) kc_196_392 rfl (by decide) hov0 (xi_in (n := 6) (by decide) (by decide)) rfl ?_
          refine xi_virtual (mj := 22) (as := [.int 20]) (st1 := [.int 25]) (lv0 := [(0, .ref 115), (1, .int 20)]) kc_196_393 rfl rfl rfl rfl rfl (F 115 _ hl_115) (Nat.le_of_ble_eq_true rfl) (hJ _ _ _ _ (by decide)) (xm_le ml_22 rfl) rfl ?_
          refine xi_aload_n (pc' := 1) (x := 115) kc_22_0 rfl rfl ?_
          refine xi_iconst (pc' := 2) (v := 0) kc_22_1 rfl rfl ?_
          refine xi_putfield (pc' := 5) (fs' := [.int 0, .int 0, .ref 116, .ref 117, .ref 118, .ref 119, .ref 120, .ref 121, .ref 122, .ref 123, .ref 124, .ref 125, .ref 126, .ref 127, .ref 128, .ref 129, .int 4, .ref 130, .int 0, .ref 131, .ref 132, .ref 133, .ref 134, .int 0, .ref 135, .ref 136, .ref 137, .ref 138, .ref 139, .ref 140, .ref 141, .ref 142, .int 0, .int 0, .int 0, .ref 143, .ref 144, .ref 145, .ref 146, .ref 147, .ref 148, .int 0, .ref 149, .ref 150, .ref 151, .int 0, .ref 152, .ref 153, .ref 154, .ref 155, .ref 156, .ref 157, .ref 158, .ref 159, .int 0, .ref 160, .int 0, .ref 161, .ref 162, .ref 163, .ref 164, .int 0, .ref 165, .ref 166]) kc_22_2 rfl rfl rfl (F 115 _ hl_115) rfl rfl rfl (Nat.le_of_ble_eq_true rfl) rfl (fun hh1 eh1 => ?_)
          refine xi_iload_n (pc' := 6) (x := 20) kc_22_5 rfl rfl ?_
          refine xi_bipush (pc' := 8) (v := (-20)) kc_22_6 rfl rfl ?_
          refine xi_cmt (pc' := 20) kc_22_8 rfl rfl ?_
          refine xi_iload_n (pc' := 21) (x := 20) kc_22_20 rfl rfl ?_
          refine xi_bipush (pc' := 23) (v := 30) kc_22_21 rfl rfl ?_
          refine xi_cmt (pc' := 35) kc_22_23 rfl rfl ?_
          refine xi_iload_n (pc' := 36) (x := 20) kc_22_35 rfl rfl ?_
          refine xi_static (mj := 23) (as := [.int 20]) (st1 := []) (lv0 := [(0, .int 20)]) kc_22_36 rfl rfl (Nat.le_of_ble_eq_true rfl) rfl rfl (Nat.le_of_ble_eq_true rfl) (hJ _ _ _ _ (by decide)) (xm_le ml_23 rfl) rfl ?_
          refine xi_iload_n (pc' := 1) (x := 20) kc_23_0 rfl rfl ?_
          refine xi_iff (pc' := 4) kc_23_1 rfl rfl ?_
          refine xi_iconst (pc' := 5) (v := 5) kc_23_4 rfl rfl ?_
          refine xi_iload_n (pc' := 6) (x := 20) kc_23_5 rfl rfl ?_
          refine xi_iconst (pc' := 7) (v := 2) kc_23_6 rfl rfl ?_
          refine xi_idiv (pc' := 8) (v := 10) kc_23_7 rfl rfl (by decide) ?_
          refine xi_iadd (pc' := 9) (v := 15) kc_23_8 rfl rfl ?_
          refine xi_iload_n (pc' := 10) (x := 20) kc_23_9 rfl rfl ?_
          refine xi_iload_n (pc' := 11) (x := 20) kc_23_10 rfl rfl ?_
          refine xi_imul (pc' := 12) (v := 400) kc_23_11 rfl rfl ?_
          refine xi_bipush (pc' := 14) (v := 40) kc_23_12 rfl rfl ?_
          refine xi_idiv (pc' := 15) (v := 10) kc_23_14 rfl rfl (by decide) ?_
          refine xi_iadd (pc' := 16) (v := 25) kc_23_15 rfl rfl ?_
          refine xi_ireturn kc_23_16 mr_23 rfl ?_
          show xw J ov 99 22 (39, [(0, .ref 115), (1, .int 20)], [.int 25], hh1) _
          refine xi_ireturn kc_22_39 mr_22 rfl ?_
          show xw J ov 100 196 (396, [(4, .int 0), (3, .ref 167), (2, .ref 115), (1, .ref 0), (0, .ref 1000000)], [.int 25, .int 25], hh1) _
          refine xi_cmt (pc' := 1528) kc_196_396 rfl rfl ?_
          refine xi_iinc (pc' := 1531) (x := 0) (v := 6) (lv' := [(4, .int 6), (3, .ref 167), (2, .ref 115), (1, .ref 0), (0, .ref 1000000)]) kc_196_1528 rfl rfl rfl rfl (xm_lt ml_196 rfl) ?_
          refine xi_goto (pc' := 23) kc_196_1531 rfl ?_
          refine xi_iload (pc' := 25) (x := 6) kc_196_23 rfl rfl ?_
          refine xi_aload_n (pc' := 26) (x := 1000000) kc_196_25 rfl rfl ?_
          refine xi_arraylength (pc' := 27) (n := 6) (v := 6) kc_196_26 rfl (xl_lenO (by decide) hov0 rfl) rfl ?_
          refine xi_bipush (pc' := 29) (v := 6) kc_196_27 rfl rfl ?_
          refine xi_isub (pc' := 30) (v := 0) kc_196_29 rfl rfl ?_
          refine xi_cmt (pc' := 1534) kc_196_30 rfl rfl ?_
          refine xi_iconst (pc' := 1535) (v := 1) kc_196_1534 rfl rfl ?_
          refine xi_ireturn kc_196_1535 mr_196 rfl ?_
          refine ⟨rfl, ?_, ?_⟩
          · rw [eh1.2.2.1]; exact hn0
          · rw [eh1.2.2.2]; exact hz0
        by_cases c44 : a1.toInt = 21
        · have qa1 : a1 = 21 := xc_of (Eq.trans (by omega) (show (21 : Int) = (21 : Int32).toInt by decide))
          subst qa1
          refine xi_idiv (pc' := 8) (v := 10) kc_103_7 rfl rfl (by decide) ?_
          refine xi_iadd (pc' := 9) (v := 15) kc_103_8 rfl rfl ?_
          refine xi_iload_n (pc' := 10) (x := 21) kc_103_9 rfl rfl ?_
          refine xi_iload_n (pc' := 11) (x := 21) kc_103_10 rfl rfl ?_
          refine xi_imul (pc' := 12) (v := 441) kc_103_11 rfl rfl ?_
          refine xi_bipush (pc' := 14) (v := 40) kc_103_12 rfl rfl ?_
          refine xi_idiv (pc' := 15) (v := 11) kc_103_14 rfl rfl (by decide) ?_
          refine xi_iadd (pc' := 16) (v := 26) kc_103_15 rfl rfl ?_
          refine xi_ireturn kc_103_16 mr_103 rfl ?_
          show xw J ov 99 102 (30, [(0, .ref 0), (1, .int 21)], [.int 26], h0) _
          refine xi_ireturn kc_102_30 mr_102 rfl ?_
          show xw J ov 100 196 (386, [(4, .int 0), (3, .ref 167), (2, .ref 115), (1, .ref 0), (0, .ref 1000000)], [.int 26], h0) _
          refine xi_aload_n (pc' := 387) (x := 115) kc_196_386 rfl rfl ?_
          refine xi_aload_n (pc' := 388) (x := 1000000) kc_196_387 rfl rfl ?_
          refine xi_iload (pc' := 390) (x := 0) kc_196_388 rfl rfl ?_
          refine xi_iconst (pc' := 391) (v := 1) kc_196_390 rfl rfl ?_
          refine xi_iadd (pc' := 392) (v := 1) kc_196_391 rfl rfl ?_
          refine xi_ialoadO (pc' := 393) (v := 21) kc_196_392 rfl (by decide) hov0 (xi_in (n := 6) (by decide) (by decide)) rfl ?_
          refine xi_virtual (mj := 22) (as := [.int 21]) (st1 := [.int 26]) (lv0 := [(0, .ref 115), (1, .int 21)]) kc_196_393 rfl rfl rfl rfl rfl (F 115 _ hl_115) (Nat.le_of_ble_eq_true rfl) (hJ _ _ _ _ (by decide)) (xm_le ml_22 rfl) rfl ?_
          refine xi_aload_n (pc' := 1) (x := 115) kc_22_0 rfl rfl ?_
          refine xi_iconst (pc' := 2) (v := 0) kc_22_1 rfl rfl ?_
          refine xi_putfield (pc' := 5) (fs' := [.int 0, .int 0, .ref 116, .ref 117, .ref 118, .ref 119, .ref 120, .ref 121, .ref 122, .ref 123, .ref 124, .ref 125, .ref 126, .ref 127, .ref 128, .ref 129, .int 4, .ref 130, .int 0, .ref 131, .ref 132, .ref 133, .ref 134, .int 0, .ref 135, .ref 136, .ref 137, .ref 138, .ref 139, .ref 140, .ref 141, .ref 142, .int 0, .int 0, .int 0, .ref 143, .ref 144, .ref 145, .ref 146, .ref 147, .ref 148, .int 0, .ref 149, .ref 150, .ref 151, .int 0, .ref 152, .ref 153, .ref 154, .ref 155, .ref 156, .ref 157, .ref 158, .ref 159, .int 0, .ref 160, .int 0, .ref 161, .ref 162, .ref 163, .ref 164, .int 0, .ref 165, .ref 166]) kc_22_2 rfl rfl rfl (F 115 _ hl_115) rfl rfl rfl (Nat.le_of_ble_eq_true rfl) rfl (fun hh1 eh1 => ?_)
          refine xi_iload_n (pc' := 6) (x := 21) kc_22_5 rfl rfl ?_
          refine xi_bipush (pc' := 8) (v := (-20)) kc_22_6 rfl rfl ?_
          refine xi_cmt (pc' := 20) kc_22_8 rfl rfl ?_
          refine xi_iload_n (pc' := 21) (x := 21) kc_22_20 rfl rfl ?_
          refine xi_bipush (pc' := 23) (v := 30) kc_22_21 rfl rfl ?_
          refine xi_cmt (pc' := 35) kc_22_23 rfl rfl ?_
          refine xi_iload_n (pc' := 36) (x := 21) kc_22_35 rfl rfl ?_
          refine xi_static (mj := 23) (as := [.int 21]) (st1 := []) (lv0 := [(0, .int 21)]) kc_22_36 rfl rfl (Nat.le_of_ble_eq_true rfl) rfl rfl (Nat.le_of_ble_eq_true rfl) (hJ _ _ _ _ (by decide)) (xm_le ml_23 rfl) rfl ?_
          refine xi_iload_n (pc' := 1) (x := 21) kc_23_0 rfl rfl ?_
          refine xi_iff (pc' := 4) kc_23_1 rfl rfl ?_
          refine xi_iconst (pc' := 5) (v := 5) kc_23_4 rfl rfl ?_
          refine xi_iload_n (pc' := 6) (x := 21) kc_23_5 rfl rfl ?_
          refine xi_iconst (pc' := 7) (v := 2) kc_23_6 rfl rfl ?_
          refine xi_idiv (pc' := 8) (v := 10) kc_23_7 rfl rfl (by decide) ?_
          refine xi_iadd (pc' := 9) (v := 15) kc_23_8 rfl rfl ?_
          refine xi_iload_n (pc' := 10) (x := 21) kc_23_9 rfl rfl ?_
          refine xi_iload_n (pc' := 11) (x := 21) kc_23_10 rfl rfl ?_
          refine xi_imul (pc' := 12) (v := 441) kc_23_11 rfl rfl ?_
          refine xi_bipush (pc' := 14) (v := 40) kc_23_12 rfl rfl ?_
          refine xi_idiv (pc' := 15) (v := 11) kc_23_14 rfl rfl (by decide) ?_
          refine xi_iadd (pc' := 16) (v := 26) kc_23_15 rfl rfl ?_
          refine xi_ireturn kc_23_16 mr_23 rfl ?_
          show xw J ov 99 22 (39, [(0, .ref 115), (1, .int 21)], [.int 26], hh1) _
          refine xi_ireturn kc_22_39 mr_22 rfl ?_
          show xw J ov 100 196 (396, [(4, .int 0), (3, .ref 167), (2, .ref 115), (1, .ref 0), (0, .ref 1000000)], [.int 26, .int 26], hh1) _
          refine xi_cmt (pc' := 1528) kc_196_396 rfl rfl ?_
          refine xi_iinc (pc' := 1531) (x := 0) (v := 6) (lv' := [(4, .int 6), (3, .ref 167), (2, .ref 115), (1, .ref 0), (0, .ref 1000000)]) kc_196_1528 rfl rfl rfl rfl (xm_lt ml_196 rfl) ?_
          refine xi_goto (pc' := 23) kc_196_1531 rfl ?_
          refine xi_iload (pc' := 25) (x := 6) kc_196_23 rfl rfl ?_
          refine xi_aload_n (pc' := 26) (x := 1000000) kc_196_25 rfl rfl ?_
          refine xi_arraylength (pc' := 27) (n := 6) (v := 6) kc_196_26 rfl (xl_lenO (by decide) hov0 rfl) rfl ?_
          refine xi_bipush (pc' := 29) (v := 6) kc_196_27 rfl rfl ?_
          refine xi_isub (pc' := 30) (v := 0) kc_196_29 rfl rfl ?_
          refine xi_cmt (pc' := 1534) kc_196_30 rfl rfl ?_
          refine xi_iconst (pc' := 1535) (v := 1) kc_196_1534 rfl rfl ?_
          refine xi_ireturn kc_196_1535 mr_196 rfl ?_
          refine ⟨rfl, ?_, ?_⟩
          · rw [eh1.2.2.1]; exact hn0
          · rw [eh1.2.2.2]; exact hz0
        by_cases c45 : a1.toInt = 22
        · have qa1 : a1 = 22 := xc_of (Eq.trans (by omega) (show (22 : Int) = (22 : Int32).toInt by decide))
          subst qa1
          refine xi_idiv (pc' := 8) (v := 11) kc_103_7 rfl rfl (by decide) ?_
          refine xi_iadd (pc' := 9) (v := 16) kc_103_8 rfl rfl ?_
          refine xi_iload_n (pc' := 10) (x := 22) kc_103_9 rfl rfl ?_
          refine xi_iload_n (pc' := 11) (x := 22) kc_103_10 rfl rfl ?_
          refine xi_imul (pc' := 12) (v := 484) kc_103_11 rfl rfl ?_
          refine xi_bipush (pc' := 14) (v := 40) kc_103_12 rfl rfl ?_
          refine xi_idiv (pc' := 15) (v := 12) kc_103_14 rfl rfl (by decide) ?_
          refine xi_iadd (pc' := 16) (v := 28) kc_103_15 rfl rfl ?_
          refine xi_ireturn kc_103_16 mr_103 rfl ?_
          show xw J ov 99 102 (30, [(0, .ref 0), (1, .int 22)], [.int 28], h0) _
          refine xi_ireturn kc_102_30 mr_102 rfl ?_
          show xw J ov 100 196 (386, [(4, .int 0), (3, .ref 167), (2, .ref 115), (1, .ref 0), (0, .ref 1000000)], [.int 28], h0) _
          refine xi_aload_n (pc' := 387) (x := 115) kc_196_386 rfl rfl ?_
          refine xi_aload_n (pc' := 388) (x := 1000000) kc_196_387 rfl rfl ?_
          refine xi_iload (pc' := 390) (x := 0) kc_196_388 rfl rfl ?_
          refine xi_iconst (pc' := 391) (v := 1) kc_196_390 rfl rfl ?_
          refine xi_iadd (pc' := 392) (v := 1) kc_196_391 rfl rfl ?_
          refine xi_ialoadO (pc' := 393) (v := 22) kc_196_392 rfl (by decide) hov0 (xi_in (n := 6) (by decide) (by decide)) rfl ?_
          refine xi_virtual (mj := 22) (as := [.int 22]) (st1 := [.int 28]) (lv0 := [(0, .ref 115), (1, .int 22)]) kc_196_393 rfl rfl rfl rfl rfl (F 115 _ hl_115) (Nat.le_of_ble_eq_true rfl) (hJ _ _ _ _ (by decide)) (xm_le ml_22 rfl) rfl ?_
          refine xi_aload_n (pc' := 1) (x := 115) kc_22_0 rfl rfl ?_
          refine xi_iconst (pc' := 2) (v := 0) kc_22_1 rfl rfl ?_
          refine xi_putfield (pc' := 5) (fs' := [.int 0, .int 0, .ref 116, .ref 117, .ref 118, .ref 119, .ref 120, .ref 121, .ref 122, .ref 123, .ref 124, .ref 125, .ref 126, .ref 127, .ref 128, .ref 129, .int 4, .ref 130, .int 0, .ref 131, .ref 132, .ref 133, .ref 134, .int 0, .ref 135, .ref 136, .ref 137, .ref 138, .ref 139, .ref 140, .ref 141, .ref 142, .int 0, .int 0, .int 0, .ref 143, .ref 144, .ref 145, .ref 146, .ref 147, .ref 148, .int 0, .ref 149, .ref 150, .ref 151, .int 0, .ref 152, .ref 153, .ref 154, .ref 155, .ref 156, .ref 157, .ref 158, .ref 159, .int 0, .ref 160, .int 0, .ref 161, .ref 162, .ref 163, .ref 164, .int 0, .ref 165, .ref 166]) kc_22_2 rfl rfl rfl (F 115 _ hl_115) rfl rfl rfl (Nat.le_of_ble_eq_true rfl) rfl (fun hh1 eh1 => ?_)
          refine xi_iload_n (pc' := 6) (x := 22) kc_22_5 rfl rfl ?_
          refine xi_bipush (pc' := 8) (v := (-20)) kc_22_6 rfl rfl ?_
          refine xi_cmt (pc' := 20) kc_22_8 rfl rfl ?_
          refine xi_iload_n (pc' := 21) (x := 22) kc_22_20 rfl rfl ?_
          refine xi_bipush (pc' := 23) (v := 30) kc_22_21 rfl rfl ?_
          refine xi_cmt (pc' := 35) kc_22_23 rfl rfl ?_
          refine xi_iload_n (pc' := 36) (x := 22) kc_22_35 rfl rfl ?_
          refine xi_static (mj := 23) (as := [.int 22]) (st1 := []) (lv0 := [(0, .int 22)]) kc_22_36 rfl rfl (Nat.le_of_ble_eq_true rfl) rfl rfl (Nat.le_of_ble_eq_true rfl) (hJ _ _ _ _ (by decide)) (xm_le ml_23 rfl) rfl ?_
          refine xi_iload_n (pc' := 1) (x := 22) kc_23_0 rfl rfl ?_
          refine xi_iff (pc' := 4) kc_23_1 rfl rfl ?_
          refine xi_iconst (pc' := 5) (v := 5) kc_23_4 rfl rfl ?_
          refine xi_iload_n (pc' := 6) (x := 22) kc_23_5 rfl rfl ?_
          refine xi_iconst (pc' := 7) (v := 2) kc_23_6 rfl rfl ?_
          refine xi_idiv (pc' := 8) (v := 11) kc_23_7 rfl rfl (by decide) ?_
          refine xi_iadd (pc' := 9) (v := 16) kc_23_8 rfl rfl ?_
          refine xi_iload_n (pc' := 10) (x := 22) kc_23_9 rfl rfl ?_
          refine xi_iload_n (pc' := 11) (x := 22) kc_23_10 rfl rfl ?_
          refine xi_imul (pc' := 12) (v := 484) kc_23_11 rfl rfl ?_
          refine xi_bipush (pc' := 14) (v := 40) kc_23_12 rfl rfl ?_
          refine xi_idiv (pc' := 15) (v := 12) kc_23_14 rfl rfl (by decide) ?_
          refine xi_iadd (pc' := 16) (v := 28) kc_23_15 rfl rfl ?_
          refine xi_ireturn kc_23_16 mr_23 rfl ?_
          show xw J ov 99 22 (39, [(0, .ref 115), (1, .int 22)], [.int 28], hh1) _
          refine xi_ireturn kc_22_39 mr_22 rfl ?_
          show xw J ov 100 196 (396, [(4, .int 0), (3, .ref 167), (2, .ref 115), (1, .ref 0), (0, .ref 1000000)], [.int 28, .int 28], hh1) _
          refine xi_cmt (pc' := 1528) kc_196_396 rfl rfl ?_
          refine xi_iinc (pc' := 1531) (x := 0) (v := 6) (lv' := [(4, .int 6), (3, .ref 167), (2, .ref 115), (1, .ref 0), (0, .ref 1000000)]) kc_196_1528 rfl rfl rfl rfl (xm_lt ml_196 rfl) ?_
          refine xi_goto (pc' := 23) kc_196_1531 rfl ?_
          refine xi_iload (pc' := 25) (x := 6) kc_196_23 rfl rfl ?_
          refine xi_aload_n (pc' := 26) (x := 1000000) kc_196_25 rfl rfl ?_
          refine xi_arraylength (pc' := 27) (n := 6) (v := 6) kc_196_26 rfl (xl_lenO (by decide) hov0 rfl) rfl ?_
          refine xi_bipush (pc' := 29) (v := 6) kc_196_27 rfl rfl ?_
          refine xi_isub (pc' := 30) (v := 0) kc_196_29 rfl rfl ?_
          refine xi_cmt (pc' := 1534) kc_196_30 rfl rfl ?_
          refine xi_iconst (pc' := 1535) (v := 1) kc_196_1534 rfl rfl ?_
          refine xi_ireturn kc_196_1535 mr_196 rfl ?_
          refine ⟨rfl, ?_, ?_⟩
          · rw [eh1.2.2.1]; exact hn0
          · rw [eh1.2.2.2]; exact hz0
        by_cases c46 : a1.toInt = 23
        · have qa1 : a1 = 23 := xc_of (Eq.trans (by omega) (show (23 : Int) = (23 : Int32).toInt by decide))
          subst qa1
          refine xi_idiv (pc' := 8) (v := 11) kc_103_7 rfl rfl (by decide) ?_
          refine xi_iadd (pc' := 9) (v := 16) kc_103_8 rfl rfl ?_
          refine xi_iload_n (pc' := 10) (x := 23) kc_103_9 rfl rfl ?_
          refine xi_iload_n (pc' := 11) (x := 23) kc_103_10 rfl rfl ?_
          refine xi_imul (pc' := 12) (v := 529) kc_103_11 rfl rfl ?_
          refine xi_bipush (pc' := 14) (v := 40) kc_103_12 rfl rfl ?_
          refine xi_idiv (pc' := 15) (v := 13) kc_103_14 rfl rfl (by decide) ?_
          refine xi_iadd (pc' := 16) (v := 29) kc_103_15 rfl rfl ?_
          refine xi_ireturn kc_103_16 mr_103 rfl ?_
          show xw J ov 99 102 (30, [(0, .ref 0), (1, .int 23)], [.int 29], h0) _
          refine xi_ireturn kc_102_30 mr_102 rfl ?_
          show xw J ov 100 196 (386, [(4, .int 0), (3, .ref 167), (2, .ref 115), (1, .ref 0), (0, .ref 1000000)], [.int 29], h0) _
          refine xi_aload_n (pc' := 387) (x := 115) kc_196_386 rfl rfl ?_
          refine xi_aload_n (pc' := 388) (x := 1000000) kc_196_387 rfl rfl ?_
          refine xi_iload (pc' := 390) (x := 0) kc_196_388 rfl rfl ?_
          refine xi_iconst (pc' := 391) (v := 1) kc_196_390 rfl rfl ?_
          refine xi_iadd (pc' := 392) (v := 1) kc_196_391 rfl rfl ?_
          refine xi_ialoadO (pc' := 393) (v := 23) kc_196_392 rfl (by decide) hov0 (xi_in (n := 6) (by decide) (by decide)) rfl ?_
          refine xi_virtual (mj := 22) (as := [.int 23]) (st1 := [.int 29]) (lv0 := [(0, .ref 115), (1, .int 23)]) kc_196_393 rfl rfl rfl rfl rfl (F 115 _ hl_115) (Nat.le_of_ble_eq_true rfl) (hJ _ _ _ _ (by decide)) (xm_le ml_22 rfl) rfl ?_
          refine xi_aload_n (pc' := 1) (x := 115) kc_22_0 rfl rfl ?_
          refine xi_iconst (pc' := 2) (v := 0) kc_22_1 rfl rfl ?_
          refine xi_putfield (pc' := 5) (fs' := [.int 0, .int 0, .ref 116, .ref 117, .ref 118, .ref 119, .ref 120, .ref 121, .ref 122, .ref 123, .ref 124, .ref 125, .ref 126, .ref 127, .ref 128, .ref 129, .int 4, .ref 130, .int 0, .ref 131, .ref 132, .ref 133, .ref 134, .int 0, .ref 135, .ref 136, .ref 137, .ref 138, .ref 139, .ref 140, .ref 141, .ref 142, .int 0, .int 0, .int 0, .ref 143, .ref 144, .ref 145, .ref 146, .ref 147, .ref 148, .int 0, .ref 149, .ref 150, .ref 151, .int 0, .ref 152, .ref 153, .ref 154, .ref 155, .ref 156, .ref 157, .ref 158, .ref 159, .int 0, .ref 160, .int 0, .ref 161, .ref 162, .ref 163, .ref 164, .int 0, .ref 165, .ref 166]) kc_22_2 rfl rfl rfl (F 115 _ hl_115) rfl rfl rfl (Nat.le_of_ble_eq_true rfl) rfl (fun hh1 eh1 => ?_)
          refine xi_iload_n (pc' := 6) (x := 23) kc_22_5 rfl rfl ?_
          refine xi_bipush (pc' := 8) (v := (-20)) kc_22_6 rfl rfl ?_
          refine xi_cmt (pc' := 20) kc_22_8 rfl rfl ?_
          refine xi_iload_n (pc' := 21) (x := 23) kc_22_20 rfl rfl ?_
          refine xi_bipush (pc' := 23) (v := 30) kc_22_21 rfl rfl ?_
          refine xi_cmt (pc' := 35) kc_22_23 rfl rfl ?_
          refine xi_iload_n (pc' := 36) (x := 23) kc_22_35 rfl rfl ?_
          refine xi_static (mj := 23) (as := [.int 23]) (st1 := []) (lv0 := [(0, .int 23)]) kc_22_36 rfl rfl (Nat.le_of_ble_eq_true rfl) rfl rfl (Nat.le_of_ble_eq_true rfl) (hJ _ _ _ _ (by decide)) (xm_le ml_23 rfl) rfl ?_
          refine xi_iload_n (pc' := 1) (x := 23) kc_23_0 rfl rfl ?_
          refine xi_iff (pc' := 4) kc_23_1 rfl rfl ?_
          refine xi_iconst (pc' := 5) (v := 5) kc_23_4 rfl rfl ?_
          refine xi_iload_n (pc' := 6) (x := 23) kc_23_5 rfl rfl ?_
          refine xi_iconst (pc' := 7) (v := 2) kc_23_6 rfl rfl ?_
          refine xi_idiv (pc' := 8) (v := 11) kc_23_7 rfl rfl (by decide) ?_
          refine xi_iadd (pc' := 9) (v := 16) kc_23_8 rfl rfl ?_
          refine xi_iload_n (pc' := 10) (x := 23) kc_23_9 rfl rfl ?_
          refine xi_iload_n (pc' := 11) (x := 23) kc_23_10 rfl rfl ?_
          refine xi_imul (pc' := 12) (v := 529) kc_23_11 rfl rfl ?_
          refine xi_bipush (pc' := 14) (v := 40) kc_23_12 rfl rfl ?_
          refine xi_idiv (pc' := 15) (v := 13) kc_23_14 rfl rfl (by decide) ?_
          refine xi_iadd (pc' := 16) (v := 29) kc_23_15 rfl rfl ?_
          refine xi_ireturn kc_23_16 mr_23 rfl ?_
          show xw J ov 99 22 (39, [(0, .ref 115), (1, .int 23)], [.int 29], hh1) _
          refine xi_ireturn kc_22_39 mr_22 rfl ?_
          show xw J ov 100 196 (396, [(4, .int 0), (3, .ref 167), (2, .ref 115), (1, .ref 0), (0, .ref 1000000)], [.int 29, .int 29], hh1) _
          refine xi_cmt (pc' := 1528) kc_196_396 rfl rfl ?_
          refine xi_iinc (pc' := 1531) (x := 0) (v := 6) (lv' := [(4, .int 6), (3, .ref 167), (2, .ref 115), (1, .ref 0), (0, .ref 1000000)]) kc_196_1528 rfl rfl rfl rfl (xm_lt ml_196 rfl) ?_
          refine xi_goto (pc' := 23) kc_196_1531 rfl ?_
          refine xi_iload (pc' := 25) (x := 6) kc_196_23 rfl rfl ?_
          refine xi_aload_n (pc' := 26) (x := 1000000) kc_196_25 rfl rfl ?_
          refine xi_arraylength (pc' := 27) (n := 6) (v := 6) kc_196_26 rfl (xl_lenO (by decide) hov0 rfl) rfl ?_
          refine xi_bipush (pc' := 29) (v := 6) kc_196_27 rfl rfl ?_
          refine xi_isub (pc' := 30) (v := 0) kc_196_29 rfl rfl ?_
          refine xi_cmt (pc' := 1534) kc_196_30 rfl rfl ?_
          refine xi_iconst (pc' := 1535) (v := 1) kc_196_1534 rfl rfl ?_
          refine xi_ireturn kc_196_1535 mr_196 rfl ?_
          refine ⟨rfl, ?_, ?_⟩
          · rw [eh1.2.2.1]; exact hn0
          · rw [eh1.2.2.2]; exact hz0
        by_cases c47 : a1.toInt = 24
        · have qa1 : a1 = 24 := xc_of (Eq.trans (by omega) (show (24 : Int) = (24 : Int32).toInt by decide))
          subst qa1
          refine xi_idiv (pc' := 8) (v := 12) kc_103_7 rfl rfl (by decide) ?_
          refine xi_iadd (pc' := 9) (v := 17) kc_103_8 rfl rfl ?_
          refine xi_iload_n (pc' := 10) (x := 24) kc_103_9 rfl rfl ?_
          refine xi_iload_n (pc' := 11) (x := 24) kc_103_10 rfl rfl ?_
          refine xi_imul (pc' := 12) (v := 576) kc_103_11 rfl rfl ?_
          refine xi_bipush (pc' := 14) (v := 40) kc_103_12 rfl rfl ?_
          refine xi_idiv (pc' := 15) (v := 14) kc_103_14 rfl rfl (by decide) ?_
          refine xi_iadd (pc' := 16) (v := 31) kc_103_15 rfl rfl ?_
          refine xi_ireturn kc_103_16 mr_103 rfl ?_
          show xw J ov 99 102 (30, [(0, .ref 0), (1, .int 24)], [.int 31], h0) _
          refine xi_ireturn kc_102_30 mr_102 rfl ?_
          show xw J ov 100 196 (386, [(4, .int 0), (3, .ref 167), (2, .ref 115), (1, .ref 0), (0, .ref 1000000)], [.int 31], h0) _
          refine xi_aload_n (pc' := 387) (x := 115) kc_196_386 rfl rfl ?_
          refine xi_aload_n (pc' := 388) (x := 1000000) kc_196_387 rfl rfl ?_
          refine xi_iload (pc' := 390) (x := 0) kc_196_388 rfl rfl ?_
          refine xi_iconst (pc' := 391) (v := 1) kc_196_390 rfl rfl ?_
          refine xi_iadd (pc' := 392) (v := 1) kc_196_391 rfl rfl ?_
          refine xi_ialoadO (pc' := 393) (v := 24) kc_196_392 rfl (by decide) hov0 (xi_in (n := 6) (by decide) (by decide)) rfl ?_
          refine xi_virtual (mj := 22) (as := [.int 24]) (st1 := [.int 31]) (lv0 := [(0, .ref 115), (1, .int 24)]) kc_196_393 rfl rfl rfl rfl rfl (F 115 _ hl_115) (Nat.le_of_ble_eq_true rfl) (hJ _ _ _ _ (by decide)) (xm_le ml_22 rfl) rfl ?_
          refine xi_aload_n (pc' := 1) (x := 115) kc_22_0 rfl rfl ?_
          refine xi_iconst (pc' := 2) (v := 0) kc_22_1 rfl rfl ?_
          refine xi_putfield (pc' := 5) (fs' := [.int 0, .int 0, .ref 116, .ref 117, .ref 118, .ref 119, .ref 120, .ref 121, .ref 122, .ref 123, .ref 124, .ref 125, .ref 126, .ref 127, .ref 128, .ref 129, .int 4, .ref 130, .int 0, .ref 131, .ref 132, .ref 133, .ref 134, .int 0, .ref 135, .ref 136, .ref 137, .ref 138, .ref 139, .ref 140, .ref 141, .ref 142, .int 0, .int 0, .int 0, .ref 143, .ref 144, .ref 145, .ref 146, .ref 147, .ref 148, .int 0, .ref 149, .ref 150, .ref 151, .int 0, .ref 152, .ref 153, .ref 154, .ref 155, .ref 156, .ref 157, .ref 158, .ref 159, .int 0, .ref 160, .int 0, .ref 161, .ref 162, .ref 163, .ref 164, .int 0, .ref 165, .ref 166]) kc_22_2 rfl rfl rfl (F 115 _ hl_115) rfl rfl rfl (Nat.le_of_ble_eq_true rfl) rfl (fun hh1 eh1 => ?_)
          refine xi_iload_n (pc' := 6) (x := 24) kc_22_5 rfl rfl ?_
          refine xi_bipush (pc' := 8) (v := (-20)) kc_22_6 rfl rfl ?_
          refine xi_cmt (pc' := 20) kc_22_8 rfl rfl ?_
          refine xi_iload_n (pc' := 21) (x := 24) kc_22_20 rfl rfl ?_
          refine xi_bipush (pc' := 23) (v := 30) kc_22_21 rfl rfl ?_
          refine xi_cmt (pc' := 35) kc_22_23 rfl rfl ?_
          refine xi_iload_n (pc' := 36) (x := 24) kc_22_35 rfl rfl ?_
          refine xi_static (mj := 23) (as := [.int 24]) (st1 := []) (lv0 := [(0, .int 24)]) kc_22_36 rfl rfl (Nat.le_of_ble_eq_true rfl) rfl rfl (Nat.le_of_ble_eq_true rfl) (hJ _ _ _ _ (by decide)) (xm_le ml_23 rfl) rfl ?_
          refine xi_iload_n (pc' := 1) (x := 24) kc_23_0 rfl rfl ?_
          refine xi_iff (pc' := 4) kc_23_1 rfl rfl ?_
          refine xi_iconst (pc' := 5) (v := 5) kc_23_4 rfl rfl ?_
          refine xi_iload_n (pc' := 6) (x := 24) kc_23_5 rfl rfl ?_
          refine xi_iconst (pc' := 7) (v := 2) kc_23_6 rfl rfl ?_
          refine xi_idiv (pc' := 8) (v := 12) kc_23_7 rfl rfl (by decide) ?_
          refine xi_iadd (pc' := 9) (v := 17) kc_23_8 rfl rfl ?_
          refine xi_iload_n (pc' := 10) (x := 24) kc_23_9 rfl rfl ?_
          refine xi_iload_n (pc' := 11) (x := 24) kc_23_10 rfl rfl ?_
          refine xi_imul (pc' := 12) (v := 576) kc_23_11 rfl rfl ?_
          refine xi_bipush (pc' := 14) (v := 40) kc_23_12 rfl rfl ?_
          refine xi_idiv (pc' := 15) (v := 14) kc_23_14 rfl rfl (by decide) ?_
          refine xi_iadd (pc' := 16) (v := 31) kc_23_15 rfl rfl ?_
          refine xi_ireturn kc_23_16 mr_23 rfl ?_
          show xw J ov 99 22 (39, [(0, .ref 115), (1, .int 24)], [.int 31], hh1) _
          refine xi_ireturn kc_22_39 mr_22 rfl ?_
          show xw J ov 100 196 (396, [(4, .int 0), (3, .ref 167), (2, .ref 115), (1, .ref 0), (0, .ref 1000000)], [.int 31, .int 31], hh1) _
          refine xi_cmt (pc' := 1528) kc_196_396 rfl rfl ?_
          refine xi_iinc (pc' := 1531) (x := 0) (v := 6) (lv' := [(4, .int 6), (3, .ref 167), (2, .ref 115), (1, .ref 0), (0, .ref 1000000)]) kc_196_1528 rfl rfl rfl rfl (xm_lt ml_196 rfl) ?_
          refine xi_goto (pc' := 23) kc_196_1531 rfl ?_
          refine xi_iload (pc' := 25) (x := 6) kc_196_23 rfl rfl ?_
          refine xi_aload_n (pc' := 26) (x := 1000000) kc_196_25 rfl rfl ?_
          refine xi_arraylength (pc' := 27) (n := 6) (v := 6) kc_196_26 rfl (xl_lenO (by decide) hov0 rfl) rfl ?_
          refine xi_bipush (pc' := 29) (v := 6) kc_196_27 rfl rfl ?_
          refine xi_isub (pc' := 30) (v := 0) kc_196_29 rfl rfl ?_
          refine xi_cmt (pc' := 1534) kc_196_30 rfl rfl ?_
          refine xi_iconst (pc' := 1535) (v := 1) kc_196_1534 rfl rfl ?_
          refine xi_ireturn kc_196_1535 mr_196 rfl ?_
          refine ⟨rfl, ?_, ?_⟩
          · rw [eh1.2.2.1]; exact hn0
          · rw [eh1.2.2.2]; exact hz0
        by_cases c48 : a1.toInt = 25
        · have qa1 : a1 = 25 := xc_of (Eq.trans (by omega) (show (25 : Int) = (25 : Int32).toInt by decide))
          subst qa1
          refine xi_idiv (pc' := 8) (v := 12) kc_103_7 rfl rfl (by decide) ?_
          refine xi_iadd (pc' := 9) (v := 17) kc_103_8 rfl rfl ?_
          refine xi_iload_n (pc' := 10) (x := 25) kc_103_9 rfl rfl ?_
          refine xi_iload_n (pc' := 11) (x := 25) kc_103_10 rfl rfl ?_
          refine xi_imul (pc' := 12) (v := 625) kc_103_11 rfl rfl ?_
          refine xi_bipush (pc' := 14) (v := 40) kc_103_12 rfl rfl ?_
          refine xi_idiv (pc' := 15) (v := 15) kc_103_14 rfl rfl (by decide) ?_
          refine xi_iadd (pc' := 16) (v := 32) kc_103_15 rfl rfl ?_
          refine xi_ireturn kc_103_16 mr_103 rfl ?_
          show xw J ov 99 102 (30, [(0, .ref 0), (1, .int 25)], [.int 32], h0) _
          refine xi_ireturn kc_102_30 mr_102 rfl ?_
          show xw J ov 100 196 (386, [(4, .int 0), (3, .ref 167), (2, .ref 115), (1, .ref 0), (0, .ref 1000000)], [.int 32], h0) _
          refine xi_aload_n (pc' := 387) (x := 115) kc_196_386 rfl rfl ?_
          refine xi_aload_n (pc' := 388) (x := 1000000) kc_196_387 rfl rfl ?_
          refine xi_iload (pc' := 390) (x := 0) kc_196_388 rfl rfl ?_
          refine xi_iconst (pc' := 391) (v := 1) kc_196_390 rfl rfl ?_
          refine xi_iadd (pc' := 392) (v := 1) kc_196_391 rfl rfl ?_
          refine xi_ialoadO (pc' := 393) (v := 25) kc_196_392 rfl (by decide) hov0 (xi_in (n := 6) (by decide) (by decide)) rfl ?_
          refine xi_virtual (mj := 22) (as := [.int 25]) (st1 := [.int 32]) (lv0 := [(0, .ref 115), (1, .int 25)]) kc_196_393 rfl rfl rfl rfl rfl (F 115 _ hl_115) (Nat.le_of_ble_eq_true rfl) (hJ _ _ _ _ (by decide)) (xm_le ml_22 rfl) rfl ?_
          refine xi_aload_n (pc' := 1) (x := 115) kc_22_0 rfl rfl ?_
          refine xi_iconst (pc' := 2) (v := 0) kc_22_1 rfl rfl ?_
          refine xi_putfield (pc' := 5) (fs' := [.int 0, .int 0, .ref 116, .ref 117, .ref 118, .ref 119, .ref 120, .ref 121, .ref 122, .ref 123, .ref 124, .ref 125, .ref 126, .ref 127, .ref 128, .ref 129, .int 4, .ref 130, .int 0, .ref 131, .ref 132, .ref 133, .ref 134, .int 0, .ref 135, .ref 136, .ref 137, .ref 138, .ref 139, .ref 140, .ref 141, .ref 142, .int 0, .int 0, .int 0, .ref 143, .ref 144, .ref 145, .ref 146, .ref 147, .ref 148, .int 0, .ref 149, .ref 150, .ref 151, .int 0, .ref 152, .ref 153, .ref 154, .ref 155, .ref 156, .ref 157, .ref 158, .ref 159, .int 0, .ref 160, .int 0, .ref 161, .ref 162, .ref 163, .ref 164, .int 0, .ref 165, .ref 166]) kc_22_2 rfl rfl rfl (F 115 _ hl_115) rfl rfl rfl (Nat.le_of_ble_eq_true rfl) rfl (fun hh1 eh1 => ?_)
          refine xi_iload_n (pc' := 6) (x := 25) kc_22_5 rfl rfl ?_
          refine xi_bipush (pc' := 8) (v := (-20)) kc_22_6 rfl rfl ?_
          refine xi_cmt (pc' := 20) kc_22_8 rfl rfl ?_
          refine xi_iload_n (pc' := 21) (x := 25) kc_22_20 rfl rfl ?_
          refine xi_bipush (pc' := 23) (v := 30) kc_22_21 rfl rfl ?_
          refine xi_cmt (pc' := 35) kc_22_23 rfl rfl ?_
          refine xi_iload_n (pc' := 36) (x := 25) kc_22_35 rfl rfl ?_
          refine xi_static (mj := 23) (as := [.int 25]) (st1 := []) (lv0 := [(0, .int 25)]) kc_22_36 rfl rfl (Nat.le_of_ble_eq_true rfl) rfl rfl (Nat.le_of_ble_eq_true rfl) (hJ _ _ _ _ (by decide)) (xm_le ml_23 rfl) rfl ?_
          refine xi_iload_n (pc' := 1) (x := 25) kc_23_0 rfl rfl ?_
          refine xi_iff (pc' := 4) kc_23_1 rfl rfl ?_
          refine xi_iconst (pc' := 5) (v := 5) kc_23_4 rfl rfl ?_
          refine xi_iload_n (pc' := 6) (x := 25) kc_23_5 rfl rfl ?_
          refine xi_iconst (pc' := 7) (v := 2) kc_23_6 rfl rfl ?_
          refine xi_idiv (pc' := 8) (v := 12) kc_23_7 rfl rfl (by decide) ?_
          refine xi_iadd (pc' := 9) (v := 17) kc_23_8 rfl rfl ?_
          refine xi_iload_n (pc' := 10) (x := 25) kc_23_9 rfl rfl ?_
          refine xi_iload_n (pc' := 11) (x := 25) kc_23_10 rfl rfl ?_
          refine xi_imul (pc' := 12) (v := 625) kc_23_11 rfl rfl ?_
          refine xi_bipush (pc' := 14) (v := 40) kc_23_12 rfl rfl ?_
          refine xi_idiv (pc' := 15) (v := 15) kc_23_14 rfl rfl (by decide) ?_
          refine xi_iadd (pc' := 16) (v := 32) kc_23_15 rfl rfl ?_
          refine xi_ireturn kc_23_16 mr_23 rfl ?_
          show xw J ov 99 22 (39, [(0, .ref 115), (1, .int 25)], [.int 32], hh1) _
          refine xi_ireturn kc_22_39 mr_22 rfl ?_
          show xw J ov 100 196 (396, [(4, .int 0), (3, .ref 167), (2, .ref 115), (1, .ref 0), (0, .ref 1000000)], [.int 32, .int 32], hh1) _
          refine xi_cmt (pc' := 1528) kc_196_396 rfl rfl ?_
          refine xi_iinc (pc' := 1531) (x := 0) (v := 6) (lv' := [(4, .int 6), (3, .ref 167), (2, .ref 115), (1, .ref 0), (0, .ref 1000000)]) kc_196_1528 rfl rfl rfl rfl (xm_lt ml_196 rfl) ?_
          refine xi_goto (pc' := 23) kc_196_1531 rfl ?_
          refine xi_iload (pc' := 25) (x := 6) kc_196_23 rfl rfl ?_
          refine xi_aload_n (pc' := 26) (x := 1000000) kc_196_25 rfl rfl ?_
          refine xi_arraylength (pc' := 27) (n := 6) (v := 6) kc_196_26 rfl (xl_lenO (by decide) hov0 rfl) rfl ?_
          refine xi_bipush (pc' := 29) (v := 6) kc_196_27 rfl rfl ?_
          refine xi_isub (pc' := 30) (v := 0) kc_196_29 rfl rfl ?_
          refine xi_cmt (pc' := 1534) kc_196_30 rfl rfl ?_
          refine xi_iconst (pc' := 1535) (v := 1) kc_196_1534 rfl rfl ?_
          refine xi_ireturn kc_196_1535 mr_196 rfl ?_
          refine ⟨rfl, ?_, ?_⟩
          · rw [eh1.2.2.1]; exact hn0
          · rw [eh1.2.2.2]; exact hz0
        by_cases c49 : a1.toInt = 26
        · have qa1 : a1 = 26 := xc_of (Eq.trans (by omega) (show (26 : Int) = (26 : Int32).toInt by decide))
          subst qa1
          refine xi_idiv (pc' := 8) (v := 13) kc_103_7 rfl rfl (by decide) ?_
          refine xi_iadd (pc' := 9) (v := 18) kc_103_8 rfl rfl ?_
          refine xi_iload_n (pc' := 10) (x := 26) kc_103_9 rfl rfl ?_
          refine xi_iload_n (pc' := 11) (x := 26) kc_103_10 rfl rfl ?_
          refine xi_imul (pc' := 12) (v := 676) kc_103_11 rfl rfl ?_
          refine xi_bipush (pc' := 14) (v := 40) kc_103_12 rfl rfl ?_
          refine xi_idiv (pc' := 15) (v := 16) kc_103_14 rfl rfl (by decide) ?_
          refine xi_iadd (pc' := 16) (v := 34) kc_103_15 rfl rfl ?_
          refine xi_ireturn kc_103_16 mr_103 rfl ?_
          show xw J ov 99 102 (30, [(0, .ref 0), (1, .int 26)], [.int 34], h0) _
          refine xi_ireturn kc_102_30 mr_102 rfl ?_
          show xw J ov 100 196 (386, [(4, .int 0), (3, .ref 167), (2, .ref 115), (1, .ref 0), (0, .ref 1000000)], [.int 34], h0) _
          refine xi_aload_n (pc' := 387) (x := 115) kc_196_386 rfl rfl ?_
          refine xi_aload_n (pc' := 388) (x := 1000000) kc_196_387 rfl rfl ?_
          refine xi_iload (pc' := 390) (x := 0) kc_196_388 rfl rfl ?_
          refine xi_iconst (pc' := 391) (v := 1) kc_196_390 rfl rfl ?_
          refine xi_iadd (pc' := 392) (v := 1) kc_196_391 rfl rfl ?_
          refine xi_ialoadO (pc' := 393) (v := 26) kc_196_392 rfl (by decide) hov0 (xi_in (n := 6) (by decide) (by decide)) rfl ?_
          refine xi_virtual (mj := 22) (as := [.int 26]) (st1 := [.int 34]) (lv0 := [(0, .ref 115), (1, .int 26)]) kc_196_393 rfl rfl rfl rfl rfl (F 115 _ hl_115) (Nat.le_of_ble_eq_true rfl) (hJ _ _ _ _ (by decide)) (xm_le ml_22 rfl) rfl ?_
          refine xi_aload_n (pc' := 1) (x := 115) kc_22_0 rfl rfl ?_
          refine xi_iconst (pc' := 2) (v := 0) kc_22_1 rfl rfl ?_
          refine xi_putfield (pc' := 5) (fs' := [.int 0, .int 0, .ref 116, .ref 117, .ref 118, .ref 119, .ref 120, .ref 121, .ref 122, .ref 123, .ref 124, .ref 125, .ref 126, .ref 127, .ref 128, .ref 129, .int 4, .ref 130, .int 0, .ref 131, .ref 132, .ref 133, .ref 134, .int 0, .ref 135, .ref 136, .ref 137, .ref 138, .ref 139, .ref 140, .ref 141, .ref 142, .int 0, .int 0, .int 0, .ref 143, .ref 144, .ref 145, .ref 146, .ref 147, .ref 148, .int 0, .ref 149, .ref 150, .ref 151, .int 0, .ref 152, .ref 153, .ref 154, .ref 155, .ref 156, .ref 157, .ref 158, .ref 159, .int 0, .ref 160, .int 0, .ref 161, .ref 162, .ref 163, .ref 164, .int 0, .ref 165, .ref 166]) kc_22_2 rfl rfl rfl (F 115 _ hl_115) rfl rfl rfl (Nat.le_of_ble_eq_true rfl) rfl (fun hh1 eh1 => ?_)
          refine xi_iload_n (pc' := 6) (x := 26) kc_22_5 rfl rfl ?_
          refine xi_bipush (pc' := 8) (v := (-20)) kc_22_6 rfl rfl ?_
          refine xi_cmt (pc' := 20) kc_22_8 rfl rfl ?_
          refine xi_iload_n (pc' := 21) (x := 26) kc_22_20 rfl rfl ?_
          refine xi_bipush (pc' := 23) (v := 30) kc_22_21 rfl rfl ?_
          refine xi_cmt (pc' := 35) kc_22_23 rfl rfl ?_
          refine xi_iload_n (pc' := 36) (x := 26) kc_22_35 rfl rfl ?_
          refine xi_static (mj := 23) (as := [.int 26]) (st1 := []) (lv0 := [(0, .int 26)]) kc_22_36 rfl rfl (Nat.le_of_ble_eq_true rfl) rfl rfl (Nat.le_of_ble_eq_true rfl) (hJ _ _ _ _ (by decide)) (xm_le ml_23 rfl) rfl ?_
          refine xi_iload_n (pc' := 1) (x := 26) kc_23_0 rfl rfl ?_
          refine xi_iff (pc' := 4) kc_23_1 rfl rfl ?_
          refine xi_iconst (pc' := 5) (v := 5) kc_23_4 rfl rfl ?_
          refine xi_iload_n (pc' := 6) (x := 26) kc_23_5 rfl rfl ?_
          refine xi_iconst (pc' := 7) (v := 2) kc_23_6 rfl rfl ?_
          refine xi_idiv (pc' := 8) (v := 13) kc_23_7 rfl rfl (by decide) ?_
          refine xi_iadd (pc' := 9) (v := 18) kc_23_8 rfl rfl ?_
          refine xi_iload_n (pc' := 10) (x := 26) kc_23_9 rfl rfl ?_
          refine xi_iload_n (pc' := 11) (x := 26) kc_23_10 rfl rfl ?_
          refine xi_imul (pc' := 12) (v := 676) kc_23_11 rfl rfl ?_
          refine xi_bipush (pc' := 14) (v := 40) kc_23_12 rfl rfl ?_
          refine xi_idiv (pc' := 15) (v := 16) kc_23_14 rfl rfl (by decide) ?_
          refine xi_iadd (pc' := 16) (v := 34) kc_23_15 rfl rfl ?_
          refine xi_ireturn kc_23_16 mr_23 rfl ?_
          show xw J ov 99 22 (39, [(0, .ref 115), (1, .int 26)], [.int 34], hh1) _
          refine xi_ireturn kc_22_39 mr_22 rfl ?_
          show xw J ov 100 196 (396, [(4, .int 0), (3, .ref 167), (2, .ref 115), (1, .ref 0), (0, .ref 1000000)], [.int 34, .int 34], hh1) _
          refine xi_cmt (pc' := 1528) kc_196_396 rfl rfl ?_
          refine xi_iinc (pc' := 1531) (x := 0) (v := 6) (lv' := [(4, .int 6), (3, .ref 167), (2, .ref 115), (1, .ref 0), (0, .ref 1000000)]) kc_196_1528 rfl rfl rfl rfl (xm_lt ml_196 rfl) ?_
          refine xi_goto (pc' := 23) kc_196_1531 rfl ?_
          refine xi_iload (pc' := 25) (x := 6) kc_196_23 rfl rfl ?_
          refine xi_aload_n (pc' := 26) (x := 1000000) kc_196_25 rfl rfl ?_
          refine xi_arraylength (pc' := 27) (n := 6) (v := 6) kc_196_26 rfl (xl_lenO (by decide) hov0 rfl) rfl ?_
          refine xi_bipush (pc' := 29) (v := 6) kc_196_27 rfl rfl ?_
          refine xi_isub (pc' := 30) (v := 0) kc_196_29 rfl rfl ?_
          refine xi_cmt (pc' := 1534) kc_196_30 rfl rfl ?_
          refine xi_iconst (pc' := 1535) (v := 1) kc_196_1534 rfl rfl ?_
          refine xi_ireturn kc_196_1535 mr_196 rfl ?_
          refine ⟨rfl, ?_, ?_⟩
          · rw [eh1.2.2.1]; exact hn0
          · rw [eh1.2.2.2]; exact hz0
        by_cases c50 : a1.toInt = 27
        · have qa1 : a1 = 27 := xc_of (Eq.trans (by omega) (show (27 : Int) = (27 : Int32).toInt by decide))
          subst qa1
          refine xi_idiv (pc' := 8) (v := 13) kc_103_7 rfl rfl (by decide) ?_
          refine xi_iadd (pc' := 9) (v := 18) kc_103_8 rfl rfl ?_
          refine xi_iload_n (pc' := 10) (x := 27) kc_103_9 rfl rfl ?_
          refine xi_iload_n (pc' := 11) (x := 27) kc_103_10 rfl rfl ?_
          refine xi_imul (pc' := 12) (v := 729) kc_103_11 rfl rfl ?_
          refine xi_bipush (pc' := 14) (v := 40) kc_103_12 rfl rfl ?_
          refine xi_idiv (pc' := 15) (v := 18) kc_103_14 rfl rfl (by decide) ?_
          refine xi_iadd (pc' := 16) (v := 36) kc_103_15 rfl rfl ?_
          refine xi_ireturn kc_103_16 mr_103 rfl ?_
          show xw J ov 99 102 (30, [(0, .ref 0), (1, .int 27)], [.int 36], h0) _
          refine xi_ireturn kc_102_30 mr_102 rfl ?_
          show xw J ov 100 196 (386, [(4, .int 0), (3, .ref 167), (2, .ref 115), (1, .ref 0), (0, .ref 1000000)], [.int 36], h0) _
          refine xi_aload_n (pc' := 387) (x := 115) kc_196_386 rfl rfl ?_
          refine xi_aload_n (pc' := 388) (x := 1000000) kc_196_387 rfl rfl ?_
          refine xi_iload (pc' := 390) (x := 0) kc_196_388 rfl rfl ?_
          refine xi_iconst (pc' := 391) (v := 1) kc_196_390 rfl rfl ?_
          refine xi_iadd (pc' := 392) (v := 1) kc_196_391 rfl rfl ?_
          refine xi_ialoadO (pc' := 393) (v := 27) kc_196_392 rfl (by decide) hov0 (xi_in (n := 6) (by decide) (by decide)) rfl ?_
          refine xi_virtual (mj := 22) (as := [.int 27]) (st1 := [.int 36]) (lv0 := [(0, .ref 115), (1, .int 27)]) kc_196_393 rfl rfl rfl rfl rfl (F 115 _ hl_115) (Nat.le_of_ble_eq_true rfl) (hJ _ _ _ _ (by decide)) (xm_le ml_22 rfl) rfl ?_
          refine xi_aload_n (pc' := 1) (x := 115) kc_22_0 rfl rfl ?_
          refine xi_iconst (pc' := 2) (v := 0) kc_22_1 rfl rfl ?_
          refine xi_putfield (pc' := 5) (fs' := [.int 0, .int 0, .ref 116, .ref 117, .ref 118, .ref 119, .ref 120, .ref 121, .ref 122, .ref 123, .ref 124, .ref 125, .ref 126, .ref 127, .ref 128, .ref 129, .int 4, .ref 130, .int 0, .ref 131, .ref 132, .ref 133, .ref 134, .int 0, .ref 135, .ref 136, .ref 137, .ref 138, .ref 139, .ref 140, .ref 141, .ref 142, .int 0, .int 0, .int 0, .ref 143, .ref 144, .ref 145, .ref 146, .ref 147, .ref 148, .int 0, .ref 149, .ref 150, .ref 151, .int 0, .ref 152, .ref 153, .ref 154, .ref 155, .ref 156, .ref 157, .ref 158, .ref 159, .int 0, .ref 160, .int 0, .ref 161, .ref 162, .ref 163, .ref 164, .int 0, .ref 165, .ref 166]) kc_22_2 rfl rfl rfl (F 115 _ hl_115) rfl rfl rfl (Nat.le_of_ble_eq_true rfl) rfl (fun hh1 eh1 => ?_)
          refine xi_iload_n (pc' := 6) (x := 27) kc_22_5 rfl rfl ?_
          refine xi_bipush (pc' := 8) (v := (-20)) kc_22_6 rfl rfl ?_
          refine xi_cmt (pc' := 20) kc_22_8 rfl rfl ?_
          refine xi_iload_n (pc' := 21) (x := 27) kc_22_20 rfl rfl ?_
          refine xi_bipush (pc' := 23) (v := 30) kc_22_21 rfl rfl ?_
          refine xi_cmt (pc' := 35) kc_22_23 rfl rfl ?_
          refine xi_iload_n (pc' := 36) (x := 27) kc_22_35 rfl rfl ?_
          refine xi_static (mj := 23) (as := [.int 27]) (st1 := []) (lv0 := [(0, .int 27)]) kc_22_36 rfl rfl (Nat.le_of_ble_eq_true rfl) rfl rfl (Nat.le_of_ble_eq_true rfl) (hJ _ _ _ _ (by decide)) (xm_le ml_23 rfl) rfl ?_
          refine xi_iload_n (pc' := 1) (x := 27) kc_23_0 rfl rfl ?_
          refine xi_iff (pc' := 4) kc_23_1 rfl rfl ?_
          refine xi_iconst (pc' := 5) (v := 5) kc_23_4 rfl rfl ?_
          refine xi_iload_n (pc' := 6) (x := 27) kc_23_5 rfl rfl ?_
          refine xi_iconst (pc' := 7) (v := 2) kc_23_6 rfl rfl ?_
          refine xi_idiv (pc' := 8) (v := 13) kc_23_7 rfl rfl (by decide) ?_
          refine xi_iadd (pc' := 9) (v := 18) kc_23_8 rfl rfl ?_
          refine xi_iload_n (pc' := 10) (x := 27) kc_23_9 rfl rfl ?_
          refine xi_iload_n (pc' := 11) (x := 27) kc_23_10 rfl rfl ?_
          refine xi_imul (pc' := 12) (v := 729) kc_23_11 rfl rfl ?_
          refine xi_bipush (pc' := 14) (v := 40) kc_23_12 rfl rfl ?_
          refine xi_idiv (pc' := 15) (v := 18) kc_23_14 rfl rfl (by decide) ?_
          refine xi_iadd (pc' := 16) (v := 36) kc_23_15 rfl rfl ?_
          refine xi_ireturn kc_23_16 mr_23 rfl ?_
          show xw J ov 99 22 (39, [(0, .ref 115), (1, .int 27)], [.int 36], hh1) _
          refine xi_ireturn kc_22_39 mr_22 rfl ?_
          show xw J ov 100 196 (396, [(4, .int 0), (3, .ref 167), (2, .ref 115), (1, .ref 0), (0, .ref 1000000)], [.int 36, .int 36], hh1) _
          refine xi_cmt (pc' := 1528) kc_196_396 rfl rfl ?_
          refine xi_iinc (pc' := 1531) (x := 0) (v := 6) (lv' := [(4, .int 6), (3, .ref 167), (2, .ref 115), (1, .ref 0), (0, .ref 1000000)]) kc_196_1528 rfl rfl rfl rfl (xm_lt ml_196 rfl) ?_
          refine xi_goto (pc' := 23) kc_196_1531 rfl ?_
          refine xi_iload (pc' := 25) (x := 6) kc_196_23 rfl rfl ?_
          refine xi_aload_n (pc' := 26) (x := 1000000) kc_196_25 rfl rfl ?_
          refine xi_arraylength (pc' := 27) (n := 6) (v := 6) kc_196_26 rfl (xl_lenO (by decide) hov0 rfl) rfl ?_
          refine xi_bipush (pc' := 29) (v := 6) kc_196_27 rfl rfl ?_
          refine xi_isub (pc' := 30) (v := 0) kc_196_29 rfl rfl ?_
          refine xi_cmt (pc' := 1534) kc_196_30 rfl rfl ?_
          refine xi_iconst (pc' := 1535) (v := 1) kc_196_1534 rfl rfl ?_
          refine xi_ireturn kc_196_1535 mr_196 rfl ?_
          refine ⟨rfl, ?_, ?_⟩
          · rw [eh1.2.2.1]; exact hn0
          · rw [eh1.2.2.2]; exact hz0
        by_cases c51 : a1.toInt = 28
        · have qa1 : a1 = 28 := xc_of (Eq.trans (by omega) (show (28 : Int) = (28 : Int32).toInt by decide))
          subst qa1
          refine xi_idiv (pc' := 8) (v := 14) kc_103_7 rfl rfl (by decide) ?_
          refine xi_iadd (pc' := 9) (v := 19) kc_103_8 rfl rfl ?_
          refine xi_iload_n (pc' := 10) (x := 28) kc_103_9 rfl rfl ?_
          refine xi_iload_n (pc' := 11) (x := 28) kc_103_10 rfl rfl ?_
          refine xi_imul (pc' := 12) (v := 784) kc_103_11 rfl rfl ?_
          refine xi_bipush (pc' := 14) (v := 40) kc_103_12 rfl rfl ?_
          refine xi_idiv (pc' := 15) (v := 19) kc_103_14 rfl rfl (by decide) ?_
          refine xi_iadd (pc' := 16) (v := 38) kc_103_15 rfl rfl ?_
          refine xi_ireturn kc_103_16 mr_103 rfl ?_
          show xw J ov 99 102 (30, [(0, .ref 0), (1, .int 28)], [.int 38], h0) _
          refine xi_ireturn kc_102_30 mr_102 rfl ?_
          show xw J ov 100 196 (386, [(4, .int 0), (3, .ref 167), (2, .ref 115), (1, .ref 0), (0, .ref 1000000)], [.int 38], h0) _
          refine xi_aload_n (pc' := 387) (x := 115) kc_196_386 rfl rfl ?_
          refine xi_aload_n (pc' := 388) (x := 1000000) kc_196_387 rfl rfl ?_
          refine xi_iload (pc' := 390) (x := 0) kc_196_388 rfl rfl ?_
          refine xi_iconst (pc' := 391) (v := 1) kc_196_390 rfl rfl ?_
          refine xi_iadd (pc' := 392) (v := 1) kc_196_391 rfl rfl ?_
          refine xi_ialoadO (pc' := 393) (v := 28) kc_196_392 rfl (by decide) hov0 (xi_in (n := 6) (by decide) (by decide)) rfl ?_
          refine xi_virtual (mj := 22) (as := [.int 28]) (st1 := [.int 38]) (lv0 := [(0, .ref 115), (1, .int 28)]) kc_196_393 rfl rfl rfl rfl rfl (F 115 _ hl_115) (Nat.le_of_ble_eq_true rfl) (hJ _ _ _ _ (by decide)) (xm_le ml_22 rfl) rfl ?_
          refine xi_aload_n (pc' := 1) (x := 115) kc_22_0 rfl rfl ?_
          refine xi_iconst (pc' := 2) (v := 0) kc_22_1 rfl rfl ?_
          refine xi_putfield (pc' := 5) (fs' := [.int 0, .int 0, .ref 116, .ref 117, .ref 118, .ref 119, .ref 120, .ref 121, .ref 122, .ref 123, .ref 124, .ref 125, .ref 126, .ref 127, .ref 128, .ref 129, .int 4, .ref 130, .int 0, .ref 131, .ref 132, .ref 133, .ref 134, .int 0, .ref 135, .ref 136, .ref 137, .ref 138, .ref 139, .ref 140, .ref 141, .ref 142, .int 0, .int 0, .int 0, .ref 143, .ref 144, .ref 145, .ref 146, .ref 147, .ref 148, .int 0, .ref 149, .ref 150, .ref 151, .int 0, .ref 152, .ref 153, .ref 154, .ref 155, .ref 156, .ref 157, .ref 158, .ref 159, .int 0, .ref 160, .int 0, .ref 161, .ref 162, .ref 163, .ref 164, .int 0, .ref 165, .ref 166]) kc_22_2 rfl rfl rfl (F 115 _ hl_115) rfl rfl rfl (Nat.le_of_ble_eq_true rfl) rfl (fun hh1 eh1 => ?_)
          refine xi_iload_n (pc' := 6) (x := 28) kc_22_5 rfl rfl ?_
          refine xi_bipush (pc' := 8) (v := (-20)) kc_22_6 rfl rfl ?_
          refine xi_cmt (pc' := 20) kc_22_8 rfl rfl ?_
          refine xi_iload_n (pc' := 21) (x := 28) kc_22_20 rfl rfl ?_
          refine xi_bipush (pc' := 23) (v := 30) kc_22_21 rfl rfl ?_
          refine xi_cmt (pc' := 35) kc_22_23 rfl rfl ?_
          refine xi_iload_n (pc' := 36) (x := 28) kc_22_35 rfl rfl ?_
          refine xi_static (mj := 23) (as := [.int 28]) (st1 := []) (lv0 := [(0, .int 28)]) kc_22_36 rfl rfl (Nat.le_of_ble_eq_true rfl) rfl rfl (Nat.le_of_ble_eq_true rfl) (hJ _ _ _ _ (by decide)) (xm_le ml_23 rfl) rfl ?_
          refine xi_iload_n (pc' := 1) (x := 28) kc_23_0 rfl rfl ?_
          refine xi_iff (pc' := 4) kc_23_1 rfl rfl ?_
          refine xi_iconst (pc' := 5) (v := 5) kc_23_4 rfl rfl ?_
          refine xi_iload_n (pc' := 6) (x := 28) kc_23_5 rfl rfl ?_
          refine xi_iconst (pc' := 7) (v := 2) kc_23_6 rfl rfl ?_
          refine xi_idiv (pc' := 8) (v := 14) kc_23_7 rfl rfl (by decide) ?_
          refine xi_iadd (pc' := 9) (v := 19) kc_23_8 rfl rfl ?_
          refine xi_iload_n (pc' := 10) (x := 28) kc_23_9 rfl rfl ?_
          refine xi_iload_n (pc' := 11) (x := 28) kc_23_10 rfl rfl ?_
          refine xi_imul (pc' := 12) (v := 784) kc_23_11 rfl rfl ?_
          refine xi_bipush (pc' := 14) (v := 40) kc_23_12 rfl rfl ?_
          refine xi_idiv (pc' := 15) (v := 19) kc_23_14 rfl rfl (by decide) ?_
          refine xi_iadd (pc' := 16) (v := 38) kc_23_15 rfl rfl ?_
          refine xi_ireturn kc_23_16 mr_23 rfl ?_
          show xw J ov 99 22 (39, [(0, .ref 115), (1, .int 28)], [.int 38], hh1) _
          refine xi_ireturn kc_22_39 mr_22 rfl ?_
          show xw J ov 100 196 (396, [(4, .int 0), (3, .ref 167), (2, .ref 115), (1, .ref 0), (0, .ref 1000000)], [.int 38, .int 38], hh1) _
          refine xi_cmt (pc' := 1528) kc_196_396 rfl rfl ?_
          refine xi_iinc (pc' := 1531) (x := 0) (v := 6) (lv' := [(4, .int 6), (3, .ref 167), (2, .ref 115), (1, .ref 0), (0, .ref 1000000)]) kc_196_1528 rfl rfl rfl rfl (xm_lt ml_196 rfl) ?_
          refine xi_goto (pc' := 23) kc_196_1531 rfl ?_
          refine xi_iload (pc' := 25) (x := 6) kc_196_23 rfl rfl ?_
          refine xi_aload_n (pc' := 26) (x := 1000000) kc_196_25 rfl rfl ?_
          refine xi_arraylength (pc' := 27) (n := 6) (v := 6) kc_196_26 rfl (xl_lenO (by decide) hov0 rfl) rfl ?_
          refine xi_bipush (pc' := 29) (v := 6) kc_196_27 rfl rfl ?_
          refine xi_isub (pc' := 30) (v := 0) kc_196_29 rfl rfl ?_
          refine xi_cmt (pc' := 1534) kc_196_30 rfl rfl ?_
          refine xi_iconst (pc' := 1535) (v := 1) kc_196_1534 rfl rfl ?_
          refine xi_ireturn kc_196_1535 mr_196 rfl ?_
          refine ⟨rfl, ?_, ?_⟩
          · rw [eh1.2.2.1]; exact hn0
          · rw [eh1.2.2.2]; exact hz0
        by_cases c52 : a1.toInt = 29
        · have qa1 : a1 = 29 := xc_of (Eq.trans (by omega) (show (29 : Int) = (29 : Int32).toInt by decide))
          subst qa1
          refine xi_idiv (pc' := 8) (v := 14) kc_103_7 rfl rfl (by decide) ?_
          refine xi_iadd (pc' := 9) (v := 19) kc_103_8 rfl rfl ?_
          refine xi_iload_n (pc' := 10) (x := 29) kc_103_9 rfl rfl ?_
          refine xi_iload_n (pc' := 11) (x := 29) kc_103_10 rfl rfl ?_
          refine xi_imul (pc' := 12) (v := 841) kc_103_11 rfl rfl ?_
          refine xi_bipush (pc' := 14) (v := 40) kc_103_12 rfl rfl ?_
          refine xi_idiv (pc' := 15) (v := 21) kc_103_14 rfl rfl (by decide) ?_
          refine xi_iadd (pc' := 16) (v := 40) kc_103_15 rfl rfl ?_
          refine xi_ireturn kc_103_16 mr_103 rfl ?_
          show xw J ov 99 102 (30, [(0, .ref 0), (1, .int 29)], [.int 40], h0) _
          refine xi_ireturn kc_102_30 mr_102 rfl ?_
          show xw J ov 100 196 (386, [(4, .int 0), (3, .ref 167), (2, .ref 115), (1, .ref 0), (0, .ref 1000000)], [.int 40], h0) _
          refine xi_aload_n (pc' := 387) (x := 115) kc_196_386 rfl rfl ?_
          refine xi_aload_n (pc' := 388) (x := 1000000) kc_196_387 rfl rfl ?_
          refine xi_iload (pc' := 390) (x := 0) kc_196_388 rfl rfl ?_
          refine xi_iconst (pc' := 391) (v := 1) kc_196_390 rfl rfl ?_
          refine xi_iadd (pc' := 392) (v := 1) kc_196_391 rfl rfl ?_
          refine xi_ialoadO (pc' := 393) (v := 29) kc_196_392 rfl (by decide) hov0 (xi_in (n := 6) (by decide) (by decide)) rfl ?_
          refine xi_virtual (mj := 22) (as := [.int 29]) (st1 := [.int 40]) (lv0 := [(0, .ref 115), (1, .int 29)]) kc_196_393 rfl rfl rfl rfl rfl (F 115 _ hl_115) (Nat.le_of_ble_eq_true rfl) (hJ _ _ _ _ (by decide)) (xm_le ml_22 rfl) rfl ?_
          refine xi_aload_n (pc' := 1) (x := 115) kc_22_0 rfl rfl ?_
          refine xi_iconst (pc' := 2) (v := 0) kc_22_1 rfl rfl ?_
          refine xi_putfield (pc' := 5) (fs' := [.int 0, .int 0, .ref 116, .ref 117, .ref 118, .ref 119, .ref 120, .ref 121, .ref 122, .ref 123, .ref 124, .ref 125, .ref 126, .ref 127, .ref 128, .ref 129, .int 4, .ref 130, .int 0, .ref 131, .ref 132, .ref 133, .ref 134, .int 0, .ref 135, .ref 136, .ref 137, .ref 138, .ref 139, .ref 140, .ref 141, .ref 142, .int 0, .int 0, .int 0, .ref 143, .ref 144, .ref 145, .ref 146, .ref 147, .ref 148, .int 0, .ref 149, .ref 150, .ref 151, .int 0, .ref 152, .ref 153, .ref 154, .ref 155, .ref 156, .ref 157, .ref 158, .ref 159, .int 0, .ref 160, .int 0, .ref 161, .ref 162, .ref 163, .ref 164, .int 0, .ref 165, .ref 166]) kc_22_2 rfl rfl rfl (F 115 _ hl_115) rfl rfl rfl (Nat.le_of_ble_eq_true rfl) rfl (fun hh1 eh1 => ?_)
          refine xi_iload_n (pc' := 6) (x := 29) kc_22_5 rfl rfl ?_
          refine xi_bipush (pc' := 8) (v := (-20)) kc_22_6 rfl rfl ?_
          refine xi_cmt (pc' := 20) kc_22_8 rfl rfl ?_
          refine xi_iload_n (pc' := 21) (x := 29) kc_22_20 rfl rfl ?_
          refine xi_bipush (pc' := 23) (v := 30) kc_22_21 rfl rfl ?_
          refine xi_cmt (pc' := 35) kc_22_23 rfl rfl ?_
          refine xi_iload_n (pc' := 36) (x := 29) kc_22_35 rfl rfl ?_
          refine xi_static (mj := 23) (as := [.int 29]) (st1 := []) (lv0 := [(0, .int 29)]) kc_22_36 rfl rfl (Nat.le_of_ble_eq_true rfl) rfl rfl (Nat.le_of_ble_eq_true rfl) (hJ _ _ _ _ (by decide)) (xm_le ml_23 rfl) rfl ?_
          refine xi_iload_n (pc' := 1) (x := 29) kc_23_0 rfl rfl ?_
          refine xi_iff (pc' := 4) kc_23_1 rfl rfl ?_
          refine xi_iconst (pc' := 5) (v := 5) kc_23_4 rfl rfl ?_
          refine xi_iload_n (pc' := 6) (x := 29) kc_23_5 rfl rfl ?_
          refine xi_iconst (pc' := 7) (v := 2) kc_23_6 rfl rfl ?_
          refine xi_idiv (pc' := 8) (v := 14) kc_23_7 rfl rfl (by decide) ?_
          refine xi_iadd (pc' := 9) (v := 19) kc_23_8 rfl rfl ?_
          refine xi_iload_n (pc' := 10) (x := 29) kc_23_9 rfl rfl ?_
          refine xi_iload_n (pc' := 11) (x := 29) kc_23_10 rfl rfl ?_
          refine xi_imul (pc' := 12) (v := 841) kc_23_11 rfl rfl ?_
          refine xi_bipush (pc' := 14) (v := 40) kc_23_12 rfl rfl ?_
          refine xi_idiv (pc' := 15) (v := 21) kc_23_14 rfl rfl (by decide) ?_
          refine xi_iadd (pc' := 16) (v := 40) kc_23_15 rfl rfl ?_
          refine xi_ireturn kc_23_16 mr_23 rfl ?_
          show xw J ov 99 22 (39, [(0, .ref 115), (1, .int 29)], [.int 40], hh1) _
          refine xi_ireturn kc_22_39 mr_22 rfl ?_
          show xw J ov 100 196 (396, [(4, .int 0), (3, .ref 167), (2, .ref 115), (1, .ref 0), (0, .ref 1000000)], [.int 40, .int 40], hh1) _
          refine xi_cmt (pc' := 1528) kc_196_396 rfl rfl ?_
          refine xi_iinc (pc' := 1531) (x := 0) (v := 6) (lv' := [(4, .int 6), (3, .ref 167), (2, .ref 115), (1, .ref 0), (0, .ref 1000000)]) kc_196_1528 rfl rfl rfl rfl (xm_lt ml_196 rfl) ?_
          refine xi_goto (pc' := 23) kc_196_1531 rfl ?_
          refine xi_iload (pc' := 25) (x := 6) kc_196_23 rfl rfl ?_
          refine xi_aload_n (pc' := 26) (x := 1000000) kc_196_25 rfl rfl ?_
          refine xi_arraylength (pc' := 27) (n := 6) (v := 6) kc_196_26 rfl (xl_lenO (by decide) hov0 rfl) rfl ?_
          refine xi_bipush (pc' := 29) (v := 6) kc_196_27 rfl rfl ?_
          refine xi_isub (pc' := 30) (v := 0) kc_196_29 rfl rfl ?_
          refine xi_cmt (pc' := 1534) kc_196_30 rfl rfl ?_
          refine xi_iconst (pc' := 1535) (v := 1) kc_196_1534 rfl rfl ?_
          refine xi_ireturn kc_196_1535 mr_196 rfl ?_
          refine ⟨rfl, ?_, ?_⟩
          · rw [eh1.2.2.1]; exact hn0
          · rw [eh1.2.2.2]; exact hz0
        have qa1 : a1 = 30 := xc_of (Eq.trans (by omega) (show (30 : Int) = (30 : Int32).toInt by decide))
        subst qa1
        refine xi_idiv (pc' := 8) (v := 15) kc_103_7 rfl rfl (by decide) ?_
        refine xi_iadd (pc' := 9) (v := 20) kc_103_8 rfl rfl ?_
        refine xi_iload_n (pc' := 10) (x := 30) kc_103_9 rfl rfl ?_
        refine xi_iload_n (pc' := 11) (x := 30) kc_103_10 rfl rfl ?_
        refine xi_imul (pc' := 12) (v := 900) kc_103_11 rfl rfl ?_
        refine xi_bipush (pc' := 14) (v := 40) kc_103_12 rfl rfl ?_
        refine xi_idiv (pc' := 15) (v := 22) kc_103_14 rfl rfl (by decide) ?_
        refine xi_iadd (pc' := 16) (v := 42) kc_103_15 rfl rfl ?_
        refine xi_ireturn kc_103_16 mr_103 rfl ?_
        show xw J ov 99 102 (30, [(0, .ref 0), (1, .int 30)], [.int 42], h0) _
        refine xi_ireturn kc_102_30 mr_102 rfl ?_
        show xw J ov 100 196 (386, [(4, .int 0), (3, .ref 167), (2, .ref 115), (1, .ref 0), (0, .ref 1000000)], [.int 42], h0) _
        refine xi_aload_n (pc' := 387) (x := 115) kc_196_386 rfl rfl ?_
        refine xi_aload_n (pc' := 388) (x := 1000000) kc_196_387 rfl rfl ?_
        refine xi_iload (pc' := 390) (x := 0) kc_196_388 rfl rfl ?_
        refine xi_iconst (pc' := 391) (v := 1) kc_196_390 rfl rfl ?_
        refine xi_iadd (pc' := 392) (v := 1) kc_196_391 rfl rfl ?_
        refine xi_ialoadO (pc' := 393) (v := 30) kc_196_392 rfl (by decide) hov0 (xi_in (n := 6) (by decide) (by decide)) rfl ?_
        refine xi_virtual (mj := 22) (as := [.int 30]) (st1 := [.int 42]) (lv0 := [(0, .ref 115), (1, .int 30)]) kc_196_393 rfl rfl rfl rfl rfl (F 115 _ hl_115) (Nat.le_of_ble_eq_true rfl) (hJ _ _ _ _ (by decide)) (xm_le ml_22 rfl) rfl ?_
        refine xi_aload_n (pc' := 1) (x := 115) kc_22_0 rfl rfl ?_
        refine xi_iconst (pc' := 2) (v := 0) kc_22_1 rfl rfl ?_
        refine xi_putfield (pc' := 5) (fs' := [.int 0, .int 0, .ref 116, .ref 117, .ref 118, .ref 119, .ref 120, .ref 121, .ref 122, .ref 123, .ref 124, .ref 125, .ref 126, .ref 127, .ref 128, .ref 129, .int 4, .ref 130, .int 0, .ref 131, .ref 132, .ref 133, .ref 134, .int 0, .ref 135, .ref 136, .ref 137, .ref 138, .ref 139, .ref 140, .ref 141, .ref 142, .int 0, .int 0, .int 0, .ref 143, .ref 144, .ref 145, .ref 146, .ref 147, .ref 148, .int 0, .ref 149, .ref 150, .ref 151, .int 0, .ref 152, .ref 153, .ref 154, .ref 155, .ref 156, .ref 157, .ref 158, .ref 159, .int 0, .ref 160, .int 0, .ref 161, .ref 162, .ref 163, .ref 164, .int 0, .ref 165, .ref 166]) kc_22_2 rfl rfl rfl (F 115 _ hl_115) rfl rfl rfl (Nat.le_of_ble_eq_true rfl) rfl (fun hh1 eh1 => ?_)
        refine xi_iload_n (pc' := 6) (x := 30) kc_22_5 rfl rfl ?_
        refine xi_bipush (pc' := 8) (v := (-20)) kc_22_6 rfl rfl ?_
        refine xi_cmt (pc' := 20) kc_22_8 rfl rfl ?_
        refine xi_iload_n (pc' := 21) (x := 30) kc_22_20 rfl rfl ?_
        refine xi_bipush (pc' := 23) (v := 30) kc_22_21 rfl rfl ?_
        refine xi_cmt (pc' := 35) kc_22_23 rfl rfl ?_
        refine xi_iload_n (pc' := 36) (x := 30) kc_22_35 rfl rfl ?_
        refine xi_static (mj := 23) (as := [.int 30]) (st1 := []) (lv0 := [(0, .int 30)]) kc_22_36 rfl rfl (Nat.le_of_ble_eq_true rfl) rfl rfl (Nat.le_of_ble_eq_true rfl) (hJ _ _ _ _ (by decide)) (xm_le ml_23 rfl) rfl ?_
        refine xi_iload_n (pc' := 1) (x := 30) kc_23_0 rfl rfl ?_
        refine xi_iff (pc' := 4) kc_23_1 rfl rfl ?_
        refine xi_iconst (pc' := 5) (v := 5) kc_23_4 rfl rfl ?_
        refine xi_iload_n (pc' := 6) (x := 30) kc_23_5 rfl rfl ?_
        refine xi_iconst (pc' := 7) (v := 2) kc_23_6 rfl rfl ?_
        refine xi_idiv (pc' := 8) (v := 15) kc_23_7 rfl rfl (by decide) ?_
        refine xi_iadd (pc' := 9) (v := 20) kc_23_8 rfl rfl ?_
        refine xi_iload_n (pc' := 10) (x := 30) kc_23_9 rfl rfl ?_
        refine xi_iload_n (pc' := 11) (x := 30) kc_23_10 rfl rfl ?_
        refine xi_imul (pc' := 12) (v := 900) kc_23_11 rfl rfl ?_
        refine xi_bipush (pc' := 14) (v := 40) kc_23_12 rfl rfl ?_
        refine xi_idiv (pc' := 15) (v := 22) kc_23_14 rfl rfl (by decide) ?_
        refine xi_iadd (pc' := 16) (v := 42) kc_23_15 rfl rfl ?_
        refine xi_ireturn kc_23_16 mr_23 rfl ?_
        show xw J ov 99 22 (39, [(0, .ref 115), (1, .int 30)], [.int 42], hh1) _
        refine xi_ireturn kc_22_39 mr_22 rfl ?_
        show xw J ov 100 196 (396, [(4, .int 0), (3, .ref 167), (2, .ref 115), (1, .ref 0), (0, .ref 1000000)], [.int 42, .int 42], hh1) _
        refine xi_cmt (pc' := 1528) kc_196_396 rfl rfl ?_
        refine xi_iinc (pc' := 1531) (x := 0) (v := 6) (lv' := [(4, .int 6), (3, .ref 167), (2, .ref 115), (1, .ref 0), (0, .ref 1000000)]) kc_196_1528 rfl rfl rfl rfl (xm_lt ml_196 rfl) ?_
        refine xi_goto (pc' := 23) kc_196_1531 rfl ?_
        refine xi_iload (pc' := 25) (x := 6) kc_196_23 rfl rfl ?_
        refine xi_aload_n (pc' := 26) (x := 1000000) kc_196_25 rfl rfl ?_
        refine xi_arraylength (pc' := 27) (n := 6) (v := 6) kc_196_26 rfl (xl_lenO (by decide) hov0 rfl) rfl ?_
        refine xi_bipush (pc' := 29) (v := 6) kc_196_27 rfl rfl ?_
        refine xi_isub (pc' := 30) (v := 0) kc_196_29 rfl rfl ?_
        refine xi_cmt (pc' := 1534) kc_196_30 rfl rfl ?_
        refine xi_iconst (pc' := 1535) (v := 1) kc_196_1534 rfl rfl ?_
        refine xi_ireturn kc_196_1535 mr_196 rfl ?_
        refine ⟨rfl, ?_, ?_⟩
        · rw [eh1.2.2.1]; exact hn0
        · rw [eh1.2.2.2]; exact hz0
    · refine xi_cmf (pc' := 19) kc_102_16 rfl (xc_le_f (X := a1.toInt) (Y := 30) rfl (by decide) (by omega)) ?_
      refine xi_aload_n (pc' := 20) (x := 0) kc_102_19 rfl rfl ?_
      refine xi_bipush (pc' := 22) (v := (-6)) kc_102_20 rfl rfl ?_
      refine xi_virtual (mj := 91) (as := [.int (-6)]) (st1 := []) (lv0 := [(0, .ref 0), (1, .int (-6))]) kc_102_22 rfl rfl rfl rfl rfl (F 0 _ hl_0) (Nat.le_of_ble_eq_true rfl) (hJ _ _ _ _ (by decide)) (xm_le ml_91 rfl) rfl ?_
      refine xi_iload_n (pc' := 1) (x := (-6)) kc_91_0 rfl rfl ?_
      refine xi_ineg (pc' := 2) (v := 6) kc_91_1 rfl rfl ?_
      refine xi_istore_n (pc' := 3) (lv' := [(2, .int 6), (0, .ref 0), (1, .int (-6))]) kc_91_2 rfl rfl (xm_lt ml_91 rfl) ?_
      refine xi_iload_n (pc' := 4) (x := 6) kc_91_3 rfl rfl ?_
      refine xi_iff (pc' := 7) kc_91_4 rfl rfl ?_
      refine xi_iload_n (pc' := 8) (x := 6) kc_91_7 rfl rfl ?_
      refine xi_aload_n (pc' := 9) (x := 0) kc_91_8 rfl rfl ?_
      refine xi_getfield (pc' := 12) (v := .ref 94) kc_91_9 rfl rfl rfl (F 0 _ hl_0) rfl ?_
      refine xi_arraylength (pc' := 13) (n := 7) (v := 7) kc_91_12 rfl (xl_lenI (by decide) (by decide) (F 94 _ hl_94) (by simp only [List.length_replicate, List.length_cons, List.length_nil])) rfl ?_
      refine xi_cmf (pc' := 16) kc_91_13 rfl rfl ?_
      refine xi_aload_n (pc' := 17) (x := 0) kc_91_16 rfl rfl ?_
      refine xi_getfield (pc' := 20) (v := .ref 94) kc_91_17 rfl rfl rfl (F 0 _ hl_0) rfl ?_
      refine xi_iload_n (pc' := 21) (x := 6) kc_91_20 rfl rfl ?_
      refine xi_dup2 (pc' := 22) kc_91_21 rfl ⟨rfl, rfl⟩ ?_
      refine xi_iaload (pc' := 23) (v := 0) kc_91_22 rfl (F 94 _ hl_94) (by decide) rfl (xi_in (n := 7) (by decide) (by decide)) rfl ?_
      refine xi_iconst (pc' := 24) (v := 1) kc_91_23 rfl rfl ?_
      refine xi_iadd (pc' := 25) (v := 1) kc_91_24 rfl rfl ?_
      refine xi_iastore (pc' := 26) (x' := [0, 0, 0, 0, 0, 0, 1]) kc_91_25 rfl (F 94 _ hl_94) rfl (xi_in (n := 7) (by decide) (by decide)) rfl (fun hh1 eh1 => ?_)
      refine xi_iload_n (pc' := 27) (x := (-6)) kc_91_26 rfl rfl ?_
      refine xi_ireturn kc_91_27 mr_91 rfl ?_
      show xw J ov 99 102 (25, [(0, .ref 0), (1, .int a1)], [.int (-6)], hh1) _
      refine xi_ireturn kc_102_25 mr_102 rfl ?_
      show xw J ov 100 196 (386, [(4, .int 0), (3, .ref 167), (2, .ref 115), (1, .ref 0), (0, .ref 1000000)], [.int (-6)], hh1) _
      refine xi_aload_n (pc' := 387) (x := 115) kc_196_386 rfl rfl ?_
      refine xi_aload_n (pc' := 388) (x := 1000000) kc_196_387 rfl rfl ?_
      refine xi_iload (pc' := 390) (x := 0) kc_196_388 rfl rfl ?_
      refine xi_iconst (pc' := 391) (v := 1) kc_196_390 rfl rfl ?_
      refine xi_iadd (pc' := 392) (v := 1) kc_196_391 rfl rfl ?_
      refine xi_ialoadO (pc' := 393) (v := a1) kc_196_392 rfl (by decide) hov0 (xi_in (n := 6) (by decide) (by decide)) rfl ?_
      refine xi_virtual (mj := 22) (as := [.int a1]) (st1 := [.int (-6)]) (lv0 := [(0, .ref 115), (1, .int a1)]) kc_196_393 rfl rfl rfl rfl rfl ((eh1.2.1 115 (by decide)).trans (F 115 _ hl_115)) (Nat.le_of_ble_eq_true rfl) (hJ _ _ _ _ (by decide)) (xm_le ml_22 rfl) rfl ?_
      refine xi_aload_n (pc' := 1) (x := 115) kc_22_0 rfl rfl ?_
      refine xi_iconst (pc' := 2) (v := 0) kc_22_1 rfl rfl ?_
      refine xi_putfield (pc' := 5) (fs' := [.int 0, .int 0, .ref 116, .ref 117, .ref 118, .ref 119, .ref 120, .ref 121, .ref 122, .ref 123, .ref 124, .ref 125, .ref 126, .ref 127, .ref 128, .ref 129, .int 4, .ref 130, .int 0, .ref 131, .ref 132, .ref 133, .ref 134, .int 0, .ref 135, .ref 136, .ref 137, .ref 138, .ref 139, .ref 140, .ref 141, .ref 142, .int 0, .int 0, .int 0, .ref 143, .ref 144, .ref 145, .ref 146, .ref 147, .ref 148, .int 0, .ref 149, .ref 150, .ref 151, .int 0, .ref 152, .ref 153, .ref 154, .ref 155, .ref 156, .ref 157, .ref 158, .ref 159, .int 0, .ref 160, .int 0, .ref 161, .ref 162, .ref 163, .ref 164, .int 0, .ref 165, .ref 166]) kc_22_2 rfl rfl rfl ((eh1.2.1 115 (by decide)).trans (F 115 _ hl_115)) rfl rfl rfl (Nat.le_of_ble_eq_true rfl) rfl (fun hh2 eh2 => ?_)
      refine xi_iload_n (pc' := 6) (x := a1) kc_22_5 rfl rfl ?_
      refine xi_bipush (pc' := 8) (v := (-20)) kc_22_6 rfl rfl ?_
      refine xi_cmt (pc' := 20) kc_22_8 rfl (xc_ge_t (X := a1.toInt) (Y := (-20)) rfl (by decide) (by omega)) ?_
      refine xi_iload_n (pc' := 21) (x := a1) kc_22_20 rfl rfl ?_
      refine xi_bipush (pc' := 23) (v := 30) kc_22_21 rfl rfl ?_
      refine xi_cmf (pc' := 26) kc_22_23 rfl (xc_le_f (X := a1.toInt) (Y := 30) rfl (by decide) (by omega)) ?_
      refine xi_aload_n (pc' := 27) (x := 115) kc_22_26 rfl rfl ?_
      refine xi_bipush (pc' := 29) (v := (-6)) kc_22_27 rfl rfl ?_
      refine xi_virtual (mj := 13) (as := [.int (-6)]) (st1 := []) (lv0 := [(0, .ref 115), (1, .int (-6))]) kc_22_29 rfl rfl rfl rfl rfl eh2.1 (Nat.le_of_ble_eq_true rfl) (hJ _ _ _ _ (by decide)) (xm_le ml_13 rfl) rfl ?_
      refine xi_aload_n (pc' := 1) (x := 115) kc_13_0 rfl rfl ?_
      refine xi_getfield (pc' := 4) (v := .ref 140) kc_13_1 rfl rfl rfl eh2.1 rfl ?_
      refine xi_iload_n (pc' := 5) (x := (-6)) kc_13_4 rfl rfl ?_
      refine xi_ineg (pc' := 6) (v := 6) kc_13_5 rfl rfl ?_
      refine xi_dup2 (pc' := 7) kc_13_6 rfl ⟨rfl, rfl⟩ ?_
      refine xi_iaload (pc' := 8) (v := 0) kc_13_7 rfl ((eh2.2.1 140 (by decide)).trans ((eh1.2.1 140 (by decide)).trans (F 140 _ hl_140))) (by decide) rfl (xi_in (n := 7) (by decide) (by decide)) rfl ?_
      refine xi_iconst (pc' := 9) (v := 1) kc_13_8 rfl rfl ?_
      refine xi_iadd (pc' := 10) (v := 1) kc_13_9 rfl rfl ?_
      refine xi_iastore (pc' := 11) (x' := [0, 0, 0, 0, 0, 0, 1]) kc_13_10 rfl ((eh2.2.1 140 (by decide)).trans ((eh1.2.1 140 (by decide)).trans (F 140 _ hl_140))) rfl (xi_in (n := 7) (by decide) (by decide)) rfl (fun hh3 eh3 => ?_)
      refine xi_iload_n (pc' := 12) (x := (-6)) kc_13_11 rfl rfl ?_
      refine xi_ireturn kc_13_12 mr_13 rfl ?_
      show xw J ov 99 22 (32, [(0, .ref 115), (1, .int a1)], [.int (-6)], hh3) _
      refine xi_goto (pc' := 39) kc_22_32 rfl ?_
      refine xi_ireturn kc_22_39 mr_22 rfl ?_
      show xw J ov 100 196 (396, [(4, .int 0), (3, .ref 167), (2, .ref 115), (1, .ref 0), (0, .ref 1000000)], [.int (-6), .int (-6)], hh3) _
      refine xi_cmt (pc' := 1528) kc_196_396 rfl rfl ?_
      refine xi_iinc (pc' := 1531) (x := 0) (v := 6) (lv' := [(4, .int 6), (3, .ref 167), (2, .ref 115), (1, .ref 0), (0, .ref 1000000)]) kc_196_1528 rfl rfl rfl rfl (xm_lt ml_196 rfl) ?_
      refine xi_goto (pc' := 23) kc_196_1531 rfl ?_
      refine xi_iload (pc' := 25) (x := 6) kc_196_23 rfl rfl ?_
      refine xi_aload_n (pc' := 26) (x := 1000000) kc_196_25 rfl rfl ?_
      refine xi_arraylength (pc' := 27) (n := 6) (v := 6) kc_196_26 rfl (xl_lenO (by decide) hov0 rfl) rfl ?_
      refine xi_bipush (pc' := 29) (v := 6) kc_196_27 rfl rfl ?_
      refine xi_isub (pc' := 30) (v := 0) kc_196_29 rfl rfl ?_
      refine xi_cmt (pc' := 1534) kc_196_30 rfl rfl ?_
      refine xi_iconst (pc' := 1535) (v := 1) kc_196_1534 rfl rfl ?_
      refine xi_ireturn kc_196_1535 mr_196 rfl ?_
      refine ⟨rfl, ?_, ?_⟩
      · rw [eh3.2.2.1, eh2.2.2.1, eh1.2.2.1]; exact hn0
      · rw [eh3.2.2.2, eh2.2.2.2, eh1.2.2.2]; exact hz0
  · refine xi_cmf (pc' := 6) kc_102_3 rfl (xc_ge_f (X := a1.toInt) (Y := (-20)) rfl (by decide) (by omega)) ?_
    refine xi_aload_n (pc' := 7) (x := 0) kc_102_6 rfl rfl ?_
    refine xi_bipush (pc' := 9) (v := (-4)) kc_102_7 rfl rfl ?_
    refine xi_virtual (mj := 91) (as := [.int (-4)]) (st1 := []) (lv0 := [(0, .ref 0), (1, .int (-4))]) kc_102_9 rfl rfl rfl rfl rfl (F 0 _ hl_0) (Nat.le_of_ble_eq_true rfl) (hJ _ _ _ _ (by decide)) (xm_le ml_91 rfl) rfl ?_
    refine xi_iload_n (pc' := 1) (x := (-4)) kc_91_0 rfl rfl ?_
    refine xi_ineg (pc' := 2) (v := 4) kc_91_1 rfl rfl ?_
    refine xi_istore_n (pc' := 3) (lv' := [(2, .int 4), (0, .ref 0), (1, .int (-4))]) kc_91_2 rfl rfl (xm_lt ml_91 rfl) ?_
    refine xi_iload_n (pc' := 4) (x := 4) kc_91_3 rfl rfl ?_
    refine xi_iff (pc' := 7) kc_91_4 rfl rfl ?_
    refine xi_iload_n (pc' := 8) (x := 4) kc_91_7 rfl rfl ?_
    refine xi_aload_n (pc' := 9) (x := 0) kc_91_8 rfl rfl ?_
    refine xi_getfield (pc' := 12) (v := .ref 94) kc_91_9 rfl rfl rfl (F 0 _ hl_0) rfl ?_
    refine xi_arraylength (pc' := 13) (n := 7) (v := 7) kc_91_12 rfl (xl_lenI (by decide) (by decide) (F 94 _ hl_94) (by simp only [List.length_replicate, List.length_cons, List.length_nil])) rfl ?_
    refine xi_cmf (pc' := 16) kc_91_13 rfl rfl ?_
    refine xi_aload_n (pc' := 17) (x := 0) kc_91_16 rfl rfl ?_
    refine xi_getfield (pc' := 20) (v := .ref 94) kc_91_17 rfl rfl rfl (F 0 _ hl_0) rfl ?_
    refine xi_iload_n (pc' := 21) (x := 4) kc_91_20 rfl rfl ?_
    refine xi_dup2 (pc' := 22) kc_91_21 rfl ⟨rfl, rfl⟩ ?_
    refine xi_iaload (pc' := 23) (v := 0) kc_91_22 rfl (F 94 _ hl_94) (by decide) rfl (xi_in (n := 7) (by decide) (by decide)) rfl ?_
    refine xi_iconst (pc' := 24) (v := 1) kc_91_23 rfl rfl ?_
    refine xi_iadd (pc' := 25) (v := 1) kc_91_24 rfl rfl ?_
    refine xi_iastore (pc' := 26) (x' := [0, 0, 0, 0, 1, 0, 0]) kc_91_25 rfl (F 94 _ hl_94) rfl (xi_in (n := 7) (by decide) (by decide)) rfl (fun hh1 eh1 => ?_)
    refine xi_iload_n (pc' := 27) (x := (-4)) kc_91_26 rfl rfl ?_
    refine xi_ireturn kc_91_27 mr_91 rfl ?_
    show xw J ov 99 102 (12, [(0, .ref 0), (1, .int a1)], [.int (-4)], hh1) _
    refine xi_ireturn kc_102_12 mr_102 rfl ?_
    show xw J ov 100 196 (386, [(4, .int 0), (3, .ref 167), (2, .ref 115), (1, .ref 0), (0, .ref 1000000)], [.int (-4)], hh1) _
    refine xi_aload_n (pc' := 387) (x := 115) kc_196_386 rfl rfl ?_
    refine xi_aload_n (pc' := 388) (x := 1000000) kc_196_387 rfl rfl ?_
    refine xi_iload (pc' := 390) (x := 0) kc_196_388 rfl rfl ?_
    refine xi_iconst (pc' := 391) (v := 1) kc_196_390 rfl rfl ?_
    refine xi_iadd (pc' := 392) (v := 1) kc_196_391 rfl rfl ?_
    refine xi_ialoadO (pc' := 393) (v := a1) kc_196_392 rfl (by decide) hov0 (xi_in (n := 6) (by decide) (by decide)) rfl ?_
    refine xi_virtual (mj := 22) (as := [.int a1]) (st1 := [.int (-4)]) (lv0 := [(0, .ref 115), (1, .int a1)]) kc_196_393 rfl rfl rfl rfl rfl ((eh1.2.1 115 (by decide)).trans (F 115 _ hl_115)) (Nat.le_of_ble_eq_true rfl) (hJ _ _ _ _ (by decide)) (xm_le ml_22 rfl) rfl ?_
    refine xi_aload_n (pc' := 1) (x := 115) kc_22_0 rfl rfl ?_
    refine xi_iconst (pc' := 2) (v := 0) kc_22_1 rfl rfl ?_
    refine xi_putfield (pc' := 5) (fs' := [.int 0, .int 0, .ref 116, .ref 117, .ref 118, .ref 119, .ref 120, .ref 121, .ref 122, .ref 123, .ref 124, .ref 125, .ref 126, .ref 127, .ref 128, .ref 129, .int 4, .ref 130, .int 0, .ref 131, .ref 132, .ref 133, .ref 134, .int 0, .ref 135, .ref 136, .ref 137, .ref 138, .ref 139, .ref 140, .ref 141, .ref 142, .int 0, .int 0, .int 0, .ref 143, .ref 144, .ref 145, .ref 146, .ref 147, .ref 148, .int 0, .ref 149, .ref 150, .ref 151, .int 0, .ref 152, .ref 153, .ref 154, .ref 155, .ref 156, .ref 157, .ref 158, .ref 159, .int 0, .ref 160, .int 0, .ref 161, .ref 162, .ref 163, .ref 164, .int 0, .ref 165, .ref 166]) kc_22_2 rfl rfl rfl ((eh1.2.1 115 (by decide)).trans (F 115 _ hl_115)) rfl rfl rfl (Nat.le_of_ble_eq_true rfl) rfl (fun hh2 eh2 => ?_)
    refine xi_iload_n (pc' := 6) (x := a1) kc_22_5 rfl rfl ?_
    refine xi_bipush (pc' := 8) (v := (-20)) kc_22_6 rfl rfl ?_
    refine xi_cmf (pc' := 11) kc_22_8 rfl (xc_ge_f (X := a1.toInt) (Y := (-20)) rfl (by decide) (by omega)) ?_
    refine xi_aload_n (pc' := 12) (x := 115) kc_22_11 rfl rfl ?_
    refine xi_bipush (pc' := 14) (v := (-4)) kc_22_12 rfl rfl ?_
    refine xi_virtual (mj := 13) (as := [.int (-4)]) (st1 := []) (lv0 := [(0, .ref 115), (1, .int (-4))]) kc_22_14 rfl rfl rfl rfl rfl eh2.1 (Nat.le_of_ble_eq_true rfl) (hJ _ _ _ _ (by decide)) (xm_le ml_13 rfl) rfl ?_
    refine xi_aload_n (pc' := 1) (x := 115) kc_13_0 rfl rfl ?_
    refine xi_getfield (pc' := 4) (v := .ref 140) kc_13_1 rfl rfl rfl eh2.1 rfl ?_
    refine xi_iload_n (pc' := 5) (x := (-4)) kc_13_4 rfl rfl ?_
    refine xi_ineg (pc' := 6) (v := 4) kc_13_5 rfl rfl ?_
    refine xi_dup2 (pc' := 7) kc_13_6 rfl ⟨rfl, rfl⟩ ?_
    refine xi_iaload (pc' := 8) (v := 0) kc_13_7 rfl ((eh2.2.1 140 (by decide)).trans ((eh1.2.1 140 (by decide)).trans (F 140 _ hl_140))) (by decide) rfl (xi_in (n := 7) (by decide) (by decide)) rfl ?_
    refine xi_iconst (pc' := 9) (v := 1) kc_13_8 rfl rfl ?_
    refine xi_iadd (pc' := 10) (v := 1) kc_13_9 rfl rfl ?_
    refine xi_iastore (pc' := 11) (x' := [0, 0, 0, 0, 1, 0, 0]) kc_13_10 rfl ((eh2.2.1 140 (by decide)).trans ((eh1.2.1 140 (by decide)).trans (F 140 _ hl_140))) rfl (xi_in (n := 7) (by decide) (by decide)) rfl (fun hh3 eh3 => ?_)
    refine xi_iload_n (pc' := 12) (x := (-4)) kc_13_11 rfl rfl ?_
    refine xi_ireturn kc_13_12 mr_13 rfl ?_
    show xw J ov 99 22 (17, [(0, .ref 115), (1, .int a1)], [.int (-4)], hh3) _
    refine xi_goto (pc' := 39) kc_22_17 rfl ?_
    refine xi_ireturn kc_22_39 mr_22 rfl ?_
    show xw J ov 100 196 (396, [(4, .int 0), (3, .ref 167), (2, .ref 115), (1, .ref 0), (0, .ref 1000000)], [.int (-4), .int (-4)], hh3) _
    refine xi_cmt (pc' := 1528) kc_196_396 rfl rfl ?_
    refine xi_iinc (pc' := 1531) (x := 0) (v := 6) (lv' := [(4, .int 6), (3, .ref 167), (2, .ref 115), (1, .ref 0), (0, .ref 1000000)]) kc_196_1528 rfl rfl rfl rfl (xm_lt ml_196 rfl) ?_
    refine xi_goto (pc' := 23) kc_196_1531 rfl ?_
    refine xi_iload (pc' := 25) (x := 6) kc_196_23 rfl rfl ?_
    refine xi_aload_n (pc' := 26) (x := 1000000) kc_196_25 rfl rfl ?_
    refine xi_arraylength (pc' := 27) (n := 6) (v := 6) kc_196_26 rfl (xl_lenO (by decide) hov0 rfl) rfl ?_
    refine xi_bipush (pc' := 29) (v := 6) kc_196_27 rfl rfl ?_
    refine xi_isub (pc' := 30) (v := 0) kc_196_29 rfl rfl ?_
    refine xi_cmt (pc' := 1534) kc_196_30 rfl rfl ?_
    refine xi_iconst (pc' := 1535) (v := 1) kc_196_1534 rfl rfl ?_
    refine xi_ireturn kc_196_1535 mr_196 rfl ?_
    refine ⟨rfl, ?_, ?_⟩
    · rw [eh3.2.2.1, eh2.2.2.1, eh1.2.2.1]; exact hn0
    · rw [eh3.2.2.2, eh2.2.2.2, eh1.2.2.2]; exact hz0
