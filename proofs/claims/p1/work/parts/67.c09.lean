set_option maxHeartbeats 8000000 in
theorem lc_9 {J : xe_J} {ov : List (List Int32)} (hJ : ∀ d mj as h, mj ≠ xe_loff → J d mj as h = none) {a0 a1 a2 a3 a4 a5 : Int32} (hov0 : ov[0]? = some [a0, a1, a2, a3, a4, a5]) (hov1 : ov[1]? = some [10, 0, 0, 0, 0, 0]) (hov2 : ov[2]? = some [99, 30, 50, 50, 1, 99999]) {h0 : xe_H} (F : xf_fr h0) (hn0 : h0.length ≤ 600002) (hz0 : xe_sz h0 ≤ 7302232) : xw J ov 100 196 (565, [(4, .int 0), (3, .ref 167), (2, .ref 115), (1, .ref 0), (0, .ref 1000000)], [], h0) xf_Q := by
  have rr1 := xc_rng a1
  have rr2 := xc_rng a2
  have rr3 := xc_rng a3
  have rr4 := xc_rng a4
  have rr5 := xc_rng a5
  refine xi_aload_n (pc' := 566) (x := 0) kc_196_565 rfl rfl ?_
  refine xi_aload_n (pc' := 567) (x := 1000000) kc_196_566 rfl rfl ?_
  refine xi_iload (pc' := 569) (x := 0) kc_196_567 rfl rfl ?_
  refine xi_iconst (pc' := 570) (v := 1) kc_196_569 rfl rfl ?_
  refine xi_iadd (pc' := 571) (v := 1) kc_196_570 rfl rfl ?_
  refine xi_ialoadO (pc' := 572) (v := a1) kc_196_571 rfl (by decide) hov0 (xi_in (n := 6) (by decide) (by decide)) rfl ?_
  refine xi_virtual (mj := 113) (as := [.int a1]) (st1 := []) (lv0 := [(0, .ref 0), (1, .int a1)]) kc_196_572 rfl rfl rfl rfl rfl (F 0 _ hl_0) (Nat.le_of_ble_eq_true rfl) (hJ _ _ _ _ (by decide)) (xm_le ml_113 rfl) rfl ?_
  refine xi_iload_n (pc' := 1) (x := a1) kc_113_0 rfl rfl ?_
  refine xi_static (mj := 90) (as := [.int a1]) (st1 := []) (lv0 := [(0, .int a1)]) kc_113_1 rfl rfl (Nat.le_of_ble_eq_true rfl) rfl rfl (Nat.le_of_ble_eq_true rfl) (hJ _ _ _ _ (by decide)) (xm_le ml_90 rfl) rfl ?_
  refine xi_iload_n (pc' := 1) (x := a1) kc_90_0 rfl rfl ?_
  by_cases c1 : a1.toInt < 0
  · refine xi_ift (pc' := 14) kc_90_1 rfl (xc_lt_t (X := a1.toInt) (Y := 0) rfl (by decide) (by omega)) ?_
    refine xi_iconst (pc' := 15) (v := 0) kc_90_14 rfl rfl ?_
    refine xi_ireturn kc_90_15 mr_90 rfl ?_
    show xw J ov 99 113 (4, [(0, .ref 0), (1, .int a1)], [.int 0], h0) _
    refine xi_ift (pc' := 19) kc_113_4 rfl rfl ?_
    refine xi_aload_n (pc' := 20) (x := 0) kc_113_19 rfl rfl ?_
    refine xi_iconst (pc' := 21) (v := (-1)) kc_113_20 rfl rfl ?_
    refine xi_virtual (mj := 91) (as := [.int (-1)]) (st1 := []) (lv0 := [(0, .ref 0), (1, .int (-1))]) kc_113_21 rfl rfl rfl rfl rfl (F 0 _ hl_0) (Nat.le_of_ble_eq_true rfl) (hJ _ _ _ _ (by decide)) (xm_le ml_91 rfl) rfl ?_
    refine xi_iload_n (pc' := 1) (x := (-1)) kc_91_0 rfl rfl ?_
    refine xi_ineg (pc' := 2) (v := 1) kc_91_1 rfl rfl ?_
    refine xi_istore_n (pc' := 3) (lv' := [(2, .int 1), (0, .ref 0), (1, .int (-1))]) kc_91_2 rfl rfl (xm_lt ml_91 rfl) ?_
    refine xi_iload_n (pc' := 4) (x := 1) kc_91_3 rfl rfl ?_
    refine xi_iff (pc' := 7) kc_91_4 rfl rfl ?_
    refine xi_iload_n (pc' := 8) (x := 1) kc_91_7 rfl rfl ?_
    refine xi_aload_n (pc' := 9) (x := 0) kc_91_8 rfl rfl ?_
    refine xi_getfield (pc' := 12) (v := .ref 94) kc_91_9 rfl rfl rfl (F 0 _ hl_0) rfl ?_
    refine xi_arraylength (pc' := 13) (n := 7) (v := 7) kc_91_12 rfl (xl_lenI (by decide) (by decide) (F 94 _ hl_94) (by simp only [List.length_replicate, List.length_cons, List.length_nil])) rfl ?_
    refine xi_cmf (pc' := 16) kc_91_13 rfl rfl ?_
    refine xi_aload_n (pc' := 17) (x := 0) kc_91_16 rfl rfl ?_
    refine xi_getfield (pc' := 20) (v := .ref 94) kc_91_17 rfl rfl rfl (F 0 _ hl_0) rfl ?_
    refine xi_iload_n (pc' := 21) (x := 1) kc_91_20 rfl rfl ?_
    refine xi_dup2 (pc' := 22) kc_91_21 rfl ⟨rfl, rfl⟩ ?_
    refine xi_iaload (pc' := 23) (v := 0) kc_91_22 rfl (F 94 _ hl_94) (by decide) rfl (xi_in (n := 7) (by decide) (by decide)) rfl ?_
    refine xi_iconst (pc' := 24) (v := 1) kc_91_23 rfl rfl ?_
    refine xi_iadd (pc' := 25) (v := 1) kc_91_24 rfl rfl ?_
    refine xi_iastore (pc' := 26) (x' := [0, 1, 0, 0, 0, 0, 0]) kc_91_25 rfl (F 94 _ hl_94) rfl (xi_in (n := 7) (by decide) (by decide)) rfl (fun hh1 eh1 => ?_)
    refine xi_iload_n (pc' := 27) (x := (-1)) kc_91_26 rfl rfl ?_
    refine xi_ireturn kc_91_27 mr_91 rfl ?_
    show xw J ov 99 113 (24, [(0, .ref 0), (1, .int a1)], [.int (-1)], hh1) _
    refine xi_ireturn kc_113_24 mr_113 rfl ?_
    show xw J ov 100 196 (575, [(4, .int 0), (3, .ref 167), (2, .ref 115), (1, .ref 0), (0, .ref 1000000)], [.int (-1)], hh1) _
    refine xi_aload_n (pc' := 576) (x := 115) kc_196_575 rfl rfl ?_
    refine xi_aload_n (pc' := 577) (x := 1000000) kc_196_576 rfl rfl ?_
    refine xi_iload (pc' := 579) (x := 0) kc_196_577 rfl rfl ?_
    refine xi_iconst (pc' := 580) (v := 1) kc_196_579 rfl rfl ?_
    refine xi_iadd (pc' := 581) (v := 1) kc_196_580 rfl rfl ?_
    refine xi_ialoadO (pc' := 582) (v := a1) kc_196_581 rfl (by decide) hov0 (xi_in (n := 6) (by decide) (by decide)) rfl ?_
    refine xi_virtual (mj := 30) (as := [.int a1]) (st1 := [.int (-1)]) (lv0 := [(0, .ref 115), (1, .int a1)]) kc_196_582 rfl rfl rfl rfl rfl ((eh1.2.1 115 (by decide)).trans (F 115 _ hl_115)) (Nat.le_of_ble_eq_true rfl) (hJ _ _ _ _ (by decide)) (xm_le ml_30 rfl) rfl ?_
    refine xi_aload_n (pc' := 1) (x := 115) kc_30_0 rfl rfl ?_
    refine xi_iconst (pc' := 2) (v := 0) kc_30_1 rfl rfl ?_
    refine xi_putfield (pc' := 5) (fs' := [.int 0, .int 0, .ref 116, .ref 117, .ref 118, .ref 119, .ref 120, .ref 121, .ref 122, .ref 123, .ref 124, .ref 125, .ref 126, .ref 127, .ref 128, .ref 129, .int 4, .ref 130, .int 0, .ref 131, .ref 132, .ref 133, .ref 134, .int 0, .ref 135, .ref 136, .ref 137, .ref 138, .ref 139, .ref 140, .ref 141, .ref 142, .int 0, .int 0, .int 0, .ref 143, .ref 144, .ref 145, .ref 146, .ref 147, .ref 148, .int 0, .ref 149, .ref 150, .ref 151, .int 0, .ref 152, .ref 153, .ref 154, .ref 155, .ref 156, .ref 157, .ref 158, .ref 159, .int 0, .ref 160, .int 0, .ref 161, .ref 162, .ref 163, .ref 164, .int 0, .ref 165, .ref 166]) kc_30_2 rfl rfl rfl ((eh1.2.1 115 (by decide)).trans (F 115 _ hl_115)) rfl rfl rfl (Nat.le_of_ble_eq_true rfl) rfl (fun hh2 eh2 => ?_)
    refine xi_iload_n (pc' := 6) (x := a1) kc_30_5 rfl rfl ?_
    refine xi_static (mj := 11) (as := [.int a1]) (st1 := []) (lv0 := [(0, .int a1)]) kc_30_6 rfl rfl (Nat.le_of_ble_eq_true rfl) rfl rfl (Nat.le_of_ble_eq_true rfl) (hJ _ _ _ _ (by decide)) (xm_le ml_11 rfl) rfl ?_
    refine xi_iload_n (pc' := 1) (x := a1) kc_11_0 rfl rfl ?_
    refine xi_iconst (pc' := 2) (v := 0) kc_11_1 rfl rfl ?_
    refine xi_iconst (pc' := 3) (v := 5) kc_11_2 rfl rfl ?_
    refine xi_static (mj := 12) (as := [.int a1, .int 0, .int 5]) (st1 := []) (lv0 := [(0, .int a1), (1, .int 0), (2, .int 5)]) kc_11_3 rfl rfl (Nat.le_of_ble_eq_true rfl) rfl rfl (Nat.le_of_ble_eq_true rfl) (hJ _ _ _ _ (by decide)) (xm_le ml_12 rfl) rfl ?_
    refine xi_iload_n (pc' := 1) (x := a1) kc_12_0 rfl rfl ?_
    refine xi_iload_n (pc' := 2) (x := 0) kc_12_1 rfl rfl ?_
    refine xi_cmt (pc' := 14) kc_12_2 rfl (xc_lt_t (X := a1.toInt) (Y := 0) rfl (by decide) (by omega)) ?_
    refine xi_iconst (pc' := 15) (v := 0) kc_12_14 rfl rfl ?_
    refine xi_ireturn kc_12_15 mr_12 rfl ?_
    show xw J ov 98 11 (6, [(0, .int a1)], [.int 0], hh2) _
    refine xi_ireturn kc_11_6 mr_11 rfl ?_
    show xw J ov 99 30 (9, [(0, .ref 115), (1, .int a1)], [.int 0], hh2) _
    refine xi_ift (pc' := 21) kc_30_9 rfl rfl ?_
    refine xi_aload_n (pc' := 22) (x := 115) kc_30_21 rfl rfl ?_
    refine xi_iconst (pc' := 23) (v := (-1)) kc_30_22 rfl rfl ?_
    refine xi_virtual (mj := 13) (as := [.int (-1)]) (st1 := []) (lv0 := [(0, .ref 115), (1, .int (-1))]) kc_30_23 rfl rfl rfl rfl rfl eh2.1 (Nat.le_of_ble_eq_true rfl) (hJ _ _ _ _ (by decide)) (xm_le ml_13 rfl) rfl ?_
    refine xi_aload_n (pc' := 1) (x := 115) kc_13_0 rfl rfl ?_
    refine xi_getfield (pc' := 4) (v := .ref 140) kc_13_1 rfl rfl rfl eh2.1 rfl ?_
    refine xi_iload_n (pc' := 5) (x := (-1)) kc_13_4 rfl rfl ?_
    refine xi_ineg (pc' := 6) (v := 1) kc_13_5 rfl rfl ?_
    refine xi_dup2 (pc' := 7) kc_13_6 rfl ⟨rfl, rfl⟩ ?_
    refine xi_iaload (pc' := 8) (v := 0) kc_13_7 rfl ((eh2.2.1 140 (by decide)).trans ((eh1.2.1 140 (by decide)).trans (F 140 _ hl_140))) (by decide) rfl (xi_in (n := 7) (by decide) (by decide)) rfl ?_
    refine xi_iconst (pc' := 9) (v := 1) kc_13_8 rfl rfl ?_
    refine xi_iadd (pc' := 10) (v := 1) kc_13_9 rfl rfl ?_
    refine xi_iastore (pc' := 11) (x' := [0, 1, 0, 0, 0, 0, 0]) kc_13_10 rfl ((eh2.2.1 140 (by decide)).trans ((eh1.2.1 140 (by decide)).trans (F 140 _ hl_140))) rfl (xi_in (n := 7) (by decide) (by decide)) rfl (fun hh3 eh3 => ?_)
    refine xi_iload_n (pc' := 12) (x := (-1)) kc_13_11 rfl rfl ?_
    refine xi_ireturn kc_13_12 mr_13 rfl ?_
    show xw J ov 99 30 (26, [(0, .ref 115), (1, .int a1)], [.int (-1)], hh3) _
    refine xi_ireturn kc_30_26 mr_30 rfl ?_
    show xw J ov 100 196 (585, [(4, .int 0), (3, .ref 167), (2, .ref 115), (1, .ref 0), (0, .ref 1000000)], [.int (-1), .int (-1)], hh3) _
    refine xi_cmt (pc' := 1528) kc_196_585 rfl rfl ?_
    refine xi_iinc (pc' := 1531) (x := 0) (v := 6) (lv' := [(4, .int 6), (3, .ref 167), (2, .ref 115), (1, .ref 0), (0, .ref 1000000)]) kc_196_1528 rfl rfl rfl rfl (xm_lt ml_196 rfl) ?_
    refine xi_goto (pc' := 23) kc_196_1531 rfl ?_
    refine xi_iload (pc' := 25) (x := 6) kc_196_23 rfl rfl ?_
    refine xi_aload_n (pc' := 26) (x := 1000000) kc_196_25 rfl rfl ?_
    refine xi_arraylength (pc' := 27) (n := 6) (v := 6) kc_196_26 rfl (xl_lenO (by decide) hov0 rfl) rfl ?_
    refine xi_bipush (pc' := 29) (v := 6) kc_196_27 rfl rfl ?_
    refine xi_isub (pc' := 30) (v := 0) kc_196_29 rfl rfl ?_
    refine xi_cmt (pc' := 1534) kc_196_30 rfl rfl ?_
    refine xi_iconst (pc' := 1535) (v := 1) kc_196_1534 rfl rfl ?_
    refine xi_ireturn kc_196_1535 mr_196 rfl ?_
    refine ⟨rfl, ?_, ?_⟩
    · rw [eh3.2.2.1, eh2.2.2.1, eh1.2.2.1]; exact hn0
    · rw [eh3.2.2.2, eh2.2.2.2, eh1.2.2.2]; exact hz0
  · refine xi_iff (pc' := 4) kc_90_1 rfl (xc_lt_f (X := a1.toInt) (Y := 0) rfl (by decide) (by omega)) ?_
    refine xi_iload_n (pc' := 5) (x := a1) kc_90_4 rfl rfl ?_
    refine xi_bipush (pc' := 7) (v := 6) kc_90_5 rfl rfl ?_
    by_cases c2 : 6 ≤ a1.toInt
    · refine xi_cmt (pc' := 14) kc_90_7 rfl (xc_ge_t (X := a1.toInt) (Y := 6) rfl (by decide) (by omega)) ?_
      refine xi_iconst (pc' := 15) (v := 0) kc_90_14 rfl rfl ?_
      refine xi_ireturn kc_90_15 mr_90 rfl ?_
      show xw J ov 99 113 (4, [(0, .ref 0), (1, .int a1)], [.int 0], h0) _
      refine xi_ift (pc' := 19) kc_113_4 rfl rfl ?_
      refine xi_aload_n (pc' := 20) (x := 0) kc_113_19 rfl rfl ?_
      refine xi_iconst (pc' := 21) (v := (-1)) kc_113_20 rfl rfl ?_
      refine xi_virtual (mj := 91) (as := [.int (-1)]) (st1 := []) (lv0 := [(0, .ref 0), (1, .int (-1))]) kc_113_21 rfl rfl rfl rfl rfl (F 0 _ hl_0) (Nat.le_of_ble_eq_true rfl) (hJ _ _ _ _ (by decide)) (xm_le ml_91 rfl) rfl ?_
      refine xi_iload_n (pc' := 1) (x := (-1)) kc_91_0 rfl rfl ?_
      refine xi_ineg (pc' := 2) (v := 1) kc_91_1 rfl rfl ?_
      refine xi_istore_n (pc' := 3) (lv' := [(2, .int 1), (0, .ref 0), (1, .int (-1))]) kc_91_2 rfl rfl (xm_lt ml_91 rfl) ?_
      refine xi_iload_n (pc' := 4) (x := 1) kc_91_3 rfl rfl ?_
      refine xi_iff (pc' := 7) kc_91_4 rfl rfl ?_
      refine xi_iload_n (pc' := 8) (x := 1) kc_91_7 rfl rfl ?_
      refine xi_aload_n (pc' := 9) (x := 0) kc_91_8 rfl rfl ?_
      refine xi_getfield (pc' := 12) (v := .ref 94) kc_91_9 rfl rfl rfl (F 0 _ hl_0) rfl ?_
      refine xi_arraylength (pc' := 13) (n := 7) (v := 7) kc_91_12 rfl (xl_lenI (by decide) (by decide) (F 94 _ hl_94) (by simp only [List.length_replicate, List.length_cons, List.length_nil])) rfl ?_
      refine xi_cmf (pc' := 16) kc_91_13 rfl rfl ?_
      refine xi_aload_n (pc' := 17) (x := 0) kc_91_16 rfl rfl ?_
      refine xi_getfield (pc' := 20) (v := .ref 94) kc_91_17 rfl rfl rfl (F 0 _ hl_0) rfl ?_
      refine xi_iload_n (pc' := 21) (x := 1) kc_91_20 rfl rfl ?_
      refine xi_dup2 (pc' := 22) kc_91_21 rfl ⟨rfl, rfl⟩ ?_
      refine xi_iaload (pc' := 23) (v := 0) kc_91_22 rfl (F 94 _ hl_94) (by decide) rfl (xi_in (n := 7) (by decide) (by decide)) rfl ?_
      refine xi_iconst (pc' := 24) (v := 1) kc_91_23 rfl rfl ?_
      refine xi_iadd (pc' := 25) (v := 1) kc_91_24 rfl rfl ?_
      refine xi_iastore (pc' := 26) (x' := [0, 1, 0, 0, 0, 0, 0]) kc_91_25 rfl (F 94 _ hl_94) rfl (xi_in (n := 7) (by decide) (by decide)) rfl (fun hh1 eh1 => ?_)
      refine xi_iload_n (pc' := 27) (x := (-1)) kc_91_26 rfl rfl ?_
      refine xi_ireturn kc_91_27 mr_91 rfl ?_
      show xw J ov 99 113 (24, [(0, .ref 0), (1, .int a1)], [.int (-1)], hh1) _
      refine xi_ireturn kc_113_24 mr_113 rfl ?_
      show xw J ov 100 196 (575, [(4, .int 0), (3, .ref 167), (2, .ref 115), (1, .ref 0), (0, .ref 1000000)], [.int (-1)], hh1) _
      refine xi_aload_n (pc' := 576) (x := 115) kc_196_575 rfl rfl ?_
      refine xi_aload_n (pc' := 577) (x := 1000000) kc_196_576 rfl rfl ?_
      refine xi_iload (pc' := 579) (x := 0) kc_196_577 rfl rfl ?_
      refine xi_iconst (pc' := 580) (v := 1) kc_196_579 rfl rfl ?_
      refine xi_iadd (pc' := 581) (v := 1) kc_196_580 rfl rfl ?_
      refine xi_ialoadO (pc' := 582) (v := a1) kc_196_581 rfl (by decide) hov0 (xi_in (n := 6) (by decide) (by decide)) rfl ?_
      refine xi_virtual (mj := 30) (as := [.int a1]) (st1 := [.int (-1)]) (lv0 := [(0, .ref 115), (1, .int a1)]) kc_196_582 rfl rfl rfl rfl rfl ((eh1.2.1 115 (by decide)).trans (F 115 _ hl_115)) (Nat.le_of_ble_eq_true rfl) (hJ _ _ _ _ (by decide)) (xm_le ml_30 rfl) rfl ?_
      refine xi_aload_n (pc' := 1) (x := 115) kc_30_0 rfl rfl ?_
      refine xi_iconst (pc' := 2) (v := 0) kc_30_1 rfl rfl ?_
      refine xi_putfield (pc' := 5) (fs' := [.int 0, .int 0, .ref 116, .ref 117, .ref 118, .ref 119, .ref 120, .ref 121, .ref 122, .ref 123, .ref 124, .ref 125, .ref 126, .ref 127, .ref 128, .ref 129, .int 4, .ref 130, .int 0, .ref 131, .ref 132, .ref 133, .ref 134, .int 0, .ref 135, .ref 136, .ref 137, .ref 138, .ref 139, .ref 140, .ref 141, .ref 142, .int 0, .int 0, .int 0, .ref 143, .ref 144, .ref 145, .ref 146, .ref 147, .ref 148, .int 0, .ref 149, .ref 150, .ref 151, .int 0, .ref 152, .ref 153, .ref 154, .ref 155, .ref 156, .ref 157, .ref 158, .ref 159, .int 0, .ref 160, .int 0, .ref 161, .ref 162, .ref 163, .ref 164, .int 0, .ref 165, .ref 166]) kc_30_2 rfl rfl rfl ((eh1.2.1 115 (by decide)).trans (F 115 _ hl_115)) rfl rfl rfl (Nat.le_of_ble_eq_true rfl) rfl (fun hh2 eh2 => ?_)
      refine xi_iload_n (pc' := 6) (x := a1) kc_30_5 rfl rfl ?_
      refine xi_static (mj := 11) (as := [.int a1]) (st1 := []) (lv0 := [(0, .int a1)]) kc_30_6 rfl rfl (Nat.le_of_ble_eq_true rfl) rfl rfl (Nat.le_of_ble_eq_true rfl) (hJ _ _ _ _ (by decide)) (xm_le ml_11 rfl) rfl ?_
      refine xi_iload_n (pc' := 1) (x := a1) kc_11_0 rfl rfl ?_
      refine xi_iconst (pc' := 2) (v := 0) kc_11_1 rfl rfl ?_
      refine xi_iconst (pc' := 3) (v := 5) kc_11_2 rfl rfl ?_
      refine xi_static (mj := 12) (as := [.int a1, .int 0, .int 5]) (st1 := []) (lv0 := [(0, .int a1), (1, .int 0), (2, .int 5)]) kc_11_3 rfl rfl (Nat.le_of_ble_eq_true rfl) rfl rfl (Nat.le_of_ble_eq_true rfl) (hJ _ _ _ _ (by decide)) (xm_le ml_12 rfl) rfl ?_
      refine xi_iload_n (pc' := 1) (x := a1) kc_12_0 rfl rfl ?_
      refine xi_iload_n (pc' := 2) (x := 0) kc_12_1 rfl rfl ?_
      refine xi_cmf (pc' := 5) kc_12_2 rfl (xc_lt_f (X := a1.toInt) (Y := 0) rfl (by decide) (by omega)) ?_
      refine xi_iload_n (pc' := 6) (x := a1) kc_12_5 rfl rfl ?_
      refine xi_iload_n (pc' := 7) (x := 5) kc_12_6 rfl rfl ?_
      refine xi_cmt (pc' := 14) kc_12_7 rfl (xc_gt_t (X := a1.toInt) (Y := 5) rfl (by decide) (by omega)) ?_
      refine xi_iconst (pc' := 15) (v := 0) kc_12_14 rfl rfl ?_
      refine xi_ireturn kc_12_15 mr_12 rfl ?_
      show xw J ov 98 11 (6, [(0, .int a1)], [.int 0], hh2) _
      refine xi_ireturn kc_11_6 mr_11 rfl ?_
      show xw J ov 99 30 (9, [(0, .ref 115), (1, .int a1)], [.int 0], hh2) _
      refine xi_ift (pc' := 21) kc_30_9 rfl rfl ?_
      refine xi_aload_n (pc' := 22) (x := 115) kc_30_21 rfl rfl ?_
      refine xi_iconst (pc' := 23) (v := (-1)) kc_30_22 rfl rfl ?_
      refine xi_virtual (mj := 13) (as := [.int (-1)]) (st1 := []) (lv0 := [(0, .ref 115), (1, .int (-1))]) kc_30_23 rfl rfl rfl rfl rfl eh2.1 (Nat.le_of_ble_eq_true rfl) (hJ _ _ _ _ (by decide)) (xm_le ml_13 rfl) rfl ?_
      refine xi_aload_n (pc' := 1) (x := 115) kc_13_0 rfl rfl ?_
      refine xi_getfield (pc' := 4) (v := .ref 140) kc_13_1 rfl rfl rfl eh2.1 rfl ?_
      refine xi_iload_n (pc' := 5) (x := (-1)) kc_13_4 rfl rfl ?_
      refine xi_ineg (pc' := 6) (v := 1) kc_13_5 rfl rfl ?_
      refine xi_dup2 (pc' := 7) kc_13_6 rfl ⟨rfl, rfl⟩ ?_
      refine xi_iaload (pc' := 8) (v := 0) kc_13_7 rfl ((eh2.2.1 140 (by decide)).trans ((eh1.2.1 140 (by decide)).trans (F 140 _ hl_140))) (by decide) rfl (xi_in (n := 7) (by decide) (by decide)) rfl ?_
      refine xi_iconst (pc' := 9) (v := 1) kc_13_8 rfl rfl ?_
      refine xi_iadd (pc' := 10) (v := 1) kc_13_9 rfl rfl ?_
      refine xi_iastore (pc' := 11) (x' := [0, 1, 0, 0, 0, 0, 0]) kc_13_10 rfl ((eh2.2.1 140 (by decide)).trans ((eh1.2.1 140 (by decide)).trans (F 140 _ hl_140))) rfl (xi_in (n := 7) (by decide) (by decide)) rfl (fun hh3 eh3 => ?_)
      refine xi_iload_n (pc' := 12) (x := (-1)) kc_13_11 rfl rfl ?_
      refine xi_ireturn kc_13_12 mr_13 rfl ?_
      show xw J ov 99 30 (26, [(0, .ref 115), (1, .int a1)], [.int (-1)], hh3) _
      refine xi_ireturn kc_30_26 mr_30 rfl ?_
      show xw J ov 100 196 (585, [(4, .int 0), (3, .ref 167), (2, .ref 115), (1, .ref 0), (0, .ref 1000000)], [.int (-1), .int (-1)], hh3) _
      refine xi_cmt (pc' := 1528) kc_196_585 rfl rfl ?_
      refine xi_iinc (pc' := 1531) (x := 0) (v := 6) (lv' := [(4, .int 6), (3, .ref 167), (2, .ref 115), (1, .ref 0), (0, .ref 1000000)]) kc_196_1528 rfl rfl rfl rfl (xm_lt ml_196 rfl) ?_
      refine xi_goto (pc' := 23) kc_196_1531 rfl ?_
      refine xi_iload (pc' := 25) (x := 6) kc_196_23 rfl rfl ?_
      refine xi_aload_n (pc' := 26) (x := 1000000) kc_196_25 rfl rfl ?_
      refine xi_arraylength (pc' := 27) (n := 6) (v := 6) kc_196_26 rfl (xl_lenO (by decide) hov0 rfl) rfl ?_
      refine xi_bipush (pc' := 29) (v := 6) kc_196_27 rfl rfl ?_
      refine xi_isub (pc' := 30) (v := 0) kc_196_29 rfl rfl ?_
      refine xi_cmt (pc' := 1534) kc_196_30 rfl rfl ?_
      refine xi_iconst (pc' := 1535) (v := 1) kc_196_1534 rfl rfl ?_
      refine xi_ireturn kc_196_1535 mr_196 rfl ?_
      refine ⟨rfl, ?_, ?_⟩
      · rw [eh3.2.2.1, eh2.2.2.1, eh1.2.2.1]; exact hn0
      · rw [eh3.2.2.2, eh2.2.2.2, eh1.2.2.2]; exact hz0
    · refine xi_cmf (pc' := 10) kc_90_7 rfl (xc_ge_f (X := a1.toInt) (Y := 6) rfl (by decide) (by omega)) ?_
      refine xi_iconst (pc' := 11) (v := 1) kc_90_10 rfl rfl ?_
      refine xi_goto (pc' := 15) kc_90_11 rfl ?_
      refine xi_ireturn kc_90_15 mr_90 rfl ?_
      show xw J ov 99 113 (4, [(0, .ref 0), (1, .int a1)], [.int 1], h0) _
      refine xi_iff (pc' := 7) kc_113_4 rfl rfl ?_
      refine xi_aload_n (pc' := 8) (x := 0) kc_113_7 rfl rfl ?_
      refine xi_getfield (pc' := 11) (v := .ref 63) kc_113_8 rfl rfl rfl (F 0 _ hl_0) rfl ?_
      refine xi_getfield (pc' := 14) (v := .ref 64) kc_113_11 rfl rfl rfl (F 63 _ hl_63) rfl ?_
      refine xi_iload_n (pc' := 15) (x := a1) kc_113_14 rfl rfl ?_
      refine xi_iaload (pc' := 16) (v := 0) kc_113_15 rfl (F 64 _ hl_64) (by decide) rfl (xi_in (by omega) (by simp only [List.length_replicate]; omega)) (xa_rep (by omega) (by omega)) ?_
      refine xi_goto (pc' := 24) kc_113_16 rfl ?_
      refine xi_ireturn kc_113_24 mr_113 rfl ?_
      show xw J ov 100 196 (575, [(4, .int 0), (3, .ref 167), (2, .ref 115), (1, .ref 0), (0, .ref 1000000)], [.int 0], h0) _
      refine xi_aload_n (pc' := 576) (x := 115) kc_196_575 rfl rfl ?_
      refine xi_aload_n (pc' := 577) (x := 1000000) kc_196_576 rfl rfl ?_
      refine xi_iload (pc' := 579) (x := 0) kc_196_577 rfl rfl ?_
      refine xi_iconst (pc' := 580) (v := 1) kc_196_579 rfl rfl ?_
      refine xi_iadd (pc' := 581) (v := 1) kc_196_580 rfl rfl ?_
      refine xi_ialoadO (pc' := 582) (v := a1) kc_196_581 rfl (by decide) hov0 (xi_in (n := 6) (by decide) (by decide)) rfl ?_
      refine xi_virtual (mj := 30) (as := [.int a1]) (st1 := [.int 0]) (lv0 := [(0, .ref 115), (1, .int a1)]) kc_196_582 rfl rfl rfl rfl rfl (F 115 _ hl_115) (Nat.le_of_ble_eq_true rfl) (hJ _ _ _ _ (by decide)) (xm_le ml_30 rfl) rfl ?_
      refine xi_aload_n (pc' := 1) (x := 115) kc_30_0 rfl rfl ?_
      refine xi_iconst (pc' := 2) (v := 0) kc_30_1 rfl rfl ?_
      refine xi_putfield (pc' := 5) (fs' := [.int 0, .int 0, .ref 116, .ref 117, .ref 118, .ref 119, .ref 120, .ref 121, .ref 122, .ref 123, .ref 124, .ref 125, .ref 126, .ref 127, .ref 128, .ref 129, .int 4, .ref 130, .int 0, .ref 131, .ref 132, .ref 133, .ref 134, .int 0, .ref 135, .ref 136, .ref 137, .ref 138, .ref 139, .ref 140, .ref 141, .ref 142, .int 0, .int 0, .int 0, .ref 143, .ref 144, .ref 145, .ref 146, .ref 147, .ref 148, .int 0, .ref 149, .ref 150, .ref 151, .int 0, .ref 152, .ref 153, .ref 154, .ref 155, .ref 156, .ref 157, .ref 158, .ref 159, .int 0, .ref 160, .int 0, .ref 161, .ref 162, .ref 163, .ref 164, .int 0, .ref 165, .ref 166]) kc_30_2 rfl rfl rfl (F 115 _ hl_115) rfl rfl rfl (Nat.le_of_ble_eq_true rfl) rfl (fun hh1 eh1 => ?_)
      refine xi_iload_n (pc' := 6) (x := a1) kc_30_5 rfl rfl ?_
      refine xi_static (mj := 11) (as := [.int a1]) (st1 := []) (lv0 := [(0, .int a1)]) kc_30_6 rfl rfl (Nat.le_of_ble_eq_true rfl) rfl rfl (Nat.le_of_ble_eq_true rfl) (hJ _ _ _ _ (by decide)) (xm_le ml_11 rfl) rfl ?_
      refine xi_iload_n (pc' := 1) (x := a1) kc_11_0 rfl rfl ?_
      refine xi_iconst (pc' := 2) (v := 0) kc_11_1 rfl rfl ?_
      refine xi_iconst (pc' := 3) (v := 5) kc_11_2 rfl rfl ?_
      refine xi_static (mj := 12) (as := [.int a1, .int 0, .int 5]) (st1 := []) (lv0 := [(0, .int a1), (1, .int 0), (2, .int 5)]) kc_11_3 rfl rfl (Nat.le_of_ble_eq_true rfl) rfl rfl (Nat.le_of_ble_eq_true rfl) (hJ _ _ _ _ (by decide)) (xm_le ml_12 rfl) rfl ?_
      refine xi_iload_n (pc' := 1) (x := a1) kc_12_0 rfl rfl ?_
      refine xi_iload_n (pc' := 2) (x := 0) kc_12_1 rfl rfl ?_
      refine xi_cmf (pc' := 5) kc_12_2 rfl (xc_lt_f (X := a1.toInt) (Y := 0) rfl (by decide) (by omega)) ?_
      refine xi_iload_n (pc' := 6) (x := a1) kc_12_5 rfl rfl ?_
      refine xi_iload_n (pc' := 7) (x := 5) kc_12_6 rfl rfl ?_
      refine xi_cmf (pc' := 10) kc_12_7 rfl (xc_gt_f (X := a1.toInt) (Y := 5) rfl (by decide) (by omega)) ?_
      refine xi_iconst (pc' := 11) (v := 1) kc_12_10 rfl rfl ?_
      refine xi_goto (pc' := 15) kc_12_11 rfl ?_
      refine xi_ireturn kc_12_15 mr_12 rfl ?_
      show xw J ov 98 11 (6, [(0, .int a1)], [.int 1], hh1) _
      refine xi_ireturn kc_11_6 mr_11 rfl ?_
      show xw J ov 99 30 (9, [(0, .ref 115), (1, .int a1)], [.int 1], hh1) _
      refine xi_iff (pc' := 12) kc_30_9 rfl rfl ?_
      refine xi_aload_n (pc' := 13) (x := 115) kc_30_12 rfl rfl ?_
      refine xi_getfield (pc' := 16) (v := .ref 121) kc_30_13 rfl rfl rfl eh1.1 rfl ?_
      refine xi_iload_n (pc' := 17) (x := a1) kc_30_16 rfl rfl ?_
      refine xi_iaload (pc' := 18) (v := 0) kc_30_17 rfl ((eh1.2.1 121 (by decide)).trans (F 121 _ hl_121)) (by decide) rfl (xi_in (by omega) (by simp only [List.length_replicate]; omega)) (xa_rep (by omega) (by omega)) ?_
      refine xi_goto (pc' := 26) kc_30_18 rfl ?_
      refine xi_ireturn kc_30_26 mr_30 rfl ?_
      show xw J ov 100 196 (585, [(4, .int 0), (3, .ref 167), (2, .ref 115), (1, .ref 0), (0, .ref 1000000)], [.int 0, .int 0], hh1) _
      refine xi_cmt (pc' := 1528) kc_196_585 rfl rfl ?_
      refine xi_iinc (pc' := 1531) (x := 0) (v := 6) (lv' := [(4, .int 6), (3, .ref 167), (2, .ref 115), (1, .ref 0), (0, .ref 1000000)]) kc_196_1528 rfl rfl rfl rfl (xm_lt ml_196 rfl) ?_
      refine xi_goto (pc' := 23) kc_196_1531 rfl ?_
      refine xi_iload (pc' := 25) (x := 6) kc_196_23 rfl rfl ?_
      refine xi_aload_n (pc' := 26) (x := 1000000) kc_196_25 rfl rfl ?_
      refine xi_arraylength (pc' := 27) (n := 6) (v := 6) kc_196_26 rfl (xl_lenO (by decide) hov0 rfl) rfl ?_
      refine xi_bipush (pc' := 29) (v := 6) kc_196_27 rfl rfl ?_
      refine xi_isub (pc' := 30) (v := 0) kc_196_29 rfl rfl ?_
      refine xi_cmt (pc' := 1534) kc_196_30 rfl rfl ?_
      refine xi_iconst (pc' := 1535) (v := 1) kc_196_1534 rfl rfl ?_
      refine xi_ireturn kc_196_1535 mr_196 rfl ?_
      refine ⟨rfl, ?_, ?_⟩
      · rw [eh1.2.2.1]; exact hn0
      · rw [eh1.2.2.2]; exact hz0
