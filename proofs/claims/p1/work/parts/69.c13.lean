set_option maxHeartbeats 8000000 in
theorem lc_13 {J : xe_J} {ov : List (List Int32)} (hJ : ∀ d mj as h, mj ≠ xe_loff → J d mj as h = none) {a0 a1 a2 a3 a4 a5 : Int32} (hov0 : ov[0]? = some [a0, a1, a2, a3, a4, a5]) (hov1 : ov[1]? = some [10, 0, 0, 0, 0, 0]) (hov2 : ov[2]? = some [99, 30, 50, 50, 1, 99999]) {h0 : xe_H} (F : xf_fr h0) (hn0 : h0.length ≤ 600002) (hz0 : xe_sz h0 ≤ 7302232) : xw J ov 100 196 (765, [(4, .int 0), (3, .ref 167), (2, .ref 115), (1, .ref 0), (0, .ref 1000000)], [], h0) xf_Q := by
  have rr1 := xc_rng a1
  have rr2 := xc_rng a2
  have rr3 := xc_rng a3
  have rr4 := xc_rng a4
  have rr5 := xc_rng a5
  refine xi_aload_n (pc' := 766) (x := 0) kc_196_765 rfl rfl ?_
  refine xi_aload_n (pc' := 767) (x := 1000000) kc_196_766 rfl rfl ?_
  refine xi_iload (pc' := 769) (x := 0) kc_196_767 rfl rfl ?_
  refine xi_iconst (pc' := 770) (v := 1) kc_196_769 rfl rfl ?_
  refine xi_iadd (pc' := 771) (v := 1) kc_196_770 rfl rfl ?_
  refine xi_ialoadO (pc' := 772) (v := a1) kc_196_771 rfl (by decide) hov0 (xi_in (n := 6) (by decide) (by decide)) rfl ?_
  refine xi_virtual (mj := 122) (as := [.int a1]) (st1 := []) (lv0 := [(0, .ref 0), (1, .int a1)]) kc_196_772 rfl rfl rfl rfl rfl (F 0 _ hl_0) (Nat.le_of_ble_eq_true rfl) (hJ _ _ _ _ (by decide)) (xm_le ml_122 rfl) rfl ?_
  refine xi_iload_n (pc' := 1) (x := a1) kc_122_0 rfl rfl ?_
  refine xi_iconst (pc' := 2) (v := 1) kc_122_1 rfl rfl ?_
  by_cases c1 : 1 ≤ a1.toInt
  · refine xi_cmt (pc' := 12) kc_122_2 rfl (xc_ge_t (X := a1.toInt) (Y := 1) rfl (by decide) (by omega)) ?_
    refine xi_iload_n (pc' := 13) (x := a1) kc_122_12 rfl rfl ?_
    refine xi_sipush (pc' := 16) (v := 600) kc_122_13 rfl rfl ?_
    refine xi_aload_n (pc' := 17) (x := 0) kc_122_16 rfl rfl ?_
    refine xi_getfield (pc' := 20) (v := .int 0) kc_122_17 rfl rfl rfl (F 0 _ hl_0) rfl ?_
    refine xi_isub (pc' := 21) (v := 600) kc_122_20 rfl rfl ?_
    by_cases c2 : a1.toInt ≤ 600
    · refine xi_cmt (pc' := 31) kc_122_21 rfl (xc_le_t (X := a1.toInt) (Y := 600) rfl (by decide) (by omega)) ?_
      refine xi_aload_n (pc' := 32) (x := 0) kc_122_31 rfl rfl ?_
      refine xi_getfield (pc' := 35) (v := .ref 66) kc_122_32 rfl rfl rfl (F 0 _ hl_0) rfl ?_
      refine xi_virtual (mj := 92) (as := []) (st1 := []) (lv0 := [(0, .ref 66)]) kc_122_35 rfl rfl rfl rfl rfl (F 66 _ hl_66) (Nat.le_of_ble_eq_true rfl) (hJ _ _ _ _ (by decide)) (xm_le ml_92 rfl) rfl ?_
      refine xi_aload_n (pc' := 1) (x := 66) kc_92_0 rfl rfl ?_
      refine xi_lconst (pc' := 2) (v := 0) kc_92_1 rfl rfl ?_
      refine xi_putfield (pc' := 5) (fs' := [.ref 1, .ref 67, .ref 70, .ref 71, .ref 72, .ref 73, .ref 74, .long 0, .int 0]) kc_92_2 rfl rfl rfl (F 66 _ hl_66) rfl rfl rfl (Nat.le_of_ble_eq_true rfl) rfl (fun hh1 eh1 => ?_)
      refine xi_return kc_92_5 mr_92 ?_
      show xw J ov 99 122 (38, [(0, .ref 0), (1, .int a1)], [], hh1) _
      refine xi_iconst (pc' := 39) (v := 0) kc_122_38 rfl rfl ?_
      refine xi_istore_n (pc' := 40) (lv' := [(2, .int 0), (0, .ref 0), (1, .int a1)]) kc_122_39 rfl rfl (xm_lt ml_122 rfl) ?_
      have GG : xg [0, 64] hh1 := xg_keep (xg_of F) eh1 hl_66
      have i00 : (0 : Int32).toInt = 0 := by decide
      refine ha_hours hJ (fun hr_2 w0_2 w1_2 w2_2 w3_2 w4_2 w5_2 hh2 q2_0 G2 A2_0 A2_64 n2 z2 => ?_) 600 0 0 0 0 0 0 0 0 hh1 (by first | omega | decide) (by first | omega | decide) (by first | omega | decide) (by first | omega | decide) (by first | omega | decide) (by first | omega | decide) (by first | omega | decide) (by first | omega | decide) (by first | omega | decide) (by first | omega | decide) (by first | omega | decide) (by first | omega | decide) (by first | omega | decide) (by first | omega | decide) (by first | omega | decide) (by first | omega | decide) (by first | omega | decide) GG ((eh1.2.1 0 (by decide)).trans (F 0 _ hl_0)) ((eh1.2.1 64 (by decide)).trans (F 64 _ hl_64)) eh1.2.2.1 eh1.2.2.2
      show xw J ov 100 196 (775, [(4, .int 0), (3, .ref 167), (2, .ref 115), (1, .ref 0), (0, .ref 1000000)], [.int hr_2], hh2) _
      refine xi_aload_n (pc' := 776) (x := 115) kc_196_775 rfl rfl ?_
      refine xi_aload_n (pc' := 777) (x := 1000000) kc_196_776 rfl rfl ?_
      refine xi_iload (pc' := 779) (x := 0) kc_196_777 rfl rfl ?_
      refine xi_iconst (pc' := 780) (v := 1) kc_196_779 rfl rfl ?_
      refine xi_iadd (pc' := 781) (v := 1) kc_196_780 rfl rfl ?_
      refine xi_ialoadO (pc' := 782) (v := a1) kc_196_781 rfl (by decide) hov0 (xi_in (n := 6) (by decide) (by decide)) rfl ?_
      refine xi_virtual (mj := 35) (as := [.int a1]) (st1 := [.int hr_2]) (lv0 := [(0, .ref 115), (1, .int a1)]) kc_196_782 rfl rfl rfl rfl rfl (G2 115 _ rfl hl_115) (Nat.le_of_ble_eq_true rfl) (hJ _ _ _ _ (by decide)) (xm_le ml_35 rfl) rfl ?_
      refine xi_aload_n (pc' := 1) (x := 115) kc_35_0 rfl rfl ?_
      refine xi_iconst (pc' := 2) (v := 0) kc_35_1 rfl rfl ?_
      refine xi_putfield (pc' := 5) (fs' := [.int 0, .int 0, .ref 116, .ref 117, .ref 118, .ref 119, .ref 120, .ref 121, .ref 122, .ref 123, .ref 124, .ref 125, .ref 126, .ref 127, .ref 128, .ref 129, .int 4, .ref 130, .int 0, .ref 131, .ref 132, .ref 133, .ref 134, .int 0, .ref 135, .ref 136, .ref 137, .ref 138, .ref 139, .ref 140, .ref 141, .ref 142, .int 0, .int 0, .int 0, .ref 143, .ref 144, .ref 145, .ref 146, .ref 147, .ref 148, .int 0, .ref 149, .ref 150, .ref 151, .int 0, .ref 152, .ref 153, .ref 154, .ref 155, .ref 156, .ref 157, .ref 158, .ref 159, .int 0, .ref 160, .int 0, .ref 161, .ref 162, .ref 163, .ref 164, .int 0, .ref 165, .ref 166]) kc_35_2 rfl rfl rfl (G2 115 _ rfl hl_115) rfl rfl rfl (Nat.le_of_ble_eq_true rfl) rfl (fun hh3 eh3 => ?_)
      refine xi_iload_n (pc' := 6) (x := a1) kc_35_5 rfl rfl ?_
      refine xi_iconst (pc' := 7) (v := 1) kc_35_6 rfl rfl ?_
      refine xi_cmt (pc' := 17) kc_35_7 rfl (xc_ge_t (X := a1.toInt) (Y := 1) rfl (by decide) (by omega)) ?_
      refine xi_iload_n (pc' := 18) (x := a1) kc_35_17 rfl rfl ?_
      refine xi_sipush (pc' := 21) (v := 600) kc_35_18 rfl rfl ?_
      refine xi_aload_n (pc' := 22) (x := 115) kc_35_21 rfl rfl ?_
      refine xi_getfield (pc' := 25) (v := .int 0) kc_35_22 rfl rfl rfl eh3.1 rfl ?_
      refine xi_isub (pc' := 26) (v := 600) kc_35_25 rfl rfl ?_
      refine xi_cmt (pc' := 36) kc_35_26 rfl (xc_le_t (X := a1.toInt) (Y := 600) rfl (by decide) (by omega)) ?_
      refine xi_iconst (pc' := 37) (v := 0) kc_35_36 rfl rfl ?_
      refine xi_istore_n (pc' := 38) (lv' := [(2, .int 0), (0, .ref 115), (1, .int a1)]) kc_35_37 rfl rfl (xm_lt ml_35 rfl) ?_
      have GH := xg_more (W' := [0, 64, 115, 121, 141]) (xg_keep G2 eh3 hl_115) rfl
      refine hb_hours hJ (fun hr_4 cn_4 w0_4 w1_4 w2_4 w3_4 w4_4 w5_4 y0_4 y1_4 y2_4 y3_4 y4_4 y5_4 hh4 q4_0 G4 A4_115 A4_121 A4_141 n4 z4 => ?_) 600 0 0 0 0 0 0 0 0 0 0 0 0 0 0 0 hh3 (by first | omega | decide) (by first | omega | decide) (by first | omega | decide) (by first | omega | decide) (by first | omega | decide) (by first | omega | decide) (by first | omega | decide) (by first | omega | decide) (by first | omega | decide) (by first | omega | decide) (by first | omega | decide) (by first | omega | decide) (by first | omega | decide) (by first | omega | decide) (by first | omega | decide) (by first | omega | decide) (by first | omega | decide) GH eh3.1 ((eh3.2.1 121 (by decide)).trans (G2 121 _ rfl hl_121)) ((eh3.2.1 141 (by decide)).trans (G2 141 _ rfl hl_141)) (eh3.2.2.1.trans n2) (eh3.2.2.2.trans z2)
      show xw J ov 100 196 (785, [(4, .int 0), (3, .ref 167), (2, .ref 115), (1, .ref 0), (0, .ref 1000000)], [.int hr_4, .int hr_2], hh4) _
      refine xi_cmt (pc' := 1528) kc_196_785 rfl (xc_eq_t (X := a1.toInt) (Y := a1.toInt) q2_0 q4_0 (by omega)) ?_
      refine xi_iinc (pc' := 1531) (x := 0) (v := 6) (lv' := [(4, .int 6), (3, .ref 167), (2, .ref 115), (1, .ref 0), (0, .ref 1000000)]) kc_196_1528 rfl rfl rfl rfl (xm_lt ml_196 rfl) ?_
      refine xi_goto (pc' := 23) kc_196_1531 rfl ?_
      refine xi_iload (pc' := 25) (x := 6) kc_196_23 rfl rfl ?_
      refine xi_aload_n (pc' := 26) (x := 1000000) kc_196_25 rfl rfl ?_
      refine xi_arraylength (pc' := 27) (n := 6) (v := 6) kc_196_26 rfl (xl_lenO (by decide) hov0 rfl) rfl ?_
      refine xi_bipush (pc' := 29) (v := 6) kc_196_27 rfl rfl ?_
      refine xi_isub (pc' := 30) (v := 0) kc_196_29 rfl rfl ?_
      refine xi_cmt (pc' := 1534) kc_196_30 rfl rfl ?_
      refine xi_iconst (pc' := 1535) (v := 1) kc_196_1534 rfl rfl ?_
      refine xi_ireturn kc_196_1535 mr_196 rfl ?_
      refine ⟨rfl, ?_, ?_⟩
      · rw [n4]; exact hn0
      · rw [z4]; exact hz0
    · refine xi_cmf (pc' := 24) kc_122_21 rfl (xc_le_f (X := a1.toInt) (Y := 600) rfl (by decide) (by omega)) ?_
      refine xi_aload_n (pc' := 25) (x := 0) kc_122_24 rfl rfl ?_
      refine xi_bipush (pc' := 27) (v := (-6)) kc_122_25 rfl rfl ?_
      refine xi_virtual (mj := 91) (as := [.int (-6)]) (st1 := []) (lv0 := [(0, .ref 0), (1, .int (-6))]) kc_122_27 rfl rfl rfl rfl rfl (F 0 _ hl_0) (Nat.le_of_ble_eq_true rfl) (hJ _ _ _ _ (by decide)) (xm_le ml_91 rfl) rfl ?_
      refine xi_iload_n (pc' := 1) (x := (-6)) kc_91_0 rfl rfl ?_
      refine xi_ineg (pc' := 2) (v := 6) kc_91_1 rfl rfl ?_
      refine xi_istore_n (pc' := 3) (lv' := [(2, .int 6), (0, .ref 0), (1, .int (-6))]) kc_91_2 rfl rfl (xm_lt ml_91 rfl) ?_
      refine xi_iload_n (pc' := 4) (x := 6) kc_91_3 rfl rfl ?_
      refine xi_iff (pc' := 7) kc_91_4 rfl rfl ?_
      refine xi_iload_n (pc' := 8) (x := 6) kc_91_7 rfl rfl ?_
      refine xi_aload_n (pc' := 9) (x := 0) kc_91_8 rfl rfl ?_
      refine xi_getfield (pc' := 12) (v := .ref 94) kc_91_9 rfl rfl rfl (F 0 _ hl_0) rfl ?_
      refine xi_arraylength (pc' := 13) (n := 7) (v := 7) kc_91_12 rfl (xl_lenI (by decide) (by decide) (F 94 _ hl_94) (by simp only [List.length_replicate, List.length_cons, List.length_nil])) rfl ?_
      refine xi_cmf (pc' := 16) kc_91_13 rfl rfl ?_
      refine xi_aload_n (pc' := 17) (x := 0) kc_91_16 rfl rfl ?_
      refine xi_getfield (pc' := 20) (v := .ref 94) kc_91_17 rfl rfl rfl (F 0 _ hl_0) rfl ?_
      refine xi_iload_n (pc' := 21) (x := 6) kc_91_20 rfl rfl ?_
      refine xi_dup2 (pc' := 22) kc_91_21 rfl ⟨rfl, rfl⟩ ?_
      refine xi_iaload (pc' := 23) (v := 0) kc_91_22 rfl (F 94 _ hl_94) (by decide) rfl (xi_in (n := 7) (by decide) (by decide)) rfl ?_
      refine xi_iconst (pc' := 24) (v := 1) kc_91_23 rfl rfl ?_
      refine xi_iadd (pc' := 25) (v := 1) kc_91_24 rfl rfl ?_
      refine xi_iastore (pc' := 26) (x' := [0, 0, 0, 0, 0, 0, 1]) kc_91_25 rfl (F 94 _ hl_94) rfl (xi_in (n := 7) (by decide) (by decide)) rfl (fun hh1 eh1 => ?_)
      refine xi_iload_n (pc' := 27) (x := (-6)) kc_91_26 rfl rfl ?_
      refine xi_ireturn kc_91_27 mr_91 rfl ?_
      show xw J ov 99 122 (30, [(0, .ref 0), (1, .int a1)], [.int (-6)], hh1) _
      refine xi_ireturn kc_122_30 mr_122 rfl ?_
      show xw J ov 100 196 (775, [(4, .int 0), (3, .ref 167), (2, .ref 115), (1, .ref 0), (0, .ref 1000000)], [.int (-6)], hh1) _
      refine xi_aload_n (pc' := 776) (x := 115) kc_196_775 rfl rfl ?_
      refine xi_aload_n (pc' := 777) (x := 1000000) kc_196_776 rfl rfl ?_
      refine xi_iload (pc' := 779) (x := 0) kc_196_777 rfl rfl ?_
      refine xi_iconst (pc' := 780) (v := 1) kc_196_779 rfl rfl ?_
      refine xi_iadd (pc' := 781) (v := 1) kc_196_780 rfl rfl ?_
      refine xi_ialoadO (pc' := 782) (v := a1) kc_196_781 rfl (by decide) hov0 (xi_in (n := 6) (by decide) (by decide)) rfl ?_
      refine xi_virtual (mj := 35) (as := [.int a1]) (st1 := [.int (-6)]) (lv0 := [(0, .ref 115), (1, .int a1)]) kc_196_782 rfl rfl rfl rfl rfl ((eh1.2.1 115 (by decide)).trans (F 115 _ hl_115)) (Nat.le_of_ble_eq_true rfl) (hJ _ _ _ _ (by decide)) (xm_le ml_35 rfl) rfl ?_
      refine xi_aload_n (pc' := 1) (x := 115) kc_35_0 rfl rfl ?_
      refine xi_iconst (pc' := 2) (v := 0) kc_35_1 rfl rfl ?_
      refine xi_putfield (pc' := 5) (fs' := [.int 0, .int 0, .ref 116, .ref 117, .ref 118, .ref 119, .ref 120, .ref 121, .ref 122, .ref 123, .ref 124, .ref 125, .ref 126, .ref 127, .ref 128, .ref 129, .int 4, .ref 130, .int 0, .ref 131, .ref 132, .ref 133, .ref 134, .int 0, .ref 135, .ref 136, .ref 137, .ref 138, .ref 139, .ref 140, .ref 141, .ref 142, .int 0, .int 0, .int 0, .ref 143, .ref 144, .ref 145, .ref 146, .ref 147, .ref 148, .int 0, .ref 149, .ref 150, .ref 151, .int 0, .ref 152, .ref 153, .ref 154, .ref 155, .ref 156, .ref 157, .ref 158, .ref 159, .int 0, .ref 160, .int 0, .ref 161, .ref 162, .ref 163, .ref 164, .int 0, .ref 165, .ref 166]) kc_35_2 rfl rfl rfl ((eh1.2.1 115 (by decide)).trans (F 115 _ hl_115)) rfl rfl rfl (Nat.le_of_ble_eq_true rfl) rfl (fun hh2 eh2 => ?_)
      refine xi_iload_n (pc' := 6) (x := a1) kc_35_5 rfl rfl ?_
      refine xi_iconst (pc' := 7) (v := 1) kc_35_6 rfl rfl ?_
      refine xi_cmt (pc' := 17) kc_35_7 rfl (xc_ge_t (X := a1.toInt) (Y := 1) rfl (by decide) (by omega)) ?_
      refine xi_iload_n (pc' := 18) (x := a1) kc_35_17 rfl rfl ?_
      refine xi_sipush (pc' := 21) (v := 600) kc_35_18 rfl rfl ?_
      refine xi_aload_n (pc' := 22) (x := 115) kc_35_21 rfl rfl ?_
      refine xi_getfield (pc' := 25) (v := .int 0) kc_35_22 rfl rfl rfl eh2.1 rfl ?_
      refine xi_isub (pc' := 26) (v := 600) kc_35_25 rfl rfl ?_
      refine xi_cmf (pc' := 29) kc_35_26 rfl (xc_le_f (X := a1.toInt) (Y := 600) rfl (by decide) (by omega)) ?_
      refine xi_aload_n (pc' := 30) (x := 115) kc_35_29 rfl rfl ?_
      refine xi_bipush (pc' := 32) (v := (-6)) kc_35_30 rfl rfl ?_
      refine xi_virtual (mj := 13) (as := [.int (-6)]) (st1 := []) (lv0 := [(0, .ref 115), (1, .int (-6))]) kc_35_32 rfl rfl rfl rfl rfl eh2.1 (Nat.le_of_ble_eq_true rfl) (hJ _ _ _ _ (by decide)) (xm_le ml_13 rfl) rfl ?_
      refine xi_aload_n (pc' := 1) (x := 115) kc_13_0 rfl rfl ?_
      refine xi_getfield (pc' := 4) (v := .ref 140) kc_13_1 rfl rfl rfl eh2.1 rfl ?_
      refine xi_iload_n (pc' := 5) (x := (-6)) kc_13_4 rfl rfl ?_
      refine xi_ineg (pc' := 6) (v := 6) kc_13_5 rfl rfl ?_
      refine xi_dup2 (pc' := 7) kc_13_6 rfl ⟨rfl, rfl⟩ ?_
      refine xi_iaload (pc' := 8) (v := 0) kc_13_7 rfl ((eh2.2.1 140 (by decide)).trans ((eh1.2.1 140 (by decide)).trans (F 140 _ hl_140))) (by decide) rfl (xi_in (n := 7) (by decide) (by decide)) rfl ?_
      refine xi_iconst (pc' := 9) (v := 1) kc_13_8 rfl rfl ?_
      refine xi_iadd (pc' := 10) (v := 1) kc_13_9 rfl rfl ?_
      refine xi_iastore (pc' := 11) (x' := [0, 0, 0, 0, 0, 0, 1]) kc_13_10 rfl ((eh2.2.1 140 (by decide)).trans ((eh1.2.1 140 (by decide)).trans (F 140 _ hl_140))) rfl (xi_in (n := 7) (by decide) (by decide)) rfl (fun hh3 eh3 => ?_)
      refine xi_iload_n (pc' := 12) (x := (-6)) kc_13_11 rfl rfl ?_
      refine xi_ireturn kc_13_12 mr_13 rfl ?_
      show xw J ov 99 35 (35, [(0, .ref 115), (1, .int a1)], [.int (-6)], hh3) _
      refine xi_ireturn kc_35_35 mr_35 rfl ?_
      show xw J ov 100 196 (785, [(4, .int 0), (3, .ref 167), (2, .ref 115), (1, .ref 0), (0, .ref 1000000)], [.int (-6), .int (-6)], hh3) _
      refine xi_cmt (pc' := 1528) kc_196_785 rfl rfl ?_
      refine xi_iinc (pc' := 1531) (x := 0) (v := 6) (lv' := [(4, .int 6), (3, .ref 167), (2, .ref 115), (1, .ref 0), (0, .ref 1000000)]) kc_196_1528 rfl rfl rfl rfl (xm_lt ml_196 rfl) ?_
      refine xi_goto (pc' := 23) kc_196_1531 rfl ?_
      refine xi_iload (pc' := 25) (x := 6) kc_196_23 rfl rfl ?_
      refine xi_aload_n (pc' := 26) (x := 1000000) kc_196_25 rfl rfl ?_
      refine xi_arraylength (pc' := 27) (n := 6) (v := 6) kc_196_26 rfl (xl_lenO (by decide) hov0 rfl) rfl ?_
      refine xi_bipush (pc' := 29) (v := 6) kc_196_27 rfl rfl ?_
      refine xi_isub (pc' := 30) (v := 0) kc_196_29 rfl rfl ?_
      refine xi_cmt (pc' := 1534) kc_196_30 rfl rfl ?_
      refine xi_iconst (pc' := 1535) (v := 1) kc_196_1534 rfl rfl ?_
      refine xi_ireturn kc_196_1535 mr_196 rfl ?_
      refine ⟨rfl, ?_, ?_⟩
      · rw [eh3.2.2.1, eh2.2.2.1, eh1.2.2.1]; exact hn0
      · rw [eh3.2.2.2, eh2.2.2.2, eh1.2.2.2]; exact hz0
  · refine xi_cmf (pc' := 5) kc_122_2 rfl (xc_ge_f (X := a1.toInt) (Y := 1) rfl (by decide) (by omega)) ?_
    refine xi_aload_n (pc' := 6) (x := 0) kc_122_5 rfl rfl ?_
    refine xi_bipush (pc' := 8) (v := (-4)) kc_122_6 rfl rfl ?_
    refine xi_virtual (mj := 91) (as := [.int (-4)]) (st1 := []) (lv0 := [(0, .ref 0), (1, .int (-4))]) kc_122_8 rfl rfl rfl rfl rfl (F 0 _ hl_0) (Nat.le_of_ble_eq_true rfl) (hJ _ _ _ _ (by decide)) (xm_le ml_91 rfl) rfl ?_
    refine xi_iload_n (pc' := 1) (x := (-4)) kc_91_0 rfl rfl ?_
    refine xi_ineg (pc' := 2) (v := 4) kc_91_1 rfl rfl ?_
    refine xi_istore_n (pc' := 3) (lv' := [(2, .int 4), (0, .ref 0), (1, .int (-4))]) kc_91_2 rfl rfl (xm_lt ml_91 rfl) ?_
    refine xi_iload_n (pc' := 4) (x := 4) kc_91_3 rfl rfl ?_
    refine xi_iff (pc' := 7) kc_91_4 rfl rfl ?_
    refine xi_iload_n (pc' := 8) (x := 4) kc_91_7 rfl rfl ?_
    refine xi_aload_n (pc' := 9) (x := 0) kc_91_8 rfl rfl ?_
    refine xi_getfield (pc' := 12) (v := .ref 94) kc_91_9 rfl rfl rfl (F 0 _ hl_0) rfl ?_
    refine xi_arraylength (pc' := 13) (n := 7) (v := 7) kc_91_12 rfl (xl_lenI (by decide) (by decide) (F 94 _ hl_94) (by simp only [List.length_replicate, List.length_cons, List.length_nil])) rfl ?_
    refine xi_cmf (pc' := 16) kc_91_13 rfl rfl ?_
    refine xi_aload_n (pc' := 17) (x := 0) kc_91_16 rfl rfl ?_
    refine xi_getfield (pc' := 20) (v := .ref 94) kc_91_17 rfl rfl rfl (F 0 _ hl_0) rfl ?_
    refine xi_iload_n (pc' := 21) (x := 4) kc_91_20 rfl rfl ?_
    refine xi_dup2 (pc' := 22) kc_91_21 rfl ⟨rfl, rfl⟩ ?_
    refine xi_iaload (pc' := 23) (v := 0) kc_91_22 rfl (F 94 _ hl_94) (by decide) rfl (xi_in (n := 7) (by decide) (by decide)) rfl ?_
    refine xi_iconst (pc' := 24) (v := 1) kc_91_23 rfl rfl ?_
    refine xi_iadd (pc' := 25) (v := 1) kc_91_24 rfl rfl ?_
    refine xi_iastore (pc' := 26) (x' := [0, 0, 0, 0, 1, 0, 0]) kc_91_25 rfl (F 94 _ hl_94) rfl (xi_in (n := 7) (by decide) (by decide)) rfl (fun hh1 eh1 => ?_)
    refine xi_iload_n (pc' := 27) (x := (-4)) kc_91_26 rfl rfl ?_
    refine xi_ireturn kc_91_27 mr_91 rfl ?_
    show xw J ov 99 122 (11, [(0, .ref 0), (1, .int a1)], [.int (-4)], hh1) _
    refine xi_ireturn kc_122_11 mr_122 rfl ?_
    show xw J ov 100 196 (775, [(4, .int 0), (3, .ref 167), (2, .ref 115), (1, .ref 0), (0, .ref 1000000)], [.int (-4)], hh1) _
    refine xi_aload_n (pc' := 776) (x := 115) kc_196_775 rfl rfl ?_
    refine xi_aload_n (pc' := 777) (x := 1000000) kc_196_776 rfl rfl ?_
    refine xi_iload (pc' := 779) (x := 0) kc_196_777 rfl rfl ?_
    refine xi_iconst (pc' := 780) (v := 1) kc_196_779 rfl rfl ?_
    refine xi_iadd (pc' := 781) (v := 1) kc_196_780 rfl rfl ?_
    refine xi_ialoadO (pc' := 782) (v := a1) kc_196_781 rfl (by decide) hov0 (xi_in (n := 6) (by decide) (by decide)) rfl ?_
    refine xi_virtual (mj := 35) (as := [.int a1]) (st1 := [.int (-4)]) (lv0 := [(0, .ref 115), (1, .int a1)]) kc_196_782 rfl rfl rfl rfl rfl ((eh1.2.1 115 (by decide)).trans (F 115 _ hl_115)) (Nat.le_of_ble_eq_true rfl) (hJ _ _ _ _ (by decide)) (xm_le ml_35 rfl) rfl ?_
    refine xi_aload_n (pc' := 1) (x := 115) kc_35_0 rfl rfl ?_
    refine xi_iconst (pc' := 2) (v := 0) kc_35_1 rfl rfl ?_
    refine xi_putfield (pc' := 5) (fs' := [.int 0, .int 0, .ref 116, .ref 117, .ref 118, .ref 119, .ref 120, .ref 121, .ref 122, .ref 123, .ref 124, .ref 125, .ref 126, .ref 127, .ref 128, .ref 129, .int 4, .ref 130, .int 0, .ref 131, .ref 132, .ref 133, .ref 134, .int 0, .ref 135, .ref 136, .ref 137, .ref 138, .ref 139, .ref 140, .ref 141, .ref 142, .int 0, .int 0, .int 0, .ref 143, .ref 144, .ref 145, .ref 146, .ref 147, .ref 148, .int 0, .ref 149, .ref 150, .ref 151, .int 0, .ref 152, .ref 153, .ref 154, .ref 155, .ref 156, .ref 157, .ref 158, .ref 159, .int 0, .ref 160, .int 0, .ref 161, .ref 162, .ref 163, .ref 164, .int 0, .ref 165, .ref 166]) kc_35_2 rfl rfl rfl ((eh1.2.1 115 (by decide)).trans (F 115 _ hl_115)) rfl rfl rfl (Nat.le_of_ble_eq_true rfl) rfl (fun hh2 eh2 => ?_)
    refine xi_iload_n (pc' := 6) (x := a1) kc_35_5 rfl rfl ?_
    refine xi_iconst (pc' := 7) (v := 1) kc_35_6 rfl rfl ?_
    refine xi_cmf (pc' := 10) kc_35_7 rfl (xc_ge_f (X := a1.toInt) (Y := 1) rfl (by decide) (by omega)) ?_
    refine xi_aload_n (pc' := 11) (x := 115) kc_35_10 rfl rfl ?_
    refine xi_bipush (pc' := 13) (v := (-4)) kc_35_11 rfl rfl ?_
    refine xi_virtual (mj := 13) (as := [.int (-4)]) (st1 := []) (lv0 := [(0, .ref 115), (1, .int (-4))]) kc_35_13 rfl rfl rfl rfl rfl eh2.1 (Nat.le_of_ble_eq_true rfl) (hJ _ _ _ _ (by decide)) (xm_le ml_13 rfl) rfl ?_
    refine xi_aload_n (pc' := 1) (x := 115) kc_13_0 rfl rfl ?_
    refine xi_getfield (pc' := 4) (v := .ref 140) kc_13_1 rfl rfl rfl eh2.1 rfl ?_
    refine xi_iload_n (pc' := 5) (x := (-4)) kc_13_4 rfl rfl ?_
    refine xi_ineg (pc' := 6) (v := 4) kc_13_5 rfl rfl ?_
    refine xi_dup2 (pc' := 7) kc_13_6 rfl ⟨rfl, rfl⟩ ?_
    refine xi_iaload (pc' := 8) (v := 0) kc_13_7 rfl ((eh2.2.1 140 (by decide)).trans ((eh1.2.1 140 (by decide)).trans (F 140 _ hl_140))) (by decide) rfl (xi_in (n := 7) (by decide) (by decide)) rfl ?_
    refine xi_iconst (pc' := 9) (v := 1) kc_13_8 rfl rfl ?_
    refine xi_iadd (pc' := 10) (v := 1) kc_13_9 rfl rfl ?_
    refine xi_iastore (pc' := 11) (x' := [0, 0, 0, 0, 1, 0, 0]) kc_13_10 rfl ((eh2.2.1 140 (by decide)).trans ((eh1.2.1 140 (by decide)).trans (F 140 _ hl_140))) rfl (xi_in (n := 7) (by decide) (by decide)) rfl (fun hh3 eh3 => ?_)
    refine xi_iload_n (pc' := 12) (x := (-4)) kc_13_11 rfl rfl ?_
    refine xi_ireturn kc_13_12 mr_13 rfl ?_
    show xw J ov 99 35 (16, [(0, .ref 115), (1, .int a1)], [.int (-4)], hh3) _
    refine xi_ireturn kc_35_16 mr_35 rfl ?_
    show xw J ov 100 196 (785, [(4, .int 0), (3, .ref 167), (2, .ref 115), (1, .ref 0), (0, .ref 1000000)], [.int (-4), .int (-4)], hh3) _
    refine xi_cmt (pc' := 1528) kc_196_785 rfl rfl ?_
    refine xi_iinc (pc' := 1531) (x := 0) (v := 6) (lv' := [(4, .int 6), (3, .ref 167), (2, .ref 115), (1, .ref 0), (0, .ref 1000000)]) kc_196_1528 rfl rfl rfl rfl (xm_lt ml_196 rfl) ?_
    refine xi_goto (pc' := 23) kc_196_1531 rfl ?_
    refine xi_iload (pc' := 25) (x := 6) kc_196_23 rfl rfl ?_
    refine xi_aload_n (pc' := 26) (x := 1000000) kc_196_25 rfl rfl ?_
    refine xi_arraylength (pc' := 27) (n := 6) (v := 6) kc_196_26 rfl (xl_lenO (by decide) hov0 rfl) rfl ?_
    refine xi_bipush (pc' := 29) (v := 6) kc_196_27 rfl rfl ?_
    refine xi_isub (pc' := 30) (v := 0) kc_196_29 rfl rfl ?_
    refine xi_cmt (pc' := 1534) kc_196_30 rfl rfl ?_
    refine xi_iconst (pc' := 1535) (v := 1) kc_196_1534 rfl rfl ?_
    refine xi_ireturn kc_196_1535 mr_196 rfl ?_
    refine ⟨rfl, ?_, ?_⟩
    · rw [eh3.2.2.1, eh2.2.2.1, eh1.2.2.1]; exact hn0
    · rw [eh3.2.2.2, eh2.2.2.2, eh1.2.2.2]; exact hz0
