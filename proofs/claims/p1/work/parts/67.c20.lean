set_option maxHeartbeats 8000000 in
theorem lc_20 {J : xe_J} {ov : List (List Int32)} (hJ : ∀ d mj as h, mj ≠ xe_loff → J d mj as h = none) {a0 a1 a2 a3 a4 a5 : Int32} (hov0 : ov[0]? = some [a0, a1, a2, a3, a4, a5]) (hov1 : ov[1]? = some [10, 0, 0, 0, 0, 0]) (hov2 : ov[2]? = some [99, 30, 50, 50, 1, 99999]) {h0 : xe_H} (F : xf_fr h0) (hn0 : h0.length ≤ 600002) (hz0 : xe_sz h0 ≤ 7302232) : xw J ov 100 196 (970, [(4, .int 0), (3, .ref 167), (2, .ref 115), (1, .ref 0), (0, .ref 1000000)], [], h0) xf_Q := by
  have rr1 := xc_rng a1
  have rr2 := xc_rng a2
  have rr3 := xc_rng a3
  have rr4 := xc_rng a4
  have rr5 := xc_rng a5
  refine xi_aload_n (pc' := 971) (x := 0) kc_196_970 rfl rfl ?_
  refine xi_aload_n (pc' := 972) (x := 1000000) kc_196_971 rfl rfl ?_
  refine xi_iload (pc' := 974) (x := 0) kc_196_972 rfl rfl ?_
  refine xi_iconst (pc' := 975) (v := 1) kc_196_974 rfl rfl ?_
  refine xi_iadd (pc' := 976) (v := 1) kc_196_975 rfl rfl ?_
  refine xi_ialoadO (pc' := 977) (v := a1) kc_196_976 rfl (by decide) hov0 (xi_in (n := 6) (by decide) (by decide)) rfl ?_
  refine xi_aload_n (pc' := 978) (x := 1000000) kc_196_977 rfl rfl ?_
  refine xi_iload (pc' := 980) (x := 0) kc_196_978 rfl rfl ?_
  refine xi_iconst (pc' := 981) (v := 2) kc_196_980 rfl rfl ?_
  refine xi_iadd (pc' := 982) (v := 2) kc_196_981 rfl rfl ?_
  refine xi_ialoadO (pc' := 983) (v := a2) kc_196_982 rfl (by decide) hov0 (xi_in (n := 6) (by decide) (by decide)) rfl ?_
  by_cases c1 : a2.toInt = 0
  · refine xi_ift (pc' := 990) kc_196_983 rfl (xc_eq_t (X := a2.toInt) (Y := 0) rfl (by decide) (by omega)) ?_
    refine xi_iconst (pc' := 991) (v := 0) kc_196_990 rfl rfl ?_
    refine xi_virtual (mj := 158) (as := [.int a1, .int 0]) (st1 := []) (lv0 := [(0, .ref 0), (1, .int a1), (2, .int 0)]) kc_196_991 rfl rfl rfl rfl rfl (F 0 _ hl_0) (Nat.le_of_ble_eq_true rfl) (hJ _ _ _ _ (by decide)) (xm_le ml_158 rfl) rfl ?_
    refine xi_iload_n (pc' := 1) (x := a1) kc_158_0 rfl rfl ?_
    by_cases c2 : a1.toInt < 0
    · refine xi_ift (pc' := 21) kc_158_1 rfl (xc_lt_t (X := a1.toInt) (Y := 0) rfl (by decide) (by omega)) ?_
      refine xi_aload_n (pc' := 22) (x := 0) kc_158_21 rfl rfl ?_
      refine xi_iconst (pc' := 23) (v := (-1)) kc_158_22 rfl rfl ?_
      refine xi_virtual (mj := 91) (as := [.int (-1)]) (st1 := []) (lv0 := [(0, .ref 0), (1, .int (-1))]) kc_158_23 rfl rfl rfl rfl rfl (F 0 _ hl_0) (Nat.le_of_ble_eq_true rfl) (hJ _ _ _ _ (by decide)) (xm_le ml_91 rfl) rfl ?_
      refine xi_iload_n (pc' := 1) (x := (-1)) kc_91_0 rfl rfl ?_
      refine xi_ineg (pc' := 2) (v := 1) kc_91_1 rfl rfl ?_
      refine xi_istore_n (pc' := 3) (lv' := [(2, .int 1), (0, .ref 0), (1, .int (-1))]) kc_91_2 rfl rfl (xm_lt ml_91 rfl) ?_
      refine xi_iload_n (pc' := 4) (x := 1) kc_91_3 rfl rfl ?_
      refine xi_iff (pc' := 7) kc_91_4 rfl rfl ?_
      refine xi_iload_n (pc' := 8) (x := 1) kc_91_7 rfl rfl ?_
      refine xi_aload_n (pc' := 9) (x := 0) kc_91_8 rfl rfl ?_
      refine xi_getfield (pc' := 12) (v := .ref 94) kc_91_9 rfl rfl rfl (F 0 _ hl_0) rfl ?_
      refine xi_arraylength (pc' := 13) (n := 7) (v := 7) kc_91_12 rfl (xl_lenI (by decide) (by decide) (F 94 _ hl_94) (by simp only [List.length_replicate, List.length_cons, List.length_nil])) rfl ?_
      refine xi_cmf (pc' := 16) kc_91_13 rfl rfl ?_
      refine xi_aload_n (pc' := 17) (x := 0) kc_91_16 rfl rfl ?_
      refine xi_getfield (pc' := 20) (v := .ref 94) kc_91_17 rfl rfl rfl (F 0 _ hl_0) rfl ?_
      refine xi_iload_n (pc' := 21) (x := 1) kc_91_20 rfl rfl ?_
      refine xi_dup2 (pc' := 22) kc_91_21 rfl ⟨rfl, rfl⟩ ?_
      refine xi_iaload (pc' := 23) (v := 0) kc_91_22 rfl (F 94 _ hl_94) (by decide) rfl (xi_in (n := 7) (by decide) (by decide)) rfl ?_
      refine xi_iconst (pc' := 24) (v := 1) kc_91_23 rfl rfl ?_
      refine xi_iadd (pc' := 25) (v := 1) kc_91_24 rfl rfl ?_
      refine xi_iastore (pc' := 26) (x' := [0, 1, 0, 0, 0, 0, 0]) kc_91_25 rfl (F 94 _ hl_94) rfl (xi_in (n := 7) (by decide) (by decide)) rfl (fun hh1 eh1 => ?_)
      refine xi_iload_n (pc' := 27) (x := (-1)) kc_91_26 rfl rfl ?_
      refine xi_ireturn kc_91_27 mr_91 rfl ?_
      show xw J ov 99 158 (26, [(0, .ref 0), (1, .int a1), (2, .int 0)], [.int (-1)], hh1) _
      refine xi_ireturn kc_158_26 mr_158 rfl ?_
      show xw J ov 100 196 (994, [(4, .int 0), (3, .ref 167), (2, .ref 115), (1, .ref 0), (0, .ref 1000000)], [.int (-1)], hh1) _
      refine xi_aload_n (pc' := 995) (x := 115) kc_196_994 rfl rfl ?_
      refine xi_aload_n (pc' := 996) (x := 1000000) kc_196_995 rfl rfl ?_
      refine xi_iload (pc' := 998) (x := 0) kc_196_996 rfl rfl ?_
      refine xi_iconst (pc' := 999) (v := 1) kc_196_998 rfl rfl ?_
      refine xi_iadd (pc' := 1000) (v := 1) kc_196_999 rfl rfl ?_
      refine xi_ialoadO (pc' := 1001) (v := a1) kc_196_1000 rfl (by decide) hov0 (xi_in (n := 6) (by decide) (by decide)) rfl ?_
      refine xi_aload_n (pc' := 1002) (x := 1000000) kc_196_1001 rfl rfl ?_
      refine xi_iload (pc' := 1004) (x := 0) kc_196_1002 rfl rfl ?_
      refine xi_iconst (pc' := 1005) (v := 2) kc_196_1004 rfl rfl ?_
      refine xi_iadd (pc' := 1006) (v := 2) kc_196_1005 rfl rfl ?_
      refine xi_ialoadO (pc' := 1007) (v := a2) kc_196_1006 rfl (by decide) hov0 (xi_in (n := 6) (by decide) (by decide)) rfl ?_
      refine xi_ift (pc' := 1014) kc_196_1007 rfl (xc_eq_t (X := a2.toInt) (Y := 0) rfl (by decide) (by omega)) ?_
      refine xi_iconst (pc' := 1015) (v := 0) kc_196_1014 rfl rfl ?_
      refine xi_virtual (mj := 57) (as := [.int a1, .int 0]) (st1 := [.int (-1)]) (lv0 := [(0, .ref 115), (1, .int a1), (2, .int 0)]) kc_196_1015 rfl rfl rfl rfl rfl ((eh1.2.1 115 (by decide)).trans (F 115 _ hl_115)) (Nat.le_of_ble_eq_true rfl) (hJ _ _ _ _ (by decide)) (xm_le ml_57 rfl) rfl ?_
      refine xi_aload_n (pc' := 1) (x := 115) kc_57_0 rfl rfl ?_
      refine xi_iconst (pc' := 2) (v := 0) kc_57_1 rfl rfl ?_
      refine xi_putfield (pc' := 5) (fs' := [.int 0, .int 0, .ref 116, .ref 117, .ref 118, .ref 119, .ref 120, .ref 121, .ref 122, .ref 123, .ref 124, .ref 125, .ref 126, .ref 127, .ref 128, .ref 129, .int 4, .ref 130, .int 0, .ref 131, .ref 132, .ref 133, .ref 134, .int 0, .ref 135, .ref 136, .ref 137, .ref 138, .ref 139, .ref 140, .ref 141, .ref 142, .int 0, .int 0, .int 0, .ref 143, .ref 144, .ref 145, .ref 146, .ref 147, .ref 148, .int 0, .ref 149, .ref 150, .ref 151, .int 0, .ref 152, .ref 153, .ref 154, .ref 155, .ref 156, .ref 157, .ref 158, .ref 159, .int 0, .ref 160, .int 0, .ref 161, .ref 162, .ref 163, .ref 164, .int 0, .ref 165, .ref 166]) kc_57_2 rfl rfl rfl ((eh1.2.1 115 (by decide)).trans (F 115 _ hl_115)) rfl rfl rfl (Nat.le_of_ble_eq_true rfl) rfl (fun hh2 eh2 => ?_)
      refine xi_iload_n (pc' := 6) (x := a1) kc_57_5 rfl rfl ?_
      refine xi_iconst (pc' := 7) (v := 0) kc_57_6 rfl rfl ?_
      refine xi_aload_n (pc' := 8) (x := 115) kc_57_7 rfl rfl ?_
      refine xi_getfield (pc' := 11) (v := .int 0) kc_57_8 rfl rfl rfl eh2.1 rfl ?_
      refine xi_iconst (pc' := 12) (v := 1) kc_57_11 rfl rfl ?_
      refine xi_isub (pc' := 13) (v := (-1)) kc_57_12 rfl rfl ?_
      refine xi_static (mj := 12) (as := [.int a1, .int 0, .int (-1)]) (st1 := []) (lv0 := [(0, .int a1), (1, .int 0), (2, .int (-1))]) kc_57_13 rfl rfl (Nat.le_of_ble_eq_true rfl) rfl rfl (Nat.le_of_ble_eq_true rfl) (hJ _ _ _ _ (by decide)) (xm_le ml_12 rfl) rfl ?_
      refine xi_iload_n (pc' := 1) (x := a1) kc_12_0 rfl rfl ?_
      refine xi_iload_n (pc' := 2) (x := 0) kc_12_1 rfl rfl ?_
      refine xi_cmt (pc' := 14) kc_12_2 rfl (xc_lt_t (X := a1.toInt) (Y := 0) rfl (by decide) (by omega)) ?_
      refine xi_iconst (pc' := 15) (v := 0) kc_12_14 rfl rfl ?_
      refine xi_ireturn kc_12_15 mr_12 rfl ?_
      show xw J ov 99 57 (16, [(0, .ref 115), (1, .int a1), (2, .int 0)], [.int 0], hh2) _
      refine xi_iff (pc' := 19) kc_57_16 rfl rfl ?_
      refine xi_aload_n (pc' := 20) (x := 115) kc_57_19 rfl rfl ?_
      refine xi_iconst (pc' := 21) (v := (-1)) kc_57_20 rfl rfl ?_
      refine xi_virtual (mj := 13) (as := [.int (-1)]) (st1 := []) (lv0 := [(0, .ref 115), (1, .int (-1))]) kc_57_21 rfl rfl rfl rfl rfl eh2.1 (Nat.le_of_ble_eq_true rfl) (hJ _ _ _ _ (by decide)) (xm_le ml_13 rfl) rfl ?_
      refine xi_aload_n (pc' := 1) (x := 115) kc_13_0 rfl rfl ?_
      refine xi_getfield (pc' := 4) (v := .ref 140) kc_13_1 rfl rfl rfl eh2.1 rfl ?_
      refine xi_iload_n (pc' := 5) (x := (-1)) kc_13_4 rfl rfl ?_
      refine xi_ineg (pc' := 6) (v := 1) kc_13_5 rfl rfl ?_
      refine xi_dup2 (pc' := 7) kc_13_6 rfl ⟨rfl, rfl⟩ ?_
      refine xi_iaload (pc' := 8) (v := 0) kc_13_7 rfl ((eh2.2.1 140 (by decide)).trans ((eh1.2.1 140 (by decide)).trans (F 140 _ hl_140))) (by decide) rfl (xi_in (n := 7) (by decide) (by decide)) rfl ?_
      refine xi_iconst (pc' := 9) (v := 1) kc_13_8 rfl rfl ?_
      refine xi_iadd (pc' := 10) (v := 1) kc_13_9 rfl rfl ?_
      refine xi_iastore (pc' := 11) (x' := [0, 1, 0, 0, 0, 0, 0]) kc_13_10 rfl ((eh2.2.1 140 (by decide)).trans ((eh1.2.1 140 (by decide)).trans (F 140 _ hl_140))) rfl (xi_in (n := 7) (by decide) (by decide)) rfl (fun hh3 eh3 => ?_)
      refine xi_iload_n (pc' := 12) (x := (-1)) kc_13_11 rfl rfl ?_
      refine xi_ireturn kc_13_12 mr_13 rfl ?_
      show xw J ov 99 57 (24, [(0, .ref 115), (1, .int a1), (2, .int 0)], [.int (-1)], hh3) _
      refine xi_ireturn kc_57_24 mr_57 rfl ?_
      show xw J ov 100 196 (1018, [(4, .int 0), (3, .ref 167), (2, .ref 115), (1, .ref 0), (0, .ref 1000000)], [.int (-1), .int (-1)], hh3) _
      refine xi_cmt (pc' := 1528) kc_196_1018 rfl rfl ?_
      refine xi_iinc (pc' := 1531) (x := 0) (v := 6) (lv' := [(4, .int 6), (3, .ref 167), (2, .ref 115), (1, .ref 0), (0, .ref 1000000)]) kc_196_1528 rfl rfl rfl rfl (xm_lt ml_196 rfl) ?_
      refine xi_goto (pc' := 23) kc_196_1531 rfl ?_
      refine xi_iload (pc' := 25) (x := 6) kc_196_23 rfl rfl ?_
      refine xi_aload_n (pc' := 26) (x := 1000000) kc_196_25 rfl rfl ?_
      refine xi_arraylength (pc' := 27) (n := 6) (v := 6) kc_196_26 rfl (xl_lenO (by decide) hov0 rfl) rfl ?_
      refine xi_bipush (pc' := 29) (v := 6) kc_196_27 rfl rfl ?_
      refine xi_isub (pc' := 30) (v := 0) kc_196_29 rfl rfl ?_
      refine xi_cmt (pc' := 1534) kc_196_30 rfl rfl ?_
      refine xi_iconst (pc' := 1535) (v := 1) kc_196_1534 rfl rfl ?_
      refine xi_ireturn kc_196_1535 mr_196 rfl ?_
      refine ⟨rfl, ?_, ?_⟩
      · rw [eh3.2.2.1, eh2.2.2.1, eh1.2.2.1]; exact hn0
      · rw [eh3.2.2.2, eh2.2.2.2, eh1.2.2.2]; exact hz0
    · refine xi_iff (pc' := 4) kc_158_1 rfl (xc_lt_f (X := a1.toInt) (Y := 0) rfl (by decide) (by omega)) ?_
      refine xi_iload_n (pc' := 5) (x := a1) kc_158_4 rfl rfl ?_
      refine xi_aload_n (pc' := 6) (x := 0) kc_158_5 rfl rfl ?_
      refine xi_getfield (pc' := 9) (v := .ref 75) kc_158_6 rfl rfl rfl (F 0 _ hl_0) rfl ?_
      refine xi_getfield (pc' := 12) (v := .int 0) kc_158_9 rfl rfl rfl (F 75 _ hl_75) rfl ?_
      refine xi_cmt (pc' := 21) kc_158_12 rfl (xc_ge_t (X := a1.toInt) (Y := 0) rfl (by decide) (by omega)) ?_
      refine xi_aload_n (pc' := 22) (x := 0) kc_158_21 rfl rfl ?_
      refine xi_iconst (pc' := 23) (v := (-1)) kc_158_22 rfl rfl ?_
      refine xi_virtual (mj := 91) (as := [.int (-1)]) (st1 := []) (lv0 := [(0, .ref 0), (1, .int (-1))]) kc_158_23 rfl rfl rfl rfl rfl (F 0 _ hl_0) (Nat.le_of_ble_eq_true rfl) (hJ _ _ _ _ (by decide)) (xm_le ml_91 rfl) rfl ?_
      refine xi_iload_n (pc' := 1) (x := (-1)) kc_91_0 rfl rfl ?_
      refine xi_ineg (pc' := 2) (v := 1) kc_91_1 rfl rfl ?_
      refine xi_istore_n (pc' := 3) (lv' := [(2, .int 1), (0, .ref 0), (1, .int (-1))]) kc_91_2 rfl rfl (xm_lt ml_91 rfl) ?_
      refine xi_iload_n (pc' := 4) (x := 1) kc_91_3 rfl rfl ?_
      refine xi_iff (pc' := 7) kc_91_4 rfl rfl ?_
      refine xi_iload_n (pc' := 8) (x := 1) kc_91_7 rfl rfl ?_
      refine xi_aload_n (pc' := 9) (x := 0) kc_91_8 rfl rfl ?_
      refine xi_getfield (pc' := 12) (v := .ref 94) kc_91_9 rfl rfl rfl (F 0 _ hl_0) rfl ?_
      refine xi_arraylength (pc' := 13) (n := 7) (v := 7) kc_91_12 rfl (xl_lenI (by decide) (by decide) (F 94 _ hl_94) (by simp only [List.length_replicate, List.length_cons, List.length_nil])) rfl ?_
      refine xi_cmf (pc' := 16) kc_91_13 rfl rfl ?_
      refine xi_aload_n (pc' := 17) (x := 0) kc_91_16 rfl rfl ?_
      refine xi_getfield (pc' := 20) (v := .ref 94) kc_91_17 rfl rfl rfl (F 0 _ hl_0) rfl ?_
      refine xi_iload_n (pc' := 21) (x := 1) kc_91_20 rfl rfl ?_
      refine xi_dup2 (pc' := 22) kc_91_21 rfl ⟨rfl, rfl⟩ ?_
      refine xi_iaload (pc' := 23) (v := 0) kc_91_22 rfl (F 94 _ hl_94) (by decide) rfl (xi_in (n := 7) (by decide) (by decide)) rfl ?_
      refine xi_iconst (pc' := 24) (v := 1) kc_91_23 rfl rfl ?_
      refine xi_iadd (pc' := 25) (v := 1) kc_91_24 rfl rfl ?_
      refine xi_iastore (pc' := 26) (x' := [0, 1, 0, 0, 0, 0, 0]) kc_91_25 rfl (F 94 _ hl_94) rfl (xi_in (n := 7) (by decide) (by decide)) rfl (fun hh1 eh1 => ?_)
      refine xi_iload_n (pc' := 27) (x := (-1)) kc_91_26 rfl rfl ?_
      refine xi_ireturn kc_91_27 mr_91 rfl ?_
      show xw J ov 99 158 (26, [(0, .ref 0), (1, .int a1), (2, .int 0)], [.int (-1)], hh1) _
      refine xi_ireturn kc_158_26 mr_158 rfl ?_
      show xw J ov 100 196 (994, [(4, .int 0), (3, .ref 167), (2, .ref 115), (1, .ref 0), (0, .ref 1000000)], [.int (-1)], hh1) _
      refine xi_aload_n (pc' := 995) (x := 115) kc_196_994 rfl rfl ?_
      refine xi_aload_n (pc' := 996) (x := 1000000) kc_196_995 rfl rfl ?_
      refine xi_iload (pc' := 998) (x := 0) kc_196_996 rfl rfl ?_
      refine xi_iconst (pc' := 999) (v := 1) kc_196_998 rfl rfl ?_
      refine xi_iadd (pc' := 1000) (v := 1) kc_196_999 rfl rfl ?_
      refine xi_ialoadO (pc' := 1001) (v := a1) kc_196_1000 rfl (by decide) hov0 (xi_in (n := 6) (by decide) (by decide)) rfl ?_
      refine xi_aload_n (pc' := 1002) (x := 1000000) kc_196_1001 rfl rfl ?_
      refine xi_iload (pc' := 1004) (x := 0) kc_196_1002 rfl rfl ?_
      refine xi_iconst (pc' := 1005) (v := 2) kc_196_1004 rfl rfl ?_
      refine xi_iadd (pc' := 1006) (v := 2) kc_196_1005 rfl rfl ?_
      refine xi_ialoadO (pc' := 1007) (v := a2) kc_196_1006 rfl (by decide) hov0 (xi_in (n := 6) (by decide) (by decide)) rfl ?_
      refine xi_ift (pc' := 1014) kc_196_1007 rfl (xc_eq_t (X := a2.toInt) (Y := 0) rfl (by decide) (by omega)) ?_
      refine xi_iconst (pc' := 1015) (v := 0) kc_196_1014 rfl rfl ?_
      refine xi_virtual (mj := 57) (as := [.int a1, .int 0]) (st1 := [.int (-1)]) (lv0 := [(0, .ref 115), (1, .int a1), (2, .int 0)]) kc_196_1015 rfl rfl rfl rfl rfl ((eh1.2.1 115 (by decide)).trans (F 115 _ hl_115)) (Nat.le_of_ble_eq_true rfl) (hJ _ _ _ _ (by decide)) (xm_le ml_57 rfl) rfl ?_
      refine xi_aload_n (pc' := 1) (x := 115) kc_57_0 rfl rfl ?_
      refine xi_iconst (pc' := 2) (v := 0) kc_57_1 rfl rfl ?_
      refine xi_putfield (pc' := 5) (fs' := [.int 0, .int 0, .ref 116, .ref 117, .ref 118, .ref 119, .ref 120, .ref 121, .ref 122, .ref 123, .ref 124, .ref 125, .ref 126, .ref 127, .ref 128, .ref 129, .int 4, .ref 130, .int 0, .ref 131, .ref 132, .ref 133, .ref 134, .int 0, .ref 135, .ref 136, .ref 137, .ref 138, .ref 139, .ref 140, .ref 141, .ref 142, .int 0, .int 0, .int 0, .ref 143, .ref 144, .ref 145, .ref 146, .ref 147, .ref 148, .int 0, .ref 149, .ref 150, .ref 151, .int 0, .ref 152, .ref 153, .ref 154, .ref 155, .ref 156, .ref 157, .ref 158, .ref 159, .int 0, .ref 160, .int 0, .ref 161, .ref 162, .ref 163, .ref 164, .int 0, .ref 165, .ref 166]) kc_57_2 rfl rfl rfl ((eh1.2.1 115 (by decide)).trans (F 115 _ hl_115)) rfl rfl rfl (Nat.le_of_ble_eq_true rfl) rfl (fun hh2 eh2 => ?_)
      refine xi_iload_n (pc' := 6) (x := a1) kc_57_5 rfl rfl ?_
      refine xi_iconst (pc' := 7) (v := 0) kc_57_6 rfl rfl ?_
      refine xi_aload_n (pc' := 8) (x := 115) kc_57_7 rfl rfl ?_
      refine xi_getfield (pc' := 11) (v := .int 0) kc_57_8 rfl rfl rfl eh2.1 rfl ?_
      refine xi_iconst (pc' := 12) (v := 1) kc_57_11 rfl rfl ?_
      refine xi_isub (pc' := 13) (v := (-1)) kc_57_12 rfl rfl ?_
      refine xi_static (mj := 12) (as := [.int a1, .int 0, .int (-1)]) (st1 := []) (lv0 := [(0, .int a1), (1, .int 0), (2, .int (-1))]) kc_57_13 rfl rfl (Nat.le_of_ble_eq_true rfl) rfl rfl (Nat.le_of_ble_eq_true rfl) (hJ _ _ _ _ (by decide)) (xm_le ml_12 rfl) rfl ?_
      refine xi_iload_n (pc' := 1) (x := a1) kc_12_0 rfl rfl ?_
      refine xi_iload_n (pc' := 2) (x := 0) kc_12_1 rfl rfl ?_
      refine xi_cmf (pc' := 5) kc_12_2 rfl (xc_lt_f (X := a1.toInt) (Y := 0) rfl (by decide) (by omega)) ?_
      refine xi_iload_n (pc' := 6) (x := a1) kc_12_5 rfl rfl ?_
      refine xi_iload_n (pc' := 7) (x := (-1)) kc_12_6 rfl rfl ?_
      refine xi_cmt (pc' := 14) kc_12_7 rfl (xc_gt_t (X := a1.toInt) (Y := (-1)) rfl (by decide) (by omega)) ?_
      refine xi_iconst (pc' := 15) (v := 0) kc_12_14 rfl rfl ?_
      refine xi_ireturn kc_12_15 mr_12 rfl ?_
      show xw J ov 99 57 (16, [(0, .ref 115), (1, .int a1), (2, .int 0)], [.int 0], hh2) _
      refine xi_iff (pc' := 19) kc_57_16 rfl rfl ?_
      refine xi_aload_n (pc' := 20) (x := 115) kc_57_19 rfl rfl ?_
      refine xi_iconst (pc' := 21) (v := (-1)) kc_57_20 rfl rfl ?_
      refine xi_virtual (mj := 13) (as := [.int (-1)]) (st1 := []) (lv0 := [(0, .ref 115), (1, .int (-1))]) kc_57_21 rfl rfl rfl rfl rfl eh2.1 (Nat.le_of_ble_eq_true rfl) (hJ _ _ _ _ (by decide)) (xm_le ml_13 rfl) rfl ?_
      refine xi_aload_n (pc' := 1) (x := 115) kc_13_0 rfl rfl ?_
      refine xi_getfield (pc' := 4) (v := .ref 140) kc_13_1 rfl rfl rfl eh2.1 rfl ?_
      refine xi_iload_n (pc' := 5) (x := (-1)) kc_13_4 rfl rfl ?_
      refine xi_ineg (pc' := 6) (v := 1) kc_13_5 rfl rfl ?_
      refine xi_dup2 (pc' := 7) kc_13_6 rfl ⟨rfl, rfl⟩ ?_
      refine xi_iaload (pc' := 8) (v := 0) kc_13_7 rfl ((eh2.2.1 140 (by decide)).trans ((eh1.2.1 140 (by decide)).trans (F 140 _ hl_140))) (by decide) rfl (xi_in (n := 7) (by decide) (by decide)) rfl ?_
      refine xi_iconst (pc' := 9) (v := 1) kc_13_8 rfl rfl ?_
      refine xi_iadd (pc' := 10) (v := 1) kc_13_9 rfl rfl ?_
      refine xi_iastore (pc' := 11) (x' := [0, 1, 0, 0, 0, 0, 0]) kc_13_10 rfl ((eh2.2.1 140 (by decide)).trans ((eh1.2.1 140 (by decide)).trans (F 140 _ hl_140))) rfl (xi_in (n := 7) (by decide) (by decide)) rfl (fun hh3 eh3 => ?_)
      refine xi_iload_n (pc' := 12) (x := (-1)) kc_13_11 rfl rfl ?_
      refine xi_ireturn kc_13_12 mr_13 rfl ?_
      show xw J ov 99 57 (24, [(0, .ref 115), (1, .int a1), (2, .int 0)], [.int (-1)], hh3) _
      refine xi_ireturn kc_57_24 mr_57 rfl ?_
      show xw J ov 100 196 (1018, [(4, .int 0), (3, .ref 167), (2, .ref 115), (1, .ref 0), (0, .ref 1000000)], [.int (-1), .int (-1)], hh3) _
      refine xi_cmt (pc' := 1528) kc_196_1018 rfl rfl ?_
      refine xi_iinc (pc' := 1531) (x := 0) (v := 6) (lv' := [(4, .int 6), (3, .ref 167), (2, .ref 115), (1, .ref 0), (0, .ref 1000000)]) kc_196_1528 rfl rfl rfl rfl (xm_lt ml_196 rfl) ?_
      refine xi_goto (pc' := 23) kc_196_1531 rfl ?_
      refine xi_iload (pc' := 25) (x := 6) kc_196_23 rfl rfl ?_
      refine xi_aload_n (pc' := 26) (x := 1000000) kc_196_25 rfl rfl ?_
      refine xi_arraylength (pc' := 27) (n := 6) (v := 6) kc_196_26 rfl (xl_lenO (by decide) hov0 rfl) rfl ?_
      refine xi_bipush (pc' := 29) (v := 6) kc_196_27 rfl rfl ?_
      refine xi_isub (pc' := 30) (v := 0) kc_196_29 rfl rfl ?_
      refine xi_cmt (pc' := 1534) kc_196_30 rfl rfl ?_
      refine xi_iconst (pc' := 1535) (v := 1) kc_196_1534 rfl rfl ?_
      refine xi_ireturn kc_196_1535 mr_196 rfl ?_
      refine ⟨rfl, ?_, ?_⟩
      · rw [eh3.2.2.1, eh2.2.2.1, eh1.2.2.1]; exact hn0
      · rw [eh3.2.2.2, eh2.2.2.2, eh1.2.2.2]; exact hz0
  · refine xi_iff (pc' := 986) kc_196_983 rfl (xc_eq_f (X := a2.toInt) (Y := 0) rfl (by decide) (by omega)) ?_
    refine xi_iconst (pc' := 987) (v := 1) kc_196_986 rfl rfl ?_
    refine xi_goto (pc' := 991) kc_196_987 rfl ?_
    refine xi_virtual (mj := 158) (as := [.int a1, .int 1]) (st1 := []) (lv0 := [(0, .ref 0), (1, .int a1), (2, .int 1)]) kc_196_991 rfl rfl rfl rfl rfl (F 0 _ hl_0) (Nat.le_of_ble_eq_true rfl) (hJ _ _ _ _ (by decide)) (xm_le ml_158 rfl) rfl ?_
    refine xi_iload_n (pc' := 1) (x := a1) kc_158_0 rfl rfl ?_
    by_cases c3 : a1.toInt < 0
    · refine xi_ift (pc' := 21) kc_158_1 rfl (xc_lt_t (X := a1.toInt) (Y := 0) rfl (by decide) (by omega)) ?_
      refine xi_aload_n (pc' := 22) (x := 0) kc_158_21 rfl rfl ?_
      refine xi_iconst (pc' := 23) (v := (-1)) kc_158_22 rfl rfl ?_
      refine xi_virtual (mj := 91) (as := [.int (-1)]) (st1 := []) (lv0 := [(0, .ref 0), (1, .int (-1))]) kc_158_23 rfl rfl rfl rfl rfl (F 0 _ hl_0) (Nat.le_of_ble_eq_true rfl) (hJ _ _ _ _ (by decide)) (xm_le ml_91 rfl) rfl ?_
      refine xi_iload_n (pc' := 1) (x := (-1)) kc_91_0 rfl rfl ?_
      refine xi_ineg (pc' := 2) (v := 1) kc_91_1 rfl rfl ?_
      refine xi_istore_n (pc' := 3) (lv' := [(2, .int 1), (0, .ref 0), (1, .int (-1))]) kc_91_2 rfl rfl (xm_lt ml_91 rfl) ?_
      refine xi_iload_n (pc' := 4) (x := 1) kc_91_3 rfl rfl ?_
      refine xi_iff (pc' := 7) kc_91_4 rfl rfl ?_
      refine xi_iload_n (pc' := 8) (x := 1) kc_91_7 rfl rfl ?_
      refine xi_aload_n (pc' := 9) (x := 0) kc_91_8 rfl rfl ?_
      refine xi_getfield (pc' := 12) (v := .ref 94) kc_91_9 rfl rfl rfl (F 0 _ hl_0) rfl ?_
      refine xi_arraylength (pc' := 13) (n := 7) (v := 7) kc_91_12 rfl (xl_lenI (by decide) (by decide) (F 94 _ hl_94) (by simp only [List.length_replicate, List.length_cons, List.length_nil])) rfl ?_
      refine xi_cmf (pc' := 16) kc_91_13 rfl rfl ?_
      refine xi_aload_n (pc' := 17) (x := 0) kc_91_16 rfl rfl ?_
      refine xi_getfield (pc' := 20) (v := .ref 94) kc_91_17 rfl rfl rfl (F 0 _ hl_0) rfl ?_
      refine xi_iload_n (pc' := 21) (x := 1) kc_91_20 rfl rfl ?_
      refine xi_dup2 (pc' := 22) kc_91_21 rfl ⟨rfl, rfl⟩ ?_
      refine xi_iaload (pc' := 23) (v := 0) kc_91_22 rfl (F 94 _ hl_94) (by decide) rfl (xi_in (n := 7) (by decide) (by decide)) rfl ?_
      refine xi_iconst (pc' := 24) (v := 1) kc_91_23 rfl rfl ?_
      refine xi_iadd (pc' := 25) (v := 1) kc_91_24 rfl rfl ?_
      refine xi_iastore (pc' := 26) (x' := [0, 1, 0, 0, 0, 0, 0]) kc_91_25 rfl (F 94 _ hl_94) rfl (xi_in (n := 7) (by decide) (by decide)) rfl (fun hh1 eh1 => ?_)
      refine xi_iload_n (pc' := 27) (x := (-1)) kc_91_26 rfl rfl ?_
      refine xi_ireturn kc_91_27 mr_91 rfl ?_
      show xw J ov 99 158 (26, [(0, .ref 0), (1, .int a1), (2, .int 1)], [.int (-1)], hh1) _
      refine xi_ireturn kc_158_26 mr_158 rfl ?_
      show xw J ov 100 196 (994, [(4, .int 0), (3, .ref 167), (2, .ref 115), (1, .ref 0), (0, .ref 1000000)], [.int (-1)], hh1) _
      refine xi_aload_n (pc' := 995) (x := 115) kc_196_994 rfl rfl ?_
      refine xi_aload_n (pc' := 996) (x := 1000000) kc_196_995 rfl rfl ?_
      refine xi_iload (pc' := 998) (x := 0) kc_196_996 rfl rfl ?_
      refine xi_iconst (pc' := 999) (v := 1) kc_196_998 rfl rfl ?_
      refine xi_iadd (pc' := 1000) (v := 1) kc_196_999 rfl rfl ?_
      refine xi_ialoadO (pc' := 1001) (v := a1) kc_196_1000 rfl (by decide) hov0 (xi_in (n := 6) (by decide) (by decide)) rfl ?_
      refine xi_aload_n (pc' := 1002) (x := 1000000) kc_196_1001 rfl rfl ?_
      refine xi_iload (pc' := 1004) (x := 0) kc_196_1002 rfl rfl ?_
      refine xi_iconst (pc' := 1005) (v := 2) kc_196_1004 rfl rfl ?_
      refine xi_iadd (pc' := 1006) (v := 2) kc_196_1005 rfl rfl ?_
      refine xi_ialoadO (pc' := 1007) (v := a2) kc_196_1006 rfl (by decide) hov0 (xi_in (n := 6) (by decide) (by decide)) rfl ?_
      refine xi_iff (pc' := 1010) kc_196_1007 rfl (xc_eq_f (X := a2.toInt) (Y := 0) rfl (by decide) (by omega)) ?_
      refine xi_iconst (pc' := 1011) (v := 1) kc_196_1010 rfl rfl ?_
      refine xi_goto (pc' := 1015) kc_196_1011 rfl ?_
      refine xi_virtual (mj := 57) (as := [.int a1, .int 1]) (st1 := [.int (-1)]) (lv0 := [(0, .ref 115), (1, .int a1), (2, .int 1)]) kc_196_1015 rfl rfl rfl rfl rfl ((eh1.2.1 115 (by decide)).trans (F 115 _ hl_115)) (Nat.le_of_ble_eq_true rfl) (hJ _ _ _ _ (by decide)) (xm_le ml_57 rfl) rfl ?_
      refine xi_aload_n (pc' := 1) (x := 115) kc_57_0 rfl rfl ?_
      refine xi_iconst (pc' := 2) (v := 0) kc_57_1 rfl rfl ?_
      refine xi_putfield (pc' := 5) (fs' := [.int 0, .int 0, .ref 116, .ref 117, .ref 118, .ref 119, .ref 120, .ref 121, .ref 122, .ref 123, .ref 124, .ref 125, .ref 126, .ref 127, .ref 128, .ref 129, .int 4, .ref 130, .int 0, .ref 131, .ref 132, .ref 133, .ref 134, .int 0, .ref 135, .ref 136, .ref 137, .ref 138, .ref 139, .ref 140, .ref 141, .ref 142, .int 0, .int 0, .int 0, .ref 143, .ref 144, .ref 145, .ref 146, .ref 147, .ref 148, .int 0, .ref 149, .ref 150, .ref 151, .int 0, .ref 152, .ref 153, .ref 154, .ref 155, .ref 156, .ref 157, .ref 158, .ref 159, .int 0, .ref 160, .int 0, .ref 161, .ref 162, .ref 163, .ref 164, .int 0, .ref 165, .ref 166]) kc_57_2 rfl rfl rfl ((eh1.2.1 115 (by decide)).trans (F 115 _ hl_115)) rfl rfl rfl (Nat.le_of_ble_eq_true rfl) rfl (fun hh2 eh2 => ?_)
      refine xi_iload_n (pc' := 6) (x := a1) kc_57_5 rfl rfl ?_
      refine xi_iconst (pc' := 7) (v := 0) kc_57_6 rfl rfl ?_
      refine xi_aload_n (pc' := 8) (x := 115) kc_57_7 rfl rfl ?_
      refine xi_getfield (pc' := 11) (v := .int 0) kc_57_8 rfl rfl rfl eh2.1 rfl ?_
      refine xi_iconst (pc' := 12) (v := 1) kc_57_11 rfl rfl ?_
      refine xi_isub (pc' := 13) (v := (-1)) kc_57_12 rfl rfl ?_
      refine xi_static (mj := 12) (as := [.int a1, .int 0, .int (-1)]) (st1 := []) (lv0 := [(0, .int a1), (1, .int 0), (2, .int (-1))]) kc_57_13 rfl rfl (Nat.le_of_ble_eq_true rfl) rfl rfl (Nat.le_of_ble_eq_true rfl) (hJ _ _ _ _ (by decide)) (xm_le ml_12 rfl) rfl ?_
      refine xi_iload_n (pc' := 1) (x := a1) kc_12_0 rfl rfl ?_
      refine xi_iload_n (pc' := 2) (x := 0) kc_12_1 rfl rfl ?_
      refine xi_cmt (pc' := 14) kc_12_2 rfl (xc_lt_t (X := a1.toInt) (Y := 0) rfl (by decide) (by omega)) ?_
      refine xi_iconst (pc' := 15) (v := 0) kc_12_14 rfl rfl ?_
      refine xi_ireturn kc_12_15 mr_12 rfl ?_
      show xw J ov 99 57 (16, [(0, .ref 115), (1, .int a1), (2, .int 1)], [.int 0], hh2) _
      refine xi_iff (pc' := 19) kc_57_16 rfl rfl ?_
      refine xi_aload_n (pc' := 20) (x := 115) kc_57_19 rfl rfl ?_
      refine xi_iconst (pc' := 21) (v := (-1)) kc_57_20 rfl rfl ?_
      refine xi_virtual (mj := 13) (as := [.int (-1)]) (st1 := []) (lv0 := [(0, .ref 115), (1, .int (-1))]) kc_57_21 rfl rfl rfl rfl rfl eh2.1 (Nat.le_of_ble_eq_true rfl) (hJ _ _ _ _ (by decide)) (xm_le ml_13 rfl) rfl ?_
      refine xi_aload_n (pc' := 1) (x := 115) kc_13_0 rfl rfl ?_
      refine xi_getfield (pc' := 4) (v := .ref 140) kc_13_1 rfl rfl rfl eh2.1 rfl ?_
      refine xi_iload_n (pc' := 5) (x := (-1)) kc_13_4 rfl rfl ?_
      refine xi_ineg (pc' := 6) (v := 1) kc_13_5 rfl rfl ?_
      refine xi_dup2 (pc' := 7) kc_13_6 rfl ⟨rfl, rfl⟩ ?_
      refine xi_iaload (pc' := 8) (v := 0) kc_13_7 rfl ((eh2.2.1 140 (by decide)).trans ((eh1.2.1 140 (by decide)).trans (F 140 _ hl_140))) (by decide) rfl (xi_in (n := 7) (by decide) (by decide)) rfl ?_
      refine xi_iconst (pc' := 9) (v := 1) kc_13_8 rfl rfl ?_
      refine xi_iadd (pc' := 10) (v := 1) kc_13_9 rfl rfl ?_
      refine xi_iastore (pc' := 11) (x' := [0, 1, 0, 0, 0, 0, 0]) kc_13_10 rfl ((eh2.2.1 140 (by decide)).trans ((eh1.2.1 140 (by decide)).trans (F 140 _ hl_140))) rfl (xi_in (n := 7) (by decide) (by decide)) rfl (fun hh3 eh3 => ?_)
      refine xi_iload_n (pc' := 12) (x := (-1)) kc_13_11 rfl rfl ?_
      refine xi_ireturn kc_13_12 mr_13 rfl ?_
      show xw J ov 99 57 (24, [(0, .ref 115), (1, .int a1), (2, .int 1)], [.int (-1)], hh3) _
      refine xi_ireturn kc_57_24 mr_57 rfl ?_
      show xw J ov 100 196 (1018, [(4, .int 0), (3, .ref 167), (2, .ref 115), (1, .ref 0), (0, .ref 1000000)], [.int (-1), .int (-1)], hh3) _
      refine xi_cmt (pc' := 1528) kc_196_1018 rfl rfl ?_
      refine xi_iinc (pc' := 1531) (x := 0) (v := 6) (lv' := [(4, .int 6), (3, .ref 167), (2, .ref 115), (1, .ref 0), (0, .ref 1000000)]) kc_196_1528 rfl rfl rfl rfl (xm_lt ml_196 rfl) ?_
      refine xi_goto (pc' := 23) kc_196_1531 rfl ?_
      refine xi_iload (pc' := 25) (x := 6) kc_196_23 rfl rfl ?_
      refine xi_aload_n (pc' := 26) (x := 1000000) kc_196_25 rfl rfl ?_
      refine xi_arraylength (pc' := 27) (n := 6) (v := 6) kc_196_26 rfl (xl_lenO (by decide) hov0 rfl) rfl ?_
      refine xi_bipush (pc' := 29) (v := 6) kc_196_27 rfl rfl ?_
      refine xi_isub (pc' := 30) (v := 0) kc_196_29 rfl rfl ?_
      refine xi_cmt (pc' := 1534) kc_196_30 rfl rfl ?_
      refine xi_iconst (pc' := 1535) (v := 1) kc_196_1534 rfl rfl ?_
      refine xi_ireturn kc_196_1535 mr_196 rfl ?_
      refine ⟨rfl, ?_, ?_⟩
      · rw [eh3.2.2.1, eh2.2.2.1, eh1.2.2.1]; exact hn0
      · rw [eh3.2.2.2, eh2.2.2.2, eh1.2.2.2]; exact hz0
    · refine xi_iff (pc' := 4) kc_158_1 rfl (xc_lt_f (X := a1.toInt) (Y := 0) rfl (by decide) (by omega)) ?_
      refine xi_iload_n (pc' := 5) (x := a1) kc_158_4 rfl rfl ?_
      refine xi_aload_n (pc' := 6) (x := 0) kc_158_5 rfl rfl ?_
      refine xi_getfield (pc' := 9) (v := .ref 75) kc_158_6 rfl rfl rfl (F 0 _ hl_0) rfl ?_
      refine xi_getfield (pc' := 12) (v := .int 0) kc_158_9 rfl rfl rfl (F 75 _ hl_75) rfl ?_
      refine xi_cmt (pc' := 21) kc_158_12 rfl (xc_ge_t (X := a1.toInt) (Y := 0) rfl (by decide) (by omega)) ?_
      refine xi_aload_n (pc' := 22) (x := 0) kc_158_21 rfl rfl ?_
      refine xi_iconst (pc' := 23) (v := (-1)) kc_158_22 rfl rfl ?_
      refine xi_virtual (mj := 91) (as := [.int (-1)]) (st1 := []) (lv0 := [(0, .ref 0), (1, .int (-1))]) kc_158_23 rfl rfl rfl rfl rfl (F 0 _ hl_0) (Nat.le_of_ble_eq_true rfl) (hJ _ _ _ _ (by decide)) (xm_le ml_91 rfl) rfl ?_
      refine xi_iload_n (pc' := 1) (x := (-1)) kc_91_0 rfl rfl ?_
      refine xi_ineg (pc' := 2) (v := 1) kc_91_1 rfl rfl ?_
      refine xi_istore_n (pc' := 3) (lv' := [(2, .int 1), (0, .ref 0), (1, .int (-1))]) kc_91_2 rfl rfl (xm_lt ml_91 rfl) ?_
      refine xi_iload_n (pc' := 4) (x := 1) kc_91_3 rfl rfl ?_
      refine xi_iff (pc' := 7) kc_91_4 rfl rfl ?_
      refine xi_iload_n (pc' := 8) (x := 1) kc_91_7 rfl rfl ?_
      refine xi_aload_n (pc' := 9) (x := 0) kc_91_8 rfl rfl ?_
      refine xi_getfield (pc' := 12) (v := .ref 94) kc_91_9 rfl rfl rfl (F 0 _ hl_0) rfl ?_
      refine xi_arraylength (pc' := 13) (n := 7) (v := 7) kc_91_12 rfl (xl_lenI (by decide) (by decide) (F 94 _ hl_94) (by simp only [List.length_replicate, List.length_cons, List.length_nil])) rfl ?_
      refine xi_cmf (pc' := 16) kc_91_13 rfl rfl ?_
      refine xi_aload_n (pc' := 17) (x := 0) kc_91_16 rfl rfl ?_
      refine xi_getfield (pc' := 20) (v := .ref 94) kc_91_17 rfl rfl rfl (F 0 _ hl_0) rfl ?_
      refine xi_iload_n (pc' := 21) (x := 1) kc_91_20 rfl rfl ?_
      refine xi_dup2 (pc' := 22) kc_91_21 rfl ⟨rfl, rfl⟩ ?_
      refine xi_iaload (pc' := 23) (v := 0) kc_91_22 rfl (F 94 _ hl_94) (by decide) rfl (xi_in (n := 7) (by decide) (by decide)) rfl ?_
      refine xi_iconst (pc' := 24) (v := 1) kc_91_23 rfl rfl ?_
      refine xi_iadd (pc' := 25) (v := 1) kc_91_24 rfl rfl ?_
      refine xi_iastore (pc' := 26) (x' := [0, 1, 0, 0, 0, 0, 0]) kc_91_25 rfl (F 94 _ hl_94) rfl (xi_in (n := 7) (by decide) (by decide)) rfl (fun hh1 eh1 => ?_)
      refine xi_iload_n (pc' := 27) (x := (-1)) kc_91_26 rfl rfl ?_
      refine xi_ireturn kc_91_27 mr_91 rfl ?_
      show xw J ov 99 158 (26, [(0, .ref 0), (1, .int a1), (2, .int 1)], [.int (-1)], hh1) _
      refine xi_ireturn kc_158_26 mr_158 rfl ?_
      show xw J ov 100 196 (994, [(4, .int 0), (3, .ref 167), (2, .ref 115), (1, .ref 0), (0, .ref 1000000)], [.int (-1)], hh1) _
      refine xi_aload_n (pc' := 995) (x := 115) kc_196_994 rfl rfl ?_
      refine xi_aload_n (pc' := 996) (x := 1000000) kc_196_995 rfl rfl ?_
      refine xi_iload (pc' := 998) (x := 0) kc_196_996 rfl rfl ?_
      refine xi_iconst (pc' := 999) (v := 1) kc_196_998 rfl rfl ?_
      refine xi_iadd (pc' := 1000) (v := 1) kc_196_999 rfl rfl ?_
      refine xi_ialoadO (pc' := 1001) (v := a1) kc_196_1000 rfl (by decide) hov0 (xi_in (n := 6) (by decide) (by decide)) rfl ?_
      refine xi_aload_n (pc' := 1002) (x := 1000000) kc_196_1001 rfl rfl ?_
      refine xi_iload (pc' := 1004) (x := 0) kc_196_1002 rfl rfl ?_
      refine xi_iconst (pc' := 1005) (v := 2) kc_196_1004 rfl rfl ?_
      refine xi_iadd (pc' := 1006) (v := 2) kc_196_1005 rfl rfl ?_
      refine xi_ialoadO (pc' := 1007) (v := a2) kc_196_1006 rfl (by decide) hov0 (xi_in (n := 6) (by decide) (by decide)) rfl ?_
      refine xi_iff (pc' := 1010) kc_196_1007 rfl (xc_eq_f (X := a2.toInt) (Y := 0) rfl (by decide) (by omega)) ?_
      refine xi_iconst (pc' := 1011) (v := 1) kc_196_1010 rfl rfl ?_
      refine xi_goto (pc' := 1015) kc_196_1011 rfl ?_
      refine xi_virtual (mj := 57) (as := [.int a1, .int 1]) (st1 := [.int (-1)]) (lv0 := [(0, .ref 115), (1, .int a1), (2, .int 1)]) kc_196_1015 rfl rfl rfl rfl rfl ((eh1.2.1 115 (by decide)).trans (F 115 _ hl_115)) (Nat.le_of_ble_eq_true rfl) (hJ _ _ _ _ (by decide)) (xm_le ml_57 rfl) rfl ?_
      refine xi_aload_n (pc' := 1) (x := 115) kc_57_0 rfl rfl ?_
      refine xi_iconst (pc' := 2) (v := 0) kc_57_1 rfl rfl ?_
      refine xi_putfield (pc' := 5) (fs' := [.int 0, .int 0, .ref 116, .ref 117, .ref 118, .ref 119, .ref 120, .ref 121, .ref 122, .ref 123, .ref 124, .ref 125, .ref 126, .ref 127, .ref 128, .ref 129, .int 4, .ref 130, .int 0, .ref 131, .ref 132, .ref 133, .ref 134, .int 0, .ref 135, .ref 136, .ref 137, .ref 138, .ref 139, .ref 140, .ref 141, .ref 142, .int 0, .int 0, .int 0, .ref 143, .ref 144, .ref 145, .ref 146, .ref 147, .ref 148, .int 0, .ref 149, .ref 150, .ref 151, .int 0, .ref 152, .ref 153, .ref 154, .ref 155, .ref 156, .ref 157, .ref 158, .ref 159, .int 0, .ref 160, .int 0, .ref 161, .ref 162, .ref 163, .ref 164, .int 0, .ref 165, .ref 166]) kc_57_2 rfl rfl rfl ((eh1.2.1 115 (by decide)).trans (F 115 _ hl_115)) rfl rfl rfl (Nat.le_of_ble_eq_true rfl) rfl (fun hh2 eh2 => ?_)
      refine xi_iload_n (pc' := 6) (x := a1) kc_57_5 rfl rfl ?_
      refine xi_iconst (pc' := 7) (v := 0) kc_57_6 rfl rfl ?_
      refine xi_aload_n (pc' := 8) (x := 115) kc_57_7 rfl rfl ?_
      refine xi_getfield (pc' := 11) (v := .int 0) kc_57_8 rfl rfl rfl eh2.1 rfl ?_
      refine xi_iconst (pc' := 12) (v := 1) kc_57_11 rfl rfl ?_
      refine xi_isub (pc' := 13) (v := (-1)) kc_57_12 rfl rfl ?_
      refine xi_static (mj := 12) (as := [.int a1, .int 0, .int (-1)]) (st1 := []) (lv0 := [(0, .int a1), (1, .int 0), (2, .int (-1))]) kc_57_13 rfl rfl (Nat.le_of_ble_eq_true rfl) rfl rfl (Nat.le_of_ble_eq_true rfl) (hJ _ _ _ _ (by decide)) (xm_le ml_12 rfl) rfl ?_
      refine xi_iload_n (pc' := 1) (x := a1) kc_12_0 rfl rfl ?_
      refine xi_iload_n (pc' := 2) (x := 0) kc_12_1 rfl rfl ?_
      refine xi_cmf (pc' := 5) kc_12_2 rfl (xc_lt_f (X := a1.toInt) (Y := 0) rfl (by decide) (by omega)) ?_
      refine xi_iload_n (pc' := 6) (x := a1) kc_12_5 rfl rfl ?_
      refine xi_iload_n (pc' := 7) (x := (-1)) kc_12_6 rfl rfl ?_
      refine xi_cmt (pc' := 14) kc_12_7 rfl (xc_gt_t (X := a1.toInt) (Y := (-1)) rfl (by decide) (by omega)) ?_
      refine xi_iconst (pc' := 15) (v := 0) kc_12_14 rfl rfl ?_
      refine xi_ireturn kc_12_15 mr_12 rfl ?_
      show xw J ov 99 57 (16, [(0, .ref 115), (1, .int a1), (2, .int 1)], [.int 0], hh2) _
      refine xi_iff (pc' := 19) kc_57_16 rfl rfl ?_
      refine xi_aload_n (pc' := 20) (x := 115) kc_57_19 rfl rfl ?_
      refine xi_iconst (pc' := 21) (v := (-1)) kc_57_20 rfl rfl ?_
      refine xi_virtual (mj := 13) (as := [.int (-1)]) (st1 := []) (lv0 := [(0, .ref 115), (1, .int (-1))]) kc_57_21 rfl rfl rfl rfl rfl eh2.1 (Nat.le_of_ble_eq_true rfl) (hJ _ _ _ _ (by decide)) (xm_le ml_13 rfl) rfl ?_
      refine xi_aload_n (pc' := 1) (x := 115) kc_13_0 rfl rfl ?_
      refine xi_getfield (pc' := 4) (v := .ref 140) kc_13_1 rfl rfl rfl eh2.1 rfl ?_
      refine xi_iload_n (pc' := 5) (x := (-1)) kc_13_4 rfl rfl ?_
      refine xi_ineg (pc' := 6) (v := 1) kc_13_5 rfl rfl ?_
      refine xi_dup2 (pc' := 7) kc_13_6 rfl ⟨rfl, rfl⟩ ?_
      refine xi_iaload (pc' := 8) (v := 0) kc_13_7 rfl ((eh2.2.1 140 (by decide)).trans ((eh1.2.1 140 (by decide)).trans (F 140 _ hl_140))) (by decide) rfl (xi_in (n := 7) (by decide) (by decide)) rfl ?_
      refine xi_iconst (pc' := 9) (v := 1) kc_13_8 rfl rfl ?_
      refine xi_iadd (pc' := 10) (v := 1) kc_13_9 rfl rfl ?_
      refine xi_iastore (pc' := 11) (x' := [0, 1, 0, 0, 0, 0, 0]) kc_13_10 rfl ((eh2.2.1 140 (by decide)).trans ((eh1.2.1 140 (by decide)).trans (F 140 _ hl_140))) rfl (xi_in (n := 7) (by decide) (by decide)) rfl (fun hh3 eh3 => ?_)
      refine xi_iload_n (pc' := 12) (x := (-1)) kc_13_11 rfl rfl ?_
      refine xi_ireturn kc_13_12 mr_13 rfl ?_
      show xw J ov 99 57 (24, [(0, .ref 115), (1, .int a1), (2, .int 1)], [.int (-1)], hh3) _
      refine xi_ireturn kc_57_24 mr_57 rfl ?_
      show xw J ov 100 196 (1018, [(4, .int 0), (3, .ref 167), (2, .ref 115), (1, .ref 0), (0, .ref 1000000)], [.int (-1), .int (-1)], hh3) _
      refine xi_cmt (pc' := 1528) kc_196_1018 rfl rfl ?_
      refine xi_iinc (pc' := 1531) (x := 0) (v := 6) (lv' := [(4, .int 6), (3, .ref 167), (2, .ref 115), (1, .ref 0), (0, .ref 1000000)]) kc_196_1528 rfl rfl rfl rfl (xm_lt ml_196 rfl) ?_
      refine xi_goto (pc' := 23) kc_196_1531 rfl ?_
      refine xi_iload (pc' := 25) (x := 6) kc_196_23 rfl rfl ?_
      refine xi_aload_n (pc' := 26) (x := 1000000) kc_196_25 rfl rfl ?_
      refine xi_arraylength (pc' := 27) (n := 6) (v := 6) kc_196_26 rfl (xl_lenO (by decide) hov0 rfl) rfl ?_
      refine xi_bipush (pc' := 29) (v := 6) kc_196_27 rfl rfl ?_
      refine xi_isub (pc' := 30) (v := 0) kc_196_29 rfl rfl ?_
      refine xi_cmt (pc' := 1534) kc_196_30 rfl rfl ?_
      refine xi_iconst (pc' := 1535) (v := 1) kc_196_1534 rfl rfl ?_
      refine xi_ireturn kc_196_1535 mr_196 rfl ?_
      refine ⟨rfl, ?_, ?_⟩
      · rw [eh3.2.2.1, eh2.2.2.1, eh1.2.2.1]; exact hn0
      · rw [eh3.2.2.2, eh2.2.2.2, eh1.2.2.2]; exact hz0
