set_option maxHeartbeats 8000000 in
theorem lc_23 {J : xe_J} {ov : List (List Int32)} (hJ : ∀ d mj as h, mj ≠ xe_loff → J d mj as h = none) {a0 a1 a2 a3 a4 a5 : Int32} (hov0 : ov[0]? = some [a0, a1, a2, a3, a4, a5]) (hov1 : ov[1]? = some [10, 0, 0, 0, 0, 0]) (hov2 : ov[2]? = some [99, 30, 50, 50, 1, 99999]) {h0 : xe_H} (F : xf_fr h0) (hn0 : h0.length ≤ 600002) (hz0 : xe_sz h0 ≤ 7302232) : xw J ov 100 196 (1049, [(4, .int 0), (3, .ref 167), (2, .ref 115), (1, .ref 0), (0, .ref 1000000)], [], h0) xf_Q := by
  have rr1 := xc_rng a1
  have rr2 := xc_rng a2
  have rr3 := xc_rng a3
  have rr4 := xc_rng a4
  have rr5 := xc_rng a5
  refine xi_aload_n (pc' := 1050) (x := 0) kc_196_1049 rfl rfl ?_
  refine xi_aload_n (pc' := 1051) (x := 1000000) kc_196_1050 rfl rfl ?_
  refine xi_iload (pc' := 1053) (x := 0) kc_196_1051 rfl rfl ?_
  refine xi_iconst (pc' := 1054) (v := 1) kc_196_1053 rfl rfl ?_
  refine xi_iadd (pc' := 1055) (v := 1) kc_196_1054 rfl rfl ?_
  refine xi_ialoadO (pc' := 1056) (v := a1) kc_196_1055 rfl (by decide) hov0 (xi_in (n := 6) (by decide) (by decide)) rfl ?_
  refine xi_aload_n (pc' := 1057) (x := 1000000) kc_196_1056 rfl rfl ?_
  refine xi_iload (pc' := 1059) (x := 0) kc_196_1057 rfl rfl ?_
  refine xi_iconst (pc' := 1060) (v := 2) kc_196_1059 rfl rfl ?_
  refine xi_iadd (pc' := 1061) (v := 2) kc_196_1060 rfl rfl ?_
  refine xi_ialoadO (pc' := 1062) (v := a2) kc_196_1061 rfl (by decide) hov0 (xi_in (n := 6) (by decide) (by decide)) rfl ?_
  refine xi_aload_n (pc' := 1063) (x := 1000000) kc_196_1062 rfl rfl ?_
  refine xi_iload (pc' := 1065) (x := 0) kc_196_1063 rfl rfl ?_
  refine xi_iconst (pc' := 1066) (v := 3) kc_196_1065 rfl rfl ?_
  refine xi_iadd (pc' := 1067) (v := 3) kc_196_1066 rfl rfl ?_
  refine xi_ialoadO (pc' := 1068) (v := a3) kc_196_1067 rfl (by decide) hov0 (xi_in (n := 6) (by decide) (by decide)) rfl ?_
  refine xi_aload_n (pc' := 1069) (x := 1000000) kc_196_1068 rfl rfl ?_
  refine xi_iload (pc' := 1071) (x := 0) kc_196_1069 rfl rfl ?_
  refine xi_iconst (pc' := 1072) (v := 4) kc_196_1071 rfl rfl ?_
  refine xi_iadd (pc' := 1073) (v := 4) kc_196_1072 rfl rfl ?_
  refine xi_ialoadO (pc' := 1074) (v := a4) kc_196_1073 rfl (by decide) hov0 (xi_in (n := 6) (by decide) (by decide)) rfl ?_
  refine xi_aload_n (pc' := 1075) (x := 1000000) kc_196_1074 rfl rfl ?_
  refine xi_iload (pc' := 1077) (x := 0) kc_196_1075 rfl rfl ?_
  refine xi_iconst (pc' := 1078) (v := 5) kc_196_1077 rfl rfl ?_
  refine xi_iadd (pc' := 1079) (v := 5) kc_196_1078 rfl rfl ?_
  refine xi_ialoadO (pc' := 1080) (v := a5) kc_196_1079 rfl (by decide) hov0 (xi_in (n := 6) (by decide) (by decide)) rfl ?_
  refine xi_virtual (mj := 164) (as := [.int a1, .int a2, .int a3, .int a4, .int a5]) (st1 := []) (lv0 := [(0, .ref 0), (1, .int a1), (2, .int a2), (3, .int a3), (4, .int a4), (5, .int a5)]) kc_196_1080 rfl rfl rfl rfl rfl (F 0 _ hl_0) (Nat.le_of_ble_eq_true rfl) (hJ _ _ _ _ (by decide)) (xm_le ml_164 rfl) rfl ?_
  refine xi_iload_n (pc' := 1) (x := a1) kc_164_0 rfl rfl ?_
  refine xi_static (mj := 90) (as := [.int a1]) (st1 := []) (lv0 := [(0, .int a1)]) kc_164_1 rfl rfl (Nat.le_of_ble_eq_true rfl) rfl rfl (Nat.le_of_ble_eq_true rfl) (hJ _ _ _ _ (by decide)) (xm_le ml_90 rfl) rfl ?_
  refine xi_iload_n (pc' := 1) (x := a1) kc_90_0 rfl rfl ?_
  by_cases c1 : a1.toInt < 0
  · refine xi_ift (pc' := 14) kc_90_1 rfl (xc_lt_t (X := a1.toInt) (Y := 0) rfl (by decide) (by omega)) ?_
    refine xi_iconst (pc' := 15) (v := 0) kc_90_14 rfl rfl ?_
    refine xi_ireturn kc_90_15 mr_90 rfl ?_
    show xw J ov 99 164 (4, [(0, .ref 0), (1, .int a1), (2, .int a2), (3, .int a3), (4, .int a4), (5, .int a5)], [.int 0], h0) _
    refine xi_iff (pc' := 7) kc_164_4 rfl rfl ?_
    refine xi_aload_n (pc' := 8) (x := 0) kc_164_7 rfl rfl ?_
    refine xi_iconst (pc' := 9) (v := (-1)) kc_164_8 rfl rfl ?_
    refine xi_virtual (mj := 91) (as := [.int (-1)]) (st1 := []) (lv0 := [(0, .ref 0), (1, .int (-1))]) kc_164_9 rfl rfl rfl rfl rfl (F 0 _ hl_0) (Nat.le_of_ble_eq_true rfl) (hJ _ _ _ _ (by decide)) (xm_le ml_91 rfl) rfl ?_
    refine xi_iload_n (pc' := 1) (x := (-1)) kc_91_0 rfl rfl ?_
    refine xi_ineg (pc' := 2) (v := 1) kc_91_1 rfl rfl ?_
    refine xi_istore_n (pc' := 3) (lv' := [(2, .int 1), (0, .ref 0), (1, .int (-1))]) kc_91_2 rfl rfl (xm_lt ml_91 rfl) ?_
    refine xi_iload_n (pc' := 4) (x := 1) kc_91_3 rfl rfl ?_
    refine xi_iff (pc' := 7) kc_91_4 rfl rfl ?_
    refine xi_iload_n (pc' := 8) (x := 1) kc_91_7 rfl rfl ?_
    refine xi_aload_n (pc' := 9) (x := 0) kc_91_8 rfl rfl ?_
    refine xi_getfield (pc' := 12) (v := .ref 94) kc_91_9 rfl rfl rfl (F 0 _ hl_0) rfl ?_
    refine xi_arraylength (pc' := 13) (n := 7) (v := 7) kc_91_12 rfl (xl_lenI (by decide) (by decide) (F 94 _ hl_94) (by simp only [List.length_replicate, List.length_cons, List.length_nil])) rfl ?_
    refine xi_cmf (pc' := 16) kc_91_13 rfl rfl ?_
    refine xi_aload_n (pc' := 17) (x := 0) kc_91_16 rfl rfl ?_
    refine xi_getfield (pc' := 20) (v := .ref 94) kc_91_17 rfl rfl rfl (F 0 _ hl_0) rfl ?_
    refine xi_iload_n (pc' := 21) (x := 1) kc_91_20 rfl rfl ?_
    refine xi_dup2 (pc' := 22) kc_91_21 rfl ⟨rfl, rfl⟩ ?_
    refine xi_iaload (pc' := 23) (v := 0) kc_91_22 rfl (F 94 _ hl_94) (by decide) rfl (xi_in (n := 7) (by decide) (by decide)) rfl ?_
    refine xi_iconst (pc' := 24) (v := 1) kc_91_23 rfl rfl ?_
    refine xi_iadd (pc' := 25) (v := 1) kc_91_24 rfl rfl ?_
    refine xi_iastore (pc' := 26) (x' := [0, 1, 0, 0, 0, 0, 0]) kc_91_25 rfl (F 94 _ hl_94) rfl (xi_in (n := 7) (by decide) (by decide)) rfl (fun hh1 eh1 => ?_)
    refine xi_iload_n (pc' := 27) (x := (-1)) kc_91_26 rfl rfl ?_
    refine xi_ireturn kc_91_27 mr_91 rfl ?_
    show xw J ov 99 164 (12, [(0, .ref 0), (1, .int a1), (2, .int a2), (3, .int a3), (4, .int a4), (5, .int a5)], [.int (-1)], hh1) _
    refine xi_ireturn kc_164_12 mr_164 rfl ?_
    show xw J ov 100 196 (1083, [(4, .int 0), (3, .ref 167), (2, .ref 115), (1, .ref 0), (0, .ref 1000000)], [.int (-1)], hh1) _
    refine xi_aload_n (pc' := 1084) (x := 115) kc_196_1083 rfl rfl ?_
    refine xi_aload_n (pc' := 1085) (x := 1000000) kc_196_1084 rfl rfl ?_
    refine xi_iload (pc' := 1087) (x := 0) kc_196_1085 rfl rfl ?_
    refine xi_iconst (pc' := 1088) (v := 1) kc_196_1087 rfl rfl ?_
    refine xi_iadd (pc' := 1089) (v := 1) kc_196_1088 rfl rfl ?_
    refine xi_ialoadO (pc' := 1090) (v := a1) kc_196_1089 rfl (by decide) hov0 (xi_in (n := 6) (by decide) (by decide)) rfl ?_
    refine xi_aload_n (pc' := 1091) (x := 1000000) kc_196_1090 rfl rfl ?_
    refine xi_iload (pc' := 1093) (x := 0) kc_196_1091 rfl rfl ?_
    refine xi_iconst (pc' := 1094) (v := 2) kc_196_1093 rfl rfl ?_
    refine xi_iadd (pc' := 1095) (v := 2) kc_196_1094 rfl rfl ?_
    refine xi_ialoadO (pc' := 1096) (v := a2) kc_196_1095 rfl (by decide) hov0 (xi_in (n := 6) (by decide) (by decide)) rfl ?_
    refine xi_aload_n (pc' := 1097) (x := 1000000) kc_196_1096 rfl rfl ?_
    refine xi_iload (pc' := 1099) (x := 0) kc_196_1097 rfl rfl ?_
    refine xi_iconst (pc' := 1100) (v := 3) kc_196_1099 rfl rfl ?_
    refine xi_iadd (pc' := 1101) (v := 3) kc_196_1100 rfl rfl ?_
    refine xi_ialoadO (pc' := 1102) (v := a3) kc_196_1101 rfl (by decide) hov0 (xi_in (n := 6) (by decide) (by decide)) rfl ?_
    refine xi_aload_n (pc' := 1103) (x := 1000000) kc_196_1102 rfl rfl ?_
    refine xi_iload (pc' := 1105) (x := 0) kc_196_1103 rfl rfl ?_
    refine xi_iconst (pc' := 1106) (v := 4) kc_196_1105 rfl rfl ?_
    refine xi_iadd (pc' := 1107) (v := 4) kc_196_1106 rfl rfl ?_
    refine xi_ialoadO (pc' := 1108) (v := a4) kc_196_1107 rfl (by decide) hov0 (xi_in (n := 6) (by decide) (by decide)) rfl ?_
    refine xi_aload_n (pc' := 1109) (x := 1000000) kc_196_1108 rfl rfl ?_
    refine xi_iload (pc' := 1111) (x := 0) kc_196_1109 rfl rfl ?_
    refine xi_iconst (pc' := 1112) (v := 5) kc_196_1111 rfl rfl ?_
    refine xi_iadd (pc' := 1113) (v := 5) kc_196_1112 rfl rfl ?_
    refine xi_ialoadO (pc' := 1114) (v := a5) kc_196_1113 rfl (by decide) hov0 (xi_in (n := 6) (by decide) (by decide)) rfl ?_
    refine xi_virtual (mj := 62) (as := [.int a1, .int a2, .int a3, .int a4, .int a5]) (st1 := [.int (-1)]) (lv0 := [(0, .ref 115), (1, .int a1), (2, .int a2), (3, .int a3), (4, .int a4), (5, .int a5)]) kc_196_1114 rfl rfl rfl rfl rfl ((eh1.2.1 115 (by decide)).trans (F 115 _ hl_115)) (Nat.le_of_ble_eq_true rfl) (hJ _ _ _ _ (by decide)) (xm_le ml_62 rfl) rfl ?_
    refine xi_aload_n (pc' := 1) (x := 115) kc_62_0 rfl rfl ?_
    refine xi_iconst (pc' := 2) (v := 0) kc_62_1 rfl rfl ?_
    refine xi_putfield (pc' := 5) (fs' := [.int 0, .int 0, .ref 116, .ref 117, .ref 118, .ref 119, .ref 120, .ref 121, .ref 122, .ref 123, .ref 124, .ref 125, .ref 126, .ref 127, .ref 128, .ref 129, .int 4, .ref 130, .int 0, .ref 131, .ref 132, .ref 133, .ref 134, .int 0, .ref 135, .ref 136, .ref 137, .ref 138, .ref 139, .ref 140, .ref 141, .ref 142, .int 0, .int 0, .int 0, .ref 143, .ref 144, .ref 145, .ref 146, .ref 147, .ref 148, .int 0, .ref 149, .ref 150, .ref 151, .int 0, .ref 152, .ref 153, .ref 154, .ref 155, .ref 156, .ref 157, .ref 158, .ref 159, .int 0, .ref 160, .int 0, .ref 161, .ref 162, .ref 163, .ref 164, .int 0, .ref 165, .ref 166]) kc_62_2 rfl rfl rfl ((eh1.2.1 115 (by decide)).trans (F 115 _ hl_115)) rfl rfl rfl (Nat.le_of_ble_eq_true rfl) rfl (fun hh2 eh2 => ?_)
    refine xi_iload_n (pc' := 6) (x := a1) kc_62_5 rfl rfl ?_
    refine xi_static (mj := 11) (as := [.int a1]) (st1 := []) (lv0 := [(0, .int a1)]) kc_62_6 rfl rfl (Nat.le_of_ble_eq_true rfl) rfl rfl (Nat.le_of_ble_eq_true rfl) (hJ _ _ _ _ (by decide)) (xm_le ml_11 rfl) rfl ?_
    refine xi_iload_n (pc' := 1) (x := a1) kc_11_0 rfl rfl ?_
    refine xi_iconst (pc' := 2) (v := 0) kc_11_1 rfl rfl ?_
    refine xi_iconst (pc' := 3) (v := 5) kc_11_2 rfl rfl ?_
    refine xi_static (mj := 12) (as := [.int a1, .int 0, .int 5]) (st1 := []) (lv0 := [(0, .int a1), (1, .int 0), (2, .int 5)]) kc_11_3 rfl rfl (Nat.le_of_ble_eq_true rfl) rfl rfl (Nat.le_of_ble_eq_true rfl) (hJ _ _ _ _ (by decide)) (xm_le ml_12 rfl) rfl ?_
    refine xi_iload_n (pc' := 1) (x := a1) kc_12_0 rfl rfl ?_
    refine xi_iload_n (pc' := 2) (x := 0) kc_12_1 rfl rfl ?_
    refine xi_cmt (pc' := 14) kc_12_2 rfl (xc_lt_t (X := a1.toInt) (Y := 0) rfl (by decide) (by omega)) ?_
    refine xi_iconst (pc' := 15) (v := 0) kc_12_14 rfl rfl ?_
    refine xi_ireturn kc_12_15 mr_12 rfl ?_
    show xw J ov 98 11 (6, [(0, .int a1)], [.int 0], hh2) _
    refine xi_ireturn kc_11_6 mr_11 rfl ?_
    show xw J ov 99 62 (9, [(0, .ref 115), (1, .int a1), (2, .int a2), (3, .int a3), (4, .int a4), (5, .int a5)], [.int 0], hh2) _
    refine xi_iff (pc' := 12) kc_62_9 rfl rfl ?_
    refine xi_aload_n (pc' := 13) (x := 115) kc_62_12 rfl rfl ?_
    refine xi_iconst (pc' := 14) (v := (-1)) kc_62_13 rfl rfl ?_
    refine xi_virtual (mj := 13) (as := [.int (-1)]) (st1 := []) (lv0 := [(0, .ref 115), (1, .int (-1))]) kc_62_14 rfl rfl rfl rfl rfl eh2.1 (Nat.le_of_ble_eq_true rfl) (hJ _ _ _ _ (by decide)) (xm_le ml_13 rfl) rfl ?_
    refine xi_aload_n (pc' := 1) (x := 115) kc_13_0 rfl rfl ?_
    refine xi_getfield (pc' := 4) (v := .ref 140) kc_13_1 rfl rfl rfl eh2.1 rfl ?_
    refine xi_iload_n (pc' := 5) (x := (-1)) kc_13_4 rfl rfl ?_
    refine xi_ineg (pc' := 6) (v := 1) kc_13_5 rfl rfl ?_
    refine xi_dup2 (pc' := 7) kc_13_6 rfl ⟨rfl, rfl⟩ ?_
    refine xi_iaload (pc' := 8) (v := 0) kc_13_7 rfl ((eh2.2.1 140 (by decide)).trans ((eh1.2.1 140 (by decide)).trans (F 140 _ hl_140))) (by decide) rfl (xi_in (n := 7) (by decide) (by decide)) rfl ?_
    refine xi_iconst (pc' := 9) (v := 1) kc_13_8 rfl rfl ?_
    refine xi_iadd (pc' := 10) (v := 1) kc_13_9 rfl rfl ?_
    refine xi_iastore (pc' := 11) (x' := [0, 1, 0, 0, 0, 0, 0]) kc_13_10 rfl ((eh2.2.1 140 (by decide)).trans ((eh1.2.1 140 (by decide)).trans (F 140 _ hl_140))) rfl (xi_in (n := 7) (by decide) (by decide)) rfl (fun hh3 eh3 => ?_)
    refine xi_iload_n (pc' := 12) (x := (-1)) kc_13_11 rfl rfl ?_
    refine xi_ireturn kc_13_12 mr_13 rfl ?_
    show xw J ov 99 62 (17, [(0, .ref 115), (1, .int a1), (2, .int a2), (3, .int a3), (4, .int a4), (5, .int a5)], [.int (-1)], hh3) _
    refine xi_ireturn kc_62_17 mr_62 rfl ?_
    show xw J ov 100 196 (1117, [(4, .int 0), (3, .ref 167), (2, .ref 115), (1, .ref 0), (0, .ref 1000000)], [.int (-1), .int (-1)], hh3) _
    refine xi_cmt (pc' := 1528) kc_196_1117 rfl rfl ?_
    refine xi_iinc (pc' := 1531) (x := 0) (v := 6) (lv' := [(4, .int 6), (3, .ref 167), (2, .ref 115), (1, .ref 0), (0, .ref 1000000)]) kc_196_1528 rfl rfl rfl rfl (xm_lt ml_196 rfl) ?_
    refine xi_goto (pc' := 23) kc_196_1531 rfl ?_
    refine xi_iload (pc' := 25) (x := 6) kc_196_23 rfl rfl ?_
    refine xi_aload_n (pc' := 26) (x := 1000000) kc_196_25 rfl rfl ?_
    refine xi_arraylength (pc' := 27) (n := 6) (v := 6) kc_196_26 rfl (xl_lenO (by decide) hov0 rfl) rfl ?_
    refine xi_bipush (pc' := 29) (v := 6) kc_196_27 rfl rfl ?_
    refine xi_isub (pc' := 30) (v := 0) kc_196_29 rfl rfl ?_
    refine xi_cmt (pc' := 1534) kc_196_30 rfl rfl ?_
    refine xi_iconst (pc' := 1535) (v := 1) kc_196_1534 rfl rfl ?_
    refine xi_ireturn kc_196_1535 mr_196 rfl ?_
    refine ⟨rfl, ?_, ?_⟩
    · rw [eh3.2.2.1, eh2.2.2.1, eh1.2.2.1]; exact hn0
    · rw [eh3.2.2.2, eh2.2.2.2, eh1.2.2.2]; exact hz0
  · refine xi_iff (pc' := 4) kc_90_1 rfl (xc_lt_f (X := a1.toInt) (Y := 0) rfl (by decide) (by omega)) ?_
    refine xi_iload_n (pc' := 5) (x := a1) kc_90_4 rfl rfl ?_
    refine xi_bipush (pc' := 7) (v := 6) kc_90_5 rfl rfl ?_
    by_cases c2 : 6 ≤ a1.toInt
    · refine xi_cmt (pc' := 14) kc_90_7 rfl (xc_ge_t (X := a1.toInt) (Y := 6) rfl (by decide) (by omega)) ?_
      refine xi_iconst (pc' := 15) (v := 0) kc_90_14 rfl rfl ?_
      refine xi_ireturn kc_90_15 mr_90 rfl ?_
      show xw J ov 99 164 (4, [(0, .ref 0), (1, .int a1), (2, .int a2), (3, .int a3), (4, .int a4), (5, .int a5)], [.int 0], h0) _
      refine xi_iff (pc' := 7) kc_164_4 rfl rfl ?_
      refine xi_aload_n (pc' := 8) (x := 0) kc_164_7 rfl rfl ?_
      refine xi_iconst (pc' := 9) (v := (-1)) kc_164_8 rfl rfl ?_
      refine xi_virtual (mj := 91) (as := [.int (-1)]) (st1 := []) (lv0 := [(0, .ref 0), (1, .int (-1))]) kc_164_9 rfl rfl rfl rfl rfl (F 0 _ hl_0) (Nat.le_of_ble_eq_true rfl) (hJ _ _ _ _ (by decide)) (xm_le ml_91 rfl) rfl ?_
      refine xi_iload_n (pc' := 1) (x := (-1)) kc_91_0 rfl rfl ?_
      refine xi_ineg (pc' := 2) (v := 1) kc_91_1 rfl rfl ?_
      refine xi_istore_n (pc' := 3) (lv' := [(2, .int 1), (0, .ref 0), (1, .int (-1))]) kc_91_2 rfl rfl (xm_lt ml_91 rfl) ?_
      refine xi_iload_n (pc' := 4) (x := 1) kc_91_3 rfl rfl ?_
      refine xi_iff (pc' := 7) kc_91_4 rfl rfl ?_
      refine xi_iload_n (pc' := 8) (x := 1) kc_91_7 rfl rfl ?_
      refine xi_aload_n (pc' := 9) (x := 0) kc_91_8 rfl rfl ?_
      refine xi_getfield (pc' := 12) (v := .ref 94) kc_91_9 rfl rfl rfl (F 0 _ hl_0) rfl ?_
      refine xi_arraylength (pc' := 13) (n := 7) (v := 7) kc_91_12 rfl (xl_lenI (by decide) (by decide) (F 94 _ hl_94) (by simp only [List.length_replicate, List.length_cons, List.length_nil])) rfl ?_
      refine xi_cmf (pc' := 16) kc_91_13 rfl rfl ?_
      refine xi_aload_n (pc' := 17) (x := 0) kc_91_16 rfl rfl ?_
      refine xi_getfield (pc' := 20) (v := .ref 94) kc_91_17 rfl rfl rfl (F 0 _ hl_0) rfl ?_
      refine xi_iload_n (pc' := 21) (x := 1) kc_91_20 rfl rfl ?_
      refine xi_dup2 (pc' := 22) kc_91_21 rfl ⟨rfl, rfl⟩ ?_
      refine xi_iaload (pc' := 23) (v := 0) kc_91_22 rfl (F 94 _ hl_94) (by decide) rfl (xi_in (n := 7) (by decide) (by decide)) rfl ?_
      refine xi_iconst (pc' := 24) (v := 1) kc_91_23 rfl rfl ?_
      refine xi_iadd (pc' := 25) (v := 1) kc_91_24 rfl rfl ?_
      refine xi_iastore (pc' := 26) (x' := [0, 1, 0, 0, 0, 0, 0]) kc_91_25 rfl (F 94 _ hl_94) rfl (xi_in (n := 7) (by decide) (by decide)) rfl (fun hh1 eh1 => ?_)
      refine xi_iload_n (pc' := 27) (x := (-1)) kc_91_26 rfl rfl ?_
      refine xi_ireturn kc_91_27 mr_91 rfl ?_
      show xw J ov 99 164 (12, [(0, .ref 0), (1, .int a1), (2, .int a2), (3, .int a3), (4, .int a4), (5, .int a5)], [.int (-1)], hh1) _
      refine xi_ireturn kc_164_12 mr_164 rfl ?_
      show xw J ov 100 196 (1083, [(4, .int 0), (3, .ref 167), (2, .ref 115), (1, .ref 0), (0, .ref 1000000)], [.int (-1)], hh1) _
      refine xi_aload_n (pc' := 1084) (x := 115) kc_196_1083 rfl rfl ?_
      refine xi_aload_n (pc' := 1085) (x := 1000000) kc_196_1084 rfl rfl ?_
      refine xi_iload (pc' := 1087) (x := 0) kc_196_1085 rfl rfl ?_
      refine xi_iconst (pc' := 1088) (v := 1) kc_196_1087 rfl rfl ?_
      refine xi_iadd (pc' := 1089) (v := 1) kc_196_1088 rfl rfl ?_
      refine xi_ialoadO (pc' := 1090) (v := a1) kc_196_1089 rfl (by decide) hov0 (xi_in (n := 6) (by decide) (by decide)) rfl ?_
      refine xi_aload_n (pc' := 1091) (x := 1000000) kc_196_1090 rfl rfl ?_
      refine xi_iload (pc' := 1093) (x := 0) kc_196_1091 rfl rfl ?_
      refine xi_iconst (pc' := 1094) (v := 2) kc_196_1093 rfl rfl ?_
      refine xi_iadd (pc' := 1095) (v := 2) kc_196_1094 rfl rfl ?_
      refine xi_ialoadO (pc' := 1096) (v := a2) kc_196_1095 rfl (by decide) hov0 (xi_in (n := 6) (by decide) (by decide)) rfl ?_
      refine xi_aload_n (pc' := 1097) (x := 1000000) kc_196_1096 rfl rfl ?_
      refine xi_iload (pc' := 1099) (x := 0) kc_196_1097 rfl rfl ?_
      refine xi_iconst (pc' := 1100) (v := 3) kc_196_1099 rfl rfl ?_
      refine xi_iadd (pc' := 1101) (v := 3) kc_196_1100 rfl rfl ?_
      refine xi_ialoadO (pc' := 1102) (v := a3) kc_196_1101 rfl (by decide) hov0 (xi_in (n := 6) (by decide) (by decide)) rfl ?_
      refine xi_aload_n (pc' := 1103) (x := 1000000) kc_196_1102 rfl rfl ?_
      refine xi_iload (pc' := 1105) (x := 0) kc_196_1103 rfl rfl ?_
      refine xi_iconst (pc' := 1106) (v := 4) kc_196_1105 rfl rfl ?_
      refine xi_iadd (pc' := 1107) (v := 4) kc_196_1106 rfl rfl ?_
      refine xi_ialoadO (pc' := 1108) (v := a4) kc_196_1107 rfl (by decide) hov0 (xi_in (n := 6) (by decide) (by decide)) rfl ?_
      refine xi_aload_n (pc' := 1109) (x := 1000000) kc_196_1108 rfl rfl ?_
      refine xi_iload (pc' := 1111) (x := 0) kc_196_1109 rfl rfl ?_
      refine xi_iconst (pc' := 1112) (v := 5) kc_196_1111 rfl rfl ?_
      refine xi_iadd (pc' := 1113) (v := 5) kc_196_1112 rfl rfl ?_
      refine xi_ialoadO (pc' := 1114) (v := a5) kc_196_1113 rfl (by decide) hov0 (xi_in (n := 6) (by decide) (by decide)) rfl ?_
      refine xi_virtual (mj := 62) (as := [.int a1, .int a2, .int a3, .int a4, .int a5]) (st1 := [.int (-1)]) (lv0 := [(0, .ref 115), (1, .int a1), (2, .int a2), (3, .int a3), (4, .int a4), (5, .int a5)]) kc_196_1114 rfl rfl rfl rfl rfl ((eh1.2.1 115 (by decide)).trans (F 115 _ hl_115)) (Nat.le_of_ble_eq_true rfl) (hJ _ _ _ _ (by decide)) (xm_le ml_62 rfl) rfl ?_
      refine xi_aload_n (pc' := 1) (x := 115) kc_62_0 rfl rfl ?_
      refine xi_iconst (pc' := 2) (v := 0) kc_62_1 rfl rfl ?_
      refine xi_putfield (pc' := 5) (fs' := [.int 0, .int 0, .ref 116, .ref 117, .ref 118, .ref 119, .ref 120, .ref 121, .ref 122, .ref 123, .ref 124, .ref 125, .ref 126, .ref 127, .ref 128, .ref 129, .int 4, .ref 130, .int 0, .ref 131, .ref 132, .ref 133, .ref 134, .int 0, .ref 135, .ref 136, .ref 137, .ref 138, .ref 139, .ref 140, .ref 141, .ref 142, .int 0, .int 0, .int 0, .ref 143, .ref 144, .ref 145, .ref 146, .ref 147, .ref 148, .int 0, .ref 149, .ref 150, .ref 151, .int 0, .ref 152, .ref 153, .ref 154, .ref 155, .ref 156, .ref 157, .ref 158, .ref 159, .int 0, .ref 160, .int 0, .ref 161, .ref 162, .ref 163, .ref 164, .int 0, .ref 165, .ref 166]) kc_62_2 rfl rfl rfl ((eh1.2.1 115 (by decide)).trans (F 115 _ hl_115)) rfl rfl rfl (Nat.le_of_ble_eq_true rfl) rfl (fun hh2 eh2 => ?_)
      refine xi_iload_n (pc' := 6) (x := a1) kc_62_5 rfl rfl ?_
      refine xi_static (mj := 11) (as := [.int a1]) (st1 := []) (lv0 := [(0, .int a1)]) kc_62_6 rfl rfl (Nat.le_of_ble_eq_true rfl) rfl rfl (Nat.le_of_ble_eq_true rfl) (hJ _ _ _ _ (by decide)) (xm_le ml_11 rfl) rfl ?_
      refine xi_iload_n (pc' := 1) (x := a1) kc_11_0 rfl rfl ?_
      refine xi_iconst (pc' := 2) (v := 0) kc_11_1 rfl rfl ?_
      refine xi_iconst (pc' := 3) (v := 5) kc_11_2 rfl rfl ?_
      refine xi_static (mj := 12) (as := [.int a1, .int 0, .int 5]) (st1 := []) (lv0 := [(0, .int a1), (1, .int 0), (2, .int 5)]) kc_11_3 rfl rfl (Nat.le_of_ble_eq_true rfl) rfl rfl (Nat.le_of_ble_eq_true rfl) (hJ _ _ _ _ (by decide)) (xm_le ml_12 rfl) rfl ?_
      refine xi_iload_n (pc' := 1) (x := a1) kc_12_0 rfl rfl ?_
      refine xi_iload_n (pc' := 2) (x := 0) kc_12_1 rfl rfl ?_
      refine xi_cmf (pc' := 5) kc_12_2 rfl (xc_lt_f (X := a1.toInt) (Y := 0) rfl (by decide) (by omega)) ?_
      refine xi_iload_n (pc' := 6) (x := a1) kc_12_5 rfl rfl ?_
      refine xi_iload_n (pc' := 7) (x := 5) kc_12_6 rfl rfl ?_
      refine xi_cmt (pc' := 14) kc_12_7 rfl (xc_gt_t (X := a1.toInt) (Y := 5) rfl (by decide) (by omega)) ?_
      refine xi_iconst (pc' := 15) (v := 0) kc_12_14 rfl rfl ?_
      refine xi_ireturn kc_12_15 mr_12 rfl ?_
      show xw J ov 98 11 (6, [(0, .int a1)], [.int 0], hh2) _
      refine xi_ireturn kc_11_6 mr_11 rfl ?_
      show xw J ov 99 62 (9, [(0, .ref 115), (1, .int a1), (2, .int a2), (3, .int a3), (4, .int a4), (5, .int a5)], [.int 0], hh2) _
      refine xi_iff (pc' := 12) kc_62_9 rfl rfl ?_
      refine xi_aload_n (pc' := 13) (x := 115) kc_62_12 rfl rfl ?_
      refine xi_iconst (pc' := 14) (v := (-1)) kc_62_13 rfl rfl ?_
      refine xi_virtual (mj := 13) (as := [.int (-1)]) (st1 := []) (lv0 := [(0, .ref 115), (1, .int (-1))]) kc_62_14 rfl rfl rfl rfl rfl eh2.1 (Nat.le_of_ble_eq_true rfl) (hJ _ _ _ _ (by decide)) (xm_le ml_13 rfl) rfl ?_
      refine xi_aload_n (pc' := 1) (x := 115) kc_13_0 rfl rfl ?_
      refine xi_getfield (pc' := 4) (v := .ref 140) kc_13_1 rfl rfl rfl eh2.1 rfl ?_
      refine xi_iload_n (pc' := 5) (x := (-1)) kc_13_4 rfl rfl ?_
      refine xi_ineg (pc' := 6) (v := 1) kc_13_5 rfl rfl ?_
      refine xi_dup2 (pc' := 7) kc_13_6 rfl ⟨rfl, rfl⟩ ?_
      refine xi_iaload (pc' := 8) (v := 0) kc_13_7 rfl ((eh2.2.1 140 (by decide)).trans ((eh1.2.1 140 (by decide)).trans (F 140 _ hl_140))) (by decide) rfl (xi_in (n := 7) (by decide) (by decide)) rfl ?_
      refine xi_iconst (pc' := 9) (v := 1) kc_13_8 rfl rfl ?_
      refine xi_iadd (pc' := 10) (v := 1) kc_13_9 rfl rfl ?_
      refine xi_iastore (pc' := 11) (x' := [0, 1, 0, 0, 0, 0, 0]) kc_13_10 rfl ((eh2.2.1 140 (by decide)).trans ((eh1.2.1 140 (by decide)).trans (F 140 _ hl_140))) rfl (xi_in (n := 7) (by decide) (by decide)) rfl (fun hh3 eh3 => ?_)
      refine xi_iload_n (pc' := 12) (x := (-1)) kc_13_11 rfl rfl ?_
      refine xi_ireturn kc_13_12 mr_13 rfl ?_
      show xw J ov 99 62 (17, [(0, .ref 115), (1, .int a1), (2, .int a2), (3, .int a3), (4, .int a4), (5, .int a5)], [.int (-1)], hh3) _
      refine xi_ireturn kc_62_17 mr_62 rfl ?_
      show xw J ov 100 196 (1117, [(4, .int 0), (3, .ref 167), (2, .ref 115), (1, .ref 0), (0, .ref 1000000)], [.int (-1), .int (-1)], hh3) _
      refine xi_cmt (pc' := 1528) kc_196_1117 rfl rfl ?_
      refine xi_iinc (pc' := 1531) (x := 0) (v := 6) (lv' := [(4, .int 6), (3, .ref 167), (2, .ref 115), (1, .ref 0), (0, .ref 1000000)]) kc_196_1528 rfl rfl rfl rfl (xm_lt ml_196 rfl) ?_
      refine xi_goto (pc' := 23) kc_196_1531 rfl ?_
      refine xi_iload (pc' := 25) (x := 6) kc_196_23 rfl rfl ?_
      refine xi_aload_n (pc' := 26) (x := 1000000) kc_196_25 rfl rfl ?_
      refine xi_arraylength (pc' := 27) (n := 6) (v := 6) kc_196_26 rfl (xl_lenO (by decide) hov0 rfl) rfl ?_
      refine xi_bipush (pc' := 29) (v := 6) kc_196_27 rfl rfl ?_
      refine xi_isub (pc' := 30) (v := 0) kc_196_29 rfl rfl ?_
      refine xi_cmt (pc' := 1534) kc_196_30 rfl rfl ?_
      refine xi_iconst (pc' := 1535) (v := 1) kc_196_1534 rfl rfl ?_
      refine xi_ireturn kc_196_1535 mr_196 rfl ?_
      refine ⟨rfl, ?_, ?_⟩
      · rw [eh3.2.2.1, eh2.2.2.1, eh1.2.2.1]; exact hn0
      · rw [eh3.2.2.2, eh2.2.2.2, eh1.2.2.2]; exact hz0
    · refine xi_cmf (pc' := 10) kc_90_7 rfl (xc_ge_f (X := a1.toInt) (Y := 6) rfl (by decide) (by omega)) ?_
      refine xi_iconst (pc' := 11) (v := 1) kc_90_10 rfl rfl ?_
      refine xi_goto (pc' := 15) kc_90_11 rfl ?_
      refine xi_ireturn kc_90_15 mr_90 rfl ?_
      show xw J ov 99 164 (4, [(0, .ref 0), (1, .int a1), (2, .int a2), (3, .int a3), (4, .int a4), (5, .int a5)], [.int 1], h0) _
      refine xi_ift (pc' := 13) kc_164_4 rfl rfl ?_
      refine xi_iload_n (pc' := 14) (x := a2) kc_164_13 rfl rfl ?_
      by_cases c3 : a2.toInt = 0
      · refine xi_ift (pc' := 29) kc_164_14 rfl (xc_eq_t (X := a2.toInt) (Y := 0) rfl (by decide) (by omega)) ?_
        refine xi_aload_n (pc' := 30) (x := 0) kc_164_29 rfl rfl ?_
        refine xi_iload_n (pc' := 31) (x := a1) kc_164_30 rfl rfl ?_
        refine xi_iload (pc' := 33) (x := a4) kc_164_31 rfl rfl ?_
        refine xi_iload (pc' := 35) (x := a5) kc_164_33 rfl rfl ?_
        refine xi_virtual (mj := 165) (as := [.int a1, .int a4, .int a5]) (st1 := []) (lv0 := [(0, .ref 0), (1, .int a1), (2, .int a4), (3, .int a5)]) kc_164_35 rfl rfl rfl rfl rfl (F 0 _ hl_0) (Nat.le_of_ble_eq_true rfl) (hJ _ _ _ _ (by decide)) (xm_le ml_165 rfl) rfl ?_
        refine xi_iconst (pc' := 1) (v := 0) kc_165_0 rfl rfl ?_
        refine xi_istore (pc' := 3) (lv' := [(4, .int 0), (0, .ref 0), (1, .int a1), (2, .int a4), (3, .int a5)]) kc_165_1 rfl rfl (xm_lt ml_165 rfl) ?_
        refine xi_iload (pc' := 5) (x := 0) kc_165_3 rfl rfl ?_
        refine xi_aload_n (pc' := 6) (x := 0) kc_165_5 rfl rfl ?_
        refine xi_getfield (pc' := 9) (v := .int 0) kc_165_6 rfl rfl rfl (F 0 _ hl_0) rfl ?_
        refine xi_cmt (pc' := 68) kc_165_9 rfl rfl ?_
        refine xi_iconst (pc' := 69) (v := 0) kc_165_68 rfl rfl ?_
        refine xi_ireturn kc_165_69 mr_165 rfl ?_
        show xw J ov 99 164 (38, [(0, .ref 0), (1, .int a1), (2, .int a2), (3, .int a3), (4, .int a4), (5, .int a5)], [.int 0], h0) _
        refine xi_ift (pc' := 48) kc_164_38 rfl rfl ?_
        refine xi_iload_n (pc' := 49) (x := a3) kc_164_48 rfl rfl ?_
        by_cases c4 : a3.toInt < 0
        · refine xi_ift (pc' := 68) kc_164_49 rfl (xc_lt_t (X := a3.toInt) (Y := 0) rfl (by decide) (by omega)) ?_
          refine xi_aload_n (pc' := 69) (x := 0) kc_164_68 rfl rfl ?_
          refine xi_bipush (pc' := 71) (v := (-4)) kc_164_69 rfl rfl ?_
          refine xi_virtual (mj := 91) (as := [.int (-4)]) (st1 := []) (lv0 := [(0, .ref 0), (1, .int (-4))]) kc_164_71 rfl rfl rfl rfl rfl (F 0 _ hl_0) (Nat.le_of_ble_eq_true rfl) (hJ _ _ _ _ (by decide)) (xm_le ml_91 rfl) rfl ?_
          refine xi_iload_n (pc' := 1) (x := (-4)) kc_91_0 rfl rfl ?_
          refine xi_ineg (pc' := 2) (v := 4) kc_91_1 rfl rfl ?_
          refine xi_istore_n (pc' := 3) (lv' := [(2, .int 4), (0, .ref 0), (1, .int (-4))]) kc_91_2 rfl rfl (xm_lt ml_91 rfl) ?_
          refine xi_iload_n (pc' := 4) (x := 4) kc_91_3 rfl rfl ?_
          refine xi_iff (pc' := 7) kc_91_4 rfl rfl ?_
          refine xi_iload_n (pc' := 8) (x := 4) kc_91_7 rfl rfl ?_
          refine xi_aload_n (pc' := 9) (x := 0) kc_91_8 rfl rfl ?_
          refine xi_getfield (pc' := 12) (v := .ref 94) kc_91_9 rfl rfl rfl (F 0 _ hl_0) rfl ?_
          refine xi_arraylength (pc' := 13) (n := 7) (v := 7) kc_91_12 rfl (xl_lenI (by decide) (by decide) (F 94 _ hl_94) (by simp only [List.length_replicate, List.length_cons, List.length_nil])) rfl ?_
          refine xi_cmf (pc' := 16) kc_91_13 rfl rfl ?_
          refine xi_aload_n (pc' := 17) (x := 0) kc_91_16 rfl rfl ?_
          refine xi_getfield (pc' := 20) (v := .ref 94) kc_91_17 rfl rfl rfl (F 0 _ hl_0) rfl ?_
          refine xi_iload_n (pc' := 21) (x := 4) kc_91_20 rfl rfl ?_
          refine xi_dup2 (pc' := 22) kc_91_21 rfl ⟨rfl, rfl⟩ ?_
          refine xi_iaload (pc' := 23) (v := 0) kc_91_22 rfl (F 94 _ hl_94) (by decide) rfl (xi_in (n := 7) (by decide) (by decide)) rfl ?_
          refine xi_iconst (pc' := 24) (v := 1) kc_91_23 rfl rfl ?_
          refine xi_iadd (pc' := 25) (v := 1) kc_91_24 rfl rfl ?_
          refine xi_iastore (pc' := 26) (x' := [0, 0, 0, 0, 1, 0, 0]) kc_91_25 rfl (F 94 _ hl_94) rfl (xi_in (n := 7) (by decide) (by decide)) rfl (fun hh1 eh1 => ?_)
          refine xi_iload_n (pc' := 27) (x := (-4)) kc_91_26 rfl rfl ?_
          refine xi_ireturn kc_91_27 mr_91 rfl ?_
          show xw J ov 99 164 (74, [(0, .ref 0), (1, .int a1), (2, .int a2), (3, .int a3), (4, .int a4), (5, .int a5)], [.int (-4)], hh1) _
          refine xi_ireturn kc_164_74 mr_164 rfl ?_
          show xw J ov 100 196 (1083, [(4, .int 0), (3, .ref 167), (2, .ref 115), (1, .ref 0), (0, .ref 1000000)], [.int (-4)], hh1) _
          refine xi_aload_n (pc' := 1084) (x := 115) kc_196_1083 rfl rfl ?_
          refine xi_aload_n (pc' := 1085) (x := 1000000) kc_196_1084 rfl rfl ?_
          refine xi_iload (pc' := 1087) (x := 0) kc_196_1085 rfl rfl ?_
          refine xi_iconst (pc' := 1088) (v := 1) kc_196_1087 rfl rfl ?_
          refine xi_iadd (pc' := 1089) (v := 1) kc_196_1088 rfl rfl ?_
          refine xi_ialoadO (pc' := 1090) (v := a1) kc_196_1089 rfl (by decide) hov0 (xi_in (n := 6) (by decide) (by decide)) rfl ?_
          refine xi_aload_n (pc' := 1091) (x := 1000000) kc_196_1090 rfl rfl ?_
          refine xi_iload (pc' := 1093) (x := 0) kc_196_1091 rfl rfl ?_
          refine xi_iconst (pc' := 1094) (v := 2) kc_196_1093 rfl rfl ?_
          refine xi_iadd (pc' := 1095) (v := 2) kc_196_1094 rfl rfl ?_
          refine xi_ialoadO (pc' := 1096) (v := a2) kc_196_1095 rfl (by decide) hov0 (xi_in (n := 6) (by decide) (by decide)) rfl ?_
          refine xi_aload_n (pc' := 1097) (x := 1000000) kc_196_1096 rfl rfl ?_
          refine xi_iload (pc' := 1099) (x := 0) kc_196_1097 rfl rfl ?_
          refine xi_iconst (pc' := 1100) (v := 3) kc_196_1099 rfl rfl ?_
          refine xi_iadd (pc' := 1101) (v := 3) kc_196_1100 rfl rfl ?_
          refine xi_ialoadO (pc' := 1102) (v := a3) kc_196_1101 rfl (by decide) hov0 (xi_in (n := 6) (by decide) (by decide)) rfl ?_
          refine xi_aload_n (pc' := 1103) (x := 1000000) kc_196_1102 rfl rfl ?_
          refine xi_iload (pc' := 1105) (x := 0) kc_196_1103 rfl rfl ?_
          refine xi_iconst (pc' := 1106) (v := 4) kc_196_1105 rfl rfl ?_
          refine xi_iadd (pc' := 1107) (v := 4) kc_196_1106 rfl rfl ?_
          refine xi_ialoadO (pc' := 1108) (v := a4) kc_196_1107 rfl (by decide) hov0 (xi_in (n := 6) (by decide) (by decide)) rfl ?_
          refine xi_aload_n (pc' := 1109) (x := 1000000) kc_196_1108 rfl rfl ?_
          refine xi_iload (pc' := 1111) (x := 0) kc_196_1109 rfl rfl ?_
          refine xi_iconst (pc' := 1112) (v := 5) kc_196_1111 rfl rfl ?_
          refine xi_iadd (pc' := 1113) (v := 5) kc_196_1112 rfl rfl ?_
          refine xi_ialoadO (pc' := 1114) (v := a5) kc_196_1113 rfl (by decide) hov0 (xi_in (n := 6) (by decide) (by decide)) rfl ?_
          refine xi_virtual (mj := 62) (as := [.int a1, .int a2, .int a3, .int a4, .int a5]) (st1 := [.int (-4)]) (lv0 := [(0, .ref 115), (1, .int a1), (2, .int a2), (3, .int a3), (4, .int a4), (5, .int a5)]) kc_196_1114 rfl rfl rfl rfl rfl ((eh1.2.1 115 (by decide)).trans (F 115 _ hl_115)) (Nat.le_of_ble_eq_true rfl) (hJ _ _ _ _ (by decide)) (xm_le ml_62 rfl) rfl ?_
          refine xi_aload_n (pc' := 1) (x := 115) kc_62_0 rfl rfl ?_
          refine xi_iconst (pc' := 2) (v := 0) kc_62_1 rfl rfl ?_
          refine xi_putfield (pc' := 5) (fs' := [.int 0, .int 0, .ref 116, .ref 117, .ref 118, .ref 119, .ref 120, .ref 121, .ref 122, .ref 123, .ref 124, .ref 125, .ref 126, .ref 127, .ref 128, .ref 129, .int 4, .ref 130, .int 0, .ref 131, .ref 132, .ref 133, .ref 134, .int 0, .ref 135, .ref 136, .ref 137, .ref 138, .ref 139, .ref 140, .ref 141, .ref 142, .int 0, .int 0, .int 0, .ref 143, .ref 144, .ref 145, .ref 146, .ref 147, .ref 148, .int 0, .ref 149, .ref 150, .ref 151, .int 0, .ref 152, .ref 153, .ref 154, .ref 155, .ref 156, .ref 157, .ref 158, .ref 159, .int 0, .ref 160, .int 0, .ref 161, .ref 162, .ref 163, .ref 164, .int 0, .ref 165, .ref 166]) kc_62_2 rfl rfl rfl ((eh1.2.1 115 (by decide)).trans (F 115 _ hl_115)) rfl rfl rfl (Nat.le_of_ble_eq_true rfl) rfl (fun hh2 eh2 => ?_)
          refine xi_iload_n (pc' := 6) (x := a1) kc_62_5 rfl rfl ?_
          refine xi_static (mj := 11) (as := [.int a1]) (st1 := []) (lv0 := [(0, .int a1)]) kc_62_6 rfl rfl (Nat.le_of_ble_eq_true rfl) rfl rfl (Nat.le_of_ble_eq_true rfl) (hJ _ _ _ _ (by decide)) (xm_le ml_11 rfl) rfl ?_
          refine xi_iload_n (pc' := 1) (x := a1) kc_11_0 rfl rfl ?_
          refine xi_iconst (pc' := 2) (v := 0) kc_11_1 rfl rfl ?_
          refine xi_iconst (pc' := 3) (v := 5) kc_11_2 rfl rfl ?_
          refine xi_static (mj := 12) (as := [.int a1, .int 0, .int 5]) (st1 := []) (lv0 := [(0, .int a1), (1, .int 0), (2, .int 5)]) kc_11_3 rfl rfl (Nat.le_of_ble_eq_true rfl) rfl rfl (Nat.le_of_ble_eq_true rfl) (hJ _ _ _ _ (by decide)) (xm_le ml_12 rfl) rfl ?_
          refine xi_iload_n (pc' := 1) (x := a1) kc_12_0 rfl rfl ?_
          refine xi_iload_n (pc' := 2) (x := 0) kc_12_1 rfl rfl ?_
          refine xi_cmf (pc' := 5) kc_12_2 rfl (xc_lt_f (X := a1.toInt) (Y := 0) rfl (by decide) (by omega)) ?_
          refine xi_iload_n (pc' := 6) (x := a1) kc_12_5 rfl rfl ?_
          refine xi_iload_n (pc' := 7) (x := 5) kc_12_6 rfl rfl ?_
          refine xi_cmf (pc' := 10) kc_12_7 rfl (xc_gt_f (X := a1.toInt) (Y := 5) rfl (by decide) (by omega)) ?_
          refine xi_iconst (pc' := 11) (v := 1) kc_12_10 rfl rfl ?_
          refine xi_goto (pc' := 15) kc_12_11 rfl ?_
          refine xi_ireturn kc_12_15 mr_12 rfl ?_
          show xw J ov 98 11 (6, [(0, .int a1)], [.int 1], hh2) _
          refine xi_ireturn kc_11_6 mr_11 rfl ?_
          show xw J ov 99 62 (9, [(0, .ref 115), (1, .int a1), (2, .int a2), (3, .int a3), (4, .int a4), (5, .int a5)], [.int 1], hh2) _
          refine xi_ift (pc' := 18) kc_62_9 rfl rfl ?_
          refine xi_iload_n (pc' := 19) (x := a2) kc_62_18 rfl rfl ?_
          refine xi_iconst (pc' := 20) (v := 0) kc_62_19 rfl rfl ?_
          refine xi_iconst (pc' := 21) (v := 1) kc_62_20 rfl rfl ?_
          refine xi_static (mj := 12) (as := [.int a2, .int 0, .int 1]) (st1 := []) (lv0 := [(0, .int a2), (1, .int 0), (2, .int 1)]) kc_62_21 rfl rfl (Nat.le_of_ble_eq_true rfl) rfl rfl (Nat.le_of_ble_eq_true rfl) (hJ _ _ _ _ (by decide)) (xm_le ml_12 rfl) rfl ?_
          refine xi_iload_n (pc' := 1) (x := a2) kc_12_0 rfl rfl ?_
          refine xi_iload_n (pc' := 2) (x := 0) kc_12_1 rfl rfl ?_
          refine xi_cmf (pc' := 5) kc_12_2 rfl (xc_lt_f (X := a2.toInt) (Y := 0) rfl (by decide) (by omega)) ?_
          refine xi_iload_n (pc' := 6) (x := a2) kc_12_5 rfl rfl ?_
          refine xi_iload_n (pc' := 7) (x := 1) kc_12_6 rfl rfl ?_
          refine xi_cmf (pc' := 10) kc_12_7 rfl (xc_gt_f (X := a2.toInt) (Y := 1) rfl (by decide) (by omega)) ?_
          refine xi_iconst (pc' := 11) (v := 1) kc_12_10 rfl rfl ?_
          refine xi_goto (pc' := 15) kc_12_11 rfl ?_
          refine xi_ireturn kc_12_15 mr_12 rfl ?_
          show xw J ov 99 62 (24, [(0, .ref 115), (1, .int a1), (2, .int a2), (3, .int a3), (4, .int a4), (5, .int a5)], [.int 1], hh2) _
          refine xi_ift (pc' := 34) kc_62_24 rfl rfl ?_
          refine xi_iconst (pc' := 35) (v := 0) kc_62_34 rfl rfl ?_
          refine xi_istore (pc' := 37) (lv' := [(6, .int 0), (0, .ref 115), (1, .int a1), (2, .int a2), (3, .int a3), (4, .int a4), (5, .int a5)]) kc_62_35 rfl rfl (xm_lt ml_62 rfl) ?_
          refine xi_iload (pc' := 39) (x := 0) kc_62_37 rfl rfl ?_
          refine xi_aload_n (pc' := 40) (x := 115) kc_62_39 rfl rfl ?_
          refine xi_getfield (pc' := 43) (v := .int 0) kc_62_40 rfl rfl rfl eh2.1 rfl ?_
          refine xi_cmt (pc' := 94) kc_62_43 rfl rfl ?_
          refine xi_iload_n (pc' := 95) (x := a3) kc_62_94 rfl rfl ?_
          refine xi_ift (pc' := 114) kc_62_95 rfl (xc_lt_t (X := a3.toInt) (Y := 0) rfl (by decide) (by omega)) ?_
          refine xi_aload_n (pc' := 115) (x := 115) kc_62_114 rfl rfl ?_
          refine xi_bipush (pc' := 117) (v := (-4)) kc_62_115 rfl rfl ?_
          refine xi_virtual (mj := 13) (as := [.int (-4)]) (st1 := []) (lv0 := [(0, .ref 115), (1, .int (-4))]) kc_62_117 rfl rfl rfl rfl rfl eh2.1 (Nat.le_of_ble_eq_true rfl) (hJ _ _ _ _ (by decide)) (xm_le ml_13 rfl) rfl ?_
          refine xi_aload_n (pc' := 1) (x := 115) kc_13_0 rfl rfl ?_
          refine xi_getfield (pc' := 4) (v := .ref 140) kc_13_1 rfl rfl rfl eh2.1 rfl ?_
          refine xi_iload_n (pc' := 5) (x := (-4)) kc_13_4 rfl rfl ?_
          refine xi_ineg (pc' := 6) (v := 4) kc_13_5 rfl rfl ?_
          refine xi_dup2 (pc' := 7) kc_13_6 rfl ⟨rfl, rfl⟩ ?_
          refine xi_iaload (pc' := 8) (v := 0) kc_13_7 rfl ((eh2.2.1 140 (by decide)).trans ((eh1.2.1 140 (by decide)).trans (F 140 _ hl_140))) (by decide) rfl (xi_in (n := 7) (by decide) (by decide)) rfl ?_
          refine xi_iconst (pc' := 9) (v := 1) kc_13_8 rfl rfl ?_
          refine xi_iadd (pc' := 10) (v := 1) kc_13_9 rfl rfl ?_
          refine xi_iastore (pc' := 11) (x' := [0, 0, 0, 0, 1, 0, 0]) kc_13_10 rfl ((eh2.2.1 140 (by decide)).trans ((eh1.2.1 140 (by decide)).trans (F 140 _ hl_140))) rfl (xi_in (n := 7) (by decide) (by decide)) rfl (fun hh3 eh3 => ?_)
          refine xi_iload_n (pc' := 12) (x := (-4)) kc_13_11 rfl rfl ?_
          refine xi_ireturn kc_13_12 mr_13 rfl ?_
          show xw J ov 99 62 (120, [(6, .int 0), (0, .ref 115), (1, .int a1), (2, .int a2), (3, .int a3), (4, .int a4), (5, .int a5)], [.int (-4)], hh3) _
          refine xi_ireturn kc_62_120 mr_62 rfl ?_
          show xw J ov 100 196 (1117, [(4, .int 0), (3, .ref 167), (2, .ref 115), (1, .ref 0), (0, .ref 1000000)], [.int (-4), .int (-4)], hh3) _
          refine xi_cmt (pc' := 1528) kc_196_1117 rfl rfl ?_
          refine xi_iinc (pc' := 1531) (x := 0) (v := 6) (lv' := [(4, .int 6), (3, .ref 167), (2, .ref 115), (1, .ref 0), (0, .ref 1000000)]) kc_196_1528 rfl rfl rfl rfl (xm_lt ml_196 rfl) ?_
          refine xi_goto (pc' := 23) kc_196_1531 rfl ?_
          refine xi_iload (pc' := 25) (x := 6) kc_196_23 rfl rfl ?_
          refine xi_aload_n (pc' := 26) (x := 1000000) kc_196_25 rfl rfl ?_
          refine xi_arraylength (pc' := 27) (n := 6) (v := 6) kc_196_26 rfl (xl_lenO (by decide) hov0 rfl) rfl ?_
          refine xi_bipush (pc' := 29) (v := 6) kc_196_27 rfl rfl ?_
          refine xi_isub (pc' := 30) (v := 0) kc_196_29 rfl rfl ?_
          refine xi_cmt (pc' := 1534) kc_196_30 rfl rfl ?_
          refine xi_iconst (pc' := 1535) (v := 1) kc_196_1534 rfl rfl ?_
          refine xi_ireturn kc_196_1535 mr_196 rfl ?_
          refine ⟨rfl, ?_, ?_⟩
          · rw [eh3.2.2.1, eh2.2.2.1, eh1.2.2.1]; exact hn0
          · rw [eh3.2.2.2, eh2.2.2.2, eh1.2.2.2]; exact hz0
        · refine xi_iff (pc' := 52) kc_164_49 rfl (xc_lt_f (X := a3.toInt) (Y := 0) rfl (by decide) (by omega)) ?_
          refine xi_iload (pc' := 54) (x := a4) kc_164_52 rfl rfl ?_
          refine xi_aload_n (pc' := 55) (x := 0) kc_164_54 rfl rfl ?_
          refine xi_getfield (pc' := 58) (v := .int 0) kc_164_55 rfl rfl rfl (F 0 _ hl_0) rfl ?_
          by_cases c5 : a4.toInt < 0
          · refine xi_cmt (pc' := 68) kc_164_58 rfl (xc_lt_t (X := a4.toInt) (Y := 0) rfl (by decide) (by omega)) ?_
            refine xi_aload_n (pc' := 69) (x := 0) kc_164_68 rfl rfl ?_
            refine xi_bipush (pc' := 71) (v := (-4)) kc_164_69 rfl rfl ?_
            refine xi_virtual (mj := 91) (as := [.int (-4)]) (st1 := []) (lv0 := [(0, .ref 0), (1, .int (-4))]) kc_164_71 rfl rfl rfl rfl rfl (F 0 _ hl_0) (Nat.le_of_ble_eq_true rfl) (hJ _ _ _ _ (by decide)) (xm_le ml_91 rfl) rfl ?_
            refine xi_iload_n (pc' := 1) (x := (-4)) kc_91_0 rfl rfl ?_
            refine xi_ineg (pc' := 2) (v := 4) kc_91_1 rfl rfl ?_
            refine xi_istore_n (pc' := 3) (lv' := [(2, .int 4), (0, .ref 0), (1, .int (-4))]) kc_91_2 rfl rfl (xm_lt ml_91 rfl) ?_
            refine xi_iload_n (pc' := 4) (x := 4) kc_91_3 rfl rfl ?_
            refine xi_iff (pc' := 7) kc_91_4 rfl rfl ?_
            refine xi_iload_n (pc' := 8) (x := 4) kc_91_7 rfl rfl ?_
            refine xi_aload_n (pc' := 9) (x := 0) kc_91_8 rfl rfl ?_
            refine xi_getfield (pc' := 12) (v := .ref 94) kc_91_9 rfl rfl rfl (F 0 _ hl_0) rfl ?_
            refine xi_arraylength (pc' := 13) (n := 7) (v := 7) kc_91_12 rfl (xl_lenI (by decide) (by decide) (F 94 _ hl_94) (by simp only [List.length_replicate, List.length_cons, List.length_nil])) rfl ?_
            refine xi_cmf (pc' := 16) kc_91_13 rfl rfl ?_
            refine xi_aload_n (pc' := 17) (x := 0) kc_91_16 rfl rfl ?_
            refine xi_getfield (pc' := 20) (v := .ref 94) kc_91_17 rfl rfl rfl (F 0 _ hl_0) rfl ?_
            refine xi_iload_n (pc' := 21) (x := 4) kc_91_20 rfl rfl ?_
            refine xi_dup2 (pc' := 22) kc_91_21 rfl ⟨rfl, rfl⟩ ?_
            refine xi_iaload (pc' := 23) (v := 0) kc_91_22 rfl (F 94 _ hl_94) (by decide) rfl (xi_in (n := 7) (by decide) (by decide)) rfl ?_
            refine xi_iconst (pc' := 24) (v := 1) kc_91_23 rfl rfl ?_
            refine xi_iadd (pc' := 25) (v := 1) kc_91_24 rfl rfl ?_
            refine xi_iastore (pc' := 26) (x' := [0, 0, 0, 0, 1, 0, 0]) kc_91_25 rfl (F 94 _ hl_94) rfl (xi_in (n := 7) (by decide) (by decide)) rfl (fun hh1 eh1 => ?_)
            refine xi_iload_n (pc' := 27) (x := (-4)) kc_91_26 rfl rfl ?_
            refine xi_ireturn kc_91_27 mr_91 rfl ?_
            show xw J ov 99 164 (74, [(0, .ref 0), (1, .int a1), (2, .int a2), (3, .int a3), (4, .int a4), (5, .int a5)], [.int (-4)], hh1) _
            refine xi_ireturn kc_164_74 mr_164 rfl ?_
            show xw J ov 100 196 (1083, [(4, .int 0), (3, .ref 167), (2, .ref 115), (1, .ref 0), (0, .ref 1000000)], [.int (-4)], hh1) _
            refine xi_aload_n (pc' := 1084) (x := 115) kc_196_1083 rfl rfl ?_
            refine xi_aload_n (pc' := 1085) (x := 1000000) kc_196_1084 rfl rfl ?_
            refine xi_iload (pc' := 1087) (x := 0) kc_196_1085 rfl rfl ?_
            refine xi_iconst (pc' := 1088) (v := 1) kc_196_1087 rfl rfl ?_
            refine xi_iadd (pc' := 1089) (v := 1) kc_196_1088 rfl rfl ?_
            refine xi_ialoadO (pc' := 1090) (v := a1) kc_196_1089 rfl (by decide) hov0 (xi_in (n := 6) (by decide) (by decide)) rfl ?_
            refine xi_aload_n (pc' := 1091) (x := 1000000) kc_196_1090 rfl rfl ?_
            refine xi_iload (pc' := 1093) (x := 0) kc_196_1091 rfl rfl ?_
            refine xi_iconst (pc' := 1094) (v := 2) kc_196_1093 rfl rfl ?_
            refine xi_iadd (pc' := 1095) (v := 2) kc_196_1094 rfl rfl ?_
            refine xi_ialoadO (pc' := 1096) (v := a2) kc_196_1095 rfl (by decide) hov0 (xi_in (n := 6) (by decide) (by decide)) rfl ?_
            refine xi_aload_n (pc' := 1097) (x := 1000000) kc_196_1096 rfl rfl ?_
            refine xi_iload (pc' := 1099) (x := 0) kc_196_1097 rfl rfl ?_
            refine xi_iconst (pc' := 1100) (v := 3) kc_196_1099 rfl rfl ?_
            refine xi_iadd (pc' := 1101) (v := 3) kc_196_1100 rfl rfl ?_
            refine xi_ialoadO (pc' := 1102) (v := a3) kc_196_1101 rfl (by decide) hov0 (xi_in (n := 6) (by decide) (by decide)) rfl ?_
            refine xi_aload_n (pc' := 1103) (x := 1000000) kc_196_1102 rfl rfl ?_
            refine xi_iload (pc' := 1105) (x := 0) kc_196_1103 rfl rfl ?_
            refine xi_iconst (pc' := 1106) (v := 4) kc_196_1105 rfl rfl ?_
            refine xi_iadd (pc' := 1107) (v := 4) kc_196_1106 rfl rfl ?_
            refine xi_ialoadO (pc' := 1108) (v := a4) kc_196_1107 rfl (by decide) hov0 (xi_in (n := 6) (by decide) (by decide)) rfl ?_
            refine xi_aload_n (pc' := 1109) (x := 1000000) kc_196_1108 rfl rfl ?_
            refine xi_iload (pc' := 1111) (x := 0) kc_196_1109 rfl rfl ?_
            refine xi_iconst (pc' := 1112) (v := 5) kc_196_1111 rfl rfl ?_
            refine xi_iadd (pc' := 1113) (v := 5) kc_196_1112 rfl rfl ?_
            refine xi_ialoadO (pc' := 1114) (v := a5) kc_196_1113 rfl (by decide) hov0 (xi_in (n := 6) (by decide) (by decide)) rfl ?_
            refine xi_virtual (mj := 62) (as := [.int a1, .int a2, .int a3, .int a4, .int a5]) (st1 := [.int (-4)]) (lv0 := [(0, .ref 115), (1, .int a1), (2, .int a2), (3, .int a3), (4, .int a4), (5, .int a5)]) kc_196_1114 rfl rfl rfl rfl rfl ((eh1.2.1 115 (by decide)).trans (F 115 _ hl_115)) (Nat.le_of_ble_eq_true rfl) (hJ _ _ _ _ (by decide)) (xm_le ml_62 rfl) rfl ?_
            refine xi_aload_n (pc' := 1) (x := 115) kc_62_0 rfl rfl ?_
            refine xi_iconst (pc' := 2) (v := 0) kc_62_1 rfl rfl ?_
            refine xi_putfield (pc' := 5) (fs' := [.int 0, .int 0, .ref 116, .ref 117, .ref 118, .ref 119, .ref 120, .ref 121, .ref 122, .ref 123, .ref 124, .ref 125, .ref 126, .ref 127, .ref 128, .ref 129, .int 4, .ref 130, .int 0, .ref 131, .ref 132, .ref 133, .ref 134, .int 0, .ref 135, .ref 136, .ref 137, .ref 138, .ref 139, .ref 140, .ref 141, .ref 142, .int 0, .int 0, .int 0, .ref 143, .ref 144, .ref 145, .ref 146, .ref 147, .ref 148, .int 0, .ref 149, .ref 150, .ref 151, .int 0, .ref 152, .ref 153, .ref 154, .ref 155, .ref 156, .ref 157, .ref 158, .ref 159, .int 0, .ref 160, .int 0, .ref 161, .ref 162, .ref 163, .ref 164, .int 0, .ref 165, .ref 166]) kc_62_2 rfl rfl rfl ((eh1.2.1 115 (by decide)).trans (F 115 _ hl_115)) rfl rfl rfl (Nat.le_of_ble_eq_true rfl) rfl (fun hh2 eh2 => ?_)
            refine xi_iload_n (pc' := 6) (x := a1) kc_62_5 rfl rfl ?_
            refine xi_static (mj := 11) (as := [.int a1]) (st1 := []) (lv0 := [(0, .int a1)]) kc_62_6 rfl rfl (Nat.le_of_ble_eq_true rfl) rfl rfl (Nat.le_of_ble_eq_true rfl) (hJ _ _ _ _ (by decide)) (xm_le ml_11 rfl) rfl ?_
            refine xi_iload_n (pc' := 1) (x := a1) kc_11_0 rfl rfl ?_
            refine xi_iconst (pc' := 2) (v := 0) kc_11_1 rfl rfl ?_
            refine xi_iconst (pc' := 3) (v := 5) kc_11_2 rfl rfl ?_
            refine xi_static (mj := 12) (as := [.int a1, .int 0, .int 5]) (st1 := []) (lv0 := [(0, .int a1), (1, .int 0), (2, .int 5)]) kc_11_3 rfl rfl (Nat.le_of_ble_eq_true rfl) rfl rfl (Nat.le_of_ble_eq_true rfl) (hJ _ _ _ _ (by decide)) (xm_le ml_12 rfl) rfl ?_
            refine xi_iload_n (pc' := 1) (x := a1) kc_12_0 rfl rfl ?_
            refine xi_iload_n (pc' := 2) (x := 0) kc_12_1 rfl rfl ?_
            refine xi_cmf (pc' := 5) kc_12_2 rfl (xc_lt_f (X := a1.toInt) (Y := 0) rfl (by decide) (by omega)) ?_
            refine xi_iload_n (pc' := 6) (x := a1) kc_12_5 rfl rfl ?_
            refine xi_iload_n (pc' := 7) (x := 5) kc_12_6 rfl rfl ?_
            refine xi_cmf (pc' := 10) kc_12_7 rfl (xc_gt_f (X := a1.toInt) (Y := 5) rfl (by decide) (by omega)) ?_
            refine xi_iconst (pc' := 11) (v := 1) kc_12_10 rfl rfl ?_
            refine xi_goto (pc' := 15) kc_12_11 rfl ?_
            refine xi_ireturn kc_12_15 mr_12 rfl ?_
            show xw J ov 98 11 (6, [(0, .int a1)], [.int 1], hh2) _
            refine xi_ireturn kc_11_6 mr_11 rfl ?_
            show xw J ov 99 62 (9, [(0, .ref 115), (1, .int a1), (2, .int a2), (3, .int a3), (4, .int a4), (5, .int a5)], [.int 1], hh2) _
            refine xi_ift (pc' := 18) kc_62_9 rfl rfl ?_
            refine xi_iload_n (pc' := 19) (x := a2) kc_62_18 rfl rfl ?_
            refine xi_iconst (pc' := 20) (v := 0) kc_62_19 rfl rfl ?_
            refine xi_iconst (pc' := 21) (v := 1) kc_62_20 rfl rfl ?_
            refine xi_static (mj := 12) (as := [.int a2, .int 0, .int 1]) (st1 := []) (lv0 := [(0, .int a2), (1, .int 0), (2, .int 1)]) kc_62_21 rfl rfl (Nat.le_of_ble_eq_true rfl) rfl rfl (Nat.le_of_ble_eq_true rfl) (hJ _ _ _ _ (by decide)) (xm_le ml_12 rfl) rfl ?_
            refine xi_iload_n (pc' := 1) (x := a2) kc_12_0 rfl rfl ?_
            refine xi_iload_n (pc' := 2) (x := 0) kc_12_1 rfl rfl ?_
            refine xi_cmf (pc' := 5) kc_12_2 rfl (xc_lt_f (X := a2.toInt) (Y := 0) rfl (by decide) (by omega)) ?_
            refine xi_iload_n (pc' := 6) (x := a2) kc_12_5 rfl rfl ?_
            refine xi_iload_n (pc' := 7) (x := 1) kc_12_6 rfl rfl ?_
            refine xi_cmf (pc' := 10) kc_12_7 rfl (xc_gt_f (X := a2.toInt) (Y := 1) rfl (by decide) (by omega)) ?_
            refine xi_iconst (pc' := 11) (v := 1) kc_12_10 rfl rfl ?_
            refine xi_goto (pc' := 15) kc_12_11 rfl ?_
            refine xi_ireturn kc_12_15 mr_12 rfl ?_
            show xw J ov 99 62 (24, [(0, .ref 115), (1, .int a1), (2, .int a2), (3, .int a3), (4, .int a4), (5, .int a5)], [.int 1], hh2) _
            refine xi_ift (pc' := 34) kc_62_24 rfl rfl ?_
            refine xi_iconst (pc' := 35) (v := 0) kc_62_34 rfl rfl ?_
            refine xi_istore (pc' := 37) (lv' := [(6, .int 0), (0, .ref 115), (1, .int a1), (2, .int a2), (3, .int a3), (4, .int a4), (5, .int a5)]) kc_62_35 rfl rfl (xm_lt ml_62 rfl) ?_
            refine xi_iload (pc' := 39) (x := 0) kc_62_37 rfl rfl ?_
            refine xi_aload_n (pc' := 40) (x := 115) kc_62_39 rfl rfl ?_
            refine xi_getfield (pc' := 43) (v := .int 0) kc_62_40 rfl rfl rfl eh2.1 rfl ?_
            refine xi_cmt (pc' := 94) kc_62_43 rfl rfl ?_
            refine xi_iload_n (pc' := 95) (x := a3) kc_62_94 rfl rfl ?_
            refine xi_iff (pc' := 98) kc_62_95 rfl (xc_lt_f (X := a3.toInt) (Y := 0) rfl (by decide) (by omega)) ?_
            refine xi_iload (pc' := 100) (x := a4) kc_62_98 rfl rfl ?_
            refine xi_aload_n (pc' := 101) (x := 115) kc_62_100 rfl rfl ?_
            refine xi_getfield (pc' := 104) (v := .int 0) kc_62_101 rfl rfl rfl eh2.1 rfl ?_
            refine xi_cmt (pc' := 114) kc_62_104 rfl (xc_lt_t (X := a4.toInt) (Y := 0) rfl (by decide) (by omega)) ?_
            refine xi_aload_n (pc' := 115) (x := 115) kc_62_114 rfl rfl ?_
            refine xi_bipush (pc' := 117) (v := (-4)) kc_62_115 rfl rfl ?_
            refine xi_virtual (mj := 13) (as := [.int (-4)]) (st1 := []) (lv0 := [(0, .ref 115), (1, .int (-4))]) kc_62_117 rfl rfl rfl rfl rfl eh2.1 (Nat.le_of_ble_eq_true rfl) (hJ _ _ _ _ (by decide)) (xm_le ml_13 rfl) rfl ?_
            refine xi_aload_n (pc' := 1) (x := 115) kc_13_0 rfl rfl ?_
            refine xi_getfield (pc' := 4) (v := .ref 140) kc_13_1 rfl rfl rfl eh2.1 rfl ?_
            refine xi_iload_n (pc' := 5) (x := (-4)) kc_13_4 rfl rfl ?_
            refine xi_ineg (pc' := 6) (v := 4) kc_13_5 rfl rfl ?_
            refine xi_dup2 (pc' := 7) kc_13_6 rfl ⟨rfl, rfl⟩ ?_
            refine xi_iaload (pc' := 8) (v := 0) kc_13_7 rfl ((eh2.2.1 140 (by decide)).trans ((eh1.2.1 140 (by decide)).trans (F 140 _ hl_140))) (by decide) rfl (xi_in (n := 7) (by decide) (by decide)) rfl ?_
            refine xi_iconst (pc' := 9) (v := 1) kc_13_8 rfl rfl ?_
            refine xi_iadd (pc' := 10) (v := 1) kc_13_9 rfl rfl ?_
            refine xi_iastore (pc' := 11) (x' := [0, 0, 0, 0, 1, 0, 0]) kc_13_10 rfl ((eh2.2.1 140 (by decide)).trans ((eh1.2.1 140 (by decide)).trans (F 140 _ hl_140))) rfl (xi_in (n := 7) (by decide) (by decide)) rfl (fun hh3 eh3 => ?_)
            refine xi_iload_n (pc' := 12) (x := (-4)) kc_13_11 rfl rfl ?_
            refine xi_ireturn kc_13_12 mr_13 rfl ?_
            show xw J ov 99 62 (120, [(6, .int 0), (0, .ref 115), (1, .int a1), (2, .int a2), (3, .int a3), (4, .int a4), (5, .int a5)], [.int (-4)], hh3) _
            refine xi_ireturn kc_62_120 mr_62 rfl ?_
            show xw J ov 100 196 (1117, [(4, .int 0), (3, .ref 167), (2, .ref 115), (1, .ref 0), (0, .ref 1000000)], [.int (-4), .int (-4)], hh3) _
            refine xi_cmt (pc' := 1528) kc_196_1117 rfl rfl ?_
            refine xi_iinc (pc' := 1531) (x := 0) (v := 6) (lv' := [(4, .int 6), (3, .ref 167), (2, .ref 115), (1, .ref 0), (0, .ref 1000000)]) kc_196_1528 rfl rfl rfl rfl (xm_lt ml_196 rfl) ?_
            refine xi_goto (pc' := 23) kc_196_1531 rfl ?_
            refine xi_iload (pc' := 25) (x := 6) kc_196_23 rfl rfl ?_
            refine xi_aload_n (pc' := 26) (x := 1000000) kc_196_25 rfl rfl ?_
            refine xi_arraylength (pc' := 27) (n := 6) (v := 6) kc_196_26 rfl (xl_lenO (by decide) hov0 rfl) rfl ?_
            refine xi_bipush (pc' := 29) (v := 6) kc_196_27 rfl rfl ?_
            refine xi_isub (pc' := 30) (v := 0) kc_196_29 rfl rfl ?_
            refine xi_cmt (pc' := 1534) kc_196_30 rfl rfl ?_
            refine xi_iconst (pc' := 1535) (v := 1) kc_196_1534 rfl rfl ?_
            refine xi_ireturn kc_196_1535 mr_196 rfl ?_
            refine ⟨rfl, ?_, ?_⟩
            · rw [eh3.2.2.1, eh2.2.2.1, eh1.2.2.1]; exact hn0
            · rw [eh3.2.2.2, eh2.2.2.2, eh1.2.2.2]; exact hz0
          · refine xi_cmf (pc' := 61) kc_164_58 rfl (xc_lt_f (X := a4.toInt) (Y := 0) rfl (by decide) (by omega)) ?_
            refine xi_iload (pc' := 63) (x := a5) kc_164_61 rfl rfl ?_
            refine xi_iload (pc' := 65) (x := a4) kc_164_63 rfl rfl ?_
            by_cases c6 : a4.toInt < a5.toInt
            · refine xi_cmt (pc' := 75) kc_164_65 rfl (xc_gt_t (X := a5.toInt) (Y := a4.toInt) rfl rfl (by omega)) ?_
              refine xi_iload_n (pc' := 76) (x := a3) kc_164_75 rfl rfl ?_
              refine xi_getstatic (pc' := 79) (j := 1000002) kc_164_76 rfl rfl ?_
              refine xi_iconst (pc' := 80) (v := 2) kc_164_79 rfl rfl ?_
              refine xi_ialoadO (pc' := 81) (v := 50) kc_164_80 rfl (by decide) hov2 (xi_in (n := 6) (by decide) (by decide)) rfl ?_
              by_cases c7 : 50 < a3.toInt
              · refine xi_cmt (pc' := 101) kc_164_81 rfl (xc_gt_t (X := a3.toInt) (Y := 50) rfl (by decide) (by omega)) ?_
                refine xi_aload_n (pc' := 102) (x := 0) kc_164_101 rfl rfl ?_
                refine xi_bipush (pc' := 104) (v := (-6)) kc_164_102 rfl rfl ?_
                refine xi_virtual (mj := 91) (as := [.int (-6)]) (st1 := []) (lv0 := [(0, .ref 0), (1, .int (-6))]) kc_164_104 rfl rfl rfl rfl rfl (F 0 _ hl_0) (Nat.le_of_ble_eq_true rfl) (hJ _ _ _ _ (by decide)) (xm_le ml_91 rfl) rfl ?_
                refine xi_iload_n (pc' := 1) (x := (-6)) kc_91_0 rfl rfl ?_
                refine xi_ineg (pc' := 2) (v := 6) kc_91_1 rfl rfl ?_
                refine xi_istore_n (pc' := 3) (lv' := [(2, .int 6), (0, .ref 0), (1, .int (-6))]) kc_91_2 rfl rfl (xm_lt ml_91 rfl) ?_
                refine xi_iload_n (pc' := 4) (x := 6) kc_91_3 rfl rfl ?_
                refine xi_iff (pc' := 7) kc_91_4 rfl rfl ?_
                refine xi_iload_n (pc' := 8) (x := 6) kc_91_7 rfl rfl ?_
                refine xi_aload_n (pc' := 9) (x := 0) kc_91_8 rfl rfl ?_
                refine xi_getfield (pc' := 12) (v := .ref 94) kc_91_9 rfl rfl rfl (F 0 _ hl_0) rfl ?_
                refine xi_arraylength (pc' := 13) (n := 7) (v := 7) kc_91_12 rfl (xl_lenI (by decide) (by decide) (F 94 _ hl_94) (by simp only [List.length_replicate, List.length_cons, List.length_nil])) rfl ?_
                refine xi_cmf (pc' := 16) kc_91_13 rfl rfl ?_
                refine xi_aload_n (pc' := 17) (x := 0) kc_91_16 rfl rfl ?_
                refine xi_getfield (pc' := 20) (v := .ref 94) kc_91_17 rfl rfl rfl (F 0 _ hl_0) rfl ?_
                refine xi_iload_n (pc' := 21) (x := 6) kc_91_20 rfl rfl ?_
                refine xi_dup2 (pc' := 22) kc_91_21 rfl ⟨rfl, rfl⟩ ?_
                refine xi_iaload (pc' := 23) (v := 0) kc_91_22 rfl (F 94 _ hl_94) (by decide) rfl (xi_in (n := 7) (by decide) (by decide)) rfl ?_
                refine xi_iconst (pc' := 24) (v := 1) kc_91_23 rfl rfl ?_
                refine xi_iadd (pc' := 25) (v := 1) kc_91_24 rfl rfl ?_
                refine xi_iastore (pc' := 26) (x' := [0, 0, 0, 0, 0, 0, 1]) kc_91_25 rfl (F 94 _ hl_94) rfl (xi_in (n := 7) (by decide) (by decide)) rfl (fun hh1 eh1 => ?_)
                refine xi_iload_n (pc' := 27) (x := (-6)) kc_91_26 rfl rfl ?_
                refine xi_ireturn kc_91_27 mr_91 rfl ?_
                show xw J ov 99 164 (107, [(0, .ref 0), (1, .int a1), (2, .int a2), (3, .int a3), (4, .int a4), (5, .int a5)], [.int (-6)], hh1) _
                refine xi_ireturn kc_164_107 mr_164 rfl ?_
                show xw J ov 100 196 (1083, [(4, .int 0), (3, .ref 167), (2, .ref 115), (1, .ref 0), (0, .ref 1000000)], [.int (-6)], hh1) _
                refine xi_aload_n (pc' := 1084) (x := 115) kc_196_1083 rfl rfl ?_
                refine xi_aload_n (pc' := 1085) (x := 1000000) kc_196_1084 rfl rfl ?_
                refine xi_iload (pc' := 1087) (x := 0) kc_196_1085 rfl rfl ?_
                refine xi_iconst (pc' := 1088) (v := 1) kc_196_1087 rfl rfl ?_
                refine xi_iadd (pc' := 1089) (v := 1) kc_196_1088 rfl rfl ?_
                refine xi_ialoadO (pc' := 1090) (v := a1) kc_196_1089 rfl (by decide) hov0 (xi_in (n := 6) (by decide) (by decide)) rfl ?_
                refine xi_aload_n (pc' := 1091) (x := 1000000) kc_196_1090 rfl rfl ?_
                refine xi_iload (pc' := 1093) (x := 0) kc_196_1091 rfl rfl ?_
                refine xi_iconst (pc' := 1094) (v := 2) kc_196_1093 rfl rfl ?_
                refine xi_iadd (pc' := 1095) (v := 2) kc_196_1094 rfl rfl ?_
                refine xi_ialoadO (pc' := 1096) (v := a2) kc_196_1095 rfl (by decide) hov0 (xi_in (n := 6) (by decide) (by decide)) rfl ?_
                refine xi_aload_n (pc' := 1097) (x := 1000000) kc_196_1096 rfl rfl ?_
                refine xi_iload (pc' := 1099) (x := 0) kc_196_1097 rfl rfl ?_
                refine xi_iconst (pc' := 1100) (v := 3) kc_196_1099 rfl rfl ?_
                refine xi_iadd (pc' := 1101) (v := 3) kc_196_1100 rfl rfl ?_
                refine xi_ialoadO (pc' := 1102) (v := a3) kc_196_1101 rfl (by decide) hov0 (xi_in (n := 6) (by decide) (by decide)) rfl ?_
                refine xi_aload_n (pc' := 1103) (x := 1000000) kc_196_1102 rfl rfl ?_
                refine xi_iload (pc' := 1105) (x := 0) kc_196_1103 rfl rfl ?_
                refine xi_iconst (pc' := 1106) (v := 4) kc_196_1105 rfl rfl ?_
                refine xi_iadd (pc' := 1107) (v := 4) kc_196_1106 rfl rfl ?_
                refine xi_ialoadO (pc' := 1108) (v := a4) kc_196_1107 rfl (by decide) hov0 (xi_in (n := 6) (by decide) (by decide)) rfl ?_
                refine xi_aload_n (pc' := 1109) (x := 1000000) kc_196_1108 rfl rfl ?_
                refine xi_iload (pc' := 1111) (x := 0) kc_196_1109 rfl rfl ?_
                refine xi_iconst (pc' := 1112) (v := 5) kc_196_1111 rfl rfl ?_
                refine xi_iadd (pc' := 1113) (v := 5) kc_196_1112 rfl rfl ?_
                refine xi_ialoadO (pc' := 1114) (v := a5) kc_196_1113 rfl (by decide) hov0 (xi_in (n := 6) (by decide) (by decide)) rfl ?_
                refine xi_virtual (mj := 62) (as := [.int a1, .int a2, .int a3, .int a4, .int a5]) (st1 := [.int (-6)]) (lv0 := [(0, .ref 115), (1, .int a1), (2, .int a2), (3, .int a3), (4, .int a4), (5, .int a5)]) kc_196_1114 rfl rfl rfl rfl rfl ((eh1.2.1 115 (by decide)).trans (F 115 _ hl_115)) (Nat.le_of_ble_eq_true rfl) (hJ _ _ _ _ (by decide)) (xm_le ml_62 rfl) rfl ?_
                refine xi_aload_n (pc' := 1) (x := 115) kc_62_0 rfl rfl ?_
                refine xi_iconst (pc' := 2) (v := 0) kc_62_1 rfl rfl ?_
                refine xi_putfield (pc' := 5) (fs' := [.int 0, .int 0, .ref 116, .ref 117, .ref 118, .ref 119, .ref 120, .ref 121, .ref 122, .ref 123, .ref 124, .ref 125, .ref 126, .ref 127, .ref 128, .ref 129, .int 4, .ref 130, .int 0, .ref 131, .ref 132, .ref 133, .ref 134, .int 0, .ref 135, .ref 136, .ref 137, .ref 138, .ref 139, .ref 140, .ref 141, .ref 142, .int 0, .int 0, .int 0, .ref 143, .ref 144, .ref 145, .ref 146, .ref 147, .ref 148, .int 0, .ref 149, .ref 150, .ref 151, .int 0, .ref 152, .ref 153, .ref 154, .ref 155, .ref 156, .ref 157, .ref 158, .ref 159, .int 0, .ref 160, .int 0, .ref 161, .ref 162, .ref 163, .ref 164, .int 0, .ref 165, .ref 166]) kc_62_2 rfl rfl rfl ((eh1.2.1 115 (by decide)).trans (F 115 _ hl_115)) rfl rfl rfl (Nat.le_of_ble_eq_true rfl) rfl (fun hh2 eh2 => ?_)
                refine xi_iload_n (pc' := 6) (x := a1) kc_62_5 rfl rfl ?_
                refine xi_static (mj := 11) (as := [.int a1]) (st1 := []) (lv0 := [(0, .int a1)]) kc_62_6 rfl rfl (Nat.le_of_ble_eq_true rfl) rfl rfl (Nat.le_of_ble_eq_true rfl) (hJ _ _ _ _ (by decide)) (xm_le ml_11 rfl) rfl ?_
                refine xi_iload_n (pc' := 1) (x := a1) kc_11_0 rfl rfl ?_
                refine xi_iconst (pc' := 2) (v := 0) kc_11_1 rfl rfl ?_
                refine xi_iconst (pc' := 3) (v := 5) kc_11_2 rfl rfl ?_
                refine xi_static (mj := 12) (as := [.int a1, .int 0, .int 5]) (st1 := []) (lv0 := [(0, .int a1), (1, .int 0), (2, .int 5)]) kc_11_3 rfl rfl (Nat.le_of_ble_eq_true rfl) rfl rfl (Nat.le_of_ble_eq_true rfl) (hJ _ _ _ _ (by decide)) (xm_le ml_12 rfl) rfl ?_
                refine xi_iload_n (pc' := 1) (x := a1) kc_12_0 rfl rfl ?_
                refine xi_iload_n (pc' := 2) (x := 0) kc_12_1 rfl rfl ?_
                refine xi_cmf (pc' := 5) kc_12_2 rfl (xc_lt_f (X := a1.toInt) (Y := 0) rfl (by decide) (by omega)) ?_
                refine xi_iload_n (pc' := 6) (x := a1) kc_12_5 rfl rfl ?_
                refine xi_iload_n (pc' := 7) (x := 5) kc_12_6 rfl rfl ?_
                refine xi_cmf (pc' := 10) kc_12_7 rfl (xc_gt_f (X := a1.toInt) (Y := 5) rfl (by decide) (by omega)) ?_
                refine xi_iconst (pc' := 11) (v := 1) kc_12_10 rfl rfl ?_
                refine xi_goto (pc' := 15) kc_12_11 rfl ?_
                refine xi_ireturn kc_12_15 mr_12 rfl ?_
                show xw J ov 98 11 (6, [(0, .int a1)], [.int 1], hh2) _
                refine xi_ireturn kc_11_6 mr_11 rfl ?_
                show xw J ov 99 62 (9, [(0, .ref 115), (1, .int a1), (2, .int a2), (3, .int a3), (4, .int a4), (5, .int a5)], [.int 1], hh2) _
                refine xi_ift (pc' := 18) kc_62_9 rfl rfl ?_
                refine xi_iload_n (pc' := 19) (x := a2) kc_62_18 rfl rfl ?_
                refine xi_iconst (pc' := 20) (v := 0) kc_62_19 rfl rfl ?_
                refine xi_iconst (pc' := 21) (v := 1) kc_62_20 rfl rfl ?_
                refine xi_static (mj := 12) (as := [.int a2, .int 0, .int 1]) (st1 := []) (lv0 := [(0, .int a2), (1, .int 0), (2, .int 1)]) kc_62_21 rfl rfl (Nat.le_of_ble_eq_true rfl) rfl rfl (Nat.le_of_ble_eq_true rfl) (hJ _ _ _ _ (by decide)) (xm_le ml_12 rfl) rfl ?_
                refine xi_iload_n (pc' := 1) (x := a2) kc_12_0 rfl rfl ?_
                refine xi_iload_n (pc' := 2) (x := 0) kc_12_1 rfl rfl ?_
                refine xi_cmf (pc' := 5) kc_12_2 rfl (xc_lt_f (X := a2.toInt) (Y := 0) rfl (by decide) (by omega)) ?_
                refine xi_iload_n (pc' := 6) (x := a2) kc_12_5 rfl rfl ?_
                refine xi_iload_n (pc' := 7) (x := 1) kc_12_6 rfl rfl ?_
                refine xi_cmf (pc' := 10) kc_12_7 rfl (xc_gt_f (X := a2.toInt) (Y := 1) rfl (by decide) (by omega)) ?_
                refine xi_iconst (pc' := 11) (v := 1) kc_12_10 rfl rfl ?_
                refine xi_goto (pc' := 15) kc_12_11 rfl ?_
                refine xi_ireturn kc_12_15 mr_12 rfl ?_
                show xw J ov 99 62 (24, [(0, .ref 115), (1, .int a1), (2, .int a2), (3, .int a3), (4, .int a4), (5, .int a5)], [.int 1], hh2) _
                refine xi_ift (pc' := 34) kc_62_24 rfl rfl ?_
                refine xi_iconst (pc' := 35) (v := 0) kc_62_34 rfl rfl ?_
                refine xi_istore (pc' := 37) (lv' := [(6, .int 0), (0, .ref 115), (1, .int a1), (2, .int a2), (3, .int a3), (4, .int a4), (5, .int a5)]) kc_62_35 rfl rfl (xm_lt ml_62 rfl) ?_
                refine xi_iload (pc' := 39) (x := 0) kc_62_37 rfl rfl ?_
                refine xi_aload_n (pc' := 40) (x := 115) kc_62_39 rfl rfl ?_
                refine xi_getfield (pc' := 43) (v := .int 0) kc_62_40 rfl rfl rfl eh2.1 rfl ?_
                refine xi_cmt (pc' := 94) kc_62_43 rfl rfl ?_
                refine xi_iload_n (pc' := 95) (x := a3) kc_62_94 rfl rfl ?_
                refine xi_iff (pc' := 98) kc_62_95 rfl (xc_lt_f (X := a3.toInt) (Y := 0) rfl (by decide) (by omega)) ?_
                refine xi_iload (pc' := 100) (x := a4) kc_62_98 rfl rfl ?_
                refine xi_aload_n (pc' := 101) (x := 115) kc_62_100 rfl rfl ?_
                refine xi_getfield (pc' := 104) (v := .int 0) kc_62_101 rfl rfl rfl eh2.1 rfl ?_
                refine xi_cmf (pc' := 107) kc_62_104 rfl (xc_lt_f (X := a4.toInt) (Y := 0) rfl (by decide) (by omega)) ?_
                refine xi_iload (pc' := 109) (x := a5) kc_62_107 rfl rfl ?_
                refine xi_iload (pc' := 111) (x := a4) kc_62_109 rfl rfl ?_
                refine xi_cmt (pc' := 121) kc_62_111 rfl (xc_gt_t (X := a5.toInt) (Y := a4.toInt) rfl rfl (by omega)) ?_
                refine xi_iload (pc' := 123) (x := a5) kc_62_121 rfl rfl ?_
                refine xi_sipush (pc' := 126) (v := 600) kc_62_123 rfl rfl ?_
                by_cases c8 : 600 < a5.toInt
                · refine xi_cmt (pc' := 144) kc_62_126 rfl (xc_gt_t (X := a5.toInt) (Y := 600) rfl (by decide) (by omega)) ?_
                  refine xi_aload_n (pc' := 145) (x := 115) kc_62_144 rfl rfl ?_
                  refine xi_bipush (pc' := 147) (v := (-6)) kc_62_145 rfl rfl ?_
                  refine xi_virtual (mj := 13) (as := [.int (-6)]) (st1 := []) (lv0 := [(0, .ref 115), (1, .int (-6))]) kc_62_147 rfl rfl rfl rfl rfl eh2.1 (Nat.le_of_ble_eq_true rfl) (hJ _ _ _ _ (by decide)) (xm_le ml_13 rfl) rfl ?_
                  refine xi_aload_n (pc' := 1) (x := 115) kc_13_0 rfl rfl ?_
                  refine xi_getfield (pc' := 4) (v := .ref 140) kc_13_1 rfl rfl rfl eh2.1 rfl ?_
                  refine xi_iload_n (pc' := 5) (x := (-6)) kc_13_4 rfl rfl ?_
                  refine xi_ineg (pc' := 6) (v := 6) kc_13_5 rfl rfl ?_
                  refine xi_dup2 (pc' := 7) kc_13_6 rfl ⟨rfl, rfl⟩ ?_
                  refine xi_iaload (pc' := 8) (v := 0) kc_13_7 rfl ((eh2.2.1 140 (by decide)).trans ((eh1.2.1 140 (by decide)).trans (F 140 _ hl_140))) (by decide) rfl (xi_in (n := 7) (by decide) (by decide)) rfl ?_
                  refine xi_iconst (pc' := 9) (v := 1) kc_13_8 rfl rfl ?_
                  refine xi_iadd (pc' := 10) (v := 1) kc_13_9 rfl rfl ?_
                  refine xi_iastore (pc' := 11) (x' := [0, 0, 0, 0, 0, 0, 1]) kc_13_10 rfl ((eh2.2.1 140 (by decide)).trans ((eh1.2.1 140 (by decide)).trans (F 140 _ hl_140))) rfl (xi_in (n := 7) (by decide) (by decide)) rfl (fun hh3 eh3 => ?_)
                  refine xi_iload_n (pc' := 12) (x := (-6)) kc_13_11 rfl rfl ?_
                  refine xi_ireturn kc_13_12 mr_13 rfl ?_
                  show xw J ov 99 62 (150, [(6, .int 0), (0, .ref 115), (1, .int a1), (2, .int a2), (3, .int a3), (4, .int a4), (5, .int a5)], [.int (-6)], hh3) _
                  refine xi_ireturn kc_62_150 mr_62 rfl ?_
                  show xw J ov 100 196 (1117, [(4, .int 0), (3, .ref 167), (2, .ref 115), (1, .ref 0), (0, .ref 1000000)], [.int (-6), .int (-6)], hh3) _
                  refine xi_cmt (pc' := 1528) kc_196_1117 rfl rfl ?_
                  refine xi_iinc (pc' := 1531) (x := 0) (v := 6) (lv' := [(4, .int 6), (3, .ref 167), (2, .ref 115), (1, .ref 0), (0, .ref 1000000)]) kc_196_1528 rfl rfl rfl rfl (xm_lt ml_196 rfl) ?_
                  refine xi_goto (pc' := 23) kc_196_1531 rfl ?_
                  refine xi_iload (pc' := 25) (x := 6) kc_196_23 rfl rfl ?_
                  refine xi_aload_n (pc' := 26) (x := 1000000) kc_196_25 rfl rfl ?_
                  refine xi_arraylength (pc' := 27) (n := 6) (v := 6) kc_196_26 rfl (xl_lenO (by decide) hov0 rfl) rfl ?_
                  refine xi_bipush (pc' := 29) (v := 6) kc_196_27 rfl rfl ?_
                  refine xi_isub (pc' := 30) (v := 0) kc_196_29 rfl rfl ?_
                  refine xi_cmt (pc' := 1534) kc_196_30 rfl rfl ?_
                  refine xi_iconst (pc' := 1535) (v := 1) kc_196_1534 rfl rfl ?_
                  refine xi_ireturn kc_196_1535 mr_196 rfl ?_
                  refine ⟨rfl, ?_, ?_⟩
                  · rw [eh3.2.2.1, eh2.2.2.1, eh1.2.2.1]; exact hn0
                  · rw [eh3.2.2.2, eh2.2.2.2, eh1.2.2.2]; exact hz0
                · refine xi_cmf (pc' := 129) kc_62_126 rfl (xc_gt_f (X := a5.toInt) (Y := 600) rfl (by decide) (by omega)) ?_
                  refine xi_iload_n (pc' := 130) (x := a3) kc_62_129 rfl rfl ?_
                  refine xi_bipush (pc' := 132) (v := 50) kc_62_130 rfl rfl ?_
                  refine xi_cmt (pc' := 144) kc_62_132 rfl (xc_gt_t (X := a3.toInt) (Y := 50) rfl (by decide) (by omega)) ?_
                  refine xi_aload_n (pc' := 145) (x := 115) kc_62_144 rfl rfl ?_
                  refine xi_bipush (pc' := 147) (v := (-6)) kc_62_145 rfl rfl ?_
                  refine xi_virtual (mj := 13) (as := [.int (-6)]) (st1 := []) (lv0 := [(0, .ref 115), (1, .int (-6))]) kc_62_147 rfl rfl rfl rfl rfl eh2.1 (Nat.le_of_ble_eq_true rfl) (hJ _ _ _ _ (by decide)) (xm_le ml_13 rfl) rfl ?_
                  refine xi_aload_n (pc' := 1) (x := 115) kc_13_0 rfl rfl ?_
                  refine xi_getfield (pc' := 4) (v := .ref 140) kc_13_1 rfl rfl rfl eh2.1 rfl ?_
                  refine xi_iload_n (pc' := 5) (x := (-6)) kc_13_4 rfl rfl ?_
                  refine xi_ineg (pc' := 6) (v := 6) kc_13_5 rfl rfl ?_
                  refine xi_dup2 (pc' := 7) kc_13_6 rfl ⟨rfl, rfl⟩ ?_
                  refine xi_iaload (pc' := 8) (v := 0) kc_13_7 rfl ((eh2.2.1 140 (by decide)).trans ((eh1.2.1 140 (by decide)).trans (F 140 _ hl_140))) (by decide) rfl (xi_in (n := 7) (by decide) (by decide)) rfl ?_
                  refine xi_iconst (pc' := 9) (v := 1) kc_13_8 rfl rfl ?_
                  refine xi_iadd (pc' := 10) (v := 1) kc_13_9 rfl rfl ?_
                  refine xi_iastore (pc' := 11) (x' := [0, 0, 0, 0, 0, 0, 1]) kc_13_10 rfl ((eh2.2.1 140 (by decide)).trans ((eh1.2.1 140 (by decide)).trans (F 140 _ hl_140))) rfl (xi_in (n := 7) (by decide) (by decide)) rfl (fun hh3 eh3 => ?_)
                  refine xi_iload_n (pc' := 12) (x := (-6)) kc_13_11 rfl rfl ?_
                  refine xi_ireturn kc_13_12 mr_13 rfl ?_
                  show xw J ov 99 62 (150, [(6, .int 0), (0, .ref 115), (1, .int a1), (2, .int a2), (3, .int a3), (4, .int a4), (5, .int a5)], [.int (-6)], hh3) _
                  refine xi_ireturn kc_62_150 mr_62 rfl ?_
                  show xw J ov 100 196 (1117, [(4, .int 0), (3, .ref 167), (2, .ref 115), (1, .ref 0), (0, .ref 1000000)], [.int (-6), .int (-6)], hh3) _
                  refine xi_cmt (pc' := 1528) kc_196_1117 rfl rfl ?_
                  refine xi_iinc (pc' := 1531) (x := 0) (v := 6) (lv' := [(4, .int 6), (3, .ref 167), (2, .ref 115), (1, .ref 0), (0, .ref 1000000)]) kc_196_1528 rfl rfl rfl rfl (xm_lt ml_196 rfl) ?_
                  refine xi_goto (pc' := 23) kc_196_1531 rfl ?_
                  refine xi_iload (pc' := 25) (x := 6) kc_196_23 rfl rfl ?_
                  refine xi_aload_n (pc' := 26) (x := 1000000) kc_196_25 rfl rfl ?_
                  refine xi_arraylength (pc' := 27) (n := 6) (v := 6) kc_196_26 rfl (xl_lenO (by decide) hov0 rfl) rfl ?_
                  refine xi_bipush (pc' := 29) (v := 6) kc_196_27 rfl rfl ?_
                  refine xi_isub (pc' := 30) (v := 0) kc_196_29 rfl rfl ?_
                  refine xi_cmt (pc' := 1534) kc_196_30 rfl rfl ?_
                  refine xi_iconst (pc' := 1535) (v := 1) kc_196_1534 rfl rfl ?_
                  refine xi_ireturn kc_196_1535 mr_196 rfl ?_
                  refine ⟨rfl, ?_, ?_⟩
                  · rw [eh3.2.2.1, eh2.2.2.1, eh1.2.2.1]; exact hn0
                  · rw [eh3.2.2.2, eh2.2.2.2, eh1.2.2.2]; exact hz0
              · refine xi_cmf (pc' := 84) kc_164_81 rfl (xc_gt_f (X := a3.toInt) (Y := 50) rfl (by decide) (by omega)) ?_
                refine xi_iload (pc' := 86) (x := a5) kc_164_84 rfl rfl ?_
                refine xi_sipush (pc' := 89) (v := 600) kc_164_86 rfl rfl ?_
                by_cases c9 : 600 < a5.toInt
                · refine xi_cmt (pc' := 101) kc_164_89 rfl (xc_gt_t (X := a5.toInt) (Y := 600) rfl (by decide) (by omega)) ?_
                  refine xi_aload_n (pc' := 102) (x := 0) kc_164_101 rfl rfl ?_
                  refine xi_bipush (pc' := 104) (v := (-6)) kc_164_102 rfl rfl ?_
                  refine xi_virtual (mj := 91) (as := [.int (-6)]) (st1 := []) (lv0 := [(0, .ref 0), (1, .int (-6))]) kc_164_104 rfl rfl rfl rfl rfl (F 0 _ hl_0) (Nat.le_of_ble_eq_true rfl) (hJ _ _ _ _ (by decide)) (xm_le ml_91 rfl) rfl ?_
                  refine xi_iload_n (pc' := 1) (x := (-6)) kc_91_0 rfl rfl ?_
                  refine xi_ineg (pc' := 2) (v := 6) kc_91_1 rfl rfl ?_
                  refine xi_istore_n (pc' := 3) (lv' := [(2, .int 6), (0, .ref 0), (1, .int (-6))]) kc_91_2 rfl rfl (xm_lt ml_91 rfl) ?_
                  refine xi_iload_n (pc' := 4) (x := 6) kc_91_3 rfl rfl ?_
                  refine xi_iff (pc' := 7) kc_91_4 rfl rfl ?_
                  refine xi_iload_n (pc' := 8) (x := 6) kc_91_7 rfl rfl ?_
                  refine xi_aload_n (pc' := 9) (x := 0) kc_91_8 rfl rfl ?_
                  refine xi_getfield (pc' := 12) (v := .ref 94) kc_91_9 rfl rfl rfl (F 0 _ hl_0) rfl ?_
                  refine xi_arraylength (pc' := 13) (n := 7) (v := 7) kc_91_12 rfl (xl_lenI (by decide) (by decide) (F 94 _ hl_94) (by simp only [List.length_replicate, List.length_cons, List.length_nil])) rfl ?_
                  refine xi_cmf (pc' := 16) kc_91_13 rfl rfl ?_
                  refine xi_aload_n (pc' := 17) (x := 0) kc_91_16 rfl rfl ?_
                  refine xi_getfield (pc' := 20) (v := .ref 94) kc_91_17 rfl rfl rfl (F 0 _ hl_0) rfl ?_
                  refine xi_iload_n (pc' := 21) (x := 6) kc_91_20 rfl rfl ?_
                  refine xi_dup2 (pc' := 22) kc_91_21 rfl ⟨rfl, rfl⟩ ?_
                  refine xi_iaload (pc' := 23) (v := 0) kc_91_22 rfl (F 94 _ hl_94) (by decide) rfl (xi_in (n := 7) (by decide) (by decide)) rfl ?_
                  refine xi_iconst (pc' := 24) (v := 1) kc_91_23 rfl rfl ?_
                  refine xi_iadd (pc' := 25) (v := 1) kc_91_24 rfl rfl ?_
                  refine xi_iastore (pc' := 26) (x' := [0, 0, 0, 0, 0, 0, 1]) kc_91_25 rfl (F 94 _ hl_94) rfl (xi_in (n := 7) (by decide) (by decide)) rfl (fun hh1 eh1 => ?_)
                  refine xi_iload_n (pc' := 27) (x := (-6)) kc_91_26 rfl rfl ?_
                  refine xi_ireturn kc_91_27 mr_91 rfl ?_
                  show xw J ov 99 164 (107, [(0, .ref 0), (1, .int a1), (2, .int a2), (3, .int a3), (4, .int a4), (5, .int a5)], [.int (-6)], hh1) _
                  refine xi_ireturn kc_164_107 mr_164 rfl ?_
                  show xw J ov 100 196 (1083, [(4, .int 0), (3, .ref 167), (2, .ref 115), (1, .ref 0), (0, .ref 1000000)], [.int (-6)], hh1) _
                  refine xi_aload_n (pc' := 1084) (x := 115) kc_196_1083 rfl rfl ?_
                  refine xi_aload_n (pc' := 1085) (x := 1000000) kc_196_1084 rfl rfl ?_
                  refine xi_iload (pc' := 1087) (x := 0) kc_196_1085 rfl rfl ?_
                  refine xi_iconst (pc' := 1088) (v := 1) kc_196_1087 rfl rfl ?_
                  refine xi_iadd (pc' := 1089) (v := 1) kc_196_1088 rfl rfl ?_
                  refine xi_ialoadO (pc' := 1090) (v := a1) kc_196_1089 rfl (by decide) hov0 (xi_in (n := 6) (by decide) (by decide)) rfl ?_
                  refine xi_aload_n (pc' := 1091) (x := 1000000) kc_196_1090 rfl rfl ?_
                  refine xi_iload (pc' := 1093) (x := 0) kc_196_1091 rfl rfl ?_
                  refine xi_iconst (pc' := 1094) (v := 2) kc_196_1093 rfl rfl ?_
                  refine xi_iadd (pc' := 1095) (v := 2) kc_196_1094 rfl rfl ?_
                  refine xi_ialoadO (pc' := 1096) (v := a2) kc_196_1095 rfl (by decide) hov0 (xi_in (n := 6) (by decide) (by decide)) rfl ?_
                  refine xi_aload_n (pc' := 1097) (x := 1000000) kc_196_1096 rfl rfl ?_
                  refine xi_iload (pc' := 1099) (x := 0) kc_196_1097 rfl rfl ?_
                  refine xi_iconst (pc' := 1100) (v := 3) kc_196_1099 rfl rfl ?_
                  refine xi_iadd (pc' := 1101) (v := 3) kc_196_1100 rfl rfl ?_
                  refine xi_ialoadO (pc' := 1102) (v := a3) kc_196_1101 rfl (by decide) hov0 (xi_in (n := 6) (by decide) (by decide)) rfl ?_
                  refine xi_aload_n (pc' := 1103) (x := 1000000) kc_196_1102 rfl rfl ?_
                  refine xi_iload (pc' := 1105) (x := 0) kc_196_1103 rfl rfl ?_
                  refine xi_iconst (pc' := 1106) (v := 4) kc_196_1105 rfl rfl ?_
                  refine xi_iadd (pc' := 1107) (v := 4) kc_196_1106 rfl rfl ?_
                  refine xi_ialoadO (pc' := 1108) (v := a4) kc_196_1107 rfl (by decide) hov0 (xi_in (n := 6) (by decide) (by decide)) rfl ?_
                  refine xi_aload_n (pc' := 1109) (x := 1000000) kc_196_1108 rfl rfl ?_
                  refine xi_iload (pc' := 1111) (x := 0) kc_196_1109 rfl rfl ?_
                  refine xi_iconst (pc' := 1112) (v := 5) kc_196_1111 rfl rfl ?_
                  refine xi_iadd (pc' := 1113) (v := 5) kc_196_1112 rfl rfl ?_
                  refine xi_ialoadO (pc' := 1114) (v := a5) kc_196_1113 rfl (by decide) hov0 (xi_in (n := 6) (by decide) (by decide)) rfl ?_
                  refine xi_virtual (mj := 62) (as := [.int a1, .int a2, .int a3, .int a4, .int a5]) (st1 := [.int (-6)]) (lv0 := [(0, .ref 115), (1, .int a1), (2, .int a2), (3, .int a3), (4, .int a4), (5, .int a5)]) kc_196_1114 rfl rfl rfl rfl rfl ((eh1.2.1 115 (by decide)).trans (F 115 _ hl_115)) (Nat.le_of_ble_eq_true rfl) (hJ _ _ _ _ (by decide)) (xm_le ml_62 rfl) rfl ?_
                  refine xi_aload_n (pc' := 1) (x := 115) kc_62_0 rfl rfl ?_
                  refine xi_iconst (pc' := 2) (v := 0) kc_62_1 rfl rfl ?_
                  refine xi_putfield (pc' := 5) (fs' := [.int 0, .int 0, .ref 116, .ref 117, .ref 118, .ref 119, .ref 120, .ref 121, .ref 122, .ref 123, .ref 124, .ref 125, .ref 126, .ref 127, .ref 128, .ref 129, .int 4, .ref 130, .int 0, .ref 131, .ref 132, .ref 133, .ref 134, .int 0, .ref 135, .ref 136, .ref 137, .ref 138, .ref 139, .ref 140, .ref 141, .ref 142, .int 0, .int 0, .int 0, .ref 143, .ref 144, .ref 145, .ref 146, .ref 147, .ref 148, .int 0, .ref 149, .ref 150, .ref 151, .int 0, .ref 152, .ref 153, .ref 154, .ref 155, .ref 156, .ref 157, .ref 158, .ref 159, .int 0, .ref 160, .int 0, .ref 161, .ref 162, .ref 163, .ref 164, .int 0, .ref 165, .ref 166]) kc_62_2 rfl rfl rfl ((eh1.2.1 115 (by decide)).trans (F 115 _ hl_115)) rfl rfl rfl (Nat.le_of_ble_eq_true rfl) rfl (fun hh2 eh2 => ?_)
                  refine xi_iload_n (pc' := 6) (x := a1) kc_62_5 rfl rfl ?_
                  refine xi_static (mj := 11) (as := [.int a1]) (st1 := []) (lv0 := [(0, .int a1)]) kc_62_6 rfl rfl (Nat.le_of_ble_eq_true rfl) rfl rfl (Nat.le_of_ble_eq_true rfl) (hJ _ _ _ _ (by decide)) (xm_le ml_11 rfl) rfl ?_
                  refine xi_iload_n (pc' := 1) (x := a1) kc_11_0 rfl rfl ?_
                  refine xi_iconst (pc' := 2) (v := 0) kc_11_1 rfl rfl ?_
                  refine xi_iconst (pc' := 3) (v := 5) kc_11_2 rfl rfl ?_
                  refine xi_static (mj := 12) (as := [.int a1, .int 0, .int 5]) (st1 := []) (lv0 := [(0, .int a1), (1, .int 0), (2, .int 5)]) kc_11_3 rfl rfl (Nat.le_of_ble_eq_true rfl) rfl rfl (Nat.le_of_ble_eq_true rfl) (hJ _ _ _ _ (by decide)) (xm_le ml_12 rfl) rfl ?_
                  refine xi_iload_n (pc' := 1) (x := a1) kc_12_0 rfl rfl ?_
                  refine xi_iload_n (pc' := 2) (x := 0) kc_12_1 rfl rfl ?_
                  refine xi_cmf (pc' := 5) kc_12_2 rfl (xc_lt_f (X := a1.toInt) (Y := 0) rfl (by decide) (by omega)) ?_
                  refine xi_iload_n (pc' := 6) (x := a1) kc_12_5 rfl rfl ?_
                  refine xi_iload_n (pc' := 7) (x := 5) kc_12_6 rfl rfl ?_
                  refine xi_cmf (pc' := 10) kc_12_7 rfl (xc_gt_f (X := a1.toInt) (Y := 5) rfl (by decide) (by omega)) ?_
                  refine xi_iconst (pc' := 11) (v := 1) kc_12_10 rfl rfl ?_
                  refine xi_goto (pc' := 15) kc_12_11 rfl ?_
                  refine xi_ireturn kc_12_15 mr_12 rfl ?_
                  show xw J ov 98 11 (6, [(0, .int a1)], [.int 1], hh2) _
                  refine xi_ireturn kc_11_6 mr_11 rfl ?_
                  show xw J ov 99 62 (9, [(0, .ref 115), (1, .int a1), (2, .int a2), (3, .int a3), (4, .int a4), (5, .int a5)], [.int 1], hh2) _
                  refine xi_ift (pc' := 18) kc_62_9 rfl rfl ?_
                  refine xi_iload_n (pc' := 19) (x := a2) kc_62_18 rfl rfl ?_
                  refine xi_iconst (pc' := 20) (v := 0) kc_62_19 rfl rfl ?_
                  refine xi_iconst (pc' := 21) (v := 1) kc_62_20 rfl rfl ?_
                  refine xi_static (mj := 12) (as := [.int a2, .int 0, .int 1]) (st1 := []) (lv0 := [(0, .int a2), (1, .int 0), (2, .int 1)]) kc_62_21 rfl rfl (Nat.le_of_ble_eq_true rfl) rfl rfl (Nat.le_of_ble_eq_true rfl) (hJ _ _ _ _ (by decide)) (xm_le ml_12 rfl) rfl ?_
                  refine xi_iload_n (pc' := 1) (x := a2) kc_12_0 rfl rfl ?_
                  refine xi_iload_n (pc' := 2) (x := 0) kc_12_1 rfl rfl ?_
                  refine xi_cmf (pc' := 5) kc_12_2 rfl (xc_lt_f (X := a2.toInt) (Y := 0) rfl (by decide) (by omega)) ?_
                  refine xi_iload_n (pc' := 6) (x := a2) kc_12_5 rfl rfl ?_
                  refine xi_iload_n (pc' := 7) (x := 1) kc_12_6 rfl rfl ?_
                  refine xi_cmf (pc' := 10) kc_12_7 rfl (xc_gt_f (X := a2.toInt) (Y := 1) rfl (by decide) (by omega)) ?_
                  refine xi_iconst (pc' := 11) (v := 1) kc_12_10 rfl rfl ?_
                  refine xi_goto (pc' := 15) kc_12_11 rfl ?_
                  refine xi_ireturn kc_12_15 mr_12 rfl ?_
                  show xw J ov 99 62 (24, [(0, .ref 115), (1, .int a1), (2, .int a2), (3, .int a3), (4, .int a4), (5, .int a5)], [.int 1], hh2) _
                  refine xi_ift (pc' := 34) kc_62_24 rfl rfl ?_
                  refine xi_iconst (pc' := 35) (v := 0) kc_62_34 rfl rfl ?_
                  refine xi_istore (pc' := 37) (lv' := [(6, .int 0), (0, .ref 115), (1, .int a1), (2, .int a2), (3, .int a3), (4, .int a4), (5, .int a5)]) kc_62_35 rfl rfl (xm_lt ml_62 rfl) ?_
                  refine xi_iload (pc' := 39) (x := 0) kc_62_37 rfl rfl ?_
                  refine xi_aload_n (pc' := 40) (x := 115) kc_62_39 rfl rfl ?_
                  refine xi_getfield (pc' := 43) (v := .int 0) kc_62_40 rfl rfl rfl eh2.1 rfl ?_
                  refine xi_cmt (pc' := 94) kc_62_43 rfl rfl ?_
                  refine xi_iload_n (pc' := 95) (x := a3) kc_62_94 rfl rfl ?_
                  refine xi_iff (pc' := 98) kc_62_95 rfl (xc_lt_f (X := a3.toInt) (Y := 0) rfl (by decide) (by omega)) ?_
                  refine xi_iload (pc' := 100) (x := a4) kc_62_98 rfl rfl ?_
                  refine xi_aload_n (pc' := 101) (x := 115) kc_62_100 rfl rfl ?_
                  refine xi_getfield (pc' := 104) (v := .int 0) kc_62_101 rfl rfl rfl eh2.1 rfl ?_
                  refine xi_cmf (pc' := 107) kc_62_104 rfl (xc_lt_f (X := a4.toInt) (Y := 0) rfl (by decide) (by omega)) ?_
                  refine xi_iload (pc' := 109) (x := a5) kc_62_107 rfl rfl ?_
                  refine xi_iload (pc' := 111) (x := a4) kc_62_109 rfl rfl ?_
                  refine xi_cmt (pc' := 121) kc_62_111 rfl (xc_gt_t (X := a5.toInt) (Y := a4.toInt) rfl rfl (by omega)) ?_
                  refine xi_iload (pc' := 123) (x := a5) kc_62_121 rfl rfl ?_
                  refine xi_sipush (pc' := 126) (v := 600) kc_62_123 rfl rfl ?_
                  refine xi_cmt (pc' := 144) kc_62_126 rfl (xc_gt_t (X := a5.toInt) (Y := 600) rfl (by decide) (by omega)) ?_
                  refine xi_aload_n (pc' := 145) (x := 115) kc_62_144 rfl rfl ?_
                  refine xi_bipush (pc' := 147) (v := (-6)) kc_62_145 rfl rfl ?_
                  refine xi_virtual (mj := 13) (as := [.int (-6)]) (st1 := []) (lv0 := [(0, .ref 115), (1, .int (-6))]) kc_62_147 rfl rfl rfl rfl rfl eh2.1 (Nat.le_of_ble_eq_true rfl) (hJ _ _ _ _ (by decide)) (xm_le ml_13 rfl) rfl ?_
                  refine xi_aload_n (pc' := 1) (x := 115) kc_13_0 rfl rfl ?_
                  refine xi_getfield (pc' := 4) (v := .ref 140) kc_13_1 rfl rfl rfl eh2.1 rfl ?_
                  refine xi_iload_n (pc' := 5) (x := (-6)) kc_13_4 rfl rfl ?_
                  refine xi_ineg (pc' := 6) (v := 6) kc_13_5 rfl rfl ?_
                  refine xi_dup2 (pc' := 7) kc_13_6 rfl ⟨rfl, rfl⟩ ?_
                  refine xi_iaload (pc' := 8) (v := 0) kc_13_7 rfl ((eh2.2.1 140 (by decide)).trans ((eh1.2.1 140 (by decide)).trans (F 140 _ hl_140))) (by decide) rfl (xi_in (n := 7) (by decide) (by decide)) rfl ?_
                  refine xi_iconst (pc' := 9) (v := 1) kc_13_8 rfl rfl ?_
                  refine xi_iadd (pc' := 10) (v := 1) kc_13_9 rfl rfl ?_
                  refine xi_iastore (pc' := 11) (x' := [0, 0, 0, 0, 0, 0, 1]) kc_13_10 rfl ((eh2.2.1 140 (by decide)).trans ((eh1.2.1 140 (by decide)).trans (F 140 _ hl_140))) rfl (xi_in (n := 7) (by decide) (by decide)) rfl (fun hh3 eh3 => ?_)
                  refine xi_iload_n (pc' := 12) (x := (-6)) kc_13_11 rfl rfl ?_
                  refine xi_ireturn kc_13_12 mr_13 rfl ?_
                  show xw J ov 99 62 (150, [(6, .int 0), (0, .ref 115), (1, .int a1), (2, .int a2), (3, .int a3), (4, .int a4), (5, .int a5)], [.int (-6)], hh3) _
                  refine xi_ireturn kc_62_150 mr_62 rfl ?_
                  show xw J ov 100 196 (1117, [(4, .int 0), (3, .ref 167), (2, .ref 115), (1, .ref 0), (0, .ref 1000000)], [.int (-6), .int (-6)], hh3) _
                  refine xi_cmt (pc' := 1528) kc_196_1117 rfl rfl ?_
                  refine xi_iinc (pc' := 1531) (x := 0) (v := 6) (lv' := [(4, .int 6), (3, .ref 167), (2, .ref 115), (1, .ref 0), (0, .ref 1000000)]) kc_196_1528 rfl rfl rfl rfl (xm_lt ml_196 rfl) ?_
                  refine xi_goto (pc' := 23) kc_196_1531 rfl ?_
                  refine xi_iload (pc' := 25) (x := 6) kc_196_23 rfl rfl ?_
                  refine xi_aload_n (pc' := 26) (x := 1000000) kc_196_25 rfl rfl ?_
                  refine xi_arraylength (pc' := 27) (n := 6) (v := 6) kc_196_26 rfl (xl_lenO (by decide) hov0 rfl) rfl ?_
                  refine xi_bipush (pc' := 29) (v := 6) kc_196_27 rfl rfl ?_
                  refine xi_isub (pc' := 30) (v := 0) kc_196_29 rfl rfl ?_
                  refine xi_cmt (pc' := 1534) kc_196_30 rfl rfl ?_
                  refine xi_iconst (pc' := 1535) (v := 1) kc_196_1534 rfl rfl ?_
                  refine xi_ireturn kc_196_1535 mr_196 rfl ?_
                  refine ⟨rfl, ?_, ?_⟩
                  · rw [eh3.2.2.1, eh2.2.2.1, eh1.2.2.1]; exact hn0
                  · rw [eh3.2.2.2, eh2.2.2.2, eh1.2.2.2]; exact hz0
                · refine xi_cmf (pc' := 92) kc_164_89 rfl (xc_gt_f (X := a5.toInt) (Y := 600) rfl (by decide) (by omega)) ?_
                  refine xi_aload_n (pc' := 93) (x := 0) kc_164_92 rfl rfl ?_
                  refine xi_getfield (pc' := 96) (v := .int 0) kc_164_93 rfl rfl rfl (F 0 _ hl_0) rfl ?_
                  refine xi_bipush (pc' := 98) (v := 20) kc_164_96 rfl rfl ?_
                  refine xi_cmt (pc' := 108) kc_164_98 rfl rfl ?_
                  refine xi_aload_n (pc' := 109) (x := 0) kc_164_108 rfl rfl ?_
                  refine xi_getfield (pc' := 112) (v := .ref 93) kc_164_109 rfl rfl rfl (F 0 _ hl_0) rfl ?_
                  refine xi_aload_n (pc' := 113) (x := 0) kc_164_112 rfl rfl ?_
                  refine xi_getfield (pc' := 116) (v := .int 0) kc_164_113 rfl rfl rfl (F 0 _ hl_0) rfl ?_
                  refine xi_aaload (pc' := 117) (b := 95) kc_164_116 rfl (F 93 _ hl_93) rfl (xi_in (n := 20) (by decide) (by decide)) rfl ?_
                  refine xi_astore (pc' := 119) (lv' := [(6, .ref 95), (0, .ref 0), (1, .int a1), (2, .int a2), (3, .int a3), (4, .int a4), (5, .int a5)]) kc_164_117 rfl rfl (xm_lt ml_164 rfl) ?_
                  refine xi_aload (pc' := 121) (x := 95) kc_164_119 rfl rfl ?_
                  refine xi_iload_n (pc' := 122) (x := a1) kc_164_121 rfl rfl ?_
                  refine xi_putfield (pc' := 125) (fs' := [.int a1, .int 0, .int 0, .int 0, .int 0, .int 0]) kc_164_122 rfl rfl rfl (F 95 _ hl_95) rfl rfl rfl (Nat.le_of_ble_eq_true rfl) rfl (fun hh1 eh1 => ?_)
                  refine xi_aload (pc' := 127) (x := 95) kc_164_125 rfl rfl ?_
                  refine xi_iload_n (pc' := 128) (x := a2) kc_164_127 rfl rfl ?_
                  refine xi_iff (pc' := 131) kc_164_128 rfl (xc_ne_f (X := a2.toInt) (Y := 0) rfl (by decide) (by omega)) ?_
                  refine xi_iconst (pc' := 132) (v := 4) kc_164_131 rfl rfl ?_
                  refine xi_goto (pc' := 136) kc_164_132 rfl ?_
                  refine xi_putfield (pc' := 139) (fs' := [.int a1, .int 4, .int 0, .int 0, .int 0, .int 0]) kc_164_136 rfl rfl rfl eh1.1 rfl rfl rfl (Nat.le_of_ble_eq_true rfl) rfl (fun hh2 eh2 => ?_)
                  refine xi_aload (pc' := 141) (x := 95) kc_164_139 rfl rfl ?_
                  refine xi_iload_n (pc' := 142) (x := a2) kc_164_141 rfl rfl ?_
                  refine xi_iff (pc' := 145) kc_164_142 rfl (xc_ne_f (X := a2.toInt) (Y := 0) rfl (by decide) (by omega)) ?_
                  refine xi_iconst (pc' := 146) (v := 1) kc_164_145 rfl rfl ?_
                  refine xi_goto (pc' := 150) kc_164_146 rfl ?_
                  refine xi_putfield (pc' := 153) (fs' := [.int a1, .int 4, .int 1, .int 0, .int 0, .int 0]) kc_164_150 rfl rfl rfl eh2.1 rfl rfl rfl (Nat.le_of_ble_eq_true rfl) rfl (fun hh3 eh3 => ?_)
                  refine xi_aload (pc' := 155) (x := 95) kc_164_153 rfl rfl ?_
                  refine xi_iload (pc' := 157) (x := a4) kc_164_155 rfl rfl ?_
                  refine xi_putfield (pc' := 160) (fs' := [.int a1, .int 4, .int 1, .int a4, .int 0, .int 0]) kc_164_157 rfl rfl rfl eh3.1 rfl rfl rfl (Nat.le_of_ble_eq_true rfl) rfl (fun hh4 eh4 => ?_)
                  refine xi_aload (pc' := 162) (x := 95) kc_164_160 rfl rfl ?_
                  refine xi_iload (pc' := 164) (x := a5) kc_164_162 rfl rfl ?_
                  refine xi_putfield (pc' := 167) (fs' := [.int a1, .int 4, .int 1, .int a4, .int a5, .int 0]) kc_164_164 rfl rfl rfl eh4.1 rfl rfl rfl (Nat.le_of_ble_eq_true rfl) rfl (fun hh5 eh5 => ?_)
                  refine xi_aload_n (pc' := 168) (x := 0) kc_164_167 rfl rfl ?_
                  refine xi_dup (pc' := 169) kc_164_168 rfl rfl ?_
                  refine xi_getfield (pc' := 172) (v := .int 0) kc_164_169 rfl rfl rfl ((eh5.2.1 0 (by decide)).trans ((eh4.2.1 0 (by decide)).trans ((eh3.2.1 0 (by decide)).trans ((eh2.2.1 0 (by decide)).trans ((eh1.2.1 0 (by decide)).trans (F 0 _ hl_0)))))) rfl ?_
                  refine xi_iconst (pc' := 173) (v := 1) kc_164_172 rfl rfl ?_
                  refine xi_iadd (pc' := 174) (v := 1) kc_164_173 rfl rfl ?_
                  refine xi_putfield (pc' := 177) (fs' := [.ref 1, .ref 63, .ref 66, .ref 75, .ref 80, .ref 85, .ref 93, .ref 94, .int 1, .int 0]) kc_164_174 rfl rfl rfl ((eh5.2.1 0 (by decide)).trans ((eh4.2.1 0 (by decide)).trans ((eh3.2.1 0 (by decide)).trans ((eh2.2.1 0 (by decide)).trans ((eh1.2.1 0 (by decide)).trans (F 0 _ hl_0)))))) rfl rfl rfl (Nat.le_of_ble_eq_true rfl) rfl (fun hh6 eh6 => ?_)
                  refine xi_aload_n (pc' := 178) (x := 0) kc_164_177 rfl rfl ?_
                  refine xi_getfield (pc' := 181) (v := .int 1) kc_164_178 rfl rfl rfl eh6.1 rfl ?_
                  refine xi_iconst (pc' := 182) (v := 1) kc_164_181 rfl rfl ?_
                  refine xi_isub (pc' := 183) (v := 0) kc_164_182 rfl rfl ?_
                  refine xi_ireturn kc_164_183 mr_164 rfl ?_
                  show xw J ov 100 196 (1083, [(4, .int 0), (3, .ref 167), (2, .ref 115), (1, .ref 0), (0, .ref 1000000)], [.int 0], hh6) _
                  refine xi_aload_n (pc' := 1084) (x := 115) kc_196_1083 rfl rfl ?_
                  refine xi_aload_n (pc' := 1085) (x := 1000000) kc_196_1084 rfl rfl ?_
                  refine xi_iload (pc' := 1087) (x := 0) kc_196_1085 rfl rfl ?_
                  refine xi_iconst (pc' := 1088) (v := 1) kc_196_1087 rfl rfl ?_
                  refine xi_iadd (pc' := 1089) (v := 1) kc_196_1088 rfl rfl ?_
                  refine xi_ialoadO (pc' := 1090) (v := a1) kc_196_1089 rfl (by decide) hov0 (xi_in (n := 6) (by decide) (by decide)) rfl ?_
                  refine xi_aload_n (pc' := 1091) (x := 1000000) kc_196_1090 rfl rfl ?_
                  refine xi_iload (pc' := 1093) (x := 0) kc_196_1091 rfl rfl ?_
                  refine xi_iconst (pc' := 1094) (v := 2) kc_196_1093 rfl rfl ?_
                  refine xi_iadd (pc' := 1095) (v := 2) kc_196_1094 rfl rfl ?_
                  refine xi_ialoadO (pc' := 1096) (v := a2) kc_196_1095 rfl (by decide) hov0 (xi_in (n := 6) (by decide) (by decide)) rfl ?_
                  refine xi_aload_n (pc' := 1097) (x := 1000000) kc_196_1096 rfl rfl ?_
                  refine xi_iload (pc' := 1099) (x := 0) kc_196_1097 rfl rfl ?_
                  refine xi_iconst (pc' := 1100) (v := 3) kc_196_1099 rfl rfl ?_
                  refine xi_iadd (pc' := 1101) (v := 3) kc_196_1100 rfl rfl ?_
                  refine xi_ialoadO (pc' := 1102) (v := a3) kc_196_1101 rfl (by decide) hov0 (xi_in (n := 6) (by decide) (by decide)) rfl ?_
                  refine xi_aload_n (pc' := 1103) (x := 1000000) kc_196_1102 rfl rfl ?_
                  refine xi_iload (pc' := 1105) (x := 0) kc_196_1103 rfl rfl ?_
                  refine xi_iconst (pc' := 1106) (v := 4) kc_196_1105 rfl rfl ?_
                  refine xi_iadd (pc' := 1107) (v := 4) kc_196_1106 rfl rfl ?_
                  refine xi_ialoadO (pc' := 1108) (v := a4) kc_196_1107 rfl (by decide) hov0 (xi_in (n := 6) (by decide) (by decide)) rfl ?_
                  refine xi_aload_n (pc' := 1109) (x := 1000000) kc_196_1108 rfl rfl ?_
                  refine xi_iload (pc' := 1111) (x := 0) kc_196_1109 rfl rfl ?_
                  refine xi_iconst (pc' := 1112) (v := 5) kc_196_1111 rfl rfl ?_
                  refine xi_iadd (pc' := 1113) (v := 5) kc_196_1112 rfl rfl ?_
                  refine xi_ialoadO (pc' := 1114) (v := a5) kc_196_1113 rfl (by decide) hov0 (xi_in (n := 6) (by decide) (by decide)) rfl ?_
                  refine xi_virtual (mj := 62) (as := [.int a1, .int a2, .int a3, .int a4, .int a5]) (st1 := [.int 0]) (lv0 := [(0, .ref 115), (1, .int a1), (2, .int a2), (3, .int a3), (4, .int a4), (5, .int a5)]) kc_196_1114 rfl rfl rfl rfl rfl ((eh6.2.1 115 (by decide)).trans ((eh5.2.1 115 (by decide)).trans ((eh4.2.1 115 (by decide)).trans ((eh3.2.1 115 (by decide)).trans ((eh2.2.1 115 (by decide)).trans ((eh1.2.1 115 (by decide)).trans (F 115 _ hl_115))))))) (Nat.le_of_ble_eq_true rfl) (hJ _ _ _ _ (by decide)) (xm_le ml_62 rfl) rfl ?_
                  refine xi_aload_n (pc' := 1) (x := 115) kc_62_0 rfl rfl ?_
                  refine xi_iconst (pc' := 2) (v := 0) kc_62_1 rfl rfl ?_
                  refine xi_putfield (pc' := 5) (fs' := [.int 0, .int 0, .ref 116, .ref 117, .ref 118, .ref 119, .ref 120, .ref 121, .ref 122, .ref 123, .ref 124, .ref 125, .ref 126, .ref 127, .ref 128, .ref 129, .int 4, .ref 130, .int 0, .ref 131, .ref 132, .ref 133, .ref 134, .int 0, .ref 135, .ref 136, .ref 137, .ref 138, .ref 139, .ref 140, .ref 141, .ref 142, .int 0, .int 0, .int 0, .ref 143, .ref 144, .ref 145, .ref 146, .ref 147, .ref 148, .int 0, .ref 149, .ref 150, .ref 151, .int 0, .ref 152, .ref 153, .ref 154, .ref 155, .ref 156, .ref 157, .ref 158, .ref 159, .int 0, .ref 160, .int 0, .ref 161, .ref 162, .ref 163, .ref 164, .int 0, .ref 165, .ref 166]) kc_62_2 rfl rfl rfl ((eh6.2.1 115 (by decide)).trans ((eh5.2.1 115 (by decide)).trans ((eh4.2.1 115 (by decide)).trans ((eh3.2.1 115 (by decide)).trans ((eh2.2.1 115 (by decide)).trans ((eh1.2.1 115 (by decide)).trans (F 115 _ hl_115))))))) rfl rfl rfl (Nat.le_of_ble_eq_true rfl) rfl (fun hh7 eh7 => ?_)
                  refine xi_iload_n (pc' := 6) (x := a1) kc_62_5 rfl rfl ?_
                  refine xi_static (mj := 11) (as := [.int a1]) (st1 := []) (lv0 := [(0, .int a1)]) kc_62_6 rfl rfl (Nat.le_of_ble_eq_true rfl) rfl rfl (Nat.le_of_ble_eq_true rfl) (hJ _ _ _ _ (by decide)) (xm_le ml_11 rfl) rfl ?_
                  refine xi_iload_n (pc' := 1) (x := a1) kc_11_0 rfl rfl ?_
                  refine xi_iconst (pc' := 2) (v := 0) kc_11_1 rfl rfl ?_
                  refine xi_iconst (pc' := 3) (v := 5) kc_11_2 rfl rfl ?_
                  refine xi_static (mj := 12) (as := [.int a1, .int 0, .int 5]) (st1 := []) (lv0 := [(0, .int a1), (1, .int 0), (2, .int 5)]) kc_11_3 rfl rfl (Nat.le_of_ble_eq_true rfl) rfl rfl (Nat.le_of_ble_eq_true rfl) (hJ _ _ _ _ (by decide)) (xm_le ml_12 rfl) rfl ?_
                  refine xi_iload_n (pc' := 1) (x := a1) kc_12_0 rfl rfl ?_
                  refine xi_iload_n (pc' := 2) (x := 0) kc_12_1 rfl rfl ?_
                  refine xi_cmf (pc' := 5) kc_12_2 rfl (xc_lt_f (X := a1.toInt) (Y := 0) rfl (by decide) (by omega)) ?_
                  refine xi_iload_n (pc' := 6) (x := a1) kc_12_5 rfl rfl ?_
                  refine xi_iload_n (pc' := 7) (x := 5) kc_12_6 rfl rfl ?_
                  refine xi_cmf (pc' := 10) kc_12_7 rfl (xc_gt_f (X := a1.toInt) (Y := 5) rfl (by decide) (by omega)) ?_
                  refine xi_iconst (pc' := 11) (v := 1) kc_12_10 rfl rfl ?_
                  refine xi_goto (pc' := 15) kc_12_11 rfl ?_
                  refine xi_ireturn kc_12_15 mr_12 rfl ?_
                  show xw J ov 98 11 (6, [(0, .int a1)], [.int 1], hh7) _
                  refine xi_ireturn kc_11_6 mr_11 rfl ?_
                  show xw J ov 99 62 (9, [(0, .ref 115), (1, .int a1), (2, .int a2), (3, .int a3), (4, .int a4), (5, .int a5)], [.int 1], hh7) _
                  refine xi_ift (pc' := 18) kc_62_9 rfl rfl ?_
                  refine xi_iload_n (pc' := 19) (x := a2) kc_62_18 rfl rfl ?_
                  refine xi_iconst (pc' := 20) (v := 0) kc_62_19 rfl rfl ?_
                  refine xi_iconst (pc' := 21) (v := 1) kc_62_20 rfl rfl ?_
                  refine xi_static (mj := 12) (as := [.int a2, .int 0, .int 1]) (st1 := []) (lv0 := [(0, .int a2), (1, .int 0), (2, .int 1)]) kc_62_21 rfl rfl (Nat.le_of_ble_eq_true rfl) rfl rfl (Nat.le_of_ble_eq_true rfl) (hJ _ _ _ _ (by decide)) (xm_le ml_12 rfl) rfl ?_
                  refine xi_iload_n (pc' := 1) (x := a2) kc_12_0 rfl rfl ?_
                  refine xi_iload_n (pc' := 2) (x := 0) kc_12_1 rfl rfl ?_
                  refine xi_cmf (pc' := 5) kc_12_2 rfl (xc_lt_f (X := a2.toInt) (Y := 0) rfl (by decide) (by omega)) ?_
                  refine xi_iload_n (pc' := 6) (x := a2) kc_12_5 rfl rfl ?_
                  refine xi_iload_n (pc' := 7) (x := 1) kc_12_6 rfl rfl ?_
                  refine xi_cmf (pc' := 10) kc_12_7 rfl (xc_gt_f (X := a2.toInt) (Y := 1) rfl (by decide) (by omega)) ?_
                  refine xi_iconst (pc' := 11) (v := 1) kc_12_10 rfl rfl ?_
                  refine xi_goto (pc' := 15) kc_12_11 rfl ?_
                  refine xi_ireturn kc_12_15 mr_12 rfl ?_
                  show xw J ov 99 62 (24, [(0, .ref 115), (1, .int a1), (2, .int a2), (3, .int a3), (4, .int a4), (5, .int a5)], [.int 1], hh7) _
                  refine xi_ift (pc' := 34) kc_62_24 rfl rfl ?_
                  refine xi_iconst (pc' := 35) (v := 0) kc_62_34 rfl rfl ?_
                  refine xi_istore (pc' := 37) (lv' := [(6, .int 0), (0, .ref 115), (1, .int a1), (2, .int a2), (3, .int a3), (4, .int a4), (5, .int a5)]) kc_62_35 rfl rfl (xm_lt ml_62 rfl) ?_
                  refine xi_iload (pc' := 39) (x := 0) kc_62_37 rfl rfl ?_
                  refine xi_aload_n (pc' := 40) (x := 115) kc_62_39 rfl rfl ?_
                  refine xi_getfield (pc' := 43) (v := .int 0) kc_62_40 rfl rfl rfl eh7.1 rfl ?_
                  refine xi_cmt (pc' := 94) kc_62_43 rfl rfl ?_
                  refine xi_iload_n (pc' := 95) (x := a3) kc_62_94 rfl rfl ?_
                  refine xi_iff (pc' := 98) kc_62_95 rfl (xc_lt_f (X := a3.toInt) (Y := 0) rfl (by decide) (by omega)) ?_
                  refine xi_iload (pc' := 100) (x := a4) kc_62_98 rfl rfl ?_
                  refine xi_aload_n (pc' := 101) (x := 115) kc_62_100 rfl rfl ?_
                  refine xi_getfield (pc' := 104) (v := .int 0) kc_62_101 rfl rfl rfl eh7.1 rfl ?_
                  refine xi_cmf (pc' := 107) kc_62_104 rfl (xc_lt_f (X := a4.toInt) (Y := 0) rfl (by decide) (by omega)) ?_
                  refine xi_iload (pc' := 109) (x := a5) kc_62_107 rfl rfl ?_
                  refine xi_iload (pc' := 111) (x := a4) kc_62_109 rfl rfl ?_
                  refine xi_cmt (pc' := 121) kc_62_111 rfl (xc_gt_t (X := a5.toInt) (Y := a4.toInt) rfl rfl (by omega)) ?_
                  refine xi_iload (pc' := 123) (x := a5) kc_62_121 rfl rfl ?_
                  refine xi_sipush (pc' := 126) (v := 600) kc_62_123 rfl rfl ?_
                  refine xi_cmf (pc' := 129) kc_62_126 rfl (xc_gt_f (X := a5.toInt) (Y := 600) rfl (by decide) (by omega)) ?_
                  refine xi_iload_n (pc' := 130) (x := a3) kc_62_129 rfl rfl ?_
                  refine xi_bipush (pc' := 132) (v := 50) kc_62_130 rfl rfl ?_
                  refine xi_cmf (pc' := 135) kc_62_132 rfl (xc_gt_f (X := a3.toInt) (Y := 50) rfl (by decide) (by omega)) ?_
                  refine xi_aload_n (pc' := 136) (x := 115) kc_62_135 rfl rfl ?_
                  refine xi_getfield (pc' := 139) (v := .int 0) kc_62_136 rfl rfl rfl eh7.1 rfl ?_
                  refine xi_bipush (pc' := 141) (v := 20) kc_62_139 rfl rfl ?_
                  refine xi_cmt (pc' := 151) kc_62_141 rfl rfl ?_
                  refine xi_aload_n (pc' := 152) (x := 115) kc_62_151 rfl rfl ?_
                  refine xi_getfield (pc' := 155) (v := .ref 143) kc_62_152 rfl rfl rfl eh7.1 rfl ?_
                  refine xi_aload_n (pc' := 156) (x := 115) kc_62_155 rfl rfl ?_
                  refine xi_getfield (pc' := 159) (v := .int 0) kc_62_156 rfl rfl rfl eh7.1 rfl ?_
                  refine xi_iload_n (pc' := 160) (x := a1) kc_62_159 rfl rfl ?_
                  refine xi_iastore (pc' := 161) (x' := [a1, 0, 0, 0, 0, 0, 0, 0, 0, 0, 0, 0, 0, 0, 0, 0, 0, 0, 0, 0]) kc_62_160 rfl ((eh7.2.1 143 (by decide)).trans ((eh6.2.1 143 (by decide)).trans ((eh5.2.1 143 (by decide)).trans ((eh4.2.1 143 (by decide)).trans ((eh3.2.1 143 (by decide)).trans ((eh2.2.1 143 (by decide)).trans ((eh1.2.1 143 (by decide)).trans (F 143 _ hl_143)))))))) rfl (xi_in (n := 20) (by decide) (by decide)) rfl (fun hh8 eh8 => ?_)
                  refine xi_aload_n (pc' := 162) (x := 115) kc_62_161 rfl rfl ?_
                  refine xi_getfield (pc' := 165) (v := .ref 144) kc_62_162 rfl rfl rfl ((eh8.2.1 115 (by decide)).trans eh7.1) rfl ?_
                  refine xi_aload_n (pc' := 166) (x := 115) kc_62_165 rfl rfl ?_
                  refine xi_getfield (pc' := 169) (v := .int 0) kc_62_166 rfl rfl rfl ((eh8.2.1 115 (by decide)).trans eh7.1) rfl ?_
                  refine xi_iload_n (pc' := 170) (x := a2) kc_62_169 rfl rfl ?_
                  refine xi_iastore (pc' := 171) (x' := [a2, 0, 0, 0, 0, 0, 0, 0, 0, 0, 0, 0, 0, 0, 0, 0, 0, 0, 0, 0]) kc_62_170 rfl ((eh8.2.1 144 (by decide)).trans ((eh7.2.1 144 (by decide)).trans ((eh6.2.1 144 (by decide)).trans ((eh5.2.1 144 (by decide)).trans ((eh4.2.1 144 (by decide)).trans ((eh3.2.1 144 (by decide)).trans ((eh2.2.1 144 (by decide)).trans ((eh1.2.1 144 (by decide)).trans (F 144 _ hl_144))))))))) rfl (xi_in (n := 20) (by decide) (by decide)) rfl (fun hh9 eh9 => ?_)
                  refine xi_aload_n (pc' := 172) (x := 115) kc_62_171 rfl rfl ?_
                  refine xi_getfield (pc' := 175) (v := .ref 145) kc_62_172 rfl rfl rfl ((eh9.2.1 115 (by decide)).trans ((eh8.2.1 115 (by decide)).trans eh7.1)) rfl ?_
                  refine xi_aload_n (pc' := 176) (x := 115) kc_62_175 rfl rfl ?_
                  refine xi_getfield (pc' := 179) (v := .int 0) kc_62_176 rfl rfl rfl ((eh9.2.1 115 (by decide)).trans ((eh8.2.1 115 (by decide)).trans eh7.1)) rfl ?_
                  refine xi_iload_n (pc' := 180) (x := a3) kc_62_179 rfl rfl ?_
                  refine xi_iastore (pc' := 181) (x' := [a3, 0, 0, 0, 0, 0, 0, 0, 0, 0, 0, 0, 0, 0, 0, 0, 0, 0, 0, 0]) kc_62_180 rfl ((eh9.2.1 145 (by decide)).trans ((eh8.2.1 145 (by decide)).trans ((eh7.2.1 145 (by decide)).trans ((eh6.2.1 145 (by decide)).trans ((eh5.2.1 145 (by decide)).trans ((eh4.2.1 145 (by decide)).trans ((eh3.2.1 145 (by decide)).trans ((eh2.2.1 145 (by decide)).trans ((eh1.2.1 145 (by decide)).trans (F 145 _ hl_145)))))))))) rfl (xi_in (n := 20) (by decide) (by decide)) rfl (fun hh10 eh10 => ?_)
                  refine xi_aload_n (pc' := 182) (x := 115) kc_62_181 rfl rfl ?_
                  refine xi_getfield (pc' := 185) (v := .ref 146) kc_62_182 rfl rfl rfl ((eh10.2.1 115 (by decide)).trans ((eh9.2.1 115 (by decide)).trans ((eh8.2.1 115 (by decide)).trans eh7.1))) rfl ?_
                  refine xi_aload_n (pc' := 186) (x := 115) kc_62_185 rfl rfl ?_
                  refine xi_getfield (pc' := 189) (v := .int 0) kc_62_186 rfl rfl rfl ((eh10.2.1 115 (by decide)).trans ((eh9.2.1 115 (by decide)).trans ((eh8.2.1 115 (by decide)).trans eh7.1))) rfl ?_
                  refine xi_iload (pc' := 191) (x := a4) kc_62_189 rfl rfl ?_
                  refine xi_iastore (pc' := 192) (x' := [a4, 0, 0, 0, 0, 0, 0, 0, 0, 0, 0, 0, 0, 0, 0, 0, 0, 0, 0, 0]) kc_62_191 rfl ((eh10.2.1 146 (by decide)).trans ((eh9.2.1 146 (by decide)).trans ((eh8.2.1 146 (by decide)).trans ((eh7.2.1 146 (by decide)).trans ((eh6.2.1 146 (by decide)).trans ((eh5.2.1 146 (by decide)).trans ((eh4.2.1 146 (by decide)).trans ((eh3.2.1 146 (by decide)).trans ((eh2.2.1 146 (by decide)).trans ((eh1.2.1 146 (by decide)).trans (F 146 _ hl_146))))))))))) rfl (xi_in (n := 20) (by decide) (by decide)) rfl (fun hh11 eh11 => ?_)
                  refine xi_aload_n (pc' := 193) (x := 115) kc_62_192 rfl rfl ?_
                  refine xi_getfield (pc' := 196) (v := .ref 147) kc_62_193 rfl rfl rfl ((eh11.2.1 115 (by decide)).trans ((eh10.2.1 115 (by decide)).trans ((eh9.2.1 115 (by decide)).trans ((eh8.2.1 115 (by decide)).trans eh7.1)))) rfl ?_
                  refine xi_aload_n (pc' := 197) (x := 115) kc_62_196 rfl rfl ?_
                  refine xi_getfield (pc' := 200) (v := .int 0) kc_62_197 rfl rfl rfl ((eh11.2.1 115 (by decide)).trans ((eh10.2.1 115 (by decide)).trans ((eh9.2.1 115 (by decide)).trans ((eh8.2.1 115 (by decide)).trans eh7.1)))) rfl ?_
                  refine xi_iload (pc' := 202) (x := a5) kc_62_200 rfl rfl ?_
                  refine xi_iastore (pc' := 203) (x' := [a5, 0, 0, 0, 0, 0, 0, 0, 0, 0, 0, 0, 0, 0, 0, 0, 0, 0, 0, 0]) kc_62_202 rfl ((eh11.2.1 147 (by decide)).trans ((eh10.2.1 147 (by decide)).trans ((eh9.2.1 147 (by decide)).trans ((eh8.2.1 147 (by decide)).trans ((eh7.2.1 147 (by decide)).trans ((eh6.2.1 147 (by decide)).trans ((eh5.2.1 147 (by decide)).trans ((eh4.2.1 147 (by decide)).trans ((eh3.2.1 147 (by decide)).trans ((eh2.2.1 147 (by decide)).trans ((eh1.2.1 147 (by decide)).trans (F 147 _ hl_147)))))))))))) rfl (xi_in (n := 20) (by decide) (by decide)) rfl (fun hh12 eh12 => ?_)
                  refine xi_aload_n (pc' := 204) (x := 115) kc_62_203 rfl rfl ?_
                  refine xi_dup (pc' := 205) kc_62_204 rfl rfl ?_
                  refine xi_getfield (pc' := 208) (v := .int 0) kc_62_205 rfl rfl rfl ((eh12.2.1 115 (by decide)).trans ((eh11.2.1 115 (by decide)).trans ((eh10.2.1 115 (by decide)).trans ((eh9.2.1 115 (by decide)).trans ((eh8.2.1 115 (by decide)).trans eh7.1))))) rfl ?_
                  refine xi_iconst (pc' := 209) (v := 1) kc_62_208 rfl rfl ?_
                  refine xi_iadd (pc' := 210) (v := 1) kc_62_209 rfl rfl ?_
                  refine xi_putfield (pc' := 213) (fs' := [.int 0, .int 0, .ref 116, .ref 117, .ref 118, .ref 119, .ref 120, .ref 121, .ref 122, .ref 123, .ref 124, .ref 125, .ref 126, .ref 127, .ref 128, .ref 129, .int 4, .ref 130, .int 0, .ref 131, .ref 132, .ref 133, .ref 134, .int 0, .ref 135, .ref 136, .ref 137, .ref 138, .ref 139, .ref 140, .ref 141, .ref 142, .int 0, .int 0, .int 1, .ref 143, .ref 144, .ref 145, .ref 146, .ref 147, .ref 148, .int 0, .ref 149, .ref 150, .ref 151, .int 0, .ref 152, .ref 153, .ref 154, .ref 155, .ref 156, .ref 157, .ref 158, .ref 159, .int 0, .ref 160, .int 0, .ref 161, .ref 162, .ref 163, .ref 164, .int 0, .ref 165, .ref 166]) kc_62_210 rfl rfl rfl ((eh12.2.1 115 (by decide)).trans ((eh11.2.1 115 (by decide)).trans ((eh10.2.1 115 (by decide)).trans ((eh9.2.1 115 (by decide)).trans ((eh8.2.1 115 (by decide)).trans eh7.1))))) rfl rfl rfl (Nat.le_of_ble_eq_true rfl) rfl (fun hh13 eh13 => ?_)
                  refine xi_aload_n (pc' := 214) (x := 115) kc_62_213 rfl rfl ?_
                  refine xi_getfield (pc' := 217) (v := .int 1) kc_62_214 rfl rfl rfl eh13.1 rfl ?_
                  refine xi_iconst (pc' := 218) (v := 1) kc_62_217 rfl rfl ?_
                  refine xi_isub (pc' := 219) (v := 0) kc_62_218 rfl rfl ?_
                  refine xi_ireturn kc_62_219 mr_62 rfl ?_
                  show xw J ov 100 196 (1117, [(4, .int 0), (3, .ref 167), (2, .ref 115), (1, .ref 0), (0, .ref 1000000)], [.int 0, .int 0], hh13) _
                  refine xi_cmt (pc' := 1528) kc_196_1117 rfl rfl ?_
                  refine xi_iinc (pc' := 1531) (x := 0) (v := 6) (lv' := [(4, .int 6), (3, .ref 167), (2, .ref 115), (1, .ref 0), (0, .ref 1000000)]) kc_196_1528 rfl rfl rfl rfl (xm_lt ml_196 rfl) ?_
                  refine xi_goto (pc' := 23) kc_196_1531 rfl ?_
                  refine xi_iload (pc' := 25) (x := 6) kc_196_23 rfl rfl ?_
                  refine xi_aload_n (pc' := 26) (x := 1000000) kc_196_25 rfl rfl ?_
                  refine xi_arraylength (pc' := 27) (n := 6) (v := 6) kc_196_26 rfl (xl_lenO (by decide) hov0 rfl) rfl ?_
                  refine xi_bipush (pc' := 29) (v := 6) kc_196_27 rfl rfl ?_
                  refine xi_isub (pc' := 30) (v := 0) kc_196_29 rfl rfl ?_
                  refine xi_cmt (pc' := 1534) kc_196_30 rfl rfl ?_
                  refine xi_iconst (pc' := 1535) (v := 1) kc_196_1534 rfl rfl ?_
                  refine xi_ireturn kc_196_1535 mr_196 rfl ?_
                  refine ⟨rfl, ?_, ?_⟩
                  · rw [eh13.2.2.1, eh12.2.2.1, eh11.2.2.1, eh10.2.2.1, eh9.2.2.1, eh8.2.2.1, eh7.2.2.1, eh6.2.2.1, eh5.2.2.1, eh4.2.2.1, eh3.2.2.1, eh2.2.2.1, eh1.2.2.1]; exact hn0
                  · rw [eh13.2.2.2, eh12.2.2.2, eh11.2.2.2, eh10.2.2.2, eh9.2.2.2, eh8.2.2.2, eh7.2.2.2, eh6.2.2.2, eh5.2.2.2, eh4.2.2.2, eh3.2.2.2, eh2.2.2.2, eh1.2.2.2]; exact hz0
            · refine xi_cmf (pc' := 68) kc_164_65 rfl (xc_gt_f (X := a5.toInt) (Y := a4.toInt) rfl rfl (by omega)) ?_
              refine xi_aload_n (pc' := 69) (x := 0) kc_164_68 rfl rfl ?_
              refine xi_bipush (pc' := 71) (v := (-4)) kc_164_69 rfl rfl ?_
              refine xi_virtual (mj := 91) (as := [.int (-4)]) (st1 := []) (lv0 := [(0, .ref 0), (1, .int (-4))]) kc_164_71 rfl rfl rfl rfl rfl (F 0 _ hl_0) (Nat.le_of_ble_eq_true rfl) (hJ _ _ _ _ (by decide)) (xm_le ml_91 rfl) rfl ?_
              refine xi_iload_n (pc' := 1) (x := (-4)) kc_91_0 rfl rfl ?_
              refine xi_ineg (pc' := 2) (v := 4) kc_91_1 rfl rfl ?_
              refine xi_istore_n (pc' := 3) (lv' := [(2, .int 4), (0, .ref 0), (1, .int (-4))]) kc_91_2 rfl rfl (xm_lt ml_91 rfl) ?_
              refine xi_iload_n (pc' := 4) (x := 4) kc_91_3 rfl rfl ?_
              refine xi_iff (pc' := 7) kc_91_4 rfl rfl ?_
              refine xi_iload_n (pc' := 8) (x := 4) kc_91_7 rfl rfl ?_
              refine xi_aload_n (pc' := 9) (x := 0) kc_91_8 rfl rfl ?_
              refine xi_getfield (pc' := 12) (v := .ref 94) kc_91_9 rfl rfl rfl (F 0 _ hl_0) rfl ?_
              refine xi_arraylength (pc' := 13) (n := 7) (v := 7) kc_91_12 rfl (xl_lenI (by decide) (by decide) (F 94 _ hl_94) (by simp only [List.length_replicate, List.length_cons, List.length_nil])) rfl ?_
              refine xi_cmf (pc' := 16) kc_91_13 rfl rfl ?_
              refine xi_aload_n (pc' := 17) (x := 0) kc_91_16 rfl rfl ?_
              refine xi_getfield (pc' := 20) (v := .ref 94) kc_91_17 rfl rfl rfl (F 0 _ hl_0) rfl ?_
              refine xi_iload_n (pc' := 21) (x := 4) kc_91_20 rfl rfl ?_
              refine xi_dup2 (pc' := 22) kc_91_21 rfl ⟨rfl, rfl⟩ ?_
              refine xi_iaload (pc' := 23) (v := 0) kc_91_22 rfl (F 94 _ hl_94) (by decide) rfl (xi_in (n := 7) (by decide) (by decide)) rfl ?_
              refine xi_iconst (pc' := 24) (v := 1) kc_91_23 rfl rfl ?_
              refine xi_iadd (pc' := 25) (v := 1) kc_91_24 rfl rfl ?_
              refine xi_iastore (pc' := 26) (x' := [0, 0, 0, 0, 1, 0, 0]) kc_91_25 rfl (F 94 _ hl_94) rfl (xi_in (n := 7) (by decide) (by decide)) rfl (fun hh1 eh1 => ?_)
              refine xi_iload_n (pc' := 27) (x := (-4)) kc_91_26 rfl rfl ?_
              refine xi_ireturn kc_91_27 mr_91 rfl ?_
              show xw J ov 99 164 (74, [(0, .ref 0), (1, .int a1), (2, .int a2), (3, .int a3), (4, .int a4), (5, .int a5)], [.int (-4)], hh1) _
              refine xi_ireturn kc_164_74 mr_164 rfl ?_
              show xw J ov 100 196 (1083, [(4, .int 0), (3, .ref 167), (2, .ref 115), (1, .ref 0), (0, .ref 1000000)], [.int (-4)], hh1) _
              refine xi_aload_n (pc' := 1084) (x := 115) kc_196_1083 rfl rfl ?_
              refine xi_aload_n (pc' := 1085) (x := 1000000) kc_196_1084 rfl rfl ?_
              refine xi_iload (pc' := 1087) (x := 0) kc_196_1085 rfl rfl ?_
              refine xi_iconst (pc' := 1088) (v := 1) kc_196_1087 rfl rfl ?_
              refine xi_iadd (pc' := 1089) (v := 1) kc_196_1088 rfl rfl ?_
              refine xi_ialoadO (pc' := 1090) (v := a1) kc_196_1089 rfl (by decide) hov0 (xi_in (n := 6) (by decide) (by decide)) rfl ?_
              refine xi_aload_n (pc' := 1091) (x := 1000000) kc_196_1090 rfl rfl ?_
              refine xi_iload (pc' := 1093) (x := 0) kc_196_1091 rfl rfl ?_
              refine xi_iconst (pc' := 1094) (v := 2) kc_196_1093 rfl rfl ?_
              refine xi_iadd (pc' := 1095) (v := 2) kc_196_1094 rfl rfl ?_
              refine xi_ialoadO (pc' := 1096) (v := a2) kc_196_1095 rfl (by decide) hov0 (xi_in (n := 6) (by decide) (by decide)) rfl ?_
              refine xi_aload_n (pc' := 1097) (x := 1000000) kc_196_1096 rfl rfl ?_
              refine xi_iload (pc' := 1099) (x := 0) kc_196_1097 rfl rfl ?_
              refine xi_iconst (pc' := 1100) (v := 3) kc_196_1099 rfl rfl ?_
              refine xi_iadd (pc' := 1101) (v := 3) kc_196_1100 rfl rfl ?_
              refine xi_ialoadO (pc' := 1102) (v := a3) kc_196_1101 rfl (by decide) hov0 (xi_in (n := 6) (by decide) (by decide)) rfl ?_
              refine xi_aload_n (pc' := 1103) (x := 1000000) kc_196_1102 rfl rfl ?_
              refine xi_iload (pc' := 1105) (x := 0) kc_196_1103 rfl rfl ?_
              refine xi_iconst (pc' := 1106) (v := 4) kc_196_1105 rfl rfl ?_
              refine xi_iadd (pc' := 1107) (v := 4) kc_196_1106 rfl rfl ?_
              refine xi_ialoadO (pc' := 1108) (v := a4) kc_196_1107 rfl (by decide) hov0 (xi_in (n := 6) (by decide) (by decide)) rfl ?_
              refine xi_aload_n (pc' := 1109) (x := 1000000) kc_196_1108 rfl rfl ?_
              refine xi_iload (pc' := 1111) (x := 0) kc_196_1109 rfl rfl ?_
              refine xi_iconst (pc' := 1112) (v := 5) kc_196_1111 rfl rfl ?_
              refine xi_iadd (pc' := 1113) (v := 5) kc_196_1112 rfl rfl ?_
              refine xi_ialoadO (pc' := 1114) (v := a5) kc_196_1113 rfl (by decide) hov0 (xi_in (n := 6) (by decide) (by decide)) rfl ?_
              refine xi_virtual (mj := 62) (as := [.int a1, .int a2, .int a3, .int a4, .int a5]) (st1 := [.int (-4)]) (lv0 := [(0, .ref 115), (1, .int a1), (2, .int a2), (3, .int a3), (4, .int a4), (5, .int a5)]) kc_196_1114 rfl rfl rfl rfl rfl ((eh1.2.1 115 (by decide)).trans (F 115 _ hl_115)) (Nat.le_of_ble_eq_true rfl) (hJ _ _ _ _ (by decide)) (xm_le ml_62 rfl) rfl ?_
              refine xi_aload_n (pc' := 1) (x := 115) kc_62_0 rfl rfl ?_
              refine xi_iconst (pc' := 2) (v := 0) kc_62_1 rfl rfl ?_
              refine xi_putfield (pc' := 5) (fs' := [.int 0, .int 0, .ref 116, .ref 117, .ref 118, .ref 119, .ref 120, .ref 121, .ref 122, .ref 123, .ref 124, .ref 125, .ref 126, .ref 127, .ref 128, .ref 129, .int 4, .ref 130, .int 0, .ref 131, .ref 132, .ref 133, .ref 134, .int 0, .ref 135, .ref 136, .ref 137, .ref 138, .ref 139, .ref 140, .ref 141, .ref 142, .int 0, .int 0, .int 0, .ref 143, .ref 144, .ref 145, .ref 146, .ref 147, .ref 148, .int 0, .ref 149, .ref 150, .ref 151, .int 0, .ref 152, .ref 153, .ref 154, .ref 155, .ref 156, .ref 157, .ref 158, .ref 159, .int 0, .ref 160, .int 0, .ref 161, .ref 162, .ref 163, .ref 164, .int 0, .ref 165, .ref 166]) kc_62_2 rfl rfl rfl ((eh1.2.1 115 (by decide)).trans (F 115 _ hl_115)) rfl rfl rfl (Nat.le_of_ble_eq_true rfl) rfl (fun hh2 eh2 => ?_)
              refine xi_iload_n (pc' := 6) (x := a1) kc_62_5 rfl rfl ?_
              refine xi_static (mj := 11) (as := [.int a1]) (st1 := []) (lv0 := [(0, .int a1)]) kc_62_6 rfl rfl (Nat.le_of_ble_eq_true rfl) rfl rfl (Nat.le_of_ble_eq_true rfl) (hJ _ _ _ _ (by decide)) (xm_le ml_11 rfl) rfl ?_
              refine xi_iload_n (pc' := 1) (x := a1) kc_11_0 rfl rfl ?_
              refine xi_iconst (pc' := 2) (v := 0) kc_11_1 rfl rfl ?_
              refine xi_iconst (pc' := 3) (v := 5) kc_11_2 rfl rfl ?_
              refine xi_static (mj := 12) (as := [.int a1, .int 0, .int 5]) (st1 := []) (lv0 := [(0, .int a1), (1, .int 0), (2, .int 5)]) kc_11_3 rfl rfl (Nat.le_of_ble_eq_true rfl) rfl rfl (Nat.le_of_ble_eq_true rfl) (hJ _ _ _ _ (by decide)) (xm_le ml_12 rfl) rfl ?_
              refine xi_iload_n (pc' := 1) (x := a1) kc_12_0 rfl rfl ?_
              refine xi_iload_n (pc' := 2) (x := 0) kc_12_1 rfl rfl ?_
              refine xi_cmf (pc' := 5) kc_12_2 rfl (xc_lt_f (X := a1.toInt) (Y := 0) rfl (by decide) (by omega)) ?_
              refine xi_iload_n (pc' := 6) (x := a1) kc_12_5 rfl rfl ?_
              refine xi_iload_n (pc' := 7) (x := 5) kc_12_6 rfl rfl ?_
              refine xi_cmf (pc' := 10) kc_12_7 rfl (xc_gt_f (X := a1.toInt) (Y := 5) rfl (by decide) (by omega)) ?_
              refine xi_iconst (pc' := 11) (v := 1) kc_12_10 rfl rfl ?_
              refine xi_goto (pc' := 15) kc_12_11 rfl ?_
              refine xi_ireturn kc_12_15 mr_12 rfl ?_
              show xw J ov 98 11 (6, [(0, .int a1)], [.int 1], hh2) _
              refine xi_ireturn kc_11_6 mr_11 rfl ?_
              show xw J ov 99 62 (9, [(0, .ref 115), (1, .int a1), (2, .int a2), (3, .int a3), (4, .int a4), (5, .int a5)], [.int 1], hh2) _
              refine xi_ift (pc' := 18) kc_62_9 rfl rfl ?_
              refine xi_iload_n (pc' := 19) (x := a2) kc_62_18 rfl rfl ?_
              refine xi_iconst (pc' := 20) (v := 0) kc_62_19 rfl rfl ?_
              refine xi_iconst (pc' := 21) (v := 1) kc_62_20 rfl rfl ?_
              refine xi_static (mj := 12) (as := [.int a2, .int 0, .int 1]) (st1 := []) (lv0 := [(0, .int a2), (1, .int 0), (2, .int 1)]) kc_62_21 rfl rfl (Nat.le_of_ble_eq_true rfl) rfl rfl (Nat.le_of_ble_eq_true rfl) (hJ _ _ _ _ (by decide)) (xm_le ml_12 rfl) rfl ?_
              refine xi_iload_n (pc' := 1) (x := a2) kc_12_0 rfl rfl ?_
              refine xi_iload_n (pc' := 2) (x := 0) kc_12_1 rfl rfl ?_
              refine xi_cmf (pc' := 5) kc_12_2 rfl (xc_lt_f (X := a2.toInt) (Y := 0) rfl (by decide) (by omega)) ?_
              refine xi_iload_n (pc' := 6) (x := a2) kc_12_5 rfl rfl ?_
              refine xi_iload_n (pc' := 7) (x := 1) kc_12_6 rfl rfl ?_
              refine xi_cmf (pc' := 10) kc_12_7 rfl (xc_gt_f (X := a2.toInt) (Y := 1) rfl (by decide) (by omega)) ?_
              refine xi_iconst (pc' := 11) (v := 1) kc_12_10 rfl rfl ?_
              refine xi_goto (pc' := 15) kc_12_11 rfl ?_
              refine xi_ireturn kc_12_15 mr_12 rfl ?_
              show xw J ov 99 62 (24, [(0, .ref 115), (1, .int a1), (2, .int a2), (3, .int a3), (4, .int a4), (5, .int a5)], [.int 1], hh2) _
              refine xi_ift (pc' := 34) kc_62_24 rfl rfl ?_
              refine xi_iconst (pc' := 35) (v := 0) kc_62_34 rfl rfl ?_
              refine xi_istore (pc' := 37) (lv' := [(6, .int 0), (0, .ref 115), (1, .int a1), (2, .int a2), (3, .int a3), (4, .int a4), (5, .int a5)]) kc_62_35 rfl rfl (xm_lt ml_62 rfl) ?_
              refine xi_iload (pc' := 39) (x := 0) kc_62_37 rfl rfl ?_
              refine xi_aload_n (pc' := 40) (x := 115) kc_62_39 rfl rfl ?_
              refine xi_getfield (pc' := 43) (v := .int 0) kc_62_40 rfl rfl rfl eh2.1 rfl ?_
              refine xi_cmt (pc' := 94) kc_62_43 rfl rfl ?_
              refine xi_iload_n (pc' := 95) (x := a3) kc_62_94 rfl rfl ?_
              refine xi_iff (pc' := 98) kc_62_95 rfl (xc_lt_f (X := a3.toInt) (Y := 0) rfl (by decide) (by omega)) ?_
              refine xi_iload (pc' := 100) (x := a4) kc_62_98 rfl rfl ?_
              refine xi_aload_n (pc' := 101) (x := 115) kc_62_100 rfl rfl ?_
              refine xi_getfield (pc' := 104) (v := .int 0) kc_62_101 rfl rfl rfl eh2.1 rfl ?_
              refine xi_cmf (pc' := 107) kc_62_104 rfl (xc_lt_f (X := a4.toInt) (Y := 0) rfl (by decide) (by omega)) ?_
              refine xi_iload (pc' := 109) (x := a5) kc_62_107 rfl rfl ?_
              refine xi_iload (pc' := 111) (x := a4) kc_62_109 rfl rfl ?_
              refine xi_cmf (pc' := 114) kc_62_111 rfl (xc_gt_f (X := a5.toInt) (Y := a4.toInt) rfl rfl (by omega)) ?_
              refine xi_aload_n (pc' := 115) (x := 115) kc_62_114 rfl rfl ?_
              refine xi_bipush (pc' := 117) (v := (-4)) kc_62_115 rfl rfl ?_
              refine xi_virtual (mj := 13) (as := [.int (-4)]) (st1 := []) (lv0 := [(0, .ref 115), (1, .int (-4))]) kc_62_117 rfl rfl rfl rfl rfl eh2.1 (Nat.le_of_ble_eq_true rfl) (hJ _ _ _ _ (by decide)) (xm_le ml_13 rfl) rfl ?_
              refine xi_aload_n (pc' := 1) (x := 115) kc_13_0 rfl rfl ?_
              refine xi_getfield (pc' := 4) (v := .ref 140) kc_13_1 rfl rfl rfl eh2.1 rfl ?_
              refine xi_iload_n (pc' := 5) (x := (-4)) kc_13_4 rfl rfl ?_
              refine xi_ineg (pc' := 6) (v := 4) kc_13_5 rfl rfl ?_
              refine xi_dup2 (pc' := 7) kc_13_6 rfl ⟨rfl, rfl⟩ ?_
              refine xi_iaload (pc' := 8) (v := 0) kc_13_7 rfl ((eh2.2.1 140 (by decide)).trans ((eh1.2.1 140 (by decide)).trans (F 140 _ hl_140))) (by decide) rfl (xi_in (n := 7) (by decide) (by decide)) rfl ?_
              refine xi_iconst (pc' := 9) (v := 1) kc_13_8 rfl rfl ?_
              refine xi_iadd (pc' := 10) (v := 1) kc_13_9 rfl rfl ?_
              refine xi_iastore (pc' := 11) (x' := [0, 0, 0, 0, 1, 0, 0]) kc_13_10 rfl ((eh2.2.1 140 (by decide)).trans ((eh1.2.1 140 (by decide)).trans (F 140 _ hl_140))) rfl (xi_in (n := 7) (by decide) (by decide)) rfl (fun hh3 eh3 => ?_)
              refine xi_iload_n (pc' := 12) (x := (-4)) kc_13_11 rfl rfl ?_
              refine xi_ireturn kc_13_12 mr_13 rfl ?_
              show xw J ov 99 62 (120, [(6, .int 0), (0, .ref 115), (1, .int a1), (2, .int a2), (3, .int a3), (4, .int a4), (5, .int a5)], [.int (-4)], hh3) _
              refine xi_ireturn kc_62_120 mr_62 rfl ?_
              show xw J ov 100 196 (1117, [(4, .int 0), (3, .ref 167), (2, .ref 115), (1, .ref 0), (0, .ref 1000000)], [.int (-4), .int (-4)], hh3) _
              refine xi_cmt (pc' := 1528) kc_196_1117 rfl rfl ?_
              refine xi_iinc (pc' := 1531) (x := 0) (v := 6) (lv' := [(4, .int 6), (3, .ref 167), (2, .ref 115), (1, .ref 0), (0, .ref 1000000)]) kc_196_1528 rfl rfl rfl rfl (xm_lt ml_196 rfl) ?_
              refine xi_goto (pc' := 23) kc_196_1531 rfl ?_
              refine xi_iload (pc' := 25) (x := 6) kc_196_23 rfl rfl ?_
              refine xi_aload_n (pc' := 26) (x := 1000000) kc_196_25 rfl rfl ?_
              refine xi_arraylength (pc' := 27) (n := 6) (v := 6) kc_196_26 rfl (xl_lenO (by decide) hov0 rfl) rfl ?_
              refine xi_bipush (pc' := 29) (v := 6) kc_196_27 rfl rfl ?_
              refine xi_isub (pc' := 30) (v := 0) kc_196_29 rfl rfl ?_
              refine xi_cmt (pc' := 1534) kc_196_30 rfl rfl ?_
              refine xi_iconst (pc' := 1535) (v := 1) kc_196_1534 rfl rfl ?_
              refine xi_ireturn kc_196_1535 mr_196 rfl ?_
              refine ⟨rfl, ?_, ?_⟩
              · rw [eh3.2.2.1, eh2.2.2.1, eh1.2.2.1]; exact hn0
              · rw [eh3.2.2.2, eh2.2.2.2, eh1.2.2.2]; exact hz0
      · refine xi_iff (pc' := 17) kc_164_14 rfl (xc_eq_f (X := a2.toInt) (Y := 0) rfl (by decide) (by omega)) ?_
        refine xi_iload_n (pc' := 18) (x := a2) kc_164_17 rfl rfl ?_
        refine xi_iconst (pc' := 19) (v := 1) kc_164_18 rfl rfl ?_
        by_cases c10 : a2.toInt = 1
        · refine xi_cmt (pc' := 29) kc_164_19 rfl (xc_eq_t (X := a2.toInt) (Y := 1) rfl (by decide) (by omega)) ?_
          refine xi_aload_n (pc' := 30) (x := 0) kc_164_29 rfl rfl ?_
          refine xi_iload_n (pc' := 31) (x := a1) kc_164_30 rfl rfl ?_
          refine xi_iload (pc' := 33) (x := a4) kc_164_31 rfl rfl ?_
          refine xi_iload (pc' := 35) (x := a5) kc_164_33 rfl rfl ?_
          refine xi_virtual (mj := 165) (as := [.int a1, .int a4, .int a5]) (st1 := []) (lv0 := [(0, .ref 0), (1, .int a1), (2, .int a4), (3, .int a5)]) kc_164_35 rfl rfl rfl rfl rfl (F 0 _ hl_0) (Nat.le_of_ble_eq_true rfl) (hJ _ _ _ _ (by decide)) (xm_le ml_165 rfl) rfl ?_
          refine xi_iconst (pc' := 1) (v := 0) kc_165_0 rfl rfl ?_
          refine xi_istore (pc' := 3) (lv' := [(4, .int 0), (0, .ref 0), (1, .int a1), (2, .int a4), (3, .int a5)]) kc_165_1 rfl rfl (xm_lt ml_165 rfl) ?_
          refine xi_iload (pc' := 5) (x := 0) kc_165_3 rfl rfl ?_
          refine xi_aload_n (pc' := 6) (x := 0) kc_165_5 rfl rfl ?_
          refine xi_getfield (pc' := 9) (v := .int 0) kc_165_6 rfl rfl rfl (F 0 _ hl_0) rfl ?_
          refine xi_cmt (pc' := 68) kc_165_9 rfl rfl ?_
          refine xi_iconst (pc' := 69) (v := 0) kc_165_68 rfl rfl ?_
          refine xi_ireturn kc_165_69 mr_165 rfl ?_
          show xw J ov 99 164 (38, [(0, .ref 0), (1, .int a1), (2, .int a2), (3, .int a3), (4, .int a4), (5, .int a5)], [.int 0], h0) _
          refine xi_ift (pc' := 48) kc_164_38 rfl rfl ?_
          refine xi_iload_n (pc' := 49) (x := a3) kc_164_48 rfl rfl ?_
          by_cases c11 : a3.toInt < 0
          · refine xi_ift (pc' := 68) kc_164_49 rfl (xc_lt_t (X := a3.toInt) (Y := 0) rfl (by decide) (by omega)) ?_
            refine xi_aload_n (pc' := 69) (x := 0) kc_164_68 rfl rfl ?_
            refine xi_bipush (pc' := 71) (v := (-4)) kc_164_69 rfl rfl ?_
            refine xi_virtual (mj := 91) (as := [.int (-4)]) (st1 := []) (lv0 := [(0, .ref 0), (1, .int (-4))]) kc_164_71 rfl rfl rfl rfl rfl (F 0 _ hl_0) (Nat.le_of_ble_eq_true rfl) (hJ _ _ _ _ (by decide)) (xm_le ml_91 rfl) rfl ?_
            refine xi_iload_n (pc' := 1) (x := (-4)) kc_91_0 rfl rfl ?_
            refine xi_ineg (pc' := 2) (v := 4) kc_91_1 rfl rfl ?_
            refine xi_istore_n (pc' := 3) (lv' := [(2, .int 4), (0, .ref 0), (1, .int (-4))]) kc_91_2 rfl rfl (xm_lt ml_91 rfl) ?_
            refine xi_iload_n (pc' := 4) (x := 4) kc_91_3 rfl rfl ?_
            refine xi_iff (pc' := 7) kc_91_4 rfl rfl ?_
            refine xi_iload_n (pc' := 8) (x := 4) kc_91_7 rfl rfl ?_
            refine xi_aload_n (pc' := 9) (x := 0) kc_91_8 rfl rfl ?_
            refine xi_getfield (pc' := 12) (v := .ref 94) kc_91_9 rfl rfl rfl (F 0 _ hl_0) rfl ?_
            refine xi_arraylength (pc' := 13) (n := 7) (v := 7) kc_91_12 rfl (xl_lenI (by decide) (by decide) (F 94 _ hl_94) (by simp only [List.length_replicate, List.length_cons, List.length_nil])) rfl ?_
            refine xi_cmf (pc' := 16) kc_91_13 rfl rfl ?_
            refine xi_aload_n (pc' := 17) (x := 0) kc_91_16 rfl rfl ?_
            refine xi_getfield (pc' := 20) (v := .ref 94) kc_91_17 rfl rfl rfl (F 0 _ hl_0) rfl ?_
            refine xi_iload_n (pc' := 21) (x := 4) kc_91_20 rfl rfl ?_
            refine xi_dup2 (pc' := 22) kc_91_21 rfl ⟨rfl, rfl⟩ ?_
            refine xi_iaload (pc' := 23) (v := 0) kc_91_22 rfl (F 94 _ hl_94) (by decide) rfl (xi_in (n := 7) (by decide) (by decide)) rfl ?_
            refine xi_iconst (pc' := 24) (v := 1) kc_91_23 rfl rfl ?_
            refine xi_iadd (pc' := 25) (v := 1) kc_91_24 rfl rfl ?_
            refine xi_iastore (pc' := 26) (x' := [0, 0, 0, 0, 1, 0, 0]) kc_91_25 rfl (F 94 _ hl_94) rfl (xi_in (n := 7) (by decide) (by decide)) rfl (fun hh1 eh1 => ?_)
            refine xi_iload_n (pc' := 27) (x := (-4)) kc_91_26 rfl rfl ?_
            refine xi_ireturn kc_91_27 mr_91 rfl ?_
            show xw J ov 99 164 (74, [(0, .ref 0), (1, .int a1), (2, .int a2), (3, .int a3), (4, .int a4), (5, .int a5)], [.int (-4)], hh1) _
            refine xi_ireturn kc_164_74 mr_164 rfl ?_
            show xw J ov 100 196 (1083, [(4, .int 0), (3, .ref 167), (2, .ref 115), (1, .ref 0), (0, .ref 1000000)], [.int (-4)], hh1) _
            refine xi_aload_n (pc' := 1084) (x := 115) kc_196_1083 rfl rfl ?_
            refine xi_aload_n (pc' := 1085) (x := 1000000) kc_196_1084 rfl rfl ?_
            refine xi_iload (pc' := 1087) (x := 0) kc_196_1085 rfl rfl ?_
            refine xi_iconst (pc' := 1088) (v := 1) kc_196_1087 rfl rfl ?_
            refine xi_iadd (pc' := 1089) (v := 1) kc_196_1088 rfl rfl ?_
            refine xi_ialoadO (pc' := 1090) (v := a1) kc_196_1089 rfl (by decide) hov0 (xi_in (n := 6) (by decide) (by decide)) rfl ?_
            refine xi_aload_n (pc' := 1091) (x := 1000000) kc_196_1090 rfl rfl ?_
            refine xi_iload (pc' := 1093) (x := 0) kc_196_1091 rfl rfl ?_
            refine xi_iconst (pc' := 1094) (v := 2) kc_196_1093 rfl rfl ?_
            refine xi_iadd (pc' := 1095) (v := 2) kc_196_1094 rfl rfl ?_
            refine xi_ialoadO (pc' := 1096) (v := a2) kc_196_1095 rfl (by decide) hov0 (xi_in (n := 6) (by decide) (by decide)) rfl ?_
            refine xi_aload_n (pc' := 1097) (x := 1000000) kc_196_1096 rfl rfl ?_
            refine xi_iload (pc' := 1099) (x := 0) kc_196_1097 rfl rfl ?_
            refine xi_iconst (pc' := 1100) (v := 3) kc_196_1099 rfl rfl ?_
            refine xi_iadd (pc' := 1101) (v := 3) kc_196_1100 rfl rfl ?_
            refine xi_ialoadO (pc' := 1102) (v := a3) kc_196_1101 rfl (by decide) hov0 (xi_in (n := 6) (by decide) (by decide)) rfl ?_
            refine xi_aload_n (pc' := 1103) (x := 1000000) kc_196_1102 rfl rfl ?_
            refine xi_iload (pc' := 1105) (x := 0) kc_196_1103 rfl rfl ?_
            refine xi_iconst (pc' := 1106) (v := 4) kc_196_1105 rfl rfl ?_
            refine xi_iadd (pc' := 1107) (v := 4) kc_196_1106 rfl rfl ?_
            refine xi_ialoadO (pc' := 1108) (v := a4) kc_196_1107 rfl (by decide) hov0 (xi_in (n := 6) (by decide) (by decide)) rfl ?_
            refine xi_aload_n (pc' := 1109) (x := 1000000) kc_196_1108 rfl rfl ?_
            refine xi_iload (pc' := 1111) (x := 0) kc_196_1109 rfl rfl ?_
            refine xi_iconst (pc' := 1112) (v := 5) kc_196_1111 rfl rfl ?_
            refine xi_iadd (pc' := 1113) (v := 5) kc_196_1112 rfl rfl ?_
            refine xi_ialoadO (pc' := 1114) (v := a5) kc_196_1113 rfl (by decide) hov0 (xi_in (n := 6) (by decide) (by decide)) rfl ?_
            refine xi_virtual (mj := 62) (as := [.int a1, .int a2, .int a3, .int a4, .int a5]) (st1 := [.int (-4)]) (lv0 := [(0, .ref 115), (1, .int a1), (2, .int a2), (3, .int a3), (4, .int a4), (5, .int a5)]) kc_196_1114 rfl rfl rfl rfl rfl ((eh1.2.1 115 (by decide)).trans (F 115 _ hl_115)) (Nat.le_of_ble_eq_true rfl) (hJ _ _ _ _ (by decide)) (xm_le ml_62 rfl) rfl ?_
            refine xi_aload_n (pc' := 1) (x := 115) kc_62_0 rfl rfl ?_
            refine xi_iconst (pc' := 2) (v := 0) kc_62_1 rfl rfl ?_
            refine xi_putfield (pc' := 5) (fs' := [.int 0, .int 0, .ref 116, .ref 117, .ref 118, .ref 119, .ref 120, .ref 121, .ref 122, .ref 123, .ref 124, .ref 125, .ref 126, .ref 127, .ref 128, .ref 129, .int 4, .ref 130, .int 0, .ref 131, .ref 132, .ref 133, .ref 134, .int 0, .ref 135, .ref 136, .ref 137, .ref 138, .ref 139, .ref 140, .ref 141, .ref 142, .int 0, .int 0, .int 0, .ref 143, .ref 144, .ref 145, .ref 146, .ref 147, .ref 148, .int 0, .ref 149, .ref 150, .ref 151, .int 0, .ref 152, .ref 153, .ref 154, .ref 155, .ref 156, .ref 157, .ref 158, .ref 159, .int 0, .ref 160, .int 0, .ref 161, .ref 162, .ref 163, .ref 164, .int 0, .ref 165, .ref 166]) kc_62_2 rfl rfl rfl ((eh1.2.1 115 (by decide)).trans (F 115 _ hl_115)) rfl rfl rfl (Nat.le_of_ble_eq_true rfl) rfl (fun hh2 eh2 => ?_)
            refine xi_iload_n (pc' := 6) (x := a1) kc_62_5 rfl rfl ?_
            refine xi_static (mj := 11) (as := [.int a1]) (st1 := []) (lv0 := [(0, .int a1)]) kc_62_6 rfl rfl (Nat.le_of_ble_eq_true rfl) rfl rfl (Nat.le_of_ble_eq_true rfl) (hJ _ _ _ _ (by decide)) (xm_le ml_11 rfl) rfl ?_
            refine xi_iload_n (pc' := 1) (x := a1) kc_11_0 rfl rfl ?_
            refine xi_iconst (pc' := 2) (v := 0) kc_11_1 rfl rfl ?_
            refine xi_iconst (pc' := 3) (v := 5) kc_11_2 rfl rfl ?_
            refine xi_static (mj := 12) (as := [.int a1, .int 0, .int 5]) (st1 := []) (lv0 := [(0, .int a1), (1, .int 0), (2, .int 5)]) kc_11_3 rfl rfl (Nat.le_of_ble_eq_true rfl) rfl rfl (Nat.le_of_ble_eq_true rfl) (hJ _ _ _ _ (by decide)) (xm_le ml_12 rfl) rfl ?_
            refine xi_iload_n (pc' := 1) (x := a1) kc_12_0 rfl rfl ?_
            refine xi_iload_n (pc' := 2) (x := 0) kc_12_1 rfl rfl ?_
            refine xi_cmf (pc' := 5) kc_12_2 rfl (xc_lt_f (X := a1.toInt) (Y := 0) rfl (by decide) (by omega)) ?_
            refine xi_iload_n (pc' := 6) (x := a1) kc_12_5 rfl rfl ?_
            refine xi_iload_n (pc' := 7) (x := 5) kc_12_6 rfl rfl ?_
            refine xi_cmf (pc' := 10) kc_12_7 rfl (xc_gt_f (X := a1.toInt) (Y := 5) rfl (by decide) (by omega)) ?_
            refine xi_iconst (pc' := 11) (v := 1) kc_12_10 rfl rfl ?_
            refine xi_goto (pc' := 15) kc_12_11 rfl ?_
            refine xi_ireturn kc_12_15 mr_12 rfl ?_
            show xw J ov 98 11 (6, [(0, .int a1)], [.int 1], hh2) _
            refine xi_ireturn kc_11_6 mr_11 rfl ?_
            show xw J ov 99 62 (9, [(0, .ref 115), (1, .int a1), (2, .int a2), (3, .int a3), (4, .int a4), (5, .int a5)], [.int 1], hh2) _
            refine xi_ift (pc' := 18) kc_62_9 rfl rfl ?_
            refine xi_iload_n (pc' := 19) (x := a2) kc_62_18 rfl rfl ?_
            refine xi_iconst (pc' := 20) (v := 0) kc_62_19 rfl rfl ?_
            refine xi_iconst (pc' := 21) (v := 1) kc_62_20 rfl rfl ?_
            refine xi_static (mj := 12) (as := [.int a2, .int 0, .int 1]) (st1 := []) (lv0 := [(0, .int a2), (1, .int 0), (2, .int 1)]) kc_62_21 rfl rfl (Nat.le_of_ble_eq_true rfl) rfl rfl (Nat.le_of_ble_eq_true rfl) (hJ _ _ _ _ (by decide)) (xm_le ml_12 rfl) rfl ?_
            refine xi_iload_n (pc' := 1) (x := a2) kc_12_0 rfl rfl ?_
            refine xi_iload_n (pc' := 2) (x := 0) kc_12_1 rfl rfl ?_
            refine xi_cmf (pc' := 5) kc_12_2 rfl (xc_lt_f (X := a2.toInt) (Y := 0) rfl (by decide) (by omega)) ?_
            refine xi_iload_n (pc' := 6) (x := a2) kc_12_5 rfl rfl ?_
            refine xi_iload_n (pc' := 7) (x := 1) kc_12_6 rfl rfl ?_
            refine xi_cmf (pc' := 10) kc_12_7 rfl (xc_gt_f (X := a2.toInt) (Y := 1) rfl (by decide) (by omega)) ?_
            refine xi_iconst (pc' := 11) (v := 1) kc_12_10 rfl rfl ?_
            refine xi_goto (pc' := 15) kc_12_11 rfl ?_
            refine xi_ireturn kc_12_15 mr_12 rfl ?_
            show xw J ov 99 62 (24, [(0, .ref 115), (1, .int a1), (2, .int a2), (3, .int a3), (4, .int a4), (5, .int a5)], [.int 1], hh2) _
            refine xi_ift (pc' := 34) kc_62_24 rfl rfl ?_
            refine xi_iconst (pc' := 35) (v := 0) kc_62_34 rfl rfl ?_
            refine xi_istore (pc' := 37) (lv' := [(6, .int 0), (0, .ref 115), (1, .int a1), (2, .int a2), (3, .int a3), (4, .int a4), (5, .int a5)]) kc_62_35 rfl rfl (xm_lt ml_62 rfl) ?_
            refine xi_iload (pc' := 39) (x := 0) kc_62_37 rfl rfl ?_
            refine xi_aload_n (pc' := 40) (x := 115) kc_62_39 rfl rfl ?_
            refine xi_getfield (pc' := 43) (v := .int 0) kc_62_40 rfl rfl rfl eh2.1 rfl ?_
            refine xi_cmt (pc' := 94) kc_62_43 rfl rfl ?_
            refine xi_iload_n (pc' := 95) (x := a3) kc_62_94 rfl rfl ?_
            refine xi_ift (pc' := 114) kc_62_95 rfl (xc_lt_t (X := a3.toInt) (Y := 0) rfl (by decide) (by omega)) ?_
            refine xi_aload_n (pc' := 115) (x := 115) kc_62_114 rfl rfl ?_
            refine xi_bipush (pc' := 117) (v := (-4)) kc_62_115 rfl rfl ?_
            refine xi_virtual (mj := 13) (as := [.int (-4)]) (st1 := []) (lv0 := [(0, .ref 115), (1, .int (-4))]) kc_62_117 rfl rfl rfl rfl rfl eh2.1 (Nat.le_of_ble_eq_true rfl) (hJ _ _ _ _ (by decide)) (xm_le ml_13 rfl) rfl ?_
            refine xi_aload_n (pc' := 1) (x := 115) kc_13_0 rfl rfl ?_
            refine xi_getfield (pc' := 4) (v := .ref 140) kc_13_1 rfl rfl rfl eh2.1 rfl ?_
            refine xi_iload_n (pc' := 5) (x := (-4)) kc_13_4 rfl rfl ?_
            refine xi_ineg (pc' := 6) (v := 4) kc_13_5 rfl rfl ?_
            refine xi_dup2 (pc' := 7) kc_13_6 rfl ⟨rfl, rfl⟩ ?_
            refine xi_iaload (pc' := 8) (v := 0) kc_13_7 rfl ((eh2.2.1 140 (by decide)).trans ((eh1.2.1 140 (by decide)).trans (F 140 _ hl_140))) (by decide) rfl (xi_in (n := 7) (by decide) (by decide)) rfl ?_
            refine xi_iconst (pc' := 9) (v := 1) kc_13_8 rfl rfl ?_
            refine xi_iadd (pc' := 10) (v := 1) kc_13_9 rfl rfl ?_
            refine xi_iastore (pc' := 11) (x' := [0, 0, 0, 0, 1, 0, 0]) kc_13_10 rfl ((eh2.2.1 140 (by decide)).trans ((eh1.2.1 140 (by decide)).trans (F 140 _ hl_140))) rfl (xi_in (n := 7) (by decide) (by decide)) rfl (fun hh3 eh3 => ?_)
            refine xi_iload_n (pc' := 12) (x := (-4)) kc_13_11 rfl rfl ?_
            refine xi_ireturn kc_13_12 mr_13 rfl ?_
            show xw J ov 99 62 (120, [(6, .int 0), (0, .ref 115), (1, .int a1), (2, .int a2), (3, .int a3), (4, .int a4), (5, .int a5)], [.int (-4)], hh3) _
            refine xi_ireturn kc_62_120 mr_62 rfl ?_
            show xw J ov 100 196 (1117, [(4, .int 0), (3, .ref 167), (2, .ref 115), (1, .ref 0), (0, .ref 1000000)], [.int (-4), .int (-4)], hh3) _
            refine xi_cmt (pc' := 1528) kc_196_1117 rfl rfl ?_
            refine xi_iinc (pc' := 1531) (x := 0) (v := 6) (lv' := [(4, .int 6), (3, .ref 167), (2, .ref 115), (1, .ref 0), (0, .ref 1000000)]) kc_196_1528 rfl rfl rfl rfl (xm_lt ml_196 rfl) ?_
            refine xi_goto (pc' := 23) kc_196_1531 rfl ?_
            refine xi_iload (pc' := 25) (x := 6) kc_196_23 rfl rfl ?_
            refine xi_aload_n (pc' := 26) (x := 1000000) kc_196_25 rfl rfl ?_
            refine xi_arraylength (pc' := 27) (n := 6) (v := 6) kc_196_26 rfl (xl_lenO (by decide) hov0 rfl) rfl ?_
            refine xi_bipush (pc' := 29) (v := 6) kc_196_27 rfl rfl ?_
            refine xi_isub (pc' := 30) (v := 0) kc_196_29 rfl rfl ?_
            refine xi_cmt (pc' := 1534) kc_196_30 rfl rfl ?_
            refine xi_iconst (pc' := 1535) (v := 1) kc_196_1534 rfl rfl ?_
            refine xi_ireturn kc_196_1535 mr_196 rfl ?_
            refine ⟨rfl, ?_, ?_⟩
            · rw [eh3.2.2.1, eh2.2.2.1, eh1.2.2.1]; exact hn0
            · rw [eh3.2.2.2, eh2.2.2.2, eh1.2.2.2]; exact hz0
          · refine xi_iff (pc' := 52) kc_164_49 rfl (xc_lt_f (X := a3.toInt) (Y := 0) rfl (by decide) (by omega)) ?_
            refine xi_iload (pc' := 54) (x := a4) kc_164_52 rfl rfl ?_
            refine xi_aload_n (pc' := 55) (x := 0) kc_164_54 rfl rfl ?_
            refine xi_getfield (pc' := 58) (v := .int 0) kc_164_55 rfl rfl rfl (F 0 _ hl_0) rfl ?_
            by_cases c12 : a4.toInt < 0
            · refine xi_cmt (pc' := 68) kc_164_58 rfl (xc_lt_t (X := a4.toInt) (Y := 0) rfl (by decide) (by omega)) ?_
              refine xi_aload_n (pc' := 69) (x := 0) kc_164_68 rfl rfl ?_
              refine xi_bipush (pc' := 71) (v := (-4)) kc_164_69 rfl rfl ?_
              refine xi_virtual (mj := 91) (as := [.int (-4)]) (st1 := []) (lv0 := [(0, .ref 0), (1, .int (-4))]) kc_164_71 rfl rfl rfl rfl rfl (F 0 _ hl_0) (Nat.le_of_ble_eq_true rfl) (hJ _ _ _ _ (by decide)) (xm_le ml_91 rfl) rfl ?_
              refine xi_iload_n (pc' := 1) (x := (-4)) kc_91_0 rfl rfl ?_
              refine xi_ineg (pc' := 2) (v := 4) kc_91_1 rfl rfl ?_
              refine xi_istore_n (pc' := 3) (lv' := [(2, .int 4), (0, .ref 0), (1, .int (-4))]) kc_91_2 rfl rfl (xm_lt ml_91 rfl) ?_
              refine xi_iload_n (pc' := 4) (x := 4) kc_91_3 rfl rfl ?_
              refine xi_iff (pc' := 7) kc_91_4 rfl rfl ?_
              refine xi_iload_n (pc' := 8) (x := 4) kc_91_7 rfl rfl ?_
              refine xi_aload_n (pc' := 9) (x := 0) kc_91_8 rfl rfl ?_
              refine xi_getfield (pc' := 12) (v := .ref 94) kc_91_9 rfl rfl rfl (F 0 _ hl_0) rfl ?_
              refine xi_arraylength (pc' := 13) (n := 7) (v := 7) kc_91_12 rfl (xl_lenI (by decide) (by decide) (F 94 _ hl_94) (by simp only [List.length_replicate, List.length_cons, List.length_nil])) rfl ?_
              refine xi_cmf (pc' := 16) kc_91_13 rfl rfl ?_
              refine xi_aload_n (pc' := 17) (x := 0) kc_91_16 rfl rfl ?_
              refine xi_getfield (pc' := 20) (v := .ref 94) kc_91_17 rfl rfl rfl (F 0 _ hl_0) rfl ?_
              refine xi_iload_n (pc' := 21) (x := 4) kc_91_20 rfl rfl ?_
              refine xi_dup2 (pc' := 22) kc_91_21 rfl ⟨rfl, rfl⟩ ?_
              refine xi_iaload (pc' := 23) (v := 0) kc_91_22 rfl (F 94 _ hl_94) (by decide) rfl (xi_in (n := 7) (by decide) (by decide)) rfl ?_
              refine xi_iconst (pc' := 24) (v := 1) kc_91_23 rfl rfl ?_
              refine xi_iadd (pc' := 25) (v := 1) kc_91_24 rfl rfl ?_
              refine xi_iastore (pc' := 26) (x' := [0, 0, 0, 0, 1, 0, 0]) kc_91_25 rfl (F 94 _ hl_94) rfl (xi_in (n := 7) (by decide) (by decide)) rfl (fun hh1 eh1 => ?_)
              refine xi_iload_n (pc' := 27) (x := (-4)) kc_91_26 rfl rfl ?_
              refine xi_ireturn kc_91_27 mr_91 rfl ?_
              show xw J ov 99 164 (74, [(0, .ref 0), (1, .int a1), (2, .int a2), (3, .int a3), (4, .int a4), (5, .int a5)], [.int (-4)], hh1) _
              refine xi_ireturn kc_164_74 mr_164 rfl ?_
              show xw J ov 100 196 (1083, [(4, .int 0), (3, .ref 167), (2, .ref 115), (1, .ref 0), (0, .ref 1000000)], [.int (-4)], hh1) _
              refine xi_aload_n (pc' := 1084) (x := 115) kc_196_1083 rfl rfl ?_
              refine xi_aload_n (pc' := 1085) (x := 1000000) kc_196_1084 rfl rfl ?_
              refine xi_iload (pc' := 1087) (x := 0) kc_196_1085 rfl rfl ?_
              refine xi_iconst (pc' := 1088) (v := 1) kc_196_1087 rfl rfl ?_
              refine xi_iadd (pc' := 1089) (v := 1) kc_196_1088 rfl rfl ?_
              refine xi_ialoadO (pc' := 1090) (v := a1) kc_196_1089 rfl (by decide) hov0 (xi_in (n := 6) (by decide) (by decide)) rfl ?_
              refine xi_aload_n (pc' := 1091) (x := 1000000) kc_196_1090 rfl rfl ?_
              refine xi_iload (pc' := 1093) (x := 0) kc_196_1091 rfl rfl ?_
              refine xi_iconst (pc' := 1094) (v := 2) kc_196_1093 rfl rfl ?_
              refine xi_iadd (pc' := 1095) (v := 2) kc_196_1094 rfl rfl ?_
              refine xi_ialoadO (pc' := 1096) (v := a2) kc_196_1095 rfl (by decide) hov0 (xi_in (n := 6) (by decide) (by decide)) rfl ?_
              refine xi_aload_n (pc' := 1097) (x := 1000000) kc_196_1096 rfl rfl ?_
              refine xi_iload (pc' := 1099) (x := 0) kc_196_1097 rfl rfl ?_
              refine xi_iconst (pc' := 1100) (v := 3) kc_196_1099 rfl rfl ?_
              refine xi_iadd (pc' := 1101) (v := 3) kc_196_1100 rfl rfl ?_
              refine xi_ialoadO (pc' := 1102) (v := a3) kc_196_1101 rfl (by decide) hov0 (xi_in (n := 6) (by decide) (by decide)) rfl ?_
              refine xi_aload_n (pc' := 1103) (x := 1000000) kc_196_1102 rfl rfl ?_
              refine xi_iload (pc' := 1105) (x := 0) kc_196_1103 rfl rfl ?_
              refine xi_iconst (pc' := 1106) (v := 4) kc_196_1105 rfl rfl ?_
              refine xi_iadd (pc' := 1107) (v := 4) kc_196_1106 rfl rfl ?_
              refine xi_ialoadO (pc' := 1108) (v := a4) kc_196_1107 rfl (by decide) hov0 (xi_in (n := 6) (by decide) (by decide)) rfl ?_
              refine xi_aload_n (pc' := 1109) (x := 1000000) kc_196_1108 rfl rfl ?_
              refine xi_iload (pc' := 1111) (x := 0) kc_196_1109 rfl rfl ?_
              refine xi_iconst (pc' := 1112) (v := 5) kc_196_1111 rfl rfl ?_
              refine xi_iadd (pc' := 1113) (v := 5) kc_196_1112 rfl rfl ?_
              refine xi_ialoadO (pc' := 1114) (v := a5) kc_196_1113 rfl (by decide) hov0 (xi_in (n := 6) (by decide) (by decide)) rfl ?_
              refine xi_virtual (mj := 62) (as := [.int a1, .int a2, .int a3, .int a4, .int a5]) (st1 := [.int (-4)]) (lv0 := [(0, .ref 115), (1, .int a1), (2, .int a2), (3, .int a3), (4, .int a4), (5, .int a5)]) kc_196_1114 rfl rfl rfl rfl rfl ((eh1.2.1 115 (by decide)).trans (F 115 _ hl_115)) (Nat.le_of_ble_eq_true rfl) (hJ _ _ _ _ (by decide)) (xm_le ml_62 rfl) rfl ?_
              refine xi_aload_n (pc' := 1) (x := 115) kc_62_0 rfl rfl ?_
              refine xi_iconst (pc' := 2) (v := 0) kc_62_1 rfl rfl ?_
              refine xi_putfield (pc' := 5) (fs' := [.int 0, .int 0, .ref 116, .ref 117, .ref 118, .ref 119, .ref 120, .ref 121, .ref 122, .ref 123, .ref 124, .ref 125, .ref 126, .ref 127, .ref 128, .ref 129, .int 4, .ref 130, .int 0, .ref 131, .ref 132, .ref 133, .ref 134, .int 0, .ref 135, .ref 136, .ref 137, .ref 138, .ref 139, .ref 140, .ref 141, .ref 142, .int 0, .int 0, .int 0, .ref 143, .ref 144, .ref 145, .ref 146, .ref 147, .ref 148, .int 0, .ref 149, .ref 150, .ref 151, .int 0, .ref 152, .ref 153, .ref 154, .ref 155, .ref 156, .ref 157, .ref 158, .ref 159, .int 0, .ref 160, .int 0, .ref 161, .ref 162, .ref 163, .ref 164, .int 0, .ref 165, .ref 166]) kc_62_2 rfl rfl rfl ((eh1.2.1 115 (by decide)).trans (F 115 _ hl_115)) rfl rfl rfl (Nat.le_of_ble_eq_true rfl) rfl (fun hh2 eh2 => ?_)
              refine xi_iload_n (pc' := 6) (x := a1) kc_62_5 rfl rfl ?_
              refine xi_static (mj := 11) (as := [.int a1]) (st1 := []) (lv0 := [(0, .int a1)]) kc_62_6 rfl rfl (Nat.le_of_ble_eq_true rfl) rfl rfl (Nat.le_of_ble_eq_true rfl) (hJ _ _ _ _ (by decide)) (xm_le ml_11 rfl) rfl ?_
              refine xi_iload_n (pc' := 1) (x := a1) kc_11_0 rfl rfl ?_
              refine xi_iconst (pc' := 2) (v := 0) kc_11_1 rfl rfl ?_
              refine xi_iconst (pc' := 3) (v := 5) kc_11_2 rfl rfl ?_
              refine xi_static (mj := 12) (as := [.int a1, .int 0, .int 5]) (st1 := []) (lv0 := [(0, .int a1), (1, .int 0), (2, .int 5)]) kc_11_3 rfl rfl (Nat.le_of_ble_eq_true rfl) rfl rfl (Nat.le_of_ble_eq_true rfl) (hJ _ _ _ _ (by decide)) (xm_le ml_12 rfl) rfl ?_
              refine xi_iload_n (pc' := 1) (x := a1) kc_12_0 rfl rfl ?_
              refine xi_iload_n (pc' := 2) (x := 0) kc_12_1 rfl rfl ?_
              refine xi_cmf (pc' := 5) kc_12_2 rfl (xc_lt_f (X := a1.toInt) (Y := 0) rfl (by decide) (by omega)) ?_
              refine xi_iload_n (pc' := 6) (x := a1) kc_12_5 rfl rfl ?_
              refine xi_iload_n (pc' := 7) (x := 5) kc_12_6 rfl rfl ?_
              refine xi_cmf (pc' := 10) kc_12_7 rfl (xc_gt_f (X := a1.toInt) (Y := 5) rfl (by decide) (by omega)) ?_
              refine xi_iconst (pc' := 11) (v := 1) kc_12_10 rfl rfl ?_
              refine xi_goto (pc' := 15) kc_12_11 rfl ?_
              refine xi_ireturn kc_12_15 mr_12 rfl ?_
              show xw J ov 98 11 (6, [(0, .int a1)], [.int 1], hh2) _
              refine xi_ireturn kc_11_6 mr_11 rfl ?_
              show xw J ov 99 62 (9, [(0, .ref 115), (1, .int a1), (2, .int a2), (3, .int a3), (4, .int a4), (5, .int a5)], [.int 1], hh2) _
              refine xi_ift (pc' := 18) kc_62_9 rfl rfl ?_
              refine xi_iload_n (pc' := 19) (x := a2) kc_62_18 rfl rfl ?_
              refine xi_iconst (pc' := 20) (v := 0) kc_62_19 rfl rfl ?_
              refine xi_iconst (pc' := 21) (v := 1) kc_62_20 rfl rfl ?_
              refine xi_static (mj := 12) (as := [.int a2, .int 0, .int 1]) (st1 := []) (lv0 := [(0, .int a2), (1, .int 0), (2, .int 1)]) kc_62_21 rfl rfl (Nat.le_of_ble_eq_true rfl) rfl rfl (Nat.le_of_ble_eq_true rfl) (hJ _ _ _ _ (by decide)) (xm_le ml_12 rfl) rfl ?_
              refine xi_iload_n (pc' := 1) (x := a2) kc_12_0 rfl rfl ?_
              refine xi_iload_n (pc' := 2) (x := 0) kc_12_1 rfl rfl ?_
              refine xi_cmf (pc' := 5) kc_12_2 rfl (xc_lt_f (X := a2.toInt) (Y := 0) rfl (by decide) (by omega)) ?_
              refine xi_iload_n (pc' := 6) (x := a2) kc_12_5 rfl rfl ?_
              refine xi_iload_n (pc' := 7) (x := 1) kc_12_6 rfl rfl ?_
              refine xi_cmf (pc' := 10) kc_12_7 rfl (xc_gt_f (X := a2.toInt) (Y := 1) rfl (by decide) (by omega)) ?_
              refine xi_iconst (pc' := 11) (v := 1) kc_12_10 rfl rfl ?_
              refine xi_goto (pc' := 15) kc_12_11 rfl ?_
              refine xi_ireturn kc_12_15 mr_12 rfl ?_
              show xw J ov 99 62 (24, [(0, .ref 115), (1, .int a1), (2, .int a2), (3, .int a3), (4, .int a4), (5, .int a5)], [.int 1], hh2) _
              refine xi_ift (pc' := 34) kc_62_24 rfl rfl ?_
              refine xi_iconst (pc' := 35) (v := 0) kc_62_34 rfl rfl ?_
              refine xi_istore (pc' := 37) (lv' := [(6, .int 0), (0, .ref 115), (1, .int a1), (2, .int a2), (3, .int a3), (4, .int a4), (5, .int a5)]) kc_62_35 rfl rfl (xm_lt ml_62 rfl) ?_
              refine xi_iload (pc' := 39) (x := 0) kc_62_37 rfl rfl ?_
              refine xi_aload_n (pc' := 40) (x := 115) kc_62_39 rfl rfl ?_
              refine xi_getfield (pc' := 43) (v := .int 0) kc_62_40 rfl rfl rfl eh2.1 rfl ?_
              refine xi_cmt (pc' := 94) kc_62_43 rfl rfl ?_
              refine xi_iload_n (pc' := 95) (x := a3) kc_62_94 rfl rfl ?_
              refine xi_iff (pc' := 98) kc_62_95 rfl (xc_lt_f (X := a3.toInt) (Y := 0) rfl (by decide) (by omega)) ?_
              refine xi_iload (pc' := 100) (x := a4) kc_62_98 rfl rfl ?_
              refine xi_aload_n (pc' := 101) (x := 115) kc_62_100 rfl rfl ?_
              refine xi_getfield (pc' := 104) (v := .int 0) kc_62_101 rfl rfl rfl eh2.1 rfl ?_
              refine xi_cmt (pc' := 114) kc_62_104 rfl (xc_lt_t (X := a4.toInt) (Y := 0) rfl (by decide) (by omega)) ?_
              refine xi_aload_n (pc' := 115) (x := 115) kc_62_114 rfl rfl ?_
              refine xi_bipush (pc' := 117) (v := (-4)) kc_62_115 rfl rfl ?_
              refine xi_virtual (mj := 13) (as := [.int (-4)]) (st1 := []) (lv0 := [(0, .ref 115), (1, .int (-4))]) kc_62_117 rfl rfl rfl rfl rfl eh2.1 (Nat.le_of_ble_eq_true rfl) (hJ _ _ _ _ (by decide)) (xm_le ml_13 rfl) rfl ?_
              refine xi_aload_n (pc' := 1) (x := 115) kc_13_0 rfl rfl ?_
              refine xi_getfield (pc' := 4) (v := .ref 140) kc_13_1 rfl rfl rfl eh2.1 rfl ?_
              refine xi_iload_n (pc' := 5) (x := (-4)) kc_13_4 rfl rfl ?_
              refine xi_ineg (pc' := 6) (v := 4) kc_13_5 rfl rfl ?_
              refine xi_dup2 (pc' := 7) kc_13_6 rfl ⟨rfl, rfl⟩ ?_
              refine xi_iaload (pc' := 8) (v := 0) kc_13_7 rfl ((eh2.2.1 140 (by decide)).trans ((eh1.2.1 140 (by decide)).trans (F 140 _ hl_140))) (by decide) rfl (xi_in (n := 7) (by decide) (by decide)) rfl ?_
              refine xi_iconst (pc' := 9) (v := 1) kc_13_8 rfl rfl ?_
              refine xi_iadd (pc' := 10) (v := 1) kc_13_9 rfl rfl ?_
              refine xi_iastore (pc' := 11) (x' := [0, 0, 0, 0, 1, 0, 0]) kc_13_10 rfl ((eh2.2.1 140 (by decide)).trans ((eh1.2.1 140 (by decide)).trans (F 140 _ hl_140))) rfl (xi_in (n := 7) (by decide) (by decide)) rfl (fun hh3 eh3 => ?_)
              refine xi_iload_n (pc' := 12) (x := (-4)) kc_13_11 rfl rfl ?_
              refine xi_ireturn kc_13_12 mr_13 rfl ?_
              show xw J ov 99 62 (120, [(6, .int 0), (0, .ref 115), (1, .int a1), (2, .int a2), (3, .int a3), (4, .int a4), (5, .int a5)], [.int (-4)], hh3) _
              refine xi_ireturn kc_62_120 mr_62 rfl ?_
              show xw J ov 100 196 (1117, [(4, .int 0), (3, .ref 167), (2, .ref 115), (1, .ref 0), (0, .ref 1000000)], [.int (-4), .int (-4)], hh3) _
              refine xi_cmt (pc' := 1528) kc_196_1117 rfl rfl ?_
              refine xi_iinc (pc' := 1531) (x := 0) (v := 6) (lv' := [(4, .int 6), (3, .ref 167), (2, .ref 115), (1, .ref 0), (0, .ref 1000000)]) kc_196_1528 rfl rfl rfl rfl (xm_lt ml_196 rfl) ?_
              refine xi_goto (pc' := 23) kc_196_1531 rfl ?_
              refine xi_iload (pc' := 25) (x := 6) kc_196_23 rfl rfl ?_
              refine xi_aload_n (pc' := 26) (x := 1000000) kc_196_25 rfl rfl ?_
              refine xi_arraylength (pc' := 27) (n := 6) (v := 6) kc_196_26 rfl (xl_lenO (by decide) hov0 rfl) rfl ?_
              refine xi_bipush (pc' := 29) (v := 6) kc_196_27 rfl rfl ?_
              refine xi_isub (pc' := 30) (v := 0) kc_196_29 rfl rfl ?_
              refine xi_cmt (pc' := 1534) kc_196_30 rfl rfl ?_
              refine xi_iconst (pc' := 1535) (v := 1) kc_196_1534 rfl rfl ?_
              refine xi_ireturn kc_196_1535 mr_196 rfl ?_
              refine ⟨rfl, ?_, ?_⟩
              · rw [eh3.2.2.1, eh2.2.2.1, eh1.2.2.1]; exact hn0
              · rw [eh3.2.2.2, eh2.2.2.2, eh1.2.2.2]; exact hz0
            · refine xi_cmf (pc' := 61) kc_164_58 rfl (xc_lt_f (X := a4.toInt) (Y := 0) rfl (by decide) (by omega)) ?_
              refine xi_iload (pc' := 63) (x := a5) kc_164_61 rfl rfl ?_
              refine xi_iload (pc' := 65) (x := a4) kc_164_63 rfl rfl ?_
              by_cases c13 : a4.toInt < a5.toInt
              · refine xi_cmt (pc' := 75) kc_164_65 rfl (xc_gt_t (X := a5.toInt) (Y := a4.toInt) rfl rfl (by omega)) ?_
                refine xi_iload_n (pc' := 76) (x := a3) kc_164_75 rfl rfl ?_
                refine xi_getstatic (pc' := 79) (j := 1000002) kc_164_76 rfl rfl ?_
                refine xi_iconst (pc' := 80) (v := 2) kc_164_79 rfl rfl ?_
                refine xi_ialoadO (pc' := 81) (v := 50) kc_164_80 rfl (by decide) hov2 (xi_in (n := 6) (by decide) (by decide)) rfl ?_
                by_cases c14 : 50 < a3.toInt
                · refine xi_cmt (pc' := 101) kc_164_81 rfl (xc_gt_t (X := a3.toInt) (Y := 50) rfl (by decide) (by omega)) ?_
                  refine xi_aload_n (pc' := 102) (x := 0) kc_164_101 rfl rfl ?_
                  refine xi_bipush (pc' := 104) (v := (-6)) kc_164_102 rfl rfl ?_
                  refine xi_virtual (mj := 91) (as := [.int (-6)]) (st1 := []) (lv0 := [(0, .ref 0), (1, .int (-6))]) kc_164_104 rfl rfl rfl rfl rfl (F 0 _ hl_0) (Nat.le_of_ble_eq_true rfl) (hJ _ _ _ _ (by decide)) (xm_le ml_91 rfl) rfl ?_
                  refine xi_iload_n (pc' := 1) (x := (-6)) kc_91_0 rfl rfl ?_
                  refine xi_ineg (pc' := 2) (v := 6) kc_91_1 rfl rfl ?_
                  refine xi_istore_n (pc' := 3) (lv' := [(2, .int 6), (0, .ref 0), (1, .int (-6))]) kc_91_2 rfl rfl (xm_lt ml_91 rfl) ?_
                  refine xi_iload_n (pc' := 4) (x := 6) kc_91_3 rfl rfl ?_
                  refine xi_iff (pc' := 7) kc_91_4 rfl rfl ?_
                  refine xi_iload_n (pc' := 8) (x := 6) kc_91_7 rfl rfl ?_
                  refine xi_aload_n (pc' := 9) (x := 0) kc_91_8 rfl rfl ?_
                  refine xi_getfield (pc' := 12) (v := .ref 94) kc_91_9 rfl rfl rfl (F 0 _ hl_0) rfl ?_
                  refine xi_arraylength (pc' := 13) (n := 7) (v := 7) kc_91_12 rfl (xl_lenI (by decide) (by decide) (F 94 _ hl_94) (by simp only [List.length_replicate, List.length_cons, List.length_nil])) rfl ?_
                  refine xi_cmf (pc' := 16) kc_91_13 rfl rfl ?_
                  refine xi_aload_n (pc' := 17) (x := 0) kc_91_16 rfl rfl ?_
                  refine xi_getfield (pc' := 20) (v := .ref 94) kc_91_17 rfl rfl rfl (F 0 _ hl_0) rfl ?_
                  refine xi_iload_n (pc' := 21) (x := 6) kc_91_20 rfl rfl ?_
                  refine xi_dup2 (pc' := 22) kc_91_21 rfl ⟨rfl, rfl⟩ ?_
                  refine xi_iaload (pc' := 23) (v := 0) kc_91_22 rfl (F 94 _ hl_94) (by decide) rfl (xi_in (n := 7) (by decide) (by decide)) rfl ?_
                  refine xi_iconst (pc' := 24) (v := 1) kc_91_23 rfl rfl ?_
                  refine xi_iadd (pc' := 25) (v := 1) kc_91_24 rfl rfl ?_
                  refine xi_iastore (pc' := 26) (x' := [0, 0, 0, 0, 0, 0, 1]) kc_91_25 rfl (F 94 _ hl_94) rfl (xi_in (n := 7) (by decide) (by decide)) rfl (fun hh1 eh1 => ?_)
                  refine xi_iload_n (pc' := 27) (x := (-6)) kc_91_26 rfl rfl ?_
                  refine xi_ireturn kc_91_27 mr_91 rfl ?_
                  show xw J ov 99 164 (107, [(0, .ref 0), (1, .int a1), (2, .int a2), (3, .int a3), (4, .int a4), (5, .int a5)], [.int (-6)], hh1) _
                  refine xi_ireturn kc_164_107 mr_164 rfl ?_
                  show xw J ov 100 196 (1083, [(4, .int 0), (3, .ref 167), (2, .ref 115), (1, .ref 0), (0, .ref 1000000)], [.int (-6)], hh1) _
                  refine xi_aload_n (pc' := 1084) (x := 115) kc_196_1083 rfl rfl ?_
                  refine xi_aload_n (pc' := 1085) (x := 1000000) kc_196_1084 rfl rfl ?_
                  refine xi_iload (pc' := 1087) (x := 0) kc_196_1085 rfl rfl ?_
                  refine xi_iconst (pc' := 1088) (v := 1) kc_196_1087 rfl rfl ?_
                  refine xi_iadd (pc' := 1089) (v := 1) kc_196_1088 rfl rfl ?_
                  refine xi_ialoadO (pc' := 1090) (v := a1) kc_196_1089 rfl (by decide) hov0 (xi_in (n := 6) (by decide) (by decide)) rfl ?_
                  refine xi_aload_n (pc' := 1091) (x := 1000000) kc_196_1090 rfl rfl ?_
                  refine xi_iload (pc' := 1093) (x := 0) kc_196_1091 rfl rfl ?_
                  refine xi_iconst (pc' := 1094) (v := 2) kc_196_1093 rfl rfl ?_
                  refine xi_iadd (pc' := 1095) (v := 2) kc_196_1094 rfl rfl ?_
                  refine xi_ialoadO (pc' := 1096) (v := a2) kc_196_1095 rfl (by decide) hov0 (xi_in (n := 6) (by decide) (by decide)) rfl ?_
                  refine xi_aload_n (pc' := 1097) (x := 1000000) kc_196_1096 rfl rfl ?_
                  refine xi_iload (pc' := 1099) (x := 0) kc_196_1097 rfl rfl ?_
                  refine xi_iconst (pc' := 1100) (v := 3) kc_196_1099 rfl rfl ?_
                  refine xi_iadd (pc' := 1101) (v := 3) kc_196_1100 rfl rfl ?_
                  refine xi_ialoadO (pc' := 1102) (v := a3) kc_196_1101 rfl (by decide) hov0 (xi_in (n := 6) (by decide) (by decide)) rfl ?_
                  refine xi_aload_n (pc' := 1103) (x := 1000000) kc_196_1102 rfl rfl ?_
                  refine xi_iload (pc' := 1105) (x := 0) kc_196_1103 rfl rfl ?_
                  refine xi_iconst (pc' := 1106) (v := 4) kc_196_1105 rfl rfl ?_
                  refine xi_iadd (pc' := 1107) (v := 4) kc_196_1106 rfl rfl ?_
                  refine xi_ialoadO (pc' := 1108) (v := a4) kc_196_1107 rfl (by decide) hov0 (xi_in (n := 6) (by decide) (by decide)) rfl ?_
                  refine xi_aload_n (pc' := 1109) (x := 1000000) kc_196_1108 rfl rfl ?_
                  refine xi_iload (pc' := 1111) (x := 0) kc_196_1109 rfl rfl ?_
                  refine xi_iconst (pc' := 1112) (v := 5) kc_196_1111 rfl rfl ?_
                  refine xi_iadd (pc' := 1113) (v := 5) kc_196_1112 rfl rfl ?_
                  refine xi_ialoadO (pc' := 1114) (v := a5) kc_196_1113 rfl (by decide) hov0 (xi_in (n := 6) (by decide) (by decide)) rfl ?_
                  refine xi_virtual (mj := 62) (as := [.int a1, .int a2, .int a3, .int a4, .int a5]) (st1 := [.int (-6)]) (lv0 := [(0, .ref 115), (1, .int a1), (2, .int a2), (3, .int a3), (4, .int a4), (5, .int a5)]) kc_196_1114 rfl rfl rfl rfl rfl ((eh1.2.1 115 (by decide)).trans (F 115 _ hl_115)) (Nat.le_of_ble_eq_true rfl) (hJ _ _ _ _ (by decide)) (xm_le ml_62 rfl) rfl ?_
                  refine xi_aload_n (pc' := 1) (x := 115) kc_62_0 rfl rfl ?_
                  refine xi_iconst (pc' := 2) (v := 0) kc_62_1 rfl rfl ?_
                  refine xi_putfield (pc' := 5) (fs' := [.int 0, .int 0, .ref 116, .ref 117, .ref 118, .ref 119, .ref 120, .ref 121, .ref 122, .ref 123, .ref 124, .ref 125, .ref 126, .ref 127, .ref 128, .ref 129, .int 4, .ref 130, .int 0, .ref 131, .ref 132, .ref 133, .ref 134, .int 0, .ref 135, .ref 136, .ref 137, .ref 138, .ref 139, .ref 140, .ref 141, .ref 142, .int 0, .int 0, .int 0, .ref 143, .ref 144, .ref 145, .ref 146, .ref 147, .ref 148, .int 0, .ref 149, .ref 150, .ref 151, .int 0, .ref 152, .ref 153, .ref 154, .ref 155, .ref 156, .ref 157, .ref 158, .ref 159, .int 0, .ref 160, .int 0, .ref 161, .ref 162, .ref 163, .ref 164, .int 0, .ref 165, .ref 166]) kc_62_2 rfl rfl rfl ((eh1.2.1 115 (by decide)).trans (F 115 _ hl_115)) rfl rfl rfl (Nat.le_of_ble_eq_true rfl) rfl (fun hh2 eh2 => ?_)
                  refine xi_iload_n (pc' := 6) (x := a1) kc_62_5 rfl rfl ?_
                  refine xi_static (mj := 11) (as := [.int a1]) (st1 := []) (lv0 := [(0, .int a1)]) kc_62_6 rfl rfl (Nat.le_of_ble_eq_true rfl) rfl rfl (Nat.le_of_ble_eq_true rfl) (hJ _ _ _ _ (by decide)) (xm_le ml_11 rfl) rfl ?_
                  refine xi_iload_n (pc' := 1) (x := a1) kc_11_0 rfl rfl ?_
                  refine xi_iconst (pc' := 2) (v := 0) kc_11_1 rfl rfl ?_
                  refine xi_iconst (pc' := 3) (v := 5) kc_11_2 rfl rfl ?_
                  refine xi_static (mj := 12) (as := [.int a1, .int 0, .int 5]) (st1 := []) (lv0 := [(0, .int a1), (1, .int 0), (2, .int 5)]) kc_11_3 rfl rfl (Nat.le_of_ble_eq_true rfl) rfl rfl (Nat.le_of_ble_eq_true rfl) (hJ _ _ _ _ (by decide)) (xm_le ml_12 rfl) rfl ?_
                  refine xi_iload_n (pc' := 1) (x := a1) kc_12_0 rfl rfl ?_
                  refine xi_iload_n (pc' := 2) (x := 0) kc_12_1 rfl rfl ?_
                  refine xi_cmf (pc' := 5) kc_12_2 rfl (xc_lt_f (X := a1.toInt) (Y := 0) rfl (by decide) (by omega)) ?_
                  refine xi_iload_n (pc' := 6) (x := a1) kc_12_5 rfl rfl ?_
                  refine xi_iload_n (pc' := 7) (x := 5) kc_12_6 rfl rfl ?_
                  refine xi_cmf (pc' := 10) kc_12_7 rfl (xc_gt_f (X := a1.toInt) (Y := 5) rfl (by decide) (by omega)) ?_
                  refine xi_iconst (pc' := 11) (v := 1) kc_12_10 rfl rfl ?_
                  refine xi_goto (pc' := 15) kc_12_11 rfl ?_
                  refine xi_ireturn kc_12_15 mr_12 rfl ?_
                  show xw J ov 98 11 (6, [(0, .int a1)], [.int 1], hh2) _
                  refine xi_ireturn kc_11_6 mr_11 rfl ?_
                  show xw J ov 99 62 (9, [(0, .ref 115), (1, .int a1), (2, .int a2), (3, .int a3), (4, .int a4), (5, .int a5)], [.int 1], hh2) _
                  refine xi_ift (pc' := 18) kc_62_9 rfl rfl ?_
                  refine xi_iload_n (pc' := 19) (x := a2) kc_62_18 rfl rfl ?_
                  refine xi_iconst (pc' := 20) (v := 0) kc_62_19 rfl rfl ?_
                  refine xi_iconst (pc' := 21) (v := 1) kc_62_20 rfl rfl ?_
                  refine xi_static (mj := 12) (as := [.int a2, .int 0, .int 1]) (st1 := []) (lv0 := [(0, .int a2), (1, .int 0), (2, .int 1)]) kc_62_21 rfl rfl (Nat.le_of_ble_eq_true rfl) rfl rfl (Nat.le_of_ble_eq_true rfl) (hJ _ _ _ _ (by decide)) (xm_le ml_12 rfl) rfl ?_
                  refine xi_iload_n (pc' := 1) (x := a2) kc_12_0 rfl rfl ?_
                  refine xi_iload_n (pc' := 2) (x := 0) kc_12_1 rfl rfl ?_
                  refine xi_cmf (pc' := 5) kc_12_2 rfl (xc_lt_f (X := a2.toInt) (Y := 0) rfl (by decide) (by omega)) ?_
                  refine xi_iload_n (pc' := 6) (x := a2) kc_12_5 rfl rfl ?_
                  refine xi_iload_n (pc' := 7) (x := 1) kc_12_6 rfl rfl ?_
                  refine xi_cmf (pc' := 10) kc_12_7 rfl (xc_gt_f (X := a2.toInt) (Y := 1) rfl (by decide) (by omega)) ?_
                  refine xi_iconst (pc' := 11) (v := 1) kc_12_10 rfl rfl ?_
                  refine xi_goto (pc' := 15) kc_12_11 rfl ?_
                  refine xi_ireturn kc_12_15 mr_12 rfl ?_
                  show xw J ov 99 62 (24, [(0, .ref 115), (1, .int a1), (2, .int a2), (3, .int a3), (4, .int a4), (5, .int a5)], [.int 1], hh2) _
                  refine xi_ift (pc' := 34) kc_62_24 rfl rfl ?_
                  refine xi_iconst (pc' := 35) (v := 0) kc_62_34 rfl rfl ?_
                  refine xi_istore (pc' := 37) (lv' := [(6, .int 0), (0, .ref 115), (1, .int a1), (2, .int a2), (3, .int a3), (4, .int a4), (5, .int a5)]) kc_62_35 rfl rfl (xm_lt ml_62 rfl) ?_
                  refine xi_iload (pc' := 39) (x := 0) kc_62_37 rfl rfl ?_
                  refine xi_aload_n (pc' := 40) (x := 115) kc_62_39 rfl rfl ?_
                  refine xi_getfield (pc' := 43) (v := .int 0) kc_62_40 rfl rfl rfl eh2.1 rfl ?_
                  refine xi_cmt (pc' := 94) kc_62_43 rfl rfl ?_
                  refine xi_iload_n (pc' := 95) (x := a3) kc_62_94 rfl rfl ?_
                  refine xi_iff (pc' := 98) kc_62_95 rfl (xc_lt_f (X := a3.toInt) (Y := 0) rfl (by decide) (by omega)) ?_
                  refine xi_iload (pc' := 100) (x := a4) kc_62_98 rfl rfl ?_
                  refine xi_aload_n (pc' := 101) (x := 115) kc_62_100 rfl rfl ?_
                  refine xi_getfield (pc' := 104) (v := .int 0) kc_62_101 rfl rfl rfl eh2.1 rfl ?_
                  refine xi_cmf (pc' := 107) kc_62_104 rfl (xc_lt_f (X := a4.toInt) (Y := 0) rfl (by decide) (by omega)) ?_
                  refine xi_iload (pc' := 109) (x := a5) kc_62_107 rfl rfl ?_
                  refine xi_iload (pc' := 111) (x := a4) kc_62_109 rfl rfl ?_
                  refine xi_cmt (pc' := 121) kc_62_111 rfl (xc_gt_t (X := a5.toInt) (Y := a4.toInt) rfl rfl (by omega)) ?_
                  refine xi_iload (pc' := 123) (x := a5) kc_62_121 rfl rfl ?_
                  refine xi_sipush (pc' := 126) (v := 600) kc_62_123 rfl rfl ?_
                  by_cases c15 : 600 < a5.toInt
                  · refine xi_cmt (pc' := 144) kc_62_126 rfl (xc_gt_t (X := a5.toInt) (Y := 600) rfl (by decide) (by omega)) ?_
                    refine xi_aload_n (pc' := 145) (x := 115) kc_62_144 rfl rfl ?_
                    refine xi_bipush (pc' := 147) (v := (-6)) kc_62_145 rfl rfl ?_
                    refine xi_virtual (mj := 13) (as := [.int (-6)]) (st1 := []) (lv0 := [(0, .ref 115), (1, .int (-6))]) kc_62_147 rfl rfl rfl rfl rfl eh2.1 (Nat.le_of_ble_eq_true rfl) (hJ _ _ _ _ (by decide)) (xm_le ml_13 rfl) rfl ?_
                    refine xi_aload_n (pc' := 1) (x := 115) kc_13_0 rfl rfl ?_
                    refine xi_getfield (pc' := 4) (v := .ref 140) kc_13_1 rfl rfl rfl eh2.1 rfl ?_
                    refine xi_iload_n (pc' := 5) (x := (-6)) kc_13_4 rfl rfl ?_
                    refine xi_ineg (pc' := 6) (v := 6) kc_13_5 rfl rfl ?_
                    refine xi_dup2 (pc' := 7) kc_13_6 rfl ⟨rfl, rfl⟩ ?_
                    refine xi_iaload (pc' := 8) (v := 0) kc_13_7 rfl ((eh2.2.1 140 (by decide)).trans ((eh1.2.1 140 (by decide)).trans (F 140 _ hl_140))) (by decide) rfl (xi_in (n := 7) (by decide) (by decide)) rfl ?_
                    refine xi_iconst (pc' := 9) (v := 1) kc_13_8 rfl rfl ?_
                    refine xi_iadd (pc' := 10) (v := 1) kc_13_9 rfl rfl ?_
                    refine xi_iastore (pc' := 11) (x' := [0, 0, 0, 0, 0, 0, 1]) kc_13_10 rfl ((eh2.2.1 140 (by decide)).trans ((eh1.2.1 140 (by decide)).trans (F 140 _ hl_140))) rfl (xi_in (n := 7) (by decide) (by decide)) rfl (fun hh3 eh3 => ?_)
                    refine xi_iload_n (pc' := 12) (x := (-6)) kc_13_11 rfl rfl ?_
                    refine xi_ireturn kc_13_12 mr_13 rfl ?_
                    show xw J ov 99 62 (150, [(6, .int 0), (0, .ref 115), (1, .int a1), (2, .int a2), (3, .int a3), (4, .int a4), (5, .int a5)], [.int (-6)], hh3) _
                    refine xi_ireturn kc_62_150 mr_62 rfl ?_
                    show xw J ov 100 196 (1117, [(4, .int 0), (3, .ref 167), (2, .ref 115), (1, .ref 0), (0, .ref 1000000)], [.int (-6), .int (-6)], hh3) _
                    refine xi_cmt (pc' := 1528) kc_196_1117 rfl rfl ?_
                    refine xi_iinc (pc' := 1531) (x := 0) (v := 6) (lv' := [(4, .int 6), (3, .ref 167), (2, .ref 115), (1, .ref 0), (0, .ref 1000000)]) kc_196_1528 rfl rfl rfl rfl (xm_lt ml_196 rfl) ?_
                    refine xi_goto (pc' := 23) kc_196_1531 rfl ?_
                    refine xi_iload (pc' := 25) (x := 6) kc_196_23 rfl rfl ?_
                    refine xi_aload_n (pc' := 26) (x := 1000000) kc_196_25 rfl rfl ?_
                    refine xi_arraylength (pc' := 27) (n := 6) (v := 6) kc_196_26 rfl (xl_lenO (by decide) hov0 rfl) rfl ?_
                    refine xi_bipush (pc' := 29) (v := 6) kc_196_27 rfl rfl ?_
                    refine xi_isub (pc' := 30) (v := 0) kc_196_29 rfl rfl ?_
                    refine xi_cmt (pc' := 1534) kc_196_30 rfl rfl ?_
                    refine xi_iconst (pc' := 1535) (v := 1) kc_196_1534 rfl rfl ?_
                    refine xi_ireturn kc_196_1535 mr_196 rfl ?_
                    refine ⟨rfl, ?_, ?_⟩
                    · rw [eh3.2.2.1, eh2.2.2.1, eh1.2.2.1]; exact hn0
                    · rw [eh3.2.2.2, eh2.2.2.2, eh1.2.2.2]; exact hz0
                  · refine xi_cmf (pc' := 129) kc_62_126 rfl (xc_gt_f (X := a5.toInt) (Y := 600) rfl (by decide) (by omega)) ?_
                    refine xi_iload_n (pc' := 130) (x := a3) kc_62_129 rfl rfl ?_
                    refine xi_bipush (pc' := 132) (v := 50) kc_62_130 rfl rfl ?_
                    refine xi_cmt (pc' := 144) kc_62_132 rfl (xc_gt_t (X := a3.toInt) (Y := 50) rfl (by decide) (by omega)) ?_
                    refine xi_aload_n (pc' := 145) (x := 115) kc_62_144 rfl rfl ?_
                    refine xi_bipush (pc' := 147) (v := (-6)) kc_62_145 rfl rfl ?_
                    refine xi_virtual (mj := 13) (as := [.int (-6)]) (st1 := []) (lv0 := [(0, .ref 115), (1, .int (-6))]) kc_62_147 rfl rfl rfl rfl rfl eh2.1 (Nat.le_of_ble_eq_true rfl) (hJ _ _ _ _ (by decide)) (xm_le ml_13 rfl) rfl ?_
                    refine xi_aload_n (pc' := 1) (x := 115) kc_13_0 rfl rfl ?_
                    refine xi_getfield (pc' := 4) (v := .ref 140) kc_13_1 rfl rfl rfl eh2.1 rfl ?_
                    refine xi_iload_n (pc' := 5) (x := (-6)) kc_13_4 rfl rfl ?_
                    refine xi_ineg (pc' := 6) (v := 6) kc_13_5 rfl rfl ?_
                    refine xi_dup2 (pc' := 7) kc_13_6 rfl ⟨rfl, rfl⟩ ?_
                    refine xi_iaload (pc' := 8) (v := 0) kc_13_7 rfl ((eh2.2.1 140 (by decide)).trans ((eh1.2.1 140 (by decide)).trans (F 140 _ hl_140))) (by decide) rfl (xi_in (n := 7) (by decide) (by decide)) rfl ?_
                    refine xi_iconst (pc' := 9) (v := 1) kc_13_8 rfl rfl ?_
                    refine xi_iadd (pc' := 10) (v := 1) kc_13_9 rfl rfl ?_
                    refine xi_iastore (pc' := 11) (x' := [0, 0, 0, 0, 0, 0, 1]) kc_13_10 rfl ((eh2.2.1 140 (by decide)).trans ((eh1.2.1 140 (by decide)).trans (F 140 _ hl_140))) rfl (xi_in (n := 7) (by decide) (by decide)) rfl (fun hh3 eh3 => ?_)
                    refine xi_iload_n (pc' := 12) (x := (-6)) kc_13_11 rfl rfl ?_
                    refine xi_ireturn kc_13_12 mr_13 rfl ?_
                    show xw J ov 99 62 (150, [(6, .int 0), (0, .ref 115), (1, .int a1), (2, .int a2), (3, .int a3), (4, .int a4), (5, .int a5)], [.int (-6)], hh3) _
                    refine xi_ireturn kc_62_150 mr_62 rfl ?_
                    show xw J ov 100 196 (1117, [(4, .int 0), (3, .ref 167), (2, .ref 115), (1, .ref 0), (0, .ref 1000000)], [.int (-6), .int (-6)], hh3) _
                    refine xi_cmt (pc' := 1528) kc_196_1117 rfl rfl ?_
                    refine xi_iinc (pc' := 1531) (x := 0) (v := 6) (lv' := [(4, .int 6), (3, .ref 167), (2, .ref 115), (1, .ref 0), (0, .ref 1000000)]) kc_196_1528 rfl rfl rfl rfl (xm_lt ml_196 rfl) ?_
                    refine xi_goto (pc' := 23) kc_196_1531 rfl ?_
                    refine xi_iload (pc' := 25) (x := 6) kc_196_23 rfl rfl ?_
                    refine xi_aload_n (pc' := 26) (x := 1000000) kc_196_25 rfl rfl ?_
                    refine xi_arraylength (pc' := 27) (n := 6) (v := 6) kc_196_26 rfl (xl_lenO (by decide) hov0 rfl) rfl ?_
                    refine xi_bipush (pc' := 29) (v := 6) kc_196_27 rfl rfl ?_
                    refine xi_isub (pc' := 30) (v := 0) kc_196_29 rfl rfl ?_
                    refine xi_cmt (pc' := 1534) kc_196_30 rfl rfl ?_
                    refine xi_iconst (pc' := 1535) (v := 1) kc_196_1534 rfl rfl ?_
                    refine xi_ireturn kc_196_1535 mr_196 rfl ?_
                    refine ⟨rfl, ?_, ?_⟩
                    · rw [eh3.2.2.1, eh2.2.2.1, eh1.2.2.1]; exact hn0
                    · rw [eh3.2.2.2, eh2.2.2.2, eh1.2.2.2]; exact hz0
                · refine xi_cmf (pc' := 84) kc_164_81 rfl (xc_gt_f (X := a3.toInt) (Y := 50) rfl (by decide) (by omega)) ?_
                  refine xi_iload (pc' := 86) (x := a5) kc_164_84 rfl rfl ?_
                  refine xi_sipush (pc' := 89) (v := 600) kc_164_86 rfl rfl ?_
                  by_cases c16 : 600 < a5.toInt
                  · refine xi_cmt (pc' := 101) kc_164_89 rfl (xc_gt_t (X := a5.toInt) (Y := 600) rfl (by decide) (by omega)) ?_
                    refine xi_aload_n (pc' := 102) (x := 0) kc_164_101 rfl rfl ?_
                    refine xi_bipush (pc' := 104) (v := (-6)) kc_164_102 rfl rfl ?_
                    refine xi_virtual (mj := 91) (as := [.int (-6)]) (st1 := []) (lv0 := [(0, .ref 0), (1, .int (-6))]) kc_164_104 rfl rfl rfl rfl rfl (F 0 _ hl_0) (Nat.le_of_ble_eq_true rfl) (hJ _ _ _ _ (by decide)) (xm_le ml_91 rfl) rfl ?_
                    refine xi_iload_n (pc' := 1) (x := (-6)) kc_91_0 rfl rfl ?_
                    refine xi_ineg (pc' := 2) (v := 6) kc_91_1 rfl rfl ?_
                    refine xi_istore_n (pc' := 3) (lv' := [(2, .int 6), (0, .ref 0), (1, .int (-6))]) kc_91_2 rfl rfl (xm_lt ml_91 rfl) ?_
                    refine xi_iload_n (pc' := 4) (x := 6) kc_91_3 rfl rfl ?_
                    refine xi_iff (pc' := 7) kc_91_4 rfl rfl ?_
                    refine xi_iload_n (pc' := 8) (x := 6) kc_91_7 rfl rfl ?_
                    refine xi_aload_n (pc' := 9) (x := 0) kc_91_8 rfl rfl ?_
                    refine xi_getfield (pc' := 12) (v := .ref 94) kc_91_9 rfl rfl rfl (F 0 _ hl_0) rfl ?_
                    refine xi_arraylength (pc' := 13) (n := 7) (v := 7) kc_91_12 rfl (xl_lenI (by decide) (by decide) (F 94 _ hl_94) (by simp only [List.length_replicate, List.length_cons, List.length_nil])) rfl ?_
                    refine xi_cmf (pc' := 16) kc_91_13 rfl rfl ?_
                    refine xi_aload_n (pc' := 17) (x := 0) kc_91_16 rfl rfl ?_
                    refine xi_getfield (pc' := 20) (v := .ref 94) kc_91_17 rfl rfl rfl (F 0 _ hl_0) rfl ?_
                    refine xi_iload_n (pc' := 21) (x := 6) kc_91_20 rfl rfl ?_
                    refine xi_dup2 (pc' := 22) kc_91_21 rfl ⟨rfl, rfl⟩ ?_
                    refine xi_iaload (pc' := 23) (v := 0) kc_91_22 rfl (F 94 _ hl_94) (by decide) rfl (xi_in (n := 7) (by decide) (by decide)) rfl ?_
                    refine xi_iconst (pc' := 24) (v := 1) kc_91_23 rfl rfl ?_
                    refine xi_iadd (pc' := 25) (v := 1) kc_91_24 rfl rfl ?_
                    refine xi_iastore (pc' := 26) (x' := [0, 0, 0, 0, 0, 0, 1]) kc_91_25 rfl (F 94 _ hl_94) rfl (xi_in (n := 7) (by decide) (by decide)) rfl (fun hh1 eh1 => ?_)
                    refine xi_iload_n (pc' := 27) (x := (-6)) kc_91_26 rfl rfl ?_
                    refine xi_ireturn kc_91_27 mr_91 rfl ?_
                    show xw J ov 99 164 (107, [(0, .ref 0), (1, .int a1), (2, .int a2), (3, .int a3), (4, .int a4), (5, .int a5)], [.int (-6)], hh1) _
                    refine xi_ireturn kc_164_107 mr_164 rfl ?_
                    show xw J ov 100 196 (1083, [(4, .int 0), (3, .ref 167), (2, .ref 115), (1, .ref 0), (0, .ref 1000000)], [.int (-6)], hh1) _
                    refine xi_aload_n (pc' := 1084) (x := 115) kc_196_1083 rfl rfl ?_
                    refine xi_aload_n (pc' := 1085) (x := 1000000) kc_196_1084 rfl rfl ?_
                    refine xi_iload (pc' := 1087) (x := 0) kc_196_1085 rfl rfl ?_
                    refine xi_iconst (pc' := 1088) (v := 1) kc_196_1087 rfl rfl ?_
                    refine xi_iadd (pc' := 1089) (v := 1) kc_196_1088 rfl rfl ?_
                    refine xi_ialoadO (pc' := 1090) (v := a1) kc_196_1089 rfl (by decide) hov0 (xi_in (n := 6) (by decide) (by decide)) rfl ?_
                    refine xi_aload_n (pc' := 1091) (x := 1000000) kc_196_1090 rfl rfl ?_
                    refine xi_iload (pc' := 1093) (x := 0) kc_196_1091 rfl rfl ?_
                    refine xi_iconst (pc' := 1094) (v := 2) kc_196_1093 rfl rfl ?_
                    refine xi_iadd (pc' := 1095) (v := 2) kc_196_1094 rfl rfl ?_
                    refine xi_ialoadO (pc' := 1096) (v := a2) kc_196_1095 rfl (by decide) hov0 (xi_in (n := 6) (by decide) (by decide)) rfl ?_
                    refine xi_aload_n (pc' := 1097) (x := 1000000) kc_196_1096 rfl rfl ?_
                    refine xi_iload (pc' := 1099) (x := 0) kc_196_1097 rfl rfl ?_
                    refine xi_iconst (pc' := 1100) (v := 3) kc_196_1099 rfl rfl ?_
                    refine xi_iadd (pc' := 1101) (v := 3) kc_196_1100 rfl rfl ?_
                    refine xi_ialoadO (pc' := 1102) (v := a3) kc_196_1101 rfl (by decide) hov0 (xi_in (n := 6) (by decide) (by decide)) rfl ?_
                    refine xi_aload_n (pc' := 1103) (x := 1000000) kc_196_1102 rfl rfl ?_
                    refine xi_iload (pc' := 1105) (x := 0) kc_196_1103 rfl rfl ?_
                    refine xi_iconst (pc' := 1106) (v := 4) kc_196_1105 rfl rfl ?_
                    refine xi_iadd (pc' := 1107) (v := 4) kc_196_1106 rfl rfl ?_
                    refine xi_ialoadO (pc' := 1108) (v := a4) kc_196_1107 rfl (by decide) hov0 (xi_in (n := 6) (by decide) (by decide)) rfl ?_
                    refine xi_aload_n (pc' := 1109) (x := 1000000) kc_196_1108 rfl rfl ?_
                    refine xi_iload (pc' := 1111) (x := 0) kc_196_1109 rfl rfl ?_
                    refine xi_iconst (pc' := 1112) (v := 5) kc_196_1111 rfl rfl ?_
                    refine xi_iadd (pc' := 1113) (v := 5) kc_196_1112 rfl rfl ?_
                    refine xi_ialoadO (pc' := 1114) (v := a5) kc_196_1113 rfl (by decide) hov0 (xi_in (n := 6) (by decide) (by decide)) rfl ?_
                    refine xi_virtual (mj := 62) (as := [.int a1, .int a2, .int a3, .int a4, .int a5]) (st1 := [.int (-6)]) (lv0 := [(0, .ref 115), (1, .int a1), (2, .int a2), (3, .int a3), (4, .int a4), (5, .int a5)]) kc_196_1114 rfl rfl rfl rfl rfl ((eh1.2.1 115 (by decide)).trans (F 115 _ hl_115)) (Nat.le_of_ble_eq_true rfl) (hJ _ _ _ _ (by decide)) (xm_le ml_62 rfl) rfl ?_
                    refine xi_aload_n (pc' := 1) (x := 115) kc_62_0 rfl rfl ?_
                    refine xi_iconst (pc' := 2) (v := 0) kc_62_1 rfl rfl ?_
                    refine xi_putfield (pc' := 5) (fs' := [.int 0, .int 0, .ref 116, .ref 117, .ref 118, .ref 119, .ref 120, .ref 121, .ref 122, .ref 123, .ref 124, .ref 125, .ref 126, .ref 127, .ref 128, .ref 129, .int 4, .ref 130, .int 0, .ref 131, .ref 132, .ref 133, .ref 134, .int 0, .ref 135, .ref 136, .ref 137, .ref 138, .ref 139, .ref 140, .ref 141, .ref 142, .int 0, .int 0, .int 0, .ref 143, .ref 144, .ref 145, .ref 146, .ref 147, .ref 148, .int 0, .ref 149, .ref 150, .ref 151, .int 0, .ref 152, .ref 153, .ref 154, .ref 155, .ref 156, .ref 157, .ref 158, .ref 159, .int 0, .ref 160, .int 0, .ref 161, .ref 162, .ref 163, .ref 164, .int 0, .ref 165, .ref 166]) kc_62_2 rfl rfl rfl ((eh1.2.1 115 (by decide)).trans (F 115 _ hl_115)) rfl rfl rfl (Nat.le_of_ble_eq_true rfl) rfl (fun hh2 eh2 => ?_)
                    refine xi_iload_n (pc' := 6) (x := a1) kc_62_5 rfl rfl ?_
                    refine xi_static (mj := 11) (as := [.int a1]) (st1 := []) (lv0 := [(0, .int a1)]) kc_62_6 rfl rfl (Nat.le_of_ble_eq_true rfl) rfl rfl (Nat.le_of_ble_eq_true rfl) (hJ _ _ _ _ (by decide)) (xm_le ml_11 rfl) rfl ?_
                    refine xi_iload_n (pc' := 1) (x := a1) kc_11_0 rfl rfl ?_
                    refine xi_iconst (pc' := 2) (v := 0) kc_11_1 rfl rfl ?_
                    refine xi_iconst (pc' := 3) (v := 5) kc_11_2 rfl rfl ?_
                    refine xi_static (mj := 12) (as := [.int a1, .int 0, .int 5]) (st1 := []) (lv0 := [(0, .int a1), (1, .int 0), (2, .int 5)]) kc_11_3 rfl rfl (Nat.le_of_ble_eq_true rfl) rfl rfl (Nat.le_of_ble_eq_true rfl) (hJ _ _ _ _ (by decide)) (xm_le ml_12 rfl) rfl ?_
                    refine xi_iload_n (pc' := 1) (x := a1) kc_12_0 rfl rfl ?_
                    refine xi_iload_n (pc' := 2) (x := 0) kc_12_1 rfl rfl ?_
                    refine xi_cmf (pc' := 5) kc_12_2 rfl (xc_lt_f (X := a1.toInt) (Y := 0) rfl (by decide) (by omega)) ?_
                    refine xi_iload_n (pc' := 6) (x := a1) kc_12_5 rfl rfl ?_
                    refine xi_iload_n (pc' := 7) (x := 5) kc_12_6 rfl rfl ?_
                    refine xi_cmf (pc' := 10) kc_12_7 rfl (xc_gt_f (X := a1.toInt) (Y := 5) rfl (by decide) (by omega)) ?_
                    refine xi_iconst (pc' := 11) (v := 1) kc_12_10 rfl rfl ?_
                    refine xi_goto (pc' := 15) kc_12_11 rfl ?_
                    refine xi_ireturn kc_12_15 mr_12 rfl ?_
                    show xw J ov 98 11 (6, [(0, .int a1)], [.int 1], hh2) _
                    refine xi_ireturn kc_11_6 mr_11 rfl ?_
                    show xw J ov 99 62 (9, [(0, .ref 115), (1, .int a1), (2, .int a2), (3, .int a3), (4, .int a4), (5, .int a5)], [.int 1], hh2) _
                    refine xi_ift (pc' := 18) kc_62_9 rfl rfl ?_
                    refine xi_iload_n (pc' := 19) (x := a2) kc_62_18 rfl rfl ?_
                    refine xi_iconst (pc' := 20) (v := 0) kc_62_19 rfl rfl ?_
                    refine xi_iconst (pc' := 21) (v := 1) kc_62_20 rfl rfl ?_
                    refine xi_static (mj := 12) (as := [.int a2, .int 0, .int 1]) (st1 := []) (lv0 := [(0, .int a2), (1, .int 0), (2, .int 1)]) kc_62_21 rfl rfl (Nat.le_of_ble_eq_true rfl) rfl rfl (Nat.le_of_ble_eq_true rfl) (hJ _ _ _ _ (by decide)) (xm_le ml_12 rfl) rfl ?_
                    refine xi_iload_n (pc' := 1) (x := a2) kc_12_0 rfl rfl ?_
                    refine xi_iload_n (pc' := 2) (x := 0) kc_12_1 rfl rfl ?_
                    refine xi_cmf (pc' := 5) kc_12_2 rfl (xc_lt_f (X := a2.toInt) (Y := 0) rfl (by decide) (by omega)) ?_
                    refine xi_iload_n (pc' := 6) (x := a2) kc_12_5 rfl rfl ?_
                    refine xi_iload_n (pc' := 7) (x := 1) kc_12_6 rfl rfl ?_
                    refine xi_cmf (pc' := 10) kc_12_7 rfl (xc_gt_f (X := a2.toInt) (Y := 1) rfl (by decide) (by omega)) ?_
                    refine xi_iconst (pc' := 11) (v := 1) kc_12_10 rfl rfl ?_
                    refine xi_goto (pc' := 15) kc_12_11 rfl ?_
                    refine xi_ireturn kc_12_15 mr_12 rfl ?_
                    show xw J ov 99 62 (24, [(0, .ref 115), (1, .int a1), (2, .int a2), (3, .int a3), (4, .int a4), (5, .int a5)], [.int 1], hh2) _
                    refine xi_ift (pc' := 34) kc_62_24 rfl rfl ?_
                    refine xi_iconst (pc' := 35) (v := 0) kc_62_34 rfl rfl ?_
                    refine xi_istore (pc' := 37) (lv' := [(6, .int 0), (0, .ref 115), (1, .int a1), (2, .int a2), (3, .int a3), (4, .int a4), (5, .int a5)]) kc_62_35 rfl rfl (xm_lt ml_62 rfl) ?_
                    refine xi_iload (pc' := 39) (x := 0) kc_62_37 rfl rfl ?_
                    refine xi_aload_n (pc' := 40) (x := 115) kc_62_39 rfl rfl ?_
                    refine xi_getfield (pc' := 43) (v := .int 0) kc_62_40 rfl rfl rfl eh2.1 rfl ?_
                    refine xi_cmt (pc' := 94) kc_62_43 rfl rfl ?_
                    refine xi_iload_n (pc' := 95) (x := a3) kc_62_94 rfl rfl ?_
                    refine xi_iff (pc' := 98) kc_62_95 rfl (xc_lt_f (X := a3.toInt) (Y := 0) rfl (by decide) (by omega)) ?_
                    refine xi_iload (pc' := 100) (x := a4) kc_62_98 rfl rfl ?_
                    refine xi_aload_n (pc' := 101) (x := 115) kc_62_100 rfl rfl ?_
                    refine xi_getfield (pc' := 104) (v := .int 0) kc_62_101 rfl rfl rfl eh2.1 rfl ?_
                    refine xi_cmf (pc' := 107) kc_62_104 rfl (xc_lt_f (X := a4.toInt) (Y := 0) rfl (by decide) (by omega)) ?_
                    refine xi_iload (pc' := 109) (x := a5) kc_62_107 rfl rfl ?_
                    refine xi_iload (pc' := 111) (x := a4) kc_62_109 rfl rfl ?_
                    refine xi_cmt (pc' := 121) kc_62_111 rfl (xc_gt_t (X := a5.toInt) (Y := a4.toInt) rfl rfl (by omega)) ?_
                    refine xi_iload (pc' := 123) (x := a5) kc_62_121 rfl rfl ?_
                    refine xi_sipush (pc' := 126) (v := 600) kc_62_123 rfl rfl ?_
                    refine xi_cmt (pc' := 144) kc_62_126 rfl (xc_gt_t (X := a5.toInt) (Y := 600) rfl (by decide) (by omega)) ?_
                    refine xi_aload_n (pc' := 145) (x := 115) kc_62_144 rfl rfl ?_
                    refine xi_bipush (pc' := 147) (v := (-6)) kc_62_145 rfl rfl ?_
                    refine xi_virtual (mj := 13) (as := [.int (-6)]) (st1 := []) (lv0 := [(0, .ref 115), (1, .int (-6))]) kc_62_147 rfl rfl rfl rfl rfl eh2.1 (Nat.le_of_ble_eq_true rfl) (hJ _ _ _ _ (by decide)) (xm_le ml_13 rfl) rfl ?_
                    refine xi_aload_n (pc' := 1) (x := 115) kc_13_0 rfl rfl ?_
                    refine xi_getfield (pc' := 4) (v := .ref 140) kc_13_1 rfl rfl rfl eh2.1 rfl ?_
                    refine xi_iload_n (pc' := 5) (x := (-6)) kc_13_4 rfl rfl ?_
                    refine xi_ineg (pc' := 6) (v := 6) kc_13_5 rfl rfl ?_
                    refine xi_dup2 (pc' := 7) kc_13_6 rfl ⟨rfl, rfl⟩ ?_
                    refine xi_iaload (pc' := 8) (v := 0) kc_13_7 rfl ((eh2.2.1 140 (by decide)).trans ((eh1.2.1 140 (by decide)).trans (F 140 _ hl_140))) (by decide) rfl (xi_in (n := 7) (by decide) (by decide)) rfl ?_
                    refine xi_iconst (pc' := 9) (v := 1) kc_13_8 rfl rfl ?_
                    refine xi_iadd (pc' := 10) (v := 1) kc_13_9 rfl rfl ?_
                    refine xi_iastore (pc' := 11) (x' := [0, 0, 0, 0, 0, 0, 1]) kc_13_10 rfl ((eh2.2.1 140 (by decide)).trans ((eh1.2.1 140 (by decide)).trans (F 140 _ hl_140))) rfl (xi_in (n := 7) (by decide) (by decide)) rfl (fun hh3 eh3 => ?_)
                    refine xi_iload_n (pc' := 12) (x := (-6)) kc_13_11 rfl rfl ?_
                    refine xi_ireturn kc_13_12 mr_13 rfl ?_
                    show xw J ov 99 62 (150, [(6, .int 0), (0, .ref 115), (1, .int a1), (2, .int a2), (3, .int a3), (4, .int a4), (5, .int a5)], [.int (-6)], hh3) _
                    refine xi_ireturn kc_62_150 mr_62 rfl ?_
                    show xw J ov 100 196 (1117, [(4, .int 0), (3, .ref 167), (2, .ref 115), (1, .ref 0), (0, .ref 1000000)], [.int (-6), .int (-6)], hh3) _
                    refine xi_cmt (pc' := 1528) kc_196_1117 rfl rfl ?_
                    refine xi_iinc (pc' := 1531) (x := 0) (v := 6) (lv' := [(4, .int 6), (3, .ref 167), (2, .ref 115), (1, .ref 0), (0, .ref 1000000)]) kc_196_1528 rfl rfl rfl rfl (xm_lt ml_196 rfl) ?_
                    refine xi_goto (pc' := 23) kc_196_1531 rfl ?_
                    refine xi_iload (pc' := 25) (x := 6) kc_196_23 rfl rfl ?_
                    refine xi_aload_n (pc' := 26) (x := 1000000) kc_196_25 rfl rfl ?_
                    refine xi_arraylength (pc' := 27) (n := 6) (v := 6) kc_196_26 rfl (xl_lenO (by decide) hov0 rfl) rfl ?_
                    refine xi_bipush (pc' := 29) (v := 6) kc_196_27 rfl rfl ?_
                    refine xi_isub (pc' := 30) (v := 0) kc_196_29 rfl rfl ?_
                    refine xi_cmt (pc' := 1534) kc_196_30 rfl rfl ?_
                    refine xi_iconst (pc' := 1535) (v := 1) kc_196_1534 rfl rfl ?_
                    refine xi_ireturn kc_196_1535 mr_196 rfl ?_
                    refine ⟨rfl, ?_, ?_⟩
                    · rw [eh3.2.2.1, eh2.2.2.1, eh1.2.2.1]; exact hn0
                    · rw [eh3.2.2.2, eh2.2.2.2, eh1.2.2.2]; exact hz0
                  · refine xi_cmf (pc' := 92) kc_164_89 rfl (xc_gt_f (X := a5.toInt) (Y := 600) rfl (by decide) (by omega)) ?_
                    refine xi_aload_n (pc' := 93) (x := 0) kc_164_92 rfl rfl ?_
                    refine xi_getfield (pc' := 96) (v := .int 0) kc_164_93 rfl rfl rfl (F 0 _ hl_0) rfl ?_
                    refine xi_bipush (pc' := 98) (v := 20) kc_164_96 rfl rfl ?_
                    refine xi_cmt (pc' := 108) kc_164_98 rfl rfl ?_
                    refine xi_aload_n (pc' := 109) (x := 0) kc_164_108 rfl rfl ?_
                    refine xi_getfield (pc' := 112) (v := .ref 93) kc_164_109 rfl rfl rfl (F 0 _ hl_0) rfl ?_
                    refine xi_aload_n (pc' := 113) (x := 0) kc_164_112 rfl rfl ?_
                    refine xi_getfield (pc' := 116) (v := .int 0) kc_164_113 rfl rfl rfl (F 0 _ hl_0) rfl ?_
                    refine xi_aaload (pc' := 117) (b := 95) kc_164_116 rfl (F 93 _ hl_93) rfl (xi_in (n := 20) (by decide) (by decide)) rfl ?_
                    refine xi_astore (pc' := 119) (lv' := [(6, .ref 95), (0, .ref 0), (1, .int a1), (2, .int a2), (3, .int a3), (4, .int a4), (5, .int a5)]) kc_164_117 rfl rfl (xm_lt ml_164 rfl) ?_
                    refine xi_aload (pc' := 121) (x := 95) kc_164_119 rfl rfl ?_
                    refine xi_iload_n (pc' := 122) (x := a1) kc_164_121 rfl rfl ?_
                    refine xi_putfield (pc' := 125) (fs' := [.int a1, .int 0, .int 0, .int 0, .int 0, .int 0]) kc_164_122 rfl rfl rfl (F 95 _ hl_95) rfl rfl rfl (Nat.le_of_ble_eq_true rfl) rfl (fun hh1 eh1 => ?_)
                    refine xi_aload (pc' := 127) (x := 95) kc_164_125 rfl rfl ?_
                    refine xi_iload_n (pc' := 128) (x := a2) kc_164_127 rfl rfl ?_
                    refine xi_ift (pc' := 135) kc_164_128 rfl (xc_ne_t (X := a2.toInt) (Y := 0) rfl (by decide) (by omega)) ?_
                    refine xi_iconst (pc' := 136) (v := 2) kc_164_135 rfl rfl ?_
                    refine xi_putfield (pc' := 139) (fs' := [.int a1, .int 2, .int 0, .int 0, .int 0, .int 0]) kc_164_136 rfl rfl rfl eh1.1 rfl rfl rfl (Nat.le_of_ble_eq_true rfl) rfl (fun hh2 eh2 => ?_)
                    refine xi_aload (pc' := 141) (x := 95) kc_164_139 rfl rfl ?_
                    refine xi_iload_n (pc' := 142) (x := a2) kc_164_141 rfl rfl ?_
                    refine xi_ift (pc' := 149) kc_164_142 rfl (xc_ne_t (X := a2.toInt) (Y := 0) rfl (by decide) (by omega)) ?_
                    refine xi_iload_n (pc' := 150) (x := a3) kc_164_149 rfl rfl ?_
                    refine xi_putfield (pc' := 153) (fs' := [.int a1, .int 2, .int a3, .int 0, .int 0, .int 0]) kc_164_150 rfl rfl rfl eh2.1 rfl rfl rfl (Nat.le_of_ble_eq_true rfl) rfl (fun hh3 eh3 => ?_)
                    refine xi_aload (pc' := 155) (x := 95) kc_164_153 rfl rfl ?_
                    refine xi_iload (pc' := 157) (x := a4) kc_164_155 rfl rfl ?_
                    refine xi_putfield (pc' := 160) (fs' := [.int a1, .int 2, .int a3, .int a4, .int 0, .int 0]) kc_164_157 rfl rfl rfl eh3.1 rfl rfl rfl (Nat.le_of_ble_eq_true rfl) rfl (fun hh4 eh4 => ?_)
                    refine xi_aload (pc' := 162) (x := 95) kc_164_160 rfl rfl ?_
                    refine xi_iload (pc' := 164) (x := a5) kc_164_162 rfl rfl ?_
                    refine xi_putfield (pc' := 167) (fs' := [.int a1, .int 2, .int a3, .int a4, .int a5, .int 0]) kc_164_164 rfl rfl rfl eh4.1 rfl rfl rfl (Nat.le_of_ble_eq_true rfl) rfl (fun hh5 eh5 => ?_)
                    refine xi_aload_n (pc' := 168) (x := 0) kc_164_167 rfl rfl ?_
                    refine xi_dup (pc' := 169) kc_164_168 rfl rfl ?_
                    refine xi_getfield (pc' := 172) (v := .int 0) kc_164_169 rfl rfl rfl ((eh5.2.1 0 (by decide)).trans ((eh4.2.1 0 (by decide)).trans ((eh3.2.1 0 (by decide)).trans ((eh2.2.1 0 (by decide)).trans ((eh1.2.1 0 (by decide)).trans (F 0 _ hl_0)))))) rfl ?_
                    refine xi_iconst (pc' := 173) (v := 1) kc_164_172 rfl rfl ?_
                    refine xi_iadd (pc' := 174) (v := 1) kc_164_173 rfl rfl ?_
                    refine xi_putfield (pc' := 177) (fs' := [.ref 1, .ref 63, .ref 66, .ref 75, .ref 80, .ref 85, .ref 93, .ref 94, .int 1, .int 0]) kc_164_174 rfl rfl rfl ((eh5.2.1 0 (by decide)).trans ((eh4.2.1 0 (by decide)).trans ((eh3.2.1 0 (by decide)).trans ((eh2.2.1 0 (by decide)).trans ((eh1.2.1 0 (by decide)).trans (F 0 _ hl_0)))))) rfl rfl rfl (Nat.le_of_ble_eq_true rfl) rfl (fun hh6 eh6 => ?_)
                    refine xi_aload_n (pc' := 178) (x := 0) kc_164_177 rfl rfl ?_
                    refine xi_getfield (pc' := 181) (v := .int 1) kc_164_178 rfl rfl rfl eh6.1 rfl ?_
                    refine xi_iconst (pc' := 182) (v := 1) kc_164_181 rfl rfl ?_
                    refine xi_isub (pc' := 183) (v := 0) kc_164_182 rfl rfl ?_
                    refine xi_ireturn kc_164_183 mr_164 rfl ?_
                    show xw J ov 100 196 (1083, [(4, .int 0), (3, .ref 167), (2, .ref 115), (1, .ref 0), (0, .ref 1000000)], [.int 0], hh6) _
                    refine xi_aload_n (pc' := 1084) (x := 115) kc_196_1083 rfl rfl ?_
                    refine xi_aload_n (pc' := 1085) (x := 1000000) kc_196_1084 rfl rfl ?_
                    refine xi_iload (pc' := 1087) (x := 0) kc_196_1085 rfl rfl ?_
                    refine xi_iconst (pc' := 1088) (v := 1) kc_196_1087 rfl rfl ?_
                    refine xi_iadd (pc' := 1089) (v := 1) kc_196_1088 rfl rfl ?_
                    refine xi_ialoadO (pc' := 1090) (v := a1) kc_196_1089 rfl (by decide) hov0 (xi_in (n := 6) (by decide) (by decide)) rfl ?_
                    refine xi_aload_n (pc' := 1091) (x := 1000000) kc_196_1090 rfl rfl ?_
                    refine xi_iload (pc' := 1093) (x := 0) kc_196_1091 rfl rfl ?_
                    refine xi_iconst (pc' := 1094) (v := 2) kc_196_1093 rfl rfl ?_
                    refine xi_iadd (pc' := 1095) (v := 2) kc_196_1094 rfl rfl ?_
                    refine xi_ialoadO (pc' := 1096) (v := a2) kc_196_1095 rfl (by decide) hov0 (xi_in (n := 6) (by decide) (by decide)) rfl ?_
                    refine xi_aload_n (pc' := 1097) (x := 1000000) kc_196_1096 rfl rfl ?_
                    refine xi_iload (pc' := 1099) (x := 0) kc_196_1097 rfl rfl ?_
                    refine xi_iconst (pc' := 1100) (v := 3) kc_196_1099 rfl rfl ?_
                    refine xi_iadd (pc' := 1101) (v := 3) kc_196_1100 rfl rfl ?_
                    refine xi_ialoadO (pc' := 1102) (v := a3) kc_196_1101 rfl (by decide) hov0 (xi_in (n := 6) (by decide) (by decide)) rfl ?_
                    refine xi_aload_n (pc' := 1103) (x := 1000000) kc_196_1102 rfl rfl ?_
                    refine xi_iload (pc' := 1105) (x := 0) kc_196_1103 rfl rfl ?_
                    refine xi_iconst (pc' := 1106) (v := 4) kc_196_1105 rfl rfl ?_
                    refine xi_iadd (pc' := 1107) (v := 4) kc_196_1106 rfl rfl ?_
                    refine xi_ialoadO (pc' := 1108) (v := a4) kc_196_1107 rfl (by decide) hov0 (xi_in (n := 6) (by decide) (by decide)) rfl ?_
                    refine xi_aload_n (pc' := 1109) (x := 1000000) kc_196_1108 rfl rfl ?_
                    refine xi_iload (pc' := 1111) (x := 0) kc_196_1109 rfl rfl ?_
                    refine xi_iconst (pc' := 1112) (v := 5) kc_196_1111 rfl rfl ?_
                    refine xi_iadd (pc' := 1113) (v := 5) kc_196_1112 rfl rfl ?_
                    refine xi_ialoadO (pc' := 1114) (v := a5) kc_196_1113 rfl (by decide) hov0 (xi_in (n := 6) (by decide) (by decide)) rfl ?_
                    refine xi_virtual (mj := 62) (as := [.int a1, .int a2, .int a3, .int a4, .int a5]) (st1 := [.int 0]) (lv0 := [(0, .ref 115), (1, .int a1), (2, .int a2), (3, .int a3), (4, .int a4), (5, .int a5)]) kc_196_1114 rfl rfl rfl rfl rfl ((eh6.2.1 115 (by decide)).trans ((eh5.2.1 115 (by decide)).trans ((eh4.2.1 115 (by decide)).trans ((eh3.2.1 115 (by decide)).trans ((eh2.2.1 115 (by decide)).trans ((eh1.2.1 115 (by decide)).trans (F 115 _ hl_115))))))) (Nat.le_of_ble_eq_true rfl) (hJ _ _ _ _ (by decide)) (xm_le ml_62 rfl) rfl ?_
                    refine xi_aload_n (pc' := 1) (x := 115) kc_62_0 rfl rfl ?_
                    refine xi_iconst (pc' := 2) (v := 0) kc_62_1 rfl rfl ?_
                    refine xi_putfield (pc' := 5) (fs' := [.int 0, .int 0, .ref 116, .ref 117, .ref 118, .ref 119, .ref 120, .ref 121, .ref 122, .ref 123, .ref 124, .ref 125, .ref 126, .ref 127, .ref 128, .ref 129, .int 4, .ref 130, .int 0, .ref 131, .ref 132, .ref 133, .ref 134, .int 0, .ref 135, .ref 136, .ref 137, .ref 138, .ref 139, .ref 140, .ref 141, .ref 142, .int 0, .int 0, .int 0, .ref 143, .ref 144, .ref 145, .ref 146, .ref 147, .ref 148, .int 0, .ref 149, .ref 150, .ref 151, .int 0, .ref 152, .ref 153, .ref 154, .ref 155, .ref 156, .ref 157, .ref 158, .ref 159, .int 0, .ref 160, .int 0, .ref 161, .ref 162, .ref 163, .ref 164, .int 0, .ref 165, .ref 166]) kc_62_2 rfl rfl rfl ((eh6.2.1 115 (by decide)).trans ((eh5.2.1 115 (by decide)).trans ((eh4.2.1 115 (by decide)).trans ((eh3.2.1 115 (by decide)).trans ((eh2.2.1 115 (by decide)).trans ((eh1.2.1 115 (by decide)).trans (F 115 _ hl_115))))))) rfl rfl rfl (Nat.le_of_ble_eq_true rfl) rfl (fun hh7 eh7 => ?_)
                    refine xi_iload_n (pc' := 6) (x := a1) kc_62_5 rfl rfl ?_
                    refine xi_static (mj := 11) (as := [.int a1]) (st1 := []) (lv0 := [(0, .int a1)]) kc_62_6 rfl rfl (Nat.le_of_ble_eq_true rfl) rfl rfl (Nat.le_of_ble_eq_true rfl) (hJ _ _ _ _ (by decide)) (xm_le ml_11 rfl) rfl ?_
                    refine xi_iload_n (pc' := 1) (x := a1) kc_11_0 rfl rfl ?_
                    refine xi_iconst (pc' := 2) (v := 0) kc_11_1 rfl rfl ?_
                    refine xi_iconst (pc' := 3) (v := 5) kc_11_2 rfl rfl ?_
                    refine xi_static (mj := 12) (as := [.int a1, .int 0, .int 5]) (st1 := []) (lv0 := [(0, .int a1), (1, .int 0), (2, .int 5)]) kc_11_3 rfl rfl (Nat.le_of_ble_eq_true rfl) rfl rfl (Nat.le_of_ble_eq_true rfl) (hJ _ _ _ _ (by decide)) (xm_le ml_12 rfl) rfl ?_
                    refine xi_iload_n (pc' := 1) (x := a1) kc_12_0 rfl rfl ?_
                    refine xi_iload_n (pc' := 2) (x := 0) kc_12_1 rfl rfl ?_
                    refine xi_cmf (pc' := 5) kc_12_2 rfl (xc_lt_f (X := a1.toInt) (Y := 0) rfl (by decide) (by omega)) ?_
                    refine xi_iload_n (pc' := 6) (x := a1) kc_12_5 rfl rfl ?_
                    refine xi_iload_n (pc' := 7) (x := 5) kc_12_6 rfl rfl ?_
                    refine xi_cmf (pc' := 10) kc_12_7 rfl (xc_gt_f (X := a1.toInt) (Y := 5) rfl (by decide) (by omega)) ?_
                    refine xi_iconst (pc' := 11) (v := 1) kc_12_10 rfl rfl ?_
                    refine xi_goto (pc' := 15) kc_12_11 rfl ?_
                    refine xi_ireturn kc_12_15 mr_12 rfl ?_
                    show xw J ov 98 11 (6, [(0, .int a1)], [.int 1], hh7) _
                    refine xi_ireturn kc_11_6 mr_11 rfl ?_
                    show xw J ov 99 62 (9, [(0, .ref 115), (1, .int a1), (2, .int a2), (3, .int a3), (4, .int a4), (5, .int a5)], [.int 1], hh7) _
                    refine xi_ift (pc' := 18) kc_62_9 rfl rfl ?_
                    refine xi_iload_n (pc' := 19) (x := a2) kc_62_18 rfl rfl ?_
                    refine xi_iconst (pc' := 20) (v := 0) kc_62_19 rfl rfl ?_
                    refine xi_iconst (pc' := 21) (v := 1) kc_62_20 rfl rfl ?_
                    refine xi_static (mj := 12) (as := [.int a2, .int 0, .int 1]) (st1 := []) (lv0 := [(0, .int a2), (1, .int 0), (2, .int 1)]) kc_62_21 rfl rfl (Nat.le_of_ble_eq_true rfl) rfl rfl (Nat.le_of_ble_eq_true rfl) (hJ _ _ _ _ (by decide)) (xm_le ml_12 rfl) rfl ?_
                    refine xi_iload_n (pc' := 1) (x := a2) kc_12_0 rfl rfl ?_
                    refine xi_iload_n (pc' := 2) (x := 0) kc_12_1 rfl rfl ?_
                    refine xi_cmf (pc' := 5) kc_12_2 rfl (xc_lt_f (X := a2.toInt) (Y := 0) rfl (by decide) (by omega)) ?_
                    refine xi_iload_n (pc' := 6) (x := a2) kc_12_5 rfl rfl ?_
                    refine xi_iload_n (pc' := 7) (x := 1) kc_12_6 rfl rfl ?_
                    refine xi_cmf (pc' := 10) kc_12_7 rfl (xc_gt_f (X := a2.toInt) (Y := 1) rfl (by decide) (by omega)) ?_
                    refine xi_iconst (pc' := 11) (v := 1) kc_12_10 rfl rfl ?_
                    refine xi_goto (pc' := 15) kc_12_11 rfl ?_
                    refine xi_ireturn kc_12_15 mr_12 rfl ?_
                    show xw J ov 99 62 (24, [(0, .ref 115), (1, .int a1), (2, .int a2), (3, .int a3), (4, .int a4), (5, .int a5)], [.int 1], hh7) _
                    refine xi_ift (pc' := 34) kc_62_24 rfl rfl ?_
                    refine xi_iconst (pc' := 35) (v := 0) kc_62_34 rfl rfl ?_
                    refine xi_istore (pc' := 37) (lv' := [(6, .int 0), (0, .ref 115), (1, .int a1), (2, .int a2), (3, .int a3), (4, .int a4), (5, .int a5)]) kc_62_35 rfl rfl (xm_lt ml_62 rfl) ?_
                    refine xi_iload (pc' := 39) (x := 0) kc_62_37 rfl rfl ?_
                    refine xi_aload_n (pc' := 40) (x := 115) kc_62_39 rfl rfl ?_
                    refine xi_getfield (pc' := 43) (v := .int 0) kc_62_40 rfl rfl rfl eh7.1 rfl ?_
                    refine xi_cmt (pc' := 94) kc_62_43 rfl rfl ?_
                    refine xi_iload_n (pc' := 95) (x := a3) kc_62_94 rfl rfl ?_
                    refine xi_iff (pc' := 98) kc_62_95 rfl (xc_lt_f (X := a3.toInt) (Y := 0) rfl (by decide) (by omega)) ?_
                    refine xi_iload (pc' := 100) (x := a4) kc_62_98 rfl rfl ?_
                    refine xi_aload_n (pc' := 101) (x := 115) kc_62_100 rfl rfl ?_
                    refine xi_getfield (pc' := 104) (v := .int 0) kc_62_101 rfl rfl rfl eh7.1 rfl ?_
                    refine xi_cmf (pc' := 107) kc_62_104 rfl (xc_lt_f (X := a4.toInt) (Y := 0) rfl (by decide) (by omega)) ?_
                    refine xi_iload (pc' := 109) (x := a5) kc_62_107 rfl rfl ?_
                    refine xi_iload (pc' := 111) (x := a4) kc_62_109 rfl rfl ?_
                    refine xi_cmt (pc' := 121) kc_62_111 rfl (xc_gt_t (X := a5.toInt) (Y := a4.toInt) rfl rfl (by omega)) ?_
                    refine xi_iload (pc' := 123) (x := a5) kc_62_121 rfl rfl ?_
                    refine xi_sipush (pc' := 126) (v := 600) kc_62_123 rfl rfl ?_
                    refine xi_cmf (pc' := 129) kc_62_126 rfl (xc_gt_f (X := a5.toInt) (Y := 600) rfl (by decide) (by omega)) ?_
                    refine xi_iload_n (pc' := 130) (x := a3) kc_62_129 rfl rfl ?_
                    refine xi_bipush (pc' := 132) (v := 50) kc_62_130 rfl rfl ?_
                    refine xi_cmf (pc' := 135) kc_62_132 rfl (xc_gt_f (X := a3.toInt) (Y := 50) rfl (by decide) (by omega)) ?_
                    refine xi_aload_n (pc' := 136) (x := 115) kc_62_135 rfl rfl ?_
                    refine xi_getfield (pc' := 139) (v := .int 0) kc_62_136 rfl rfl rfl eh7.1 rfl ?_
                    refine xi_bipush (pc' := 141) (v := 20) kc_62_139 rfl rfl ?_
                    refine xi_cmt (pc' := 151) kc_62_141 rfl rfl ?_
                    refine xi_aload_n (pc' := 152) (x := 115) kc_62_151 rfl rfl ?_
                    refine xi_getfield (pc' := 155) (v := .ref 143) kc_62_152 rfl rfl rfl eh7.1 rfl ?_
                    refine xi_aload_n (pc' := 156) (x := 115) kc_62_155 rfl rfl ?_
                    refine xi_getfield (pc' := 159) (v := .int 0) kc_62_156 rfl rfl rfl eh7.1 rfl ?_
                    refine xi_iload_n (pc' := 160) (x := a1) kc_62_159 rfl rfl ?_
                    refine xi_iastore (pc' := 161) (x' := [a1, 0, 0, 0, 0, 0, 0, 0, 0, 0, 0, 0, 0, 0, 0, 0, 0, 0, 0, 0]) kc_62_160 rfl ((eh7.2.1 143 (by decide)).trans ((eh6.2.1 143 (by decide)).trans ((eh5.2.1 143 (by decide)).trans ((eh4.2.1 143 (by decide)).trans ((eh3.2.1 143 (by decide)).trans ((eh2.2.1 143 (by decide)).trans ((eh1.2.1 143 (by decide)).trans (F 143 _ hl_143)))))))) rfl (xi_in (n := 20) (by decide) (by decide)) rfl (fun hh8 eh8 => ?_)
                    refine xi_aload_n (pc' := 162) (x := 115) kc_62_161 rfl rfl ?_
                    refine xi_getfield (pc' := 165) (v := .ref 144) kc_62_162 rfl rfl rfl ((eh8.2.1 115 (by decide)).trans eh7.1) rfl ?_
                    refine xi_aload_n (pc' := 166) (x := 115) kc_62_165 rfl rfl ?_
                    refine xi_getfield (pc' := 169) (v := .int 0) kc_62_166 rfl rfl rfl ((eh8.2.1 115 (by decide)).trans eh7.1) rfl ?_
                    refine xi_iload_n (pc' := 170) (x := a2) kc_62_169 rfl rfl ?_
                    refine xi_iastore (pc' := 171) (x' := [a2, 0, 0, 0, 0, 0, 0, 0, 0, 0, 0, 0, 0, 0, 0, 0, 0, 0, 0, 0]) kc_62_170 rfl ((eh8.2.1 144 (by decide)).trans ((eh7.2.1 144 (by decide)).trans ((eh6.2.1 144 (by decide)).trans ((eh5.2.1 144 (by decide)).trans ((eh4.2.1 144 (by decide)).trans ((eh3.2.1 144 (by decide)).trans ((eh2.2.1 144 (by decide)).trans ((eh1.2.1 144 (by decide)).trans (F 144 _ hl_144))))))))) rfl (xi_in (n := 20) (by decide) (by decide)) rfl (fun hh9 eh9 => ?_)
                    refine xi_aload_n (pc' := 172) (x := 115) kc_62_171 rfl rfl ?_
                    refine xi_getfield (pc' := 175) (v := .ref 145) kc_62_172 rfl rfl rfl ((eh9.2.1 115 (by decide)).trans ((eh8.2.1 115 (by decide)).trans eh7.1)) rfl ?_
                    refine xi_aload_n (pc' := 176) (x := 115) kc_62_175 rfl rfl ?_
                    refine xi_getfield (pc' := 179) (v := .int 0) kc_62_176 rfl rfl rfl ((eh9.2.1 115 (by decide)).trans ((eh8.2.1 115 (by decide)).trans eh7.1)) rfl ?_
                    refine xi_iload_n (pc' := 180) (x := a3) kc_62_179 rfl rfl ?_
                    refine xi_iastore (pc' := 181) (x' := [a3, 0, 0, 0, 0, 0, 0, 0, 0, 0, 0, 0, 0, 0, 0, 0, 0, 0, 0, 0]) kc_62_180 rfl ((eh9.2.1 145 (by decide)).trans ((eh8.2.1 145 (by decide)).trans ((eh7.2.1 145 (by decide)).trans ((eh6.2.1 145 (by decide)).trans ((eh5.2.1 145 (by decide)).trans ((eh4.2.1 145 (by decide)).trans ((eh3.2.1 145 (by decide)).trans ((eh2.2.1 145 (by decide)).trans ((eh1.2.1 145 (by decide)).trans (F 145 _ hl_145)))))))))) rfl (xi_in (n := 20) (by decide) (by decide)) rfl (fun hh10 eh10 => ?_)
                    refine xi_aload_n (pc' := 182) (x := 115) kc_62_181 rfl rfl ?_
                    refine xi_getfield (pc' := 185) (v := .ref 146) kc_62_182 rfl rfl rfl ((eh10.2.1 115 (by decide)).trans ((eh9.2.1 115 (by decide)).trans ((eh8.2.1 115 (by decide)).trans eh7.1))) rfl ?_
                    refine xi_aload_n (pc' := 186) (x := 115) kc_62_185 rfl rfl ?_
                    refine xi_getfield (pc' := 189) (v := .int 0) kc_62_186 rfl rfl rfl ((eh10.2.1 115 (by decide)).trans ((eh9.2.1 115 (by decide)).trans ((eh8.2.1 115 (by decide)).trans eh7.1))) rfl ?_
                    refine xi_iload (pc' := 191) (x := a4) kc_62_189 rfl rfl ?_
                    refine xi_iastore (pc' := 192) (x' := [a4, 0, 0, 0, 0, 0, 0, 0, 0, 0, 0, 0, 0, 0, 0, 0, 0, 0, 0, 0]) kc_62_191 rfl ((eh10.2.1 146 (by decide)).trans ((eh9.2.1 146 (by decide)).trans ((eh8.2.1 146 (by decide)).trans ((eh7.2.1 146 (by decide)).trans ((eh6.2.1 146 (by decide)).trans ((eh5.2.1 146 (by decide)).trans ((eh4.2.1 146 (by decide)).trans ((eh3.2.1 146 (by decide)).trans ((eh2.2.1 146 (by decide)).trans ((eh1.2.1 146 (by decide)).trans (F 146 _ hl_146))))))))))) rfl (xi_in (n := 20) (by decide) (by decide)) rfl (fun hh11 eh11 => ?_)
                    refine xi_aload_n (pc' := 193) (x := 115) kc_62_192 rfl rfl ?_
                    refine xi_getfield (pc' := 196) (v := .ref 147) kc_62_193 rfl rfl rfl ((eh11.2.1 115 (by decide)).trans ((eh10.2.1 115 (by decide)).trans ((eh9.2.1 115 (by decide)).trans ((eh8.2.1 115 (by decide)).trans eh7.1)))) rfl ?_
                    refine xi_aload_n (pc' := 197) (x := 115) kc_62_196 rfl rfl ?_
                    refine xi_getfield (pc' := 200) (v := .int 0) kc_62_197 rfl rfl rfl ((eh11.2.1 115 (by decide)).trans ((eh10.2.1 115 (by decide)).trans ((eh9.2.1 115 (by decide)).trans ((eh8.2.1 115 (by decide)).trans eh7.1)))) rfl ?_
                    refine xi_iload (pc' := 202) (x := a5) kc_62_200 rfl rfl ?_
                    refine xi_iastore (pc' := 203) (x' := [a5, 0, 0, 0, 0, 0, 0, 0, 0, 0, 0, 0, 0, 0, 0, 0, 0, 0, 0, 0]) kc_62_202 rfl ((eh11.2.1 147 (by decide)).trans ((eh10.2.1 147 (by decide)).trans ((eh9.2.1 147 (by decide)).trans ((eh8.2.1 147 (by decide)).trans ((eh7.2.1 147 (by decide)).trans ((eh6.2.1 147 (by decide)).trans ((eh5.2.1 147 (by decide)).trans ((eh4.2.1 147 (by decide)).trans ((eh3.2.1 147 (by decide)).trans ((eh2.2.1 147 (by decide)).trans ((eh1.2.1 147 (by decide)).trans (F 147 _ hl_147)))))))))))) rfl (xi_in (n := 20) (by decide) (by decide)) rfl (fun hh12 eh12 => ?_)
                    refine xi_aload_n (pc' := 204) (x := 115) kc_62_203 rfl rfl ?_
                    refine xi_dup (pc' := 205) kc_62_204 rfl rfl ?_
                    refine xi_getfield (pc' := 208) (v := .int 0) kc_62_205 rfl rfl rfl ((eh12.2.1 115 (by decide)).trans ((eh11.2.1 115 (by decide)).trans ((eh10.2.1 115 (by decide)).trans ((eh9.2.1 115 (by decide)).trans ((eh8.2.1 115 (by decide)).trans eh7.1))))) rfl ?_
                    refine xi_iconst (pc' := 209) (v := 1) kc_62_208 rfl rfl ?_
                    refine xi_iadd (pc' := 210) (v := 1) kc_62_209 rfl rfl ?_
                    refine xi_putfield (pc' := 213) (fs' := [.int 0, .int 0, .ref 116, .ref 117, .ref 118, .ref 119, .ref 120, .ref 121, .ref 122, .ref 123, .ref 124, .ref 125, .ref 126, .ref 127, .ref 128, .ref 129, .int 4, .ref 130, .int 0, .ref 131, .ref 132, .ref 133, .ref 134, .int 0, .ref 135, .ref 136, .ref 137, .ref 138, .ref 139, .ref 140, .ref 141, .ref 142, .int 0, .int 0, .int 1, .ref 143, .ref 144, .ref 145, .ref 146, .ref 147, .ref 148, .int 0, .ref 149, .ref 150, .ref 151, .int 0, .ref 152, .ref 153, .ref 154, .ref 155, .ref 156, .ref 157, .ref 158, .ref 159, .int 0, .ref 160, .int 0, .ref 161, .ref 162, .ref 163, .ref 164, .int 0, .ref 165, .ref 166]) kc_62_210 rfl rfl rfl ((eh12.2.1 115 (by decide)).trans ((eh11.2.1 115 (by decide)).trans ((eh10.2.1 115 (by decide)).trans ((eh9.2.1 115 (by decide)).trans ((eh8.2.1 115 (by decide)).trans eh7.1))))) rfl rfl rfl (Nat.le_of_ble_eq_true rfl) rfl (fun hh13 eh13 => ?_)
                    refine xi_aload_n (pc' := 214) (x := 115) kc_62_213 rfl rfl ?_
                    refine xi_getfield (pc' := 217) (v := .int 1) kc_62_214 rfl rfl rfl eh13.1 rfl ?_
                    refine xi_iconst (pc' := 218) (v := 1) kc_62_217 rfl rfl ?_
                    refine xi_isub (pc' := 219) (v := 0) kc_62_218 rfl rfl ?_
                    refine xi_ireturn kc_62_219 mr_62 rfl ?_
                    show xw J ov 100 196 (1117, [(4, .int 0), (3, .ref 167), (2, .ref 115), (1, .ref 0), (0, .ref 1000000)], [.int 0, .int 0], hh13) _
                    refine xi_cmt (pc' := 1528) kc_196_1117 rfl rfl ?_
                    refine xi_iinc (pc' := 1531) (x := 0) (v := 6) (lv' := [(4, .int 6), (3, .ref 167), (2, .ref 115), (1, .ref 0), (0, .ref 1000000)]) kc_196_1528 rfl rfl rfl rfl (xm_lt ml_196 rfl) ?_
                    refine xi_goto (pc' := 23) kc_196_1531 rfl ?_
                    refine xi_iload (pc' := 25) (x := 6) kc_196_23 rfl rfl ?_
                    refine xi_aload_n (pc' := 26) (x := 1000000) kc_196_25 rfl rfl ?_
                    refine xi_arraylength (pc' := 27) (n := 6) (v := 6) kc_196_26 rfl (xl_lenO (by decide) hov0 rfl) rfl ?_
                    refine xi_bipush (pc' := 29) (v := 6) kc_196_27 rfl rfl ?_
                    refine xi_isub (pc' := 30) (v := 0) kc_196_29 rfl rfl ?_
                    refine xi_cmt (pc' := 1534) kc_196_30 rfl rfl ?_
                    refine xi_iconst (pc' := 1535) (v := 1) kc_196_1534 rfl rfl ?_
                    refine xi_ireturn kc_196_1535 mr_196 rfl ?_
                    refine ⟨rfl, ?_, ?_⟩
                    · rw [eh13.2.2.1, eh12.2.2.1, eh11.2.2.1, eh10.2.2.1, eh9.2.2.1, eh8.2.2.1, eh7.2.2.1, eh6.2.2.1, eh5.2.2.1, eh4.2.2.1, eh3.2.2.1, eh2.2.2.1, eh1.2.2.1]; exact hn0
                    · rw [eh13.2.2.2, eh12.2.2.2, eh11.2.2.2, eh10.2.2.2, eh9.2.2.2, eh8.2.2.2, eh7.2.2.2, eh6.2.2.2, eh5.2.2.2, eh4.2.2.2, eh3.2.2.2, eh2.2.2.2, eh1.2.2.2]; exact hz0
              · refine xi_cmf (pc' := 68) kc_164_65 rfl (xc_gt_f (X := a5.toInt) (Y := a4.toInt) rfl rfl (by omega)) ?_
                refine xi_aload_n (pc' := 69) (x := 0) kc_164_68 rfl rfl ?_
                refine xi_bipush (pc' := 71) (v := (-4)) kc_164_69 rfl rfl ?_
                refine xi_virtual (mj := 91) (as := [.int (-4)]) (st1 := []) (lv0 := [(0, .ref 0), (1, .int (-4))]) kc_164_71 rfl rfl rfl rfl rfl (F 0 _ hl_0) (Nat.le_of_ble_eq_true rfl) (hJ _ _ _ _ (by decide)) (xm_le ml_91 rfl) rfl ?_
                refine xi_iload_n (pc' := 1) (x := (-4)) kc_91_0 rfl rfl ?_
                refine xi_ineg (pc' := 2) (v := 4) kc_91_1 rfl rfl ?_
                refine xi_istore_n (pc' := 3) (lv' := [(2, .int 4), (0, .ref 0), (1, .int (-4))]) kc_91_2 rfl rfl (xm_lt ml_91 rfl) ?_
                refine xi_iload_n (pc' := 4) (x := 4) kc_91_3 rfl rfl ?_
                refine xi_iff (pc' := 7) kc_91_4 rfl rfl ?_
                refine xi_iload_n (pc' := 8) (x := 4) kc_91_7 rfl rfl ?_
                refine xi_aload_n (pc' := 9) (x := 0) kc_91_8 rfl rfl ?_
                refine xi_getfield (pc' := 12) (v := .ref 94) kc_91_9 rfl rfl rfl (F 0 _ hl_0) rfl ?_
                refine xi_arraylength (pc' := 13) (n := 7) (v := 7) kc_91_12 rfl (xl_lenI (by decide) (by decide) (F 94 _ hl_94) (by simp only [List.length_replicate, List.length_cons, List.length_nil])) rfl ?_
                refine xi_cmf (pc' := 16) kc_91_13 rfl rfl ?_
                refine xi_aload_n (pc' := 17) (x := 0) kc_91_16 rfl rfl ?_
                refine xi_getfield (pc' := 20) (v := .ref 94) kc_91_17 rfl rfl rfl (F 0 _ hl_0) rfl ?_
                refine xi_iload_n (pc' := 21) (x := 4) kc_91_20 rfl rfl ?_
                refine xi_dup2 (pc' := 22) kc_91_21 rfl ⟨rfl, rfl⟩ ?_
                refine xi_iaload (pc' := 23) (v := 0) kc_91_22 rfl (F 94 _ hl_94) (by decide) rfl (xi_in (n := 7) (by decide) (by decide)) rfl ?_
                refine xi_iconst (pc' := 24) (v := 1) kc_91_23 rfl rfl ?_
                refine xi_iadd (pc' := 25) (v := 1) kc_91_24 rfl rfl ?_
                refine xi_iastore (pc' := 26) (x' := [0, 0, 0, 0, 1, 0, 0]) kc_91_25 rfl (F 94 _ hl_94) rfl (xi_in (n := 7) (by decide) (by decide)) rfl (fun hh1 eh1 => ?_)
                refine xi_iload_n (pc' := 27) (x := (-4)) kc_91_26 rfl rfl ?_
                refine xi_ireturn kc_91_27 mr_91 rfl ?_
                show xw J ov 99 164 (74, [(0, .ref 0), (1, .int a1), (2, .int a2), (3, .int a3), (4, .int a4), (5, .int a5)], [.int (-4)], hh1) _
                refine xi_ireturn kc_164_74 mr_164 rfl ?_
                show xw J ov 100 196 (1083, [(4, .int 0), (3, .ref 167), (2, .ref 115), (1, .ref 0), (0, .ref 1000000)], [.int (-4)], hh1) _
                refine xi_aload_n (pc' := 1084) (x := 115) kc_196_1083 rfl rfl ?_
                refine xi_aload_n (pc' := 1085) (x := 1000000) kc_196_1084 rfl rfl ?_
                refine xi_iload (pc' := 1087) (x := 0) kc_196_1085 rfl rfl ?_
                refine xi_iconst (pc' := 1088) (v := 1) kc_196_1087 rfl rfl ?_
                refine xi_iadd (pc' := 1089) (v := 1) kc_196_1088 rfl rfl ?_
                refine xi_ialoadO (pc' := 1090) (v := a1) kc_196_1089 rfl (by decide) hov0 (xi_in (n := 6) (by decide) (by decide)) rfl ?_
                refine xi_aload_n (pc' := 1091) (x := 1000000) kc_196_1090 rfl rfl ?_
                refine xi_iload (pc' := 1093) (x := 0) kc_196_1091 rfl rfl ?_
                refine xi_iconst (pc' := 1094) (v := 2) kc_196_1093 rfl rfl ?_
                refine xi_iadd (pc' := 1095) (v := 2) kc_196_1094 rfl rfl ?_
                refine xi_ialoadO (pc' := 1096) (v := a2) kc_196_1095 rfl (by decide) hov0 (xi_in (n := 6) (by decide) (by decide)) rfl ?_
                refine xi_aload_n (pc' := 1097) (x := 1000000) kc_196_1096 rfl rfl ?_
                refine xi_iload (pc' := 1099) (x := 0) kc_196_1097 rfl rfl ?_
                refine xi_iconst (pc' := 1100) (v := 3) kc_196_1099 rfl rfl ?_
                refine xi_iadd (pc' := 1101) (v := 3) kc_196_1100 rfl rfl ?_
                refine xi_ialoadO (pc' := 1102) (v := a3) kc_196_1101 rfl (by decide) hov0 (xi_in (n := 6) (by decide) (by decide)) rfl ?_
                refine xi_aload_n (pc' := 1103) (x := 1000000) kc_196_1102 rfl rfl ?_
                refine xi_iload (pc' := 1105) (x := 0) kc_196_1103 rfl rfl ?_
                refine xi_iconst (pc' := 1106) (v := 4) kc_196_1105 rfl rfl ?_
                refine xi_iadd (pc' := 1107) (v := 4) kc_196_1106 rfl rfl ?_
                refine xi_ialoadO (pc' := 1108) (v := a4) kc_196_1107 rfl (by decide) hov0 (xi_in (n := 6) (by decide) (by decide)) rfl ?_
                refine xi_aload_n (pc' := 1109) (x := 1000000) kc_196_1108 rfl rfl ?_
                refine xi_iload (pc' := 1111) (x := 0) kc_196_1109 rfl rfl ?_
                refine xi_iconst (pc' := 1112) (v := 5) kc_196_1111 rfl rfl ?_
                refine xi_iadd (pc' := 1113) (v := 5) kc_196_1112 rfl rfl ?_
                refine xi_ialoadO (pc' := 1114) (v := a5) kc_196_1113 rfl (by decide) hov0 (xi_in (n := 6) (by decide) (by decide)) rfl ?_
                refine xi_virtual (mj := 62) (as := [.int a1, .int a2, .int a3, .int a4, .int a5]) (st1 := [.int (-4)]) (lv0 := [(0, .ref 115), (1, .int a1), (2, .int a2), (3, .int a3), (4, .int a4), (5, .int a5)]) kc_196_1114 rfl rfl rfl rfl rfl ((eh1.2.1 115 (by decide)).trans (F 115 _ hl_115)) (Nat.le_of_ble_eq_true rfl) (hJ _ _ _ _ (by decide)) (xm_le ml_62 rfl) rfl ?_
                refine xi_aload_n (pc' := 1) (x := 115) kc_62_0 rfl rfl ?_
                refine xi_iconst (pc' := 2) (v := 0) kc_62_1 rfl rfl ?_
                refine xi_putfield (pc' := 5) (fs' := [.int 0, .int 0, .ref 116, .ref 117, .ref 118, .ref 119, .ref 120, .ref 121, .ref 122, .ref 123, .ref 124, .ref 125, .ref 126, .ref 127, .ref 128, .ref 129, .int 4, .ref 130, .int 0, .ref 131, .ref 132, .ref 133, .ref 134, .int 0, .ref 135, .ref 136, .ref 137, .ref 138, .ref 139, .ref 140, .ref 141, .ref 142, .int 0, .int 0, .int 0, .ref 143, .ref 144, .ref 145, .ref 146, .ref 147, .ref 148, .int 0, .ref 149, .ref 150, .ref 151, .int 0, .ref 152, .ref 153, .ref 154, .ref 155, .ref 156, .ref 157, .ref 158, .ref 159, .int 0, .ref 160, .int 0, .ref 161, .ref 162, .ref 163, .ref 164, .int 0, .ref 165, .ref 166]) kc_62_2 rfl rfl rfl ((eh1.2.1 115 (by decide)).trans (F 115 _ hl_115)) rfl rfl rfl (Nat.le_of_ble_eq_true rfl) rfl (fun hh2 eh2 => ?_)
                refine xi_iload_n (pc' := 6) (x := a1) kc_62_5 rfl rfl ?_
                refine xi_static (mj := 11) (as := [.int a1]) (st1 := []) (lv0 := [(0, .int a1)]) kc_62_6 rfl rfl (Nat.le_of_ble_eq_true rfl) rfl rfl (Nat.le_of_ble_eq_true rfl) (hJ _ _ _ _ (by decide)) (xm_le ml_11 rfl) rfl ?_
                refine xi_iload_n (pc' := 1) (x := a1) kc_11_0 rfl rfl ?_
                refine xi_iconst (pc' := 2) (v := 0) kc_11_1 rfl rfl ?_
                refine xi_iconst (pc' := 3) (v := 5) kc_11_2 rfl rfl ?_
                refine xi_static (mj := 12) (as := [.int a1, .int 0, .int 5]) (st1 := []) (lv0 := [(0, .int a1), (1, .int 0), (2, .int 5)]) kc_11_3 rfl rfl (Nat.le_of_ble_eq_true rfl) rfl rfl (Nat.le_of_ble_eq_true rfl) (hJ _ _ _ _ (by decide)) (xm_le ml_12 rfl) rfl ?_
                refine xi_iload_n (pc' := 1) (x := a1) kc_12_0 rfl rfl ?_
                refine xi_iload_n (pc' := 2) (x := 0) kc_12_1 rfl rfl ?_
                refine xi_cmf (pc' := 5) kc_12_2 rfl (xc_lt_f (X := a1.toInt) (Y := 0) rfl (by decide) (by omega)) ?_
                refine xi_iload_n (pc' := 6) (x := a1) kc_12_5 rfl rfl ?_
                refine xi_iload_n (pc' := 7) (x := 5) kc_12_6 rfl rfl ?_
                refine xi_cmf (pc' := 10) kc_12_7 rfl (xc_gt_f (X := a1.toInt) (Y := 5) rfl (by decide) (by omega)) ?_
                refine xi_iconst (pc' := 11) (v := 1) kc_12_10 rfl rfl ?_
                refine xi_goto (pc' := 15) kc_12_11 rfl ?_
                refine xi_ireturn kc_12_15 mr_12 rfl ?_
                show xw J ov 98 11 (6, [(0, .int a1)], [.int 1], hh2) _
                refine xi_ireturn kc_11_6 mr_11 rfl ?_
                show xw J ov 99 62 (9, [(0, .ref 115), (1, .int a1), (2, .int a2), (3, .int a3), (4, .int a4), (5, .int a5)], [.int 1], hh2) _
                refine xi_ift (pc' := 18) kc_62_9 rfl rfl ?_
                refine xi_iload_n (pc' := 19) (x := a2) kc_62_18 rfl rfl ?_
                refine xi_iconst (pc' := 20) (v := 0) kc_62_19 rfl rfl ?_
                refine xi_iconst (pc' := 21) (v := 1) kc_62_20 rfl rfl ?_
                refine xi_static (mj := 12) (as := [.int a2, .int 0, .int 1]) (st1 := []) (lv0 := [(0, .int a2), (1, .int 0), (2, .int 1)]) kc_62_21 rfl rfl (Nat.le_of_ble_eq_true rfl) rfl rfl (Nat.le_of_ble_eq_true rfl) (hJ _ _ _ _ (by decide)) (xm_le ml_12 rfl) rfl ?_
                refine xi_iload_n (pc' := 1) (x := a2) kc_12_0 rfl rfl ?_
                refine xi_iload_n (pc' := 2) (x := 0) kc_12_1 rfl rfl ?_
                refine xi_cmf (pc' := 5) kc_12_2 rfl (xc_lt_f (X := a2.toInt) (Y := 0) rfl (by decide) (by omega)) ?_
                refine xi_iload_n (pc' := 6) (x := a2) kc_12_5 rfl rfl ?_
                refine xi_iload_n (pc' := 7) (x := 1) kc_12_6 rfl rfl ?_
                refine xi_cmf (pc' := 10) kc_12_7 rfl (xc_gt_f (X := a2.toInt) (Y := 1) rfl (by decide) (by omega)) ?_
                refine xi_iconst (pc' := 11) (v := 1) kc_12_10 rfl rfl ?_
                refine xi_goto (pc' := 15) kc_12_11 rfl ?_
                refine xi_ireturn kc_12_15 mr_12 rfl ?_
                show xw J ov 99 62 (24, [(0, .ref 115), (1, .int a1), (2, .int a2), (3, .int a3), (4, .int a4), (5, .int a5)], [.int 1], hh2) _
                refine xi_ift (pc' := 34) kc_62_24 rfl rfl ?_
                refine xi_iconst (pc' := 35) (v := 0) kc_62_34 rfl rfl ?_
                refine xi_istore (pc' := 37) (lv' := [(6, .int 0), (0, .ref 115), (1, .int a1), (2, .int a2), (3, .int a3), (4, .int a4), (5, .int a5)]) kc_62_35 rfl rfl (xm_lt ml_62 rfl) ?_
                refine xi_iload (pc' := 39) (x := 0) kc_62_37 rfl rfl ?_
                refine xi_aload_n (pc' := 40) (x := 115) kc_62_39 rfl rfl ?_
                refine xi_getfield (pc' := 43) (v := .int 0) kc_62_40 rfl rfl rfl eh2.1 rfl ?_
                refine xi_cmt (pc' := 94) kc_62_43 rfl rfl ?_
                refine xi_iload_n (pc' := 95) (x := a3) kc_62_94 rfl rfl ?_
                refine xi_iff (pc' := 98) kc_62_95 rfl (xc_lt_f (X := a3.toInt) (Y := 0) rfl (by decide) (by omega)) ?_
                refine xi_iload (pc' := 100) (x := a4) kc_62_98 rfl rfl ?_
                refine xi_aload_n (pc' := 101) (x := 115) kc_62_100 rfl rfl ?_
                refine xi_getfield (pc' := 104) (v := .int 0) kc_62_101 rfl rfl rfl eh2.1 rfl ?_
                refine xi_cmf (pc' := 107) kc_62_104 rfl (xc_lt_f (X := a4.toInt) (Y := 0) rfl (by decide) (by omega)) ?_
                refine xi_iload (pc' := 109) (x := a5) kc_62_107 rfl rfl ?_
                refine xi_iload (pc' := 111) (x := a4) kc_62_109 rfl rfl ?_
                refine xi_cmf (pc' := 114) kc_62_111 rfl (xc_gt_f (X := a5.toInt) (Y := a4.toInt) rfl rfl (by omega)) ?_
                refine xi_aload_n (pc' := 115) (x := 115) kc_62_114 rfl rfl ?_
                refine xi_bipush (pc' := 117) (v := (-4)) kc_62_115 rfl rfl ?_
                refine xi_virtual (mj := 13) (as := [.int (-4)]) (st1 := []) (lv0 := [(0, .ref 115), (1, .int (-4))]) kc_62_117 rfl rfl rfl rfl rfl eh2.1 (Nat.le_of_ble_eq_true rfl) (hJ _ _ _ _ (by decide)) (xm_le ml_13 rfl) rfl ?_
                refine xi_aload_n (pc' := 1) (x := 115) kc_13_0 rfl rfl ?_
                refine xi_getfield (pc' := 4) (v := .ref 140) kc_13_1 rfl rfl rfl eh2.1 rfl ?_
                refine xi_iload_n (pc' := 5) (x := (-4)) kc_13_4 rfl rfl ?_
                refine xi_ineg (pc' := 6) (v := 4) kc_13_5 rfl rfl ?_
                refine xi_dup2 (pc' := 7) kc_13_6 rfl ⟨rfl, rfl⟩ ?_
                refine xi_iaload (pc' := 8) (v := 0) kc_13_7 rfl ((eh2.2.1 140 (by decide)).trans ((eh1.2.1 140 (by decide)).trans (F 140 _ hl_140))) (by decide) rfl (xi_in (n := 7) (by decide) (by decide)) rfl ?_
                refine xi_iconst (pc' := 9) (v := 1) kc_13_8 rfl rfl ?_
                refine xi_iadd (pc' := 10) (v := 1) kc_13_9 rfl rfl ?_
                refine xi_iastore (pc' := 11) (x' := [0, 0, 0, 0, 1, 0, 0]) kc_13_10 rfl ((eh2.2.1 140 (by decide)).trans ((eh1.2.1 140 (by decide)).trans (F 140 _ hl_140))) rfl (xi_in (n := 7) (by decide) (by decide)) rfl (fun hh3 eh3 => ?_)
                refine xi_iload_n (pc' := 12) (x := (-4)) kc_13_11 rfl rfl ?_
                refine xi_ireturn kc_13_12 mr_13 rfl ?_
                show xw J ov 99 62 (120, [(6, .int 0), (0, .ref 115), (1, .int a1), (2, .int a2), (3, .int a3), (4, .int a4), (5, .int a5)], [.int (-4)], hh3) _
                refine xi_ireturn kc_62_120 mr_62 rfl ?_
                show xw J ov 100 196 (1117, [(4, .int 0), (3, .ref 167), (2, .ref 115), (1, .ref 0), (0, .ref 1000000)], [.int (-4), .int (-4)], hh3) _
                refine xi_cmt (pc' := 1528) kc_196_1117 rfl rfl ?_
                refine xi_iinc (pc' := 1531) (x := 0) (v := 6) (lv' := [(4, .int 6), (3, .ref 167), (2, .ref 115), (1, .ref 0), (0, .ref 1000000)]) kc_196_1528 rfl rfl rfl rfl (xm_lt ml_196 rfl) ?_
                refine xi_goto (pc' := 23) kc_196_1531 rfl ?_
                refine xi_iload (pc' := 25) (x := 6) kc_196_23 rfl rfl ?_
                refine xi_aload_n (pc' := 26) (x := 1000000) kc_196_25 rfl rfl ?_
                refine xi_arraylength (pc' := 27) (n := 6) (v := 6) kc_196_26 rfl (xl_lenO (by decide) hov0 rfl) rfl ?_
                refine xi_bipush (pc' := 29) (v := 6) kc_196_27 rfl rfl ?_
                refine xi_isub (pc' := 30) (v := 0) kc_196_29 rfl rfl ?_
                refine xi_cmt (pc' := 1534) kc_196_30 rfl rfl ?_
                refine xi_iconst (pc' := 1535) (v := 1) kc_196_1534 rfl rfl ?_
                refine xi_ireturn kc_196_1535 mr_196 rfl ?_
                refine ⟨rfl, ?_, ?_⟩
                · rw [eh3.2.2.1, eh2.2.2.1, eh1.2.2.1]; exact hn0
                · rw [eh3.2.2.2, eh2.2.2.2, eh1.2.2.2]; exact hz0
        · refine xi_cmf (pc' := 22) kc_164_19 rfl (xc_eq_f (X := a2.toInt) (Y := 1) rfl (by decide) (by omega)) ?_
          refine xi_aload_n (pc' := 23) (x := 0) kc_164_22 rfl rfl ?_
          refine xi_bipush (pc' := 25) (v := (-2)) kc_164_23 rfl rfl ?_
          refine xi_virtual (mj := 91) (as := [.int (-2)]) (st1 := []) (lv0 := [(0, .ref 0), (1, .int (-2))]) kc_164_25 rfl rfl rfl rfl rfl (F 0 _ hl_0) (Nat.le_of_ble_eq_true rfl) (hJ _ _ _ _ (by decide)) (xm_le ml_91 rfl) rfl ?_
          refine xi_iload_n (pc' := 1) (x := (-2)) kc_91_0 rfl rfl ?_
          refine xi_ineg (pc' := 2) (v := 2) kc_91_1 rfl rfl ?_
          refine xi_istore_n (pc' := 3) (lv' := [(2, .int 2), (0, .ref 0), (1, .int (-2))]) kc_91_2 rfl rfl (xm_lt ml_91 rfl) ?_
          refine xi_iload_n (pc' := 4) (x := 2) kc_91_3 rfl rfl ?_
          refine xi_iff (pc' := 7) kc_91_4 rfl rfl ?_
          refine xi_iload_n (pc' := 8) (x := 2) kc_91_7 rfl rfl ?_
          refine xi_aload_n (pc' := 9) (x := 0) kc_91_8 rfl rfl ?_
          refine xi_getfield (pc' := 12) (v := .ref 94) kc_91_9 rfl rfl rfl (F 0 _ hl_0) rfl ?_
          refine xi_arraylength (pc' := 13) (n := 7) (v := 7) kc_91_12 rfl (xl_lenI (by decide) (by decide) (F 94 _ hl_94) (by simp only [List.length_replicate, List.length_cons, List.length_nil])) rfl ?_
          refine xi_cmf (pc' := 16) kc_91_13 rfl rfl ?_
          refine xi_aload_n (pc' := 17) (x := 0) kc_91_16 rfl rfl ?_
          refine xi_getfield (pc' := 20) (v := .ref 94) kc_91_17 rfl rfl rfl (F 0 _ hl_0) rfl ?_
          refine xi_iload_n (pc' := 21) (x := 2) kc_91_20 rfl rfl ?_
          refine xi_dup2 (pc' := 22) kc_91_21 rfl ⟨rfl, rfl⟩ ?_
          refine xi_iaload (pc' := 23) (v := 0) kc_91_22 rfl (F 94 _ hl_94) (by decide) rfl (xi_in (n := 7) (by decide) (by decide)) rfl ?_
          refine xi_iconst (pc' := 24) (v := 1) kc_91_23 rfl rfl ?_
          refine xi_iadd (pc' := 25) (v := 1) kc_91_24 rfl rfl ?_
          refine xi_iastore (pc' := 26) (x' := [0, 0, 1, 0, 0, 0, 0]) kc_91_25 rfl (F 94 _ hl_94) rfl (xi_in (n := 7) (by decide) (by decide)) rfl (fun hh1 eh1 => ?_)
          refine xi_iload_n (pc' := 27) (x := (-2)) kc_91_26 rfl rfl ?_
          refine xi_ireturn kc_91_27 mr_91 rfl ?_
          show xw J ov 99 164 (28, [(0, .ref 0), (1, .int a1), (2, .int a2), (3, .int a3), (4, .int a4), (5, .int a5)], [.int (-2)], hh1) _
          refine xi_ireturn kc_164_28 mr_164 rfl ?_
          show xw J ov 100 196 (1083, [(4, .int 0), (3, .ref 167), (2, .ref 115), (1, .ref 0), (0, .ref 1000000)], [.int (-2)], hh1) _
          refine xi_aload_n (pc' := 1084) (x := 115) kc_196_1083 rfl rfl ?_
          refine xi_aload_n (pc' := 1085) (x := 1000000) kc_196_1084 rfl rfl ?_
          refine xi_iload (pc' := 1087) (x := 0) kc_196_1085 rfl rfl ?_
          refine xi_iconst (pc' := 1088) (v := 1) kc_196_1087 rfl rfl ?_
          refine xi_iadd (pc' := 1089) (v := 1) kc_196_1088 rfl rfl ?_
          refine xi_ialoadO (pc' := 1090) (v := a1) kc_196_1089 rfl (by decide) hov0 (xi_in (n := 6) (by decide) (by decide)) rfl ?_
          refine xi_aload_n (pc' := 1091) (x := 1000000) kc_196_1090 rfl rfl ?_
          refine xi_iload (pc' := 1093) (x := 0) kc_196_1091 rfl rfl ?_
          refine xi_iconst (pc' := 1094) (v := 2) kc_196_1093 rfl rfl ?_
          refine xi_iadd (pc' := 1095) (v := 2) kc_196_1094 rfl rfl ?_
          refine xi_ialoadO (pc' := 1096) (v := a2) kc_196_1095 rfl (by decide) hov0 (xi_in (n := 6) (by decide) (by decide)) rfl ?_
          refine xi_aload_n (pc' := 1097) (x := 1000000) kc_196_1096 rfl rfl ?_
          refine xi_iload (pc' := 1099) (x := 0) kc_196_1097 rfl rfl ?_
          refine xi_iconst (pc' := 1100) (v := 3) kc_196_1099 rfl rfl ?_
          refine xi_iadd (pc' := 1101) (v := 3) kc_196_1100 rfl rfl ?_
          refine xi_ialoadO (pc' := 1102) (v := a3) kc_196_1101 rfl (by decide) hov0 (xi_in (n := 6) (by decide) (by decide)) rfl ?_
          refine xi_aload_n (pc' := 1103) (x := 1000000) kc_196_1102 rfl rfl ?_
          refine xi_iload (pc' := 1105) (x := 0) kc_196_1103 rfl rfl ?_
          refine xi_iconst (pc' := 1106) (v := 4) kc_196_1105 rfl rfl ?_
          refine xi_iadd (pc' := 1107) (v := 4) kc_196_1106 rfl rfl ?_
          refine xi_ialoadO (pc' := 1108) (v := a4) kc_196_1107 rfl (by decide) hov0 (xi_in (n := 6) (by decide) (by decide)) rfl ?_
          refine xi_aload_n (pc' := 1109) (x := 1000000) kc_196_1108 rfl rfl ?_
          refine xi_iload (pc' := 1111) (x := 0) kc_196_1109 rfl rfl ?_
          refine xi_iconst (pc' := 1112) (v := 5) kc_196_1111 rfl rfl ?_
          refine xi_iadd (pc' := 1113) (v := 5) kc_196_1112 rfl rfl ?_
          refine xi_ialoadO (pc' := 1114) (v := a5) kc_196_1113 rfl (by decide) hov0 (xi_in (n := 6) (by decide) (by decide)) rfl ?_
          refine xi_virtual (mj := 62) (as := [.int a1, .int a2, .int a3, .int a4, .int a5]) (st1 := [.int (-2)]) (lv0 := [(0, .ref 115), (1, .int a1), (2, .int a2), (3, .int a3), (4, .int a4), (5, .int a5)]) kc_196_1114 rfl rfl rfl rfl rfl ((eh1.2.1 115 (by decide)).trans (F 115 _ hl_115)) (Nat.le_of_ble_eq_true rfl) (hJ _ _ _ _ (by decide)) (xm_le ml_62 rfl) rfl ?_
          refine xi_aload_n (pc' := 1) (x := 115) kc_62_0 rfl rfl ?_
          refine xi_iconst (pc' := 2) (v := 0) kc_62_1 rfl rfl ?_
          refine xi_putfield (pc' := 5) (fs' := [.int 0, .int 0, .ref 116, .ref 117, .ref 118, .ref 119, .ref 120, .ref 121, .ref 122, .ref 123, .ref 124, .ref 125, .ref 126, .ref 127, .ref 128, .ref 129, .int 4, .ref 130, .int 0, .ref 131, .ref 132, .ref 133, .ref 134, .int 0, .ref 135, .ref 136, .ref 137, .ref 138, .ref 139, .ref 140, .ref 141, .ref 142, .int 0, .int 0, .int 0, .ref 143, .ref 144, .ref 145, .ref 146, .ref 147, .ref 148, .int 0, .ref 149, .ref 150, .ref 151, .int 0, .ref 152, .ref 153, .ref 154, .ref 155, .ref 156, .ref 157, .ref 158, .ref 159, .int 0, .ref 160, .int 0, .ref 161, .ref 162, .ref 163, .ref 164, .int 0, .ref 165, .ref 166]) kc_62_2 rfl rfl rfl ((eh1.2.1 115 (by decide)).trans (F 115 _ hl_115)) rfl rfl rfl (Nat.le_of_ble_eq_true rfl) rfl (fun hh2 eh2 => ?_)
          refine xi_iload_n (pc' := 6) (x := a1) kc_62_5 rfl rfl ?_
          refine xi_static (mj := 11) (as := [.int a1]) (st1 := []) (lv0 := [(0, .int a1)]) kc_62_6 rfl rfl (Nat.le_of_ble_eq_true rfl) rfl rfl (Nat.le_of_ble_eq_true rfl) (hJ _ _ _ _ (by decide)) (xm_le ml_11 rfl) rfl ?_
          refine xi_iload_n (pc' := 1) (x := a1) kc_11_0 rfl rfl ?_
          refine xi_iconst (pc' := 2) (v := 0) kc_11_1 rfl rfl ?_
          refine xi_iconst (pc' := 3) (v := 5) kc_11_2 rfl rfl ?_
          refine xi_static (mj := 12) (as := [.int a1, .int 0, .int 5]) (st1 := []) (lv0 := [(0, .int a1), (1, .int 0), (2, .int 5)]) kc_11_3 rfl rfl (Nat.le_of_ble_eq_true rfl) rfl rfl (Nat.le_of_ble_eq_true rfl) (hJ _ _ _ _ (by decide)) (xm_le ml_12 rfl) rfl ?_
          refine xi_iload_n (pc' := 1) (x := a1) kc_12_0 rfl rfl ?_
          refine xi_iload_n (pc' := 2) (x := 0) kc_12_1 rfl rfl ?_
          refine xi_cmf (pc' := 5) kc_12_2 rfl (xc_lt_f (X := a1.toInt) (Y := 0) rfl (by decide) (by omega)) ?_
          refine xi_iload_n (pc' := 6) (x := a1) kc_12_5 rfl rfl ?_
          refine xi_iload_n (pc' := 7) (x := 5) kc_12_6 rfl rfl ?_
          refine xi_cmf (pc' := 10) kc_12_7 rfl (xc_gt_f (X := a1.toInt) (Y := 5) rfl (by decide) (by omega)) ?_
          refine xi_iconst (pc' := 11) (v := 1) kc_12_10 rfl rfl ?_
          refine xi_goto (pc' := 15) kc_12_11 rfl ?_
          refine xi_ireturn kc_12_15 mr_12 rfl ?_
          show xw J ov 98 11 (6, [(0, .int a1)], [.int 1], hh2) _
          refine xi_ireturn kc_11_6 mr_11 rfl ?_
          show xw J ov 99 62 (9, [(0, .ref 115), (1, .int a1), (2, .int a2), (3, .int a3), (4, .int a4), (5, .int a5)], [.int 1], hh2) _
          refine xi_ift (pc' := 18) kc_62_9 rfl rfl ?_
          refine xi_iload_n (pc' := 19) (x := a2) kc_62_18 rfl rfl ?_
          refine xi_iconst (pc' := 20) (v := 0) kc_62_19 rfl rfl ?_
          refine xi_iconst (pc' := 21) (v := 1) kc_62_20 rfl rfl ?_
          refine xi_static (mj := 12) (as := [.int a2, .int 0, .int 1]) (st1 := []) (lv0 := [(0, .int a2), (1, .int 0), (2, .int 1)]) kc_62_21 rfl rfl (Nat.le_of_ble_eq_true rfl) rfl rfl (Nat.le_of_ble_eq_true rfl) (hJ _ _ _ _ (by decide)) (xm_le ml_12 rfl) rfl ?_
          refine xi_iload_n (pc' := 1) (x := a2) kc_12_0 rfl rfl ?_
          refine xi_iload_n (pc' := 2) (x := 0) kc_12_1 rfl rfl ?_
          by_cases c17 : a2.toInt < 0
          · refine xi_cmt (pc' := 14) kc_12_2 rfl (xc_lt_t (X := a2.toInt) (Y := 0) rfl (by decide) (by omega)) ?_
            refine xi_iconst (pc' := 15) (v := 0) kc_12_14 rfl rfl ?_
            refine xi_ireturn kc_12_15 mr_12 rfl ?_
            show xw J ov 99 62 (24, [(0, .ref 115), (1, .int a1), (2, .int a2), (3, .int a3), (4, .int a4), (5, .int a5)], [.int 0], hh2) _
            refine xi_iff (pc' := 27) kc_62_24 rfl rfl ?_
            refine xi_aload_n (pc' := 28) (x := 115) kc_62_27 rfl rfl ?_
            refine xi_bipush (pc' := 30) (v := (-2)) kc_62_28 rfl rfl ?_
            refine xi_virtual (mj := 13) (as := [.int (-2)]) (st1 := []) (lv0 := [(0, .ref 115), (1, .int (-2))]) kc_62_30 rfl rfl rfl rfl rfl eh2.1 (Nat.le_of_ble_eq_true rfl) (hJ _ _ _ _ (by decide)) (xm_le ml_13 rfl) rfl ?_
            refine xi_aload_n (pc' := 1) (x := 115) kc_13_0 rfl rfl ?_
            refine xi_getfield (pc' := 4) (v := .ref 140) kc_13_1 rfl rfl rfl eh2.1 rfl ?_
            refine xi_iload_n (pc' := 5) (x := (-2)) kc_13_4 rfl rfl ?_
            refine xi_ineg (pc' := 6) (v := 2) kc_13_5 rfl rfl ?_
            refine xi_dup2 (pc' := 7) kc_13_6 rfl ⟨rfl, rfl⟩ ?_
            refine xi_iaload (pc' := 8) (v := 0) kc_13_7 rfl ((eh2.2.1 140 (by decide)).trans ((eh1.2.1 140 (by decide)).trans (F 140 _ hl_140))) (by decide) rfl (xi_in (n := 7) (by decide) (by decide)) rfl ?_
            refine xi_iconst (pc' := 9) (v := 1) kc_13_8 rfl rfl ?_
            refine xi_iadd (pc' := 10) (v := 1) kc_13_9 rfl rfl ?_
            refine xi_iastore (pc' := 11) (x' := [0, 0, 1, 0, 0, 0, 0]) kc_13_10 rfl ((eh2.2.1 140 (by decide)).trans ((eh1.2.1 140 (by decide)).trans (F 140 _ hl_140))) rfl (xi_in (n := 7) (by decide) (by decide)) rfl (fun hh3 eh3 => ?_)
            refine xi_iload_n (pc' := 12) (x := (-2)) kc_13_11 rfl rfl ?_
            refine xi_ireturn kc_13_12 mr_13 rfl ?_
            show xw J ov 99 62 (33, [(0, .ref 115), (1, .int a1), (2, .int a2), (3, .int a3), (4, .int a4), (5, .int a5)], [.int (-2)], hh3) _
            refine xi_ireturn kc_62_33 mr_62 rfl ?_
            show xw J ov 100 196 (1117, [(4, .int 0), (3, .ref 167), (2, .ref 115), (1, .ref 0), (0, .ref 1000000)], [.int (-2), .int (-2)], hh3) _
            refine xi_cmt (pc' := 1528) kc_196_1117 rfl rfl ?_
            refine xi_iinc (pc' := 1531) (x := 0) (v := 6) (lv' := [(4, .int 6), (3, .ref 167), (2, .ref 115), (1, .ref 0), (0, .ref 1000000)]) kc_196_1528 rfl rfl rfl rfl (xm_lt ml_196 rfl) ?_
            refine xi_goto (pc' := 23) kc_196_1531 rfl ?_
            refine xi_iload (pc' := 25) (x := 6) kc_196_23 rfl rfl ?_
            refine xi_aload_n (pc' := 26) (x := 1000000) kc_196_25 rfl rfl ?_
            refine xi_arraylength (pc' := 27) (n := 6) (v := 6) kc_196_26 rfl (xl_lenO (by decide) hov0 rfl) rfl ?_
            refine xi_bipush (pc' := 29) (v := 6) kc_196_27 rfl rfl ?_
            refine xi_isub (pc' := 30) (v := 0) kc_196_29 rfl rfl ?_
            refine xi_cmt (pc' := 1534) kc_196_30 rfl rfl ?_
            refine xi_iconst (pc' := 1535) (v := 1) kc_196_1534 rfl rfl ?_
            refine xi_ireturn kc_196_1535 mr_196 rfl ?_
            refine ⟨rfl, ?_, ?_⟩
            · rw [eh3.2.2.1, eh2.2.2.1, eh1.2.2.1]; exact hn0
            · rw [eh3.2.2.2, eh2.2.2.2, eh1.2.2.2]; exact hz0
          · refine xi_cmf (pc' := 5) kc_12_2 rfl (xc_lt_f (X := a2.toInt) (Y := 0) rfl (by decide) (by omega)) ?_
            refine xi_iload_n (pc' := 6) (x := a2) kc_12_5 rfl rfl ?_
            refine xi_iload_n (pc' := 7) (x := 1) kc_12_6 rfl rfl ?_
            refine xi_cmt (pc' := 14) kc_12_7 rfl (xc_gt_t (X := a2.toInt) (Y := 1) rfl (by decide) (by omega)) ?_
            refine xi_iconst (pc' := 15) (v := 0) kc_12_14 rfl rfl ?_
            refine xi_ireturn kc_12_15 mr_12 rfl ?_
            show xw J ov 99 62 (24, [(0, .ref 115), (1, .int a1), (2, .int a2), (3, .int a3), (4, .int a4), (5, .int a5)], [.int 0], hh2) _
            refine xi_iff (pc' := 27) kc_62_24 rfl rfl ?_
            refine xi_aload_n (pc' := 28) (x := 115) kc_62_27 rfl rfl ?_
            refine xi_bipush (pc' := 30) (v := (-2)) kc_62_28 rfl rfl ?_
            refine xi_virtual (mj := 13) (as := [.int (-2)]) (st1 := []) (lv0 := [(0, .ref 115), (1, .int (-2))]) kc_62_30 rfl rfl rfl rfl rfl eh2.1 (Nat.le_of_ble_eq_true rfl) (hJ _ _ _ _ (by decide)) (xm_le ml_13 rfl) rfl ?_
            refine xi_aload_n (pc' := 1) (x := 115) kc_13_0 rfl rfl ?_
            refine xi_getfield (pc' := 4) (v := .ref 140) kc_13_1 rfl rfl rfl eh2.1 rfl ?_
            refine xi_iload_n (pc' := 5) (x := (-2)) kc_13_4 rfl rfl ?_
            refine xi_ineg (pc' := 6) (v := 2) kc_13_5 rfl rfl ?_
            refine xi_dup2 (pc' := 7) kc_13_6 rfl ⟨rfl, rfl⟩ ?_
            refine xi_iaload (pc' := 8) (v := 0) kc_13_7 rfl ((eh2.2.1 140 (by decide)).trans ((eh1.2.1 140 (by decide)).trans (F 140 _ hl_140))) (by decide) rfl (xi_in (n := 7) (by decide) (by decide)) rfl ?_
            refine xi_iconst (pc' := 9) (v := 1) kc_13_8 rfl rfl ?_
            refine xi_iadd (pc' := 10) (v := 1) kc_13_9 rfl rfl ?_
            refine xi_iastore (pc' := 11) (x' := [0, 0, 1, 0, 0, 0, 0]) kc_13_10 rfl ((eh2.2.1 140 (by decide)).trans ((eh1.2.1 140 (by decide)).trans (F 140 _ hl_140))) rfl (xi_in (n := 7) (by decide) (by decide)) rfl (fun hh3 eh3 => ?_)
            refine xi_iload_n (pc' := 12) (x := (-2)) kc_13_11 rfl rfl ?_
            refine xi_ireturn kc_13_12 mr_13 rfl ?_
            show xw J ov 99 62 (33, [(0, .ref 115), (1, .int a1), (2, .int a2), (3, .int a3), (4, .int a4), (5, .int a5)], [.int (-2)], hh3) _
            refine xi_ireturn kc_62_33 mr_62 rfl ?_
            show xw J ov 100 196 (1117, [(4, .int 0), (3, .ref 167), (2, .ref 115), (1, .ref 0), (0, .ref 1000000)], [.int (-2), .int (-2)], hh3) _
            refine xi_cmt (pc' := 1528) kc_196_1117 rfl rfl ?_
            refine xi_iinc (pc' := 1531) (x := 0) (v := 6) (lv' := [(4, .int 6), (3, .ref 167), (2, .ref 115), (1, .ref 0), (0, .ref 1000000)]) kc_196_1528 rfl rfl rfl rfl (xm_lt ml_196 rfl) ?_
            refine xi_goto (pc' := 23) kc_196_1531 rfl ?_
            refine xi_iload (pc' := 25) (x := 6) kc_196_23 rfl rfl ?_
            refine xi_aload_n (pc' := 26) (x := 1000000) kc_196_25 rfl rfl ?_
            refine xi_arraylength (pc' := 27) (n := 6) (v := 6) kc_196_26 rfl (xl_lenO (by decide) hov0 rfl) rfl ?_
            refine xi_bipush (pc' := 29) (v := 6) kc_196_27 rfl rfl ?_
            refine xi_isub (pc' := 30) (v := 0) kc_196_29 rfl rfl ?_
            refine xi_cmt (pc' := 1534) kc_196_30 rfl rfl ?_
            refine xi_iconst (pc' := 1535) (v := 1) kc_196_1534 rfl rfl ?_
            refine xi_ireturn kc_196_1535 mr_196 rfl ?_
            refine ⟨rfl, ?_, ?_⟩
            · rw [eh3.2.2.1, eh2.2.2.1, eh1.2.2.1]; exact hn0
            · rw [eh3.2.2.2, eh2.2.2.2, eh1.2.2.2]; exact hz0
