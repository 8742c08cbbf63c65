set_option maxHeartbeats 8000000 in
theorem lc_23 {J : xe_J} {ov : List (List Int32)} (hJ : ∀ d mj as h, mj ≠ xe_loff → J d mj as h = none) (hov1 : ov[1]? = some [10, 0, 0, 0, 0, 0]) (hov2 : ov[2]? = some [99, 30, 50, 50, 1, 99999]) {xs : List Int32} (hov0 : ov[0]? = some xs) {Q : Option Value → xe_H → Prop} {h : xe_H} {x4 : Int32} (hi0 : 0 ≤ x4.toInt) (hi1 : x4.toInt + 6 ≤ xs.length) (hi2 : x4.toInt ≤ 3066) (T : xt h) (I : xI h) (kk : ∀ (i : Int32) (h' : xe_H), i.toInt = x4.toInt + 6 → xk xP_36 h h' → xI h' → xw J ov 100 195 (23, [(4, .int i), (3, .ref 167), (2, .ref 115), (1, .ref 0), (0, .ref 1000000)], [], h') Q) : xw J ov 100 195 (1022, [(4, .int x4), (3, .ref 167), (2, .ref 115), (1, .ref 0), (0, .ref 1000000)], [], h) Q := by
  have K : xk xP_36 h h := xk_re T
  have KR : xk xP_27 h h := xk_re T
  obtain ⟨u1, u2, bu1, bu2, A3⟩ := xq_0 K.1
  obtain ⟨u4, u5, u6, u7, u8, u9, u10, u11, u12, u13, u14, u15, u16, bu4, bu5, bu6, bu7, bu8, bu9, bu10, bu11, bu12, bu13, bu14, bu15, bu16, A17⟩ := xq_115 K.1
  have ee0 : u2 = u5 := xl_eqf I.1 A3 A17 rfl rfl
  subst ee0
  have ee23 : u1 = u11 := xl_eqf I.2.2.2.2.2.2.2.2.2.2.2.2.2.2.2.2.2.2.2.2.2.2.2.1 A3 A17 rfl rfl
  subst ee23
  have ITS := I.2.2.2.2.2.2.2.2.2.2.2.2.2.2.2.2.2.2.2.2.2.2.2.2.2.2.2.2.1
  refine xi_aload_n (pc' := 1023) (x := 0) kc_195_1022 rfl rfl ?_
  refine xi_aload_n (pc' := 1024) (x := 1000000) kc_195_1023 rfl rfl ?_
  refine xi_iload (pc' := 1026) (x := x4) kc_195_1024 rfl rfl ?_
  refine xi_iconst (pc' := 1027) (v := 1) kc_195_1026 rfl rfl ?_
  obtain ⟨v18, ev18⟩ : ∃ q : Int32, x4 + 1 = q := ⟨_, rfl⟩
  have zv18 : v18.toInt = (x4.toInt + 1) := by rw [← ev18]; exact (xz_add (X := x4.toInt) (Y := 1) rfl (by decide) (by omega) (by omega)).trans (by omega)
  refine xi_iadd (pc' := 1028) (v := v18) kc_195_1027 rfl ev18 ?_
  obtain ⟨a19, ea19⟩ : ∃ q : Int32, xs.getD (Int32.toNatClampNeg v18) 0 = q := ⟨_, rfl⟩
  have ra19 := xc_rng a19
  refine xi_ialoadO (pc' := 1029) (v := a19) kc_195_1028 rfl (by decide) hov0 (xi_in (by omega) (by omega)) ea19 ?_
  refine xi_aload_n (pc' := 1030) (x := 1000000) kc_195_1029 rfl rfl ?_
  refine xi_iload (pc' := 1032) (x := x4) kc_195_1030 rfl rfl ?_
  refine xi_iconst (pc' := 1033) (v := 2) kc_195_1032 rfl rfl ?_
  obtain ⟨v20, ev20⟩ : ∃ q : Int32, x4 + 2 = q := ⟨_, rfl⟩
  have zv20 : v20.toInt = (x4.toInt + 2) := by rw [← ev20]; exact (xz_add (X := x4.toInt) (Y := 2) rfl (by decide) (by omega) (by omega)).trans (by omega)
  refine xi_iadd (pc' := 1034) (v := v20) kc_195_1033 rfl ev20 ?_
  obtain ⟨a21, ea21⟩ : ∃ q : Int32, xs.getD (Int32.toNatClampNeg v20) 0 = q := ⟨_, rfl⟩
  have ra21 := xc_rng a21
  refine xi_ialoadO (pc' := 1035) (v := a21) kc_195_1034 rfl (by decide) hov0 (xi_in (by omega) (by omega)) ea21 ?_
  refine xi_aload_n (pc' := 1036) (x := 1000000) kc_195_1035 rfl rfl ?_
  refine xi_iload (pc' := 1038) (x := x4) kc_195_1036 rfl rfl ?_
  refine xi_iconst (pc' := 1039) (v := 3) kc_195_1038 rfl rfl ?_
  obtain ⟨v22, ev22⟩ : ∃ q : Int32, x4 + 3 = q := ⟨_, rfl⟩
  have zv22 : v22.toInt = (x4.toInt + 3) := by rw [← ev22]; exact (xz_add (X := x4.toInt) (Y := 3) rfl (by decide) (by omega) (by omega)).trans (by omega)
  refine xi_iadd (pc' := 1040) (v := v22) kc_195_1039 rfl ev22 ?_
  obtain ⟨a23, ea23⟩ : ∃ q : Int32, xs.getD (Int32.toNatClampNeg v22) 0 = q := ⟨_, rfl⟩
  have ra23 := xc_rng a23
  refine xi_ialoadO (pc' := 1041) (v := a23) kc_195_1040 rfl (by decide) hov0 (xi_in (by omega) (by omega)) ea23 ?_
  refine xi_aload_n (pc' := 1042) (x := 1000000) kc_195_1041 rfl rfl ?_
  refine xi_iload (pc' := 1044) (x := x4) kc_195_1042 rfl rfl ?_
  refine xi_iconst (pc' := 1045) (v := 4) kc_195_1044 rfl rfl ?_
  obtain ⟨v24, ev24⟩ : ∃ q : Int32, x4 + 4 = q := ⟨_, rfl⟩
  have zv24 : v24.toInt = (x4.toInt + 4) := by rw [← ev24]; exact (xz_add (X := x4.toInt) (Y := 4) rfl (by decide) (by omega) (by omega)).trans (by omega)
  refine xi_iadd (pc' := 1046) (v := v24) kc_195_1045 rfl ev24 ?_
  obtain ⟨a25, ea25⟩ : ∃ q : Int32, xs.getD (Int32.toNatClampNeg v24) 0 = q := ⟨_, rfl⟩
  have ra25 := xc_rng a25
  refine xi_ialoadO (pc' := 1047) (v := a25) kc_195_1046 rfl (by decide) hov0 (xi_in (by omega) (by omega)) ea25 ?_
  refine xi_aload_n (pc' := 1048) (x := 1000000) kc_195_1047 rfl rfl ?_
  refine xi_iload (pc' := 1050) (x := x4) kc_195_1048 rfl rfl ?_
  refine xi_iconst (pc' := 1051) (v := 5) kc_195_1050 rfl rfl ?_
  obtain ⟨v26, ev26⟩ : ∃ q : Int32, x4 + 5 = q := ⟨_, rfl⟩
  have zv26 : v26.toInt = (x4.toInt + 5) := by rw [← ev26]; exact (xz_add (X := x4.toInt) (Y := 5) rfl (by decide) (by omega) (by omega)).trans (by omega)
  refine xi_iadd (pc' := 1052) (v := v26) kc_195_1051 rfl ev26 ?_
  obtain ⟨a27, ea27⟩ : ∃ q : Int32, xs.getD (Int32.toNatClampNeg v26) 0 = q := ⟨_, rfl⟩
  have ra27 := xc_rng a27
  refine xi_ialoadO (pc' := 1053) (v := a27) kc_195_1052 rfl (by decide) hov0 (xi_in (by omega) (by omega)) ea27 ?_
  refine xi_virtual (mj := 163) (as := [.int a19, .int a21, .int a23, .int a25, .int a27]) (st1 := []) (lv0 := [(0, .ref 0), (1, .int a19), (2, .int a21), (3, .int a23), (4, .int a25), (5, .int a27)]) kc_195_1053 rfl rfl rfl rfl rfl A3 (Nat.le_of_ble_eq_true rfl) (hJ _ _ _ _ (by decide)) (xm_le ml_163 rfl) rfl ?_
  refine xi_iload_n (pc' := 1) (x := a19) kc_163_0 rfl rfl ?_
  refine xi_static (mj := 89) (as := [.int a19]) (st1 := []) (lv0 := [(0, .int a19)]) kc_163_1 rfl rfl (Nat.le_of_ble_eq_true rfl) rfl rfl (Nat.le_of_ble_eq_true rfl) (hJ _ _ _ _ (by decide)) (xm_le ml_89 rfl) rfl ?_
  refine xi_iload_n (pc' := 1) (x := a19) kc_89_0 rfl rfl ?_
  by_cases c28 : a19.toInt < 0
  · refine xi_ift (pc' := 14) kc_89_1 rfl (xc_lt_t (X := a19.toInt) (Y := 0) rfl (by decide) (by omega)) ?_
    refine xi_iconst (pc' := 15) (v := 0) kc_89_14 rfl rfl ?_
    refine xi_ireturn kc_89_15 mr_89 rfl ?_
    show xw J ov 99 163 (4, [(0, .ref 0), (1, .int a19), (2, .int a21), (3, .int a23), (4, .int a25), (5, .int a27)], [.int 0], h) _
    refine xi_iff (pc' := 7) kc_163_4 rfl rfl ?_
    refine xi_aload_n (pc' := 8) (x := 0) kc_163_7 rfl rfl ?_
    refine xi_iconst (pc' := 9) (v := (-1)) kc_163_8 rfl rfl ?_
    refine xi_virtual (mj := 90) (as := [.int (-1)]) (st1 := []) (lv0 := [(0, .ref 0), (1, .int (-1))]) kc_163_9 rfl rfl rfl rfl rfl A3 (Nat.le_of_ble_eq_true rfl) (hJ _ _ _ _ (by decide)) (xm_le ml_90 rfl) rfl ?_
    refine xi_iload_n (pc' := 1) (x := (-1)) kc_90_0 rfl rfl ?_
    refine xi_ineg (pc' := 2) (v := 1) kc_90_1 rfl rfl ?_
    refine xi_istore_n (pc' := 3) (lv' := [(2, .int 1), (0, .ref 0), (1, .int (-1))]) kc_90_2 rfl rfl (xm_lt ml_90 rfl) ?_
    refine xi_iload_n (pc' := 4) (x := 1) kc_90_3 rfl rfl ?_
    refine xi_iff (pc' := 7) kc_90_4 rfl rfl ?_
    refine xi_iload_n (pc' := 8) (x := 1) kc_90_7 rfl rfl ?_
    refine xi_aload_n (pc' := 9) (x := 0) kc_90_8 rfl rfl ?_
    refine xi_getfield (pc' := 12) (v := .ref 94) kc_90_9 rfl rfl rfl A3 rfl ?_
    obtain ⟨y29, A29, hy29, ry29⟩ := xk_arr K.1 xD_94
    refine xi_arraylength (pc' := 13) (n := 7) (v := 7) kc_90_12 rfl (xl_lenI (by decide) (by decide) A29 hy29) rfl ?_
    refine xi_cmf (pc' := 16) kc_90_13 rfl rfl ?_
    refine xi_aload_n (pc' := 17) (x := 0) kc_90_16 rfl rfl ?_
    refine xi_getfield (pc' := 20) (v := .ref 94) kc_90_17 rfl rfl rfl A3 rfl ?_
    refine xi_iload_n (pc' := 21) (x := 1) kc_90_20 rfl rfl ?_
    refine xi_dup2 (pc' := 22) kc_90_21 rfl ⟨rfl, rfl⟩ ?_
    obtain ⟨v30, ev30, bv30, dv30⟩ := xj_get hy29 ry29 (i := 1) (by decide) (by decide)
    refine xi_iaload (pc' := 23) (v := v30) kc_90_22 rfl A29 (by decide) rfl (xi_in (by decide) (by rw [hy29]; decide)) ev30 ?_
    refine xi_iconst (pc' := 24) (v := 1) kc_90_23 rfl rfl ?_
    obtain ⟨v31, ev31⟩ : ∃ q : Int32, (v30 : Int32) + 1 = q := ⟨_, rfl⟩
    have rv31 := xc_rng v31
    refine xi_iadd (pc' := 25) (v := v31) kc_90_24 rfl ev31 ?_
    obtain ⟨y32, s32, hy32, ry32⟩ := xj_set (v := v31) hy29 ry29 1 (by first | omega | decide) (by first | omega | decide)
    refine xi_iastore (pc' := 26) (x' := y32) kc_90_25 rfl A29 rfl (xi_in (by decide) (by rw [hy29]; decide)) s32 (fun hh32 eh32 => ?_)
    have K33 := xk_pa K (xk_wa (by decide +kernel)) xD_94 hy32 ry32 eh32
    have KR34 := xk_pa KR (xk_wa (by decide +kernel)) xD_94 hy32 ry32 eh32
    refine xi_iload_n (pc' := 27) (x := (-1)) kc_90_26 rfl rfl ?_
    refine xi_ireturn kc_90_27 mr_90 rfl ?_
    show xw J ov 99 163 (12, [(0, .ref 0), (1, .int a19), (2, .int a21), (3, .int a23), (4, .int a25), (5, .int a27)], [.int (-1)], hh32) _
    refine xi_ireturn kc_163_12 mr_163 rfl ?_
    show xw J ov 100 195 (1056, [(4, .int x4), (3, .ref 167), (2, .ref 115), (1, .ref 0), (0, .ref 1000000)], [.int (-1)], hh32) _
    refine xi_pop (pc' := 1057) kc_195_1056 rfl rfl ?_
    refine xi_aload_n (pc' := 1058) (x := 115) kc_195_1057 rfl rfl ?_
    refine xi_aload_n (pc' := 1059) (x := 1000000) kc_195_1058 rfl rfl ?_
    refine xi_iload (pc' := 1061) (x := x4) kc_195_1059 rfl rfl ?_
    refine xi_iconst (pc' := 1062) (v := 1) kc_195_1061 rfl rfl ?_
    refine xi_iadd (pc' := 1063) (v := v18) kc_195_1062 rfl ev18 ?_
    refine xi_ialoadO (pc' := 1064) (v := a19) kc_195_1063 rfl (by decide) hov0 (xi_in (by omega) (by omega)) ea19 ?_
    refine xi_aload_n (pc' := 1065) (x := 1000000) kc_195_1064 rfl rfl ?_
    refine xi_iload (pc' := 1067) (x := x4) kc_195_1065 rfl rfl ?_
    refine xi_iconst (pc' := 1068) (v := 2) kc_195_1067 rfl rfl ?_
    refine xi_iadd (pc' := 1069) (v := v20) kc_195_1068 rfl ev20 ?_
    refine xi_ialoadO (pc' := 1070) (v := a21) kc_195_1069 rfl (by decide) hov0 (xi_in (by omega) (by omega)) ea21 ?_
    refine xi_aload_n (pc' := 1071) (x := 1000000) kc_195_1070 rfl rfl ?_
    refine xi_iload (pc' := 1073) (x := x4) kc_195_1071 rfl rfl ?_
    refine xi_iconst (pc' := 1074) (v := 3) kc_195_1073 rfl rfl ?_
    refine xi_iadd (pc' := 1075) (v := v22) kc_195_1074 rfl ev22 ?_
    refine xi_ialoadO (pc' := 1076) (v := a23) kc_195_1075 rfl (by decide) hov0 (xi_in (by omega) (by omega)) ea23 ?_
    refine xi_aload_n (pc' := 1077) (x := 1000000) kc_195_1076 rfl rfl ?_
    refine xi_iload (pc' := 1079) (x := x4) kc_195_1077 rfl rfl ?_
    refine xi_iconst (pc' := 1080) (v := 4) kc_195_1079 rfl rfl ?_
    refine xi_iadd (pc' := 1081) (v := v24) kc_195_1080 rfl ev24 ?_
    refine xi_ialoadO (pc' := 1082) (v := a25) kc_195_1081 rfl (by decide) hov0 (xi_in (by omega) (by omega)) ea25 ?_
    refine xi_aload_n (pc' := 1083) (x := 1000000) kc_195_1082 rfl rfl ?_
    refine xi_iload (pc' := 1085) (x := x4) kc_195_1083 rfl rfl ?_
    refine xi_iconst (pc' := 1086) (v := 5) kc_195_1085 rfl rfl ?_
    refine xi_iadd (pc' := 1087) (v := v26) kc_195_1086 rfl ev26 ?_
    refine xi_ialoadO (pc' := 1088) (v := a27) kc_195_1087 rfl (by decide) hov0 (xi_in (by omega) (by omega)) ea27 ?_
    have A35 := ((eh32.2.1 115 (by decide)).trans A17)
    refine xi_virtual (mj := 61) (as := [.int a19, .int a21, .int a23, .int a25, .int a27]) (st1 := []) (lv0 := [(0, .ref 115), (1, .int a19), (2, .int a21), (3, .int a23), (4, .int a25), (5, .int a27)]) kc_195_1088 rfl rfl rfl rfl rfl A35 (Nat.le_of_ble_eq_true rfl) (hJ _ _ _ _ (by decide)) (xm_le ml_61 rfl) rfl ?_
    refine xi_aload_n (pc' := 1) (x := 115) kc_61_0 rfl rfl ?_
    refine xi_iconst (pc' := 2) (v := 0) kc_61_1 rfl rfl ?_
    refine xi_putfield (pc' := 5) (fs' := [.int 0, .int u2, .ref 116, .ref 117, .ref 118, .ref 119, .ref 120, .ref 121, .ref 122, .ref 123, .ref 124, .ref 125, .ref 126, .ref 127, .ref 128, .ref 129, .int u6, .ref 130, .int u7, .ref 131, .ref 132, .ref 133, .ref 134, .int u8, .ref 135, .ref 136, .ref 137, .ref 138, .ref 139, .ref 140, .ref 141, .ref 142, .int u9, .int u10, .int u1, .ref 143, .ref 144, .ref 145, .ref 146, .ref 147, .ref 148, .int u12, .ref 149, .ref 150, .ref 151, .int u13, .ref 152, .ref 153, .ref 154, .ref 155, .ref 156, .ref 157, .ref 158, .ref 159, .int u14, .ref 160, .int u15, .ref 161, .ref 162, .ref 163, .ref 164, .int u16, .ref 165, .ref 166]) kc_61_2 rfl rfl rfl A35 rfl rfl rfl (Nat.le_of_ble_eq_true rfl) rfl (fun hh37 eh36 => ?_)
    have K38 := xk_pf (k := 0) (v := 0) K33 (xk_wf (by decide +kernel)) xD_115 A35 rfl (by first | omega | decide) (by first | omega | decide) eh36 rfl
    have KR39 := xk_pf (k := 0) (v := 0) KR34 (xk_wf (by decide +kernel)) xD_115 A35 rfl (by first | omega | decide) (by first | omega | decide) eh36 rfl
    refine xi_iload_n (pc' := 6) (x := a19) kc_61_5 rfl rfl ?_
    refine xi_static (mj := 10) (as := [.int a19]) (st1 := []) (lv0 := [(0, .int a19)]) kc_61_6 rfl rfl (Nat.le_of_ble_eq_true rfl) rfl rfl (Nat.le_of_ble_eq_true rfl) (hJ _ _ _ _ (by decide)) (xm_le ml_10 rfl) rfl ?_
    refine xi_iload_n (pc' := 1) (x := a19) kc_10_0 rfl rfl ?_
    refine xi_iconst (pc' := 2) (v := 0) kc_10_1 rfl rfl ?_
    refine xi_iconst (pc' := 3) (v := 5) kc_10_2 rfl rfl ?_
    refine xi_static (mj := 11) (as := [.int a19, .int 0, .int 5]) (st1 := []) (lv0 := [(0, .int a19), (1, .int 0), (2, .int 5)]) kc_10_3 rfl rfl (Nat.le_of_ble_eq_true rfl) rfl rfl (Nat.le_of_ble_eq_true rfl) (hJ _ _ _ _ (by decide)) (xm_le ml_11 rfl) rfl ?_
    refine xi_iload_n (pc' := 1) (x := a19) kc_11_0 rfl rfl ?_
    refine xi_iload_n (pc' := 2) (x := 0) kc_11_1 rfl rfl ?_
    refine xi_cmt (pc' := 14) kc_11_2 rfl (xc_lt_t (X := a19.toInt) (Y := 0) rfl (by decide) (by omega)) ?_
    refine xi_iconst (pc' := 15) (v := 0) kc_11_14 rfl rfl ?_
    refine xi_ireturn kc_11_15 mr_11 rfl ?_
    show xw J ov 98 10 (6, [(0, .int a19)], [.int 0], hh37) _
    refine xi_ireturn kc_10_6 mr_10 rfl ?_
    show xw J ov 99 61 (9, [(0, .ref 115), (1, .int a19), (2, .int a21), (3, .int a23), (4, .int a25), (5, .int a27)], [.int 0], hh37) _
    refine xi_iff (pc' := 12) kc_61_9 rfl rfl ?_
    refine xi_aload_n (pc' := 13) (x := 115) kc_61_12 rfl rfl ?_
    refine xi_iconst (pc' := 14) (v := (-1)) kc_61_13 rfl rfl ?_
    refine xi_virtual (mj := 12) (as := [.int (-1)]) (st1 := []) (lv0 := [(0, .ref 115), (1, .int (-1))]) kc_61_14 rfl rfl rfl rfl rfl eh36.1 (Nat.le_of_ble_eq_true rfl) (hJ _ _ _ _ (by decide)) (xm_le ml_12 rfl) rfl ?_
    refine xi_aload_n (pc' := 1) (x := 115) kc_12_0 rfl rfl ?_
    refine xi_getfield (pc' := 4) (v := .ref 140) kc_12_1 rfl rfl rfl eh36.1 rfl ?_
    refine xi_iload_n (pc' := 5) (x := (-1)) kc_12_4 rfl rfl ?_
    refine xi_ineg (pc' := 6) (v := 1) kc_12_5 rfl rfl ?_
    refine xi_dup2 (pc' := 7) kc_12_6 rfl ⟨rfl, rfl⟩ ?_
    obtain ⟨y40, A40, hy40, ry40⟩ := xk_arr K.1 xD_140
    obtain ⟨v41, ev41, bv41, dv41⟩ := xj_get hy40 ry40 (i := 1) (by decide) (by decide)
    have A42 := ((eh36.2.1 140 (by decide)).trans ((eh32.2.1 140 (by decide)).trans A40))
    refine xi_iaload (pc' := 8) (v := v41) kc_12_7 rfl A42 (by decide) rfl (xi_in (by decide) (by rw [hy40]; decide)) ev41 ?_
    refine xi_iconst (pc' := 9) (v := 1) kc_12_8 rfl rfl ?_
    obtain ⟨v43, ev43⟩ : ∃ q : Int32, (v41 : Int32) + 1 = q := ⟨_, rfl⟩
    have rv43 := xc_rng v43
    refine xi_iadd (pc' := 10) (v := v43) kc_12_9 rfl ev43 ?_
    obtain ⟨y44, s44, hy44, ry44⟩ := xj_set (v := v43) hy40 ry40 1 (by first | omega | decide) (by first | omega | decide)
    refine xi_iastore (pc' := 11) (x' := y44) kc_12_10 rfl A42 rfl (xi_in (by decide) (by rw [hy40]; decide)) s44 (fun hh44 eh44 => ?_)
    have K45 := xk_pa K38 (xk_wa (by decide +kernel)) xD_140 hy44 ry44 eh44
    have KR46 := xk_pa KR39 (xk_wa (by decide +kernel)) xD_140 hy44 ry44 eh44
    refine xi_iload_n (pc' := 12) (x := (-1)) kc_12_11 rfl rfl ?_
    refine xi_ireturn kc_12_12 mr_12 rfl ?_
    show xw J ov 99 61 (17, [(0, .ref 115), (1, .int a19), (2, .int a21), (3, .int a23), (4, .int a25), (5, .int a27)], [.int (-1)], hh44) _
    refine xi_ireturn kc_61_17 mr_61 rfl ?_
    show xw J ov 100 195 (1091, [(4, .int x4), (3, .ref 167), (2, .ref 115), (1, .ref 0), (0, .ref 1000000)], [.int (-1)], hh44) _
    refine xi_pop (pc' := 1092) kc_195_1091 rfl rfl ?_
    refine xi_goto (pc' := 1501) kc_195_1092 rfl ?_
    obtain ⟨v47, ev47⟩ : ∃ q : Int32, x4 + 6 = q := ⟨_, rfl⟩
    have zv47 : v47.toInt = (x4.toInt + 6) := by rw [← ev47]; exact (xz_add (X := x4.toInt) (Y := 6) rfl (by decide) (by omega) (by omega)).trans (by omega)
    refine xi_iinc (pc' := 1504) (x := x4) (v := v47) (lv' := [(4, .int v47), (3, .ref 167), (2, .ref 115), (1, .ref 0), (0, .ref 1000000)]) kc_195_1501 rfl rfl ev47 rfl (xm_lt ml_195 rfl) ?_
    refine xi_goto (pc' := 23) kc_195_1504 rfl ?_
    exact kk v47 hh44 (by omega) K45 (xI_kept I KR46.2.1)
  · refine xi_iff (pc' := 4) kc_89_1 rfl (xc_lt_f (X := a19.toInt) (Y := 0) rfl (by decide) (by omega)) ?_
    refine xi_iload_n (pc' := 5) (x := a19) kc_89_4 rfl rfl ?_
    refine xi_bipush (pc' := 7) (v := 6) kc_89_5 rfl rfl ?_
    by_cases c48 : 6 ≤ a19.toInt
    · refine xi_cmt (pc' := 14) kc_89_7 rfl (xc_ge_t (X := a19.toInt) (Y := 6) rfl (by decide) (by omega)) ?_
      refine xi_iconst (pc' := 15) (v := 0) kc_89_14 rfl rfl ?_
      refine xi_ireturn kc_89_15 mr_89 rfl ?_
      show xw J ov 99 163 (4, [(0, .ref 0), (1, .int a19), (2, .int a21), (3, .int a23), (4, .int a25), (5, .int a27)], [.int 0], h) _
      refine xi_iff (pc' := 7) kc_163_4 rfl rfl ?_
      refine xi_aload_n (pc' := 8) (x := 0) kc_163_7 rfl rfl ?_
      refine xi_iconst (pc' := 9) (v := (-1)) kc_163_8 rfl rfl ?_
      refine xi_virtual (mj := 90) (as := [.int (-1)]) (st1 := []) (lv0 := [(0, .ref 0), (1, .int (-1))]) kc_163_9 rfl rfl rfl rfl rfl A3 (Nat.le_of_ble_eq_true rfl) (hJ _ _ _ _ (by decide)) (xm_le ml_90 rfl) rfl ?_
      refine xi_iload_n (pc' := 1) (x := (-1)) kc_90_0 rfl rfl ?_
      refine xi_ineg (pc' := 2) (v := 1) kc_90_1 rfl rfl ?_
      refine xi_istore_n (pc' := 3) (lv' := [(2, .int 1), (0, .ref 0), (1, .int (-1))]) kc_90_2 rfl rfl (xm_lt ml_90 rfl) ?_
      refine xi_iload_n (pc' := 4) (x := 1) kc_90_3 rfl rfl ?_
      refine xi_iff (pc' := 7) kc_90_4 rfl rfl ?_
      refine xi_iload_n (pc' := 8) (x := 1) kc_90_7 rfl rfl ?_
      refine xi_aload_n (pc' := 9) (x := 0) kc_90_8 rfl rfl ?_
      refine xi_getfield (pc' := 12) (v := .ref 94) kc_90_9 rfl rfl rfl A3 rfl ?_
      obtain ⟨y49, A49, hy49, ry49⟩ := xk_arr K.1 xD_94
      refine xi_arraylength (pc' := 13) (n := 7) (v := 7) kc_90_12 rfl (xl_lenI (by decide) (by decide) A49 hy49) rfl ?_
      refine xi_cmf (pc' := 16) kc_90_13 rfl rfl ?_
      refine xi_aload_n (pc' := 17) (x := 0) kc_90_16 rfl rfl ?_
      refine xi_getfield (pc' := 20) (v := .ref 94) kc_90_17 rfl rfl rfl A3 rfl ?_
      refine xi_iload_n (pc' := 21) (x := 1) kc_90_20 rfl rfl ?_
      refine xi_dup2 (pc' := 22) kc_90_21 rfl ⟨rfl, rfl⟩ ?_
      obtain ⟨v50, ev50, bv50, dv50⟩ := xj_get hy49 ry49 (i := 1) (by decide) (by decide)
      refine xi_iaload (pc' := 23) (v := v50) kc_90_22 rfl A49 (by decide) rfl (xi_in (by decide) (by rw [hy49]; decide)) ev50 ?_
      refine xi_iconst (pc' := 24) (v := 1) kc_90_23 rfl rfl ?_
      obtain ⟨v51, ev51⟩ : ∃ q : Int32, (v50 : Int32) + 1 = q := ⟨_, rfl⟩
      have rv51 := xc_rng v51
      refine xi_iadd (pc' := 25) (v := v51) kc_90_24 rfl ev51 ?_
      obtain ⟨y52, s52, hy52, ry52⟩ := xj_set (v := v51) hy49 ry49 1 (by first | omega | decide) (by first | omega | decide)
      refine xi_iastore (pc' := 26) (x' := y52) kc_90_25 rfl A49 rfl (xi_in (by decide) (by rw [hy49]; decide)) s52 (fun hh52 eh52 => ?_)
      have K53 := xk_pa K (xk_wa (by decide +kernel)) xD_94 hy52 ry52 eh52
      have KR54 := xk_pa KR (xk_wa (by decide +kernel)) xD_94 hy52 ry52 eh52
      refine xi_iload_n (pc' := 27) (x := (-1)) kc_90_26 rfl rfl ?_
      refine xi_ireturn kc_90_27 mr_90 rfl ?_
      show xw J ov 99 163 (12, [(0, .ref 0), (1, .int a19), (2, .int a21), (3, .int a23), (4, .int a25), (5, .int a27)], [.int (-1)], hh52) _
      refine xi_ireturn kc_163_12 mr_163 rfl ?_
      show xw J ov 100 195 (1056, [(4, .int x4), (3, .ref 167), (2, .ref 115), (1, .ref 0), (0, .ref 1000000)], [.int (-1)], hh52) _
      refine xi_pop (pc' := 1057) kc_195_1056 rfl rfl ?_
      refine xi_aload_n (pc' := 1058) (x := 115) kc_195_1057 rfl rfl ?_
      refine xi_aload_n (pc' := 1059) (x := 1000000) kc_195_1058 rfl rfl ?_
      refine xi_iload (pc' := 1061) (x := x4) kc_195_1059 rfl rfl ?_
      refine xi_iconst (pc' := 1062) (v := 1) kc_195_1061 rfl rfl ?_
      refine xi_iadd (pc' := 1063) (v := v18) kc_195_1062 rfl ev18 ?_
      refine xi_ialoadO (pc' := 1064) (v := a19) kc_195_1063 rfl (by decide) hov0 (xi_in (by omega) (by omega)) ea19 ?_
      refine xi_aload_n (pc' := 1065) (x := 1000000) kc_195_1064 rfl rfl ?_
      refine xi_iload (pc' := 1067) (x := x4) kc_195_1065 rfl rfl ?_
      refine xi_iconst (pc' := 1068) (v := 2) kc_195_1067 rfl rfl ?_
      refine xi_iadd (pc' := 1069) (v := v20) kc_195_1068 rfl ev20 ?_
      refine xi_ialoadO (pc' := 1070) (v := a21) kc_195_1069 rfl (by decide) hov0 (xi_in (by omega) (by omega)) ea21 ?_
      refine xi_aload_n (pc' := 1071) (x := 1000000) kc_195_1070 rfl rfl ?_
      refine xi_iload (pc' := 1073) (x := x4) kc_195_1071 rfl rfl ?_
      refine xi_iconst (pc' := 1074) (v := 3) kc_195_1073 rfl rfl ?_
      refine xi_iadd (pc' := 1075) (v := v22) kc_195_1074 rfl ev22 ?_
      refine xi_ialoadO (pc' := 1076) (v := a23) kc_195_1075 rfl (by decide) hov0 (xi_in (by omega) (by omega)) ea23 ?_
      refine xi_aload_n (pc' := 1077) (x := 1000000) kc_195_1076 rfl rfl ?_
      refine xi_iload (pc' := 1079) (x := x4) kc_195_1077 rfl rfl ?_
      refine xi_iconst (pc' := 1080) (v := 4) kc_195_1079 rfl rfl ?_
      refine xi_iadd (pc' := 1081) (v := v24) kc_195_1080 rfl ev24 ?_
      refine xi_ialoadO (pc' := 1082) (v := a25) kc_195_1081 rfl (by decide) hov0 (xi_in (by omega) (by omega)) ea25 ?_
      refine xi_aload_n (pc' := 1083) (x := 1000000) kc_195_1082 rfl rfl ?_
      refine xi_iload (pc' := 1085) (x := x4) kc_195_1083 rfl rfl ?_
      refine xi_iconst (pc' := 1086) (v := 5) kc_195_1085 rfl rfl ?_
      refine xi_iadd (pc' := 1087) (v := v26) kc_195_1086 rfl ev26 ?_
      refine xi_ialoadO (pc' := 1088) (v := a27) kc_195_1087 rfl (by decide) hov0 (xi_in (by omega) (by omega)) ea27 ?_
      have A55 := ((eh52.2.1 115 (by decide)).trans A17)
      refine xi_virtual (mj := 61) (as := [.int a19, .int a21, .int a23, .int a25, .int a27]) (st1 := []) (lv0 := [(0, .ref 115), (1, .int a19), (2, .int a21), (3, .int a23), (4, .int a25), (5, .int a27)]) kc_195_1088 rfl rfl rfl rfl rfl A55 (Nat.le_of_ble_eq_true rfl) (hJ _ _ _ _ (by decide)) (xm_le ml_61 rfl) rfl ?_
      refine xi_aload_n (pc' := 1) (x := 115) kc_61_0 rfl rfl ?_
      refine xi_iconst (pc' := 2) (v := 0) kc_61_1 rfl rfl ?_
      refine xi_putfield (pc' := 5) (fs' := [.int 0, .int u2, .ref 116, .ref 117, .ref 118, .ref 119, .ref 120, .ref 121, .ref 122, .ref 123, .ref 124, .ref 125, .ref 126, .ref 127, .ref 128, .ref 129, .int u6, .ref 130, .int u7, .ref 131, .ref 132, .ref 133, .ref 134, .int u8, .ref 135, .ref 136, .ref 137, .ref 138, .ref 139, .ref 140, .ref 141, .ref 142, .int u9, .int u10, .int u1, .ref 143, .ref 144, .ref 145, .ref 146, .ref 147, .ref 148, .int u12, .ref 149, .ref 150, .ref 151, .int u13, .ref 152, .ref 153, .ref 154, .ref 155, .ref 156, .ref 157, .ref 158, .ref 159, .int u14, .ref 160, .int u15, .ref 161, .ref 162, .ref 163, .ref 164, .int u16, .ref 165, .ref 166]) kc_61_2 rfl rfl rfl A55 rfl rfl rfl (Nat.le_of_ble_eq_true rfl) rfl (fun hh57 eh56 => ?_)
      have K58 := xk_pf (k := 0) (v := 0) K53 (xk_wf (by decide +kernel)) xD_115 A55 rfl (by first | omega | decide) (by first | omega | decide) eh56 rfl
      have KR59 := xk_pf (k := 0) (v := 0) KR54 (xk_wf (by decide +kernel)) xD_115 A55 rfl (by first | omega | decide) (by first | omega | decide) eh56 rfl
      refine xi_iload_n (pc' := 6) (x := a19) kc_61_5 rfl rfl ?_
      refine xi_static (mj := 10) (as := [.int a19]) (st1 := []) (lv0 := [(0, .int a19)]) kc_61_6 rfl rfl (Nat.le_of_ble_eq_true rfl) rfl rfl (Nat.le_of_ble_eq_true rfl) (hJ _ _ _ _ (by decide)) (xm_le ml_10 rfl) rfl ?_
      refine xi_iload_n (pc' := 1) (x := a19) kc_10_0 rfl rfl ?_
      refine xi_iconst (pc' := 2) (v := 0) kc_10_1 rfl rfl ?_
      refine xi_iconst (pc' := 3) (v := 5) kc_10_2 rfl rfl ?_
      refine xi_static (mj := 11) (as := [.int a19, .int 0, .int 5]) (st1 := []) (lv0 := [(0, .int a19), (1, .int 0), (2, .int 5)]) kc_10_3 rfl rfl (Nat.le_of_ble_eq_true rfl) rfl rfl (Nat.le_of_ble_eq_true rfl) (hJ _ _ _ _ (by decide)) (xm_le ml_11 rfl) rfl ?_
      refine xi_iload_n (pc' := 1) (x := a19) kc_11_0 rfl rfl ?_
      refine xi_iload_n (pc' := 2) (x := 0) kc_11_1 rfl rfl ?_
      refine xi_cmf (pc' := 5) kc_11_2 rfl (xc_lt_f (X := a19.toInt) (Y := 0) rfl (by decide) (by omega)) ?_
      refine xi_iload_n (pc' := 6) (x := a19) kc_11_5 rfl rfl ?_
      refine xi_iload_n (pc' := 7) (x := 5) kc_11_6 rfl rfl ?_
      refine xi_cmt (pc' := 14) kc_11_7 rfl (xc_gt_t (X := a19.toInt) (Y := 5) rfl (by decide) (by omega)) ?_
      refine xi_iconst (pc' := 15) (v := 0) kc_11_14 rfl rfl ?_
      refine xi_ireturn kc_11_15 mr_11 rfl ?_
      show xw J ov 98 10 (6, [(0, .int a19)], [.int 0], hh57) _
      refine xi_ireturn kc_10_6 mr_10 rfl ?_
      show xw J ov 99 61 (9, [(0, .ref 115), (1, .int a19), (2, .int a21), (3, .int a23), (4, .int a25), (5, .int a27)], [.int 0], hh57) _
      refine xi_iff (pc' := 12) kc_61_9 rfl rfl ?_
      refine xi_aload_n (pc' := 13) (x := 115) kc_61_12 rfl rfl ?_
      refine xi_iconst (pc' := 14) (v := (-1)) kc_61_13 rfl rfl ?_
      refine xi_virtual (mj := 12) (as := [.int (-1)]) (st1 := []) (lv0 := [(0, .ref 115), (1, .int (-1))]) kc_61_14 rfl rfl rfl rfl rfl eh56.1 (Nat.le_of_ble_eq_true rfl) (hJ _ _ _ _ (by decide)) (xm_le ml_12 rfl) rfl ?_
      refine xi_aload_n (pc' := 1) (x := 115) kc_12_0 rfl rfl ?_
      refine xi_getfield (pc' := 4) (v := .ref 140) kc_12_1 rfl rfl rfl eh56.1 rfl ?_
      refine xi_iload_n (pc' := 5) (x := (-1)) kc_12_4 rfl rfl ?_
      refine xi_ineg (pc' := 6) (v := 1) kc_12_5 rfl rfl ?_
      refine xi_dup2 (pc' := 7) kc_12_6 rfl ⟨rfl, rfl⟩ ?_
      obtain ⟨y60, A60, hy60, ry60⟩ := xk_arr K.1 xD_140
      obtain ⟨v61, ev61, bv61, dv61⟩ := xj_get hy60 ry60 (i := 1) (by decide) (by decide)
      have A62 := ((eh56.2.1 140 (by decide)).trans ((eh52.2.1 140 (by decide)).trans A60))
      refine xi_iaload (pc' := 8) (v := v61) kc_12_7 rfl A62 (by decide) rfl (xi_in (by decide) (by rw [hy60]; decide)) ev61 ?_
      refine xi_iconst (pc' := 9) (v := 1) kc_12_8 rfl rfl ?_
      obtain ⟨v63, ev63⟩ : ∃ q : Int32, (v61 : Int32) + 1 = q := ⟨_, rfl⟩
      have rv63 := xc_rng v63
      refine xi_iadd (pc' := 10) (v := v63) kc_12_9 rfl ev63 ?_
      obtain ⟨y64, s64, hy64, ry64⟩ := xj_set (v := v63) hy60 ry60 1 (by first | omega | decide) (by first | omega | decide)
      refine xi_iastore (pc' := 11) (x' := y64) kc_12_10 rfl A62 rfl (xi_in (by decide) (by rw [hy60]; decide)) s64 (fun hh64 eh64 => ?_)
      have K65 := xk_pa K58 (xk_wa (by decide +kernel)) xD_140 hy64 ry64 eh64
      have KR66 := xk_pa KR59 (xk_wa (by decide +kernel)) xD_140 hy64 ry64 eh64
      refine xi_iload_n (pc' := 12) (x := (-1)) kc_12_11 rfl rfl ?_
      refine xi_ireturn kc_12_12 mr_12 rfl ?_
      show xw J ov 99 61 (17, [(0, .ref 115), (1, .int a19), (2, .int a21), (3, .int a23), (4, .int a25), (5, .int a27)], [.int (-1)], hh64) _
      refine xi_ireturn kc_61_17 mr_61 rfl ?_
      show xw J ov 100 195 (1091, [(4, .int x4), (3, .ref 167), (2, .ref 115), (1, .ref 0), (0, .ref 1000000)], [.int (-1)], hh64) _
      refine xi_pop (pc' := 1092) kc_195_1091 rfl rfl ?_
      refine xi_goto (pc' := 1501) kc_195_1092 rfl ?_
      obtain ⟨v67, ev67⟩ : ∃ q : Int32, x4 + 6 = q := ⟨_, rfl⟩
      have zv67 : v67.toInt = (x4.toInt + 6) := by rw [← ev67]; exact (xz_add (X := x4.toInt) (Y := 6) rfl (by decide) (by omega) (by omega)).trans (by omega)
      refine xi_iinc (pc' := 1504) (x := x4) (v := v67) (lv' := [(4, .int v67), (3, .ref 167), (2, .ref 115), (1, .ref 0), (0, .ref 1000000)]) kc_195_1501 rfl rfl ev67 rfl (xm_lt ml_195 rfl) ?_
      refine xi_goto (pc' := 23) kc_195_1504 rfl ?_
      exact kk v67 hh64 (by omega) K65 (xI_kept I KR66.2.1)
    · refine xi_cmf (pc' := 10) kc_89_7 rfl (xc_ge_f (X := a19.toInt) (Y := 6) rfl (by decide) (by omega)) ?_
      refine xi_iconst (pc' := 11) (v := 1) kc_89_10 rfl rfl ?_
      refine xi_goto (pc' := 15) kc_89_11 rfl ?_
      refine xi_ireturn kc_89_15 mr_89 rfl ?_
      show xw J ov 99 163 (4, [(0, .ref 0), (1, .int a19), (2, .int a21), (3, .int a23), (4, .int a25), (5, .int a27)], [.int 1], h) _
      refine xi_ift (pc' := 13) kc_163_4 rfl rfl ?_
      refine xi_iload_n (pc' := 14) (x := a21) kc_163_13 rfl rfl ?_
      by_cases c68 : a21.toInt = 0
      · refine xi_ift (pc' := 29) kc_163_14 rfl (xc_eq_t (X := a21.toInt) (Y := 0) rfl (by decide) (by omega)) ?_
        refine xi_aload_n (pc' := 30) (x := 0) kc_163_29 rfl rfl ?_
        refine xi_iload_n (pc' := 31) (x := a19) kc_163_30 rfl rfl ?_
        refine xi_iload (pc' := 33) (x := a25) kc_163_31 rfl rfl ?_
        refine xi_iload (pc' := 35) (x := a27) kc_163_33 rfl rfl ?_
        refine xi_virtual (mj := 164) (as := [.int a19, .int a25, .int a27]) (st1 := []) (lv0 := [(0, .ref 0), (1, .int a19), (2, .int a25), (3, .int a27)]) kc_163_35 rfl rfl rfl rfl rfl A3 (Nat.le_of_ble_eq_true rfl) (hJ _ _ _ _ (by decide)) (xm_le ml_164 rfl) rfl ?_
        obtain ⟨y69, A69, hy69, ry69⟩ := xk_arr K.1 xD_143
        have Ga := xgf_of I.2.2.2.2.2.2.2.2.2.2.2.2.2.2.2.2.2.2.2.2.2.2.2.2.1 A69 (xrp_of hy69) (by decide)
        obtain ⟨y70, A70, hy70, ry70⟩ := xk_arr K.1 xD_146
        have Gb := xgf_of I.2.2.2.2.2.2.2.2.2.2.2.2.2.2.2.2.2.2.2.2.2.2.2.2.2.1 A70 (xrp_of hy70) (by decide)
        obtain ⟨y71, A71, hy71, ry71⟩ := xk_arr K.1 xD_147
        have Gc := xgf_of I.2.2.2.2.2.2.2.2.2.2.2.2.2.2.2.2.2.2.2.2.2.2.2.2.2.2.1 A71 (xrp_of hy71) (by decide)
        refine xw_ti hJ hov1 hov2 (d := 97) (x1 := a19) (x2 := a25) (x3 := a27) K.1 Ga Gb Gc (xfi_mk A3 rfl rfl) (by omega) (by omega) (fun hov => ?_) (fun hov => ?_)
        · show xw J ov 99 163 (38, [(0, .ref 0), (1, .int a19), (2, .int a21), (3, .int a23), (4, .int a25), (5, .int a27)], [.int 1], h) _
          refine xi_iff (pc' := 41) kc_163_38 rfl rfl ?_
          refine xi_aload_n (pc' := 42) (x := 0) kc_163_41 rfl rfl ?_
          refine xi_bipush (pc' := 44) (v := (-3)) kc_163_42 rfl rfl ?_
          refine xi_virtual (mj := 90) (as := [.int (-3)]) (st1 := []) (lv0 := [(0, .ref 0), (1, .int (-3))]) kc_163_44 rfl rfl rfl rfl rfl A3 (Nat.le_of_ble_eq_true rfl) (hJ _ _ _ _ (by decide)) (xm_le ml_90 rfl) rfl ?_
          refine xi_iload_n (pc' := 1) (x := (-3)) kc_90_0 rfl rfl ?_
          refine xi_ineg (pc' := 2) (v := 3) kc_90_1 rfl rfl ?_
          refine xi_istore_n (pc' := 3) (lv' := [(2, .int 3), (0, .ref 0), (1, .int (-3))]) kc_90_2 rfl rfl (xm_lt ml_90 rfl) ?_
          refine xi_iload_n (pc' := 4) (x := 3) kc_90_3 rfl rfl ?_
          refine xi_iff (pc' := 7) kc_90_4 rfl rfl ?_
          refine xi_iload_n (pc' := 8) (x := 3) kc_90_7 rfl rfl ?_
          refine xi_aload_n (pc' := 9) (x := 0) kc_90_8 rfl rfl ?_
          refine xi_getfield (pc' := 12) (v := .ref 94) kc_90_9 rfl rfl rfl A3 rfl ?_
          obtain ⟨y72, A72, hy72, ry72⟩ := xk_arr K.1 xD_94
          refine xi_arraylength (pc' := 13) (n := 7) (v := 7) kc_90_12 rfl (xl_lenI (by decide) (by decide) A72 hy72) rfl ?_
          refine xi_cmf (pc' := 16) kc_90_13 rfl rfl ?_
          refine xi_aload_n (pc' := 17) (x := 0) kc_90_16 rfl rfl ?_
          refine xi_getfield (pc' := 20) (v := .ref 94) kc_90_17 rfl rfl rfl A3 rfl ?_
          refine xi_iload_n (pc' := 21) (x := 3) kc_90_20 rfl rfl ?_
          refine xi_dup2 (pc' := 22) kc_90_21 rfl ⟨rfl, rfl⟩ ?_
          obtain ⟨v73, ev73, bv73, dv73⟩ := xj_get hy72 ry72 (i := 3) (by decide) (by decide)
          refine xi_iaload (pc' := 23) (v := v73) kc_90_22 rfl A72 (by decide) rfl (xi_in (by decide) (by rw [hy72]; decide)) ev73 ?_
          refine xi_iconst (pc' := 24) (v := 1) kc_90_23 rfl rfl ?_
          obtain ⟨v74, ev74⟩ : ∃ q : Int32, (v73 : Int32) + 1 = q := ⟨_, rfl⟩
          have rv74 := xc_rng v74
          refine xi_iadd (pc' := 25) (v := v74) kc_90_24 rfl ev74 ?_
          obtain ⟨y75, s75, hy75, ry75⟩ := xj_set (v := v74) hy72 ry72 3 (by first | omega | decide) (by first | omega | decide)
          refine xi_iastore (pc' := 26) (x' := y75) kc_90_25 rfl A72 rfl (xi_in (by decide) (by rw [hy72]; decide)) s75 (fun hh75 eh75 => ?_)
          have K76 := xk_pa K (xk_wa (by decide +kernel)) xD_94 hy75 ry75 eh75
          have KR77 := xk_pa KR (xk_wa (by decide +kernel)) xD_94 hy75 ry75 eh75
          refine xi_iload_n (pc' := 27) (x := (-3)) kc_90_26 rfl rfl ?_
          refine xi_ireturn kc_90_27 mr_90 rfl ?_
          show xw J ov 99 163 (47, [(0, .ref 0), (1, .int a19), (2, .int a21), (3, .int a23), (4, .int a25), (5, .int a27)], [.int (-3)], hh75) _
          refine xi_ireturn kc_163_47 mr_163 rfl ?_
          show xw J ov 100 195 (1056, [(4, .int x4), (3, .ref 167), (2, .ref 115), (1, .ref 0), (0, .ref 1000000)], [.int (-3)], hh75) _
          refine xi_pop (pc' := 1057) kc_195_1056 rfl rfl ?_
          refine xi_aload_n (pc' := 1058) (x := 115) kc_195_1057 rfl rfl ?_
          refine xi_aload_n (pc' := 1059) (x := 1000000) kc_195_1058 rfl rfl ?_
          refine xi_iload (pc' := 1061) (x := x4) kc_195_1059 rfl rfl ?_
          refine xi_iconst (pc' := 1062) (v := 1) kc_195_1061 rfl rfl ?_
          refine xi_iadd (pc' := 1063) (v := v18) kc_195_1062 rfl ev18 ?_
          refine xi_ialoadO (pc' := 1064) (v := a19) kc_195_1063 rfl (by decide) hov0 (xi_in (by omega) (by omega)) ea19 ?_
          refine xi_aload_n (pc' := 1065) (x := 1000000) kc_195_1064 rfl rfl ?_
          refine xi_iload (pc' := 1067) (x := x4) kc_195_1065 rfl rfl ?_
          refine xi_iconst (pc' := 1068) (v := 2) kc_195_1067 rfl rfl ?_
          refine xi_iadd (pc' := 1069) (v := v20) kc_195_1068 rfl ev20 ?_
          refine xi_ialoadO (pc' := 1070) (v := a21) kc_195_1069 rfl (by decide) hov0 (xi_in (by omega) (by omega)) ea21 ?_
          refine xi_aload_n (pc' := 1071) (x := 1000000) kc_195_1070 rfl rfl ?_
          refine xi_iload (pc' := 1073) (x := x4) kc_195_1071 rfl rfl ?_
          refine xi_iconst (pc' := 1074) (v := 3) kc_195_1073 rfl rfl ?_
          refine xi_iadd (pc' := 1075) (v := v22) kc_195_1074 rfl ev22 ?_
          refine xi_ialoadO (pc' := 1076) (v := a23) kc_195_1075 rfl (by decide) hov0 (xi_in (by omega) (by omega)) ea23 ?_
          refine xi_aload_n (pc' := 1077) (x := 1000000) kc_195_1076 rfl rfl ?_
          refine xi_iload (pc' := 1079) (x := x4) kc_195_1077 rfl rfl ?_
          refine xi_iconst (pc' := 1080) (v := 4) kc_195_1079 rfl rfl ?_
          refine xi_iadd (pc' := 1081) (v := v24) kc_195_1080 rfl ev24 ?_
          refine xi_ialoadO (pc' := 1082) (v := a25) kc_195_1081 rfl (by decide) hov0 (xi_in (by omega) (by omega)) ea25 ?_
          refine xi_aload_n (pc' := 1083) (x := 1000000) kc_195_1082 rfl rfl ?_
          refine xi_iload (pc' := 1085) (x := x4) kc_195_1083 rfl rfl ?_
          refine xi_iconst (pc' := 1086) (v := 5) kc_195_1085 rfl rfl ?_
          refine xi_iadd (pc' := 1087) (v := v26) kc_195_1086 rfl ev26 ?_
          refine xi_ialoadO (pc' := 1088) (v := a27) kc_195_1087 rfl (by decide) hov0 (xi_in (by omega) (by omega)) ea27 ?_
          have A78 := ((eh75.2.1 115 (by decide)).trans A17)
          refine xi_virtual (mj := 61) (as := [.int a19, .int a21, .int a23, .int a25, .int a27]) (st1 := []) (lv0 := [(0, .ref 115), (1, .int a19), (2, .int a21), (3, .int a23), (4, .int a25), (5, .int a27)]) kc_195_1088 rfl rfl rfl rfl rfl A78 (Nat.le_of_ble_eq_true rfl) (hJ _ _ _ _ (by decide)) (xm_le ml_61 rfl) rfl ?_
          refine xi_aload_n (pc' := 1) (x := 115) kc_61_0 rfl rfl ?_
          refine xi_iconst (pc' := 2) (v := 0) kc_61_1 rfl rfl ?_
          refine xi_putfield (pc' := 5) (fs' := [.int 0, .int u2, .ref 116, .ref 117, .ref 118, .ref 119, .ref 120, .ref 121, .ref 122, .ref 123, .ref 124, .ref 125, .ref 126, .ref 127, .ref 128, .ref 129, .int u6, .ref 130, .int u7, .ref 131, .ref 132, .ref 133, .ref 134, .int u8, .ref 135, .ref 136, .ref 137, .ref 138, .ref 139, .ref 140, .ref 141, .ref 142, .int u9, .int u10, .int u1, .ref 143, .ref 144, .ref 145, .ref 146, .ref 147, .ref 148, .int u12, .ref 149, .ref 150, .ref 151, .int u13, .ref 152, .ref 153, .ref 154, .ref 155, .ref 156, .ref 157, .ref 158, .ref 159, .int u14, .ref 160, .int u15, .ref 161, .ref 162, .ref 163, .ref 164, .int u16, .ref 165, .ref 166]) kc_61_2 rfl rfl rfl A78 rfl rfl rfl (Nat.le_of_ble_eq_true rfl) rfl (fun hh80 eh79 => ?_)
          have K81 := xk_pf (k := 0) (v := 0) K76 (xk_wf (by decide +kernel)) xD_115 A78 rfl (by first | omega | decide) (by first | omega | decide) eh79 rfl
          have KR82 := xk_pf (k := 0) (v := 0) KR77 (xk_wf (by decide +kernel)) xD_115 A78 rfl (by first | omega | decide) (by first | omega | decide) eh79 rfl
          refine xi_iload_n (pc' := 6) (x := a19) kc_61_5 rfl rfl ?_
          refine xi_static (mj := 10) (as := [.int a19]) (st1 := []) (lv0 := [(0, .int a19)]) kc_61_6 rfl rfl (Nat.le_of_ble_eq_true rfl) rfl rfl (Nat.le_of_ble_eq_true rfl) (hJ _ _ _ _ (by decide)) (xm_le ml_10 rfl) rfl ?_
          refine xi_iload_n (pc' := 1) (x := a19) kc_10_0 rfl rfl ?_
          refine xi_iconst (pc' := 2) (v := 0) kc_10_1 rfl rfl ?_
          refine xi_iconst (pc' := 3) (v := 5) kc_10_2 rfl rfl ?_
          refine xi_static (mj := 11) (as := [.int a19, .int 0, .int 5]) (st1 := []) (lv0 := [(0, .int a19), (1, .int 0), (2, .int 5)]) kc_10_3 rfl rfl (Nat.le_of_ble_eq_true rfl) rfl rfl (Nat.le_of_ble_eq_true rfl) (hJ _ _ _ _ (by decide)) (xm_le ml_11 rfl) rfl ?_
          refine xi_iload_n (pc' := 1) (x := a19) kc_11_0 rfl rfl ?_
          refine xi_iload_n (pc' := 2) (x := 0) kc_11_1 rfl rfl ?_
          refine xi_cmf (pc' := 5) kc_11_2 rfl (xc_lt_f (X := a19.toInt) (Y := 0) rfl (by decide) (by omega)) ?_
          refine xi_iload_n (pc' := 6) (x := a19) kc_11_5 rfl rfl ?_
          refine xi_iload_n (pc' := 7) (x := 5) kc_11_6 rfl rfl ?_
          refine xi_cmf (pc' := 10) kc_11_7 rfl (xc_gt_f (X := a19.toInt) (Y := 5) rfl (by decide) (by omega)) ?_
          refine xi_iconst (pc' := 11) (v := 1) kc_11_10 rfl rfl ?_
          refine xi_goto (pc' := 15) kc_11_11 rfl ?_
          refine xi_ireturn kc_11_15 mr_11 rfl ?_
          show xw J ov 98 10 (6, [(0, .int a19)], [.int 1], hh80) _
          refine xi_ireturn kc_10_6 mr_10 rfl ?_
          show xw J ov 99 61 (9, [(0, .ref 115), (1, .int a19), (2, .int a21), (3, .int a23), (4, .int a25), (5, .int a27)], [.int 1], hh80) _
          refine xi_ift (pc' := 18) kc_61_9 rfl rfl ?_
          refine xi_iload_n (pc' := 19) (x := a21) kc_61_18 rfl rfl ?_
          refine xi_iconst (pc' := 20) (v := 0) kc_61_19 rfl rfl ?_
          refine xi_iconst (pc' := 21) (v := 1) kc_61_20 rfl rfl ?_
          refine xi_static (mj := 11) (as := [.int a21, .int 0, .int 1]) (st1 := []) (lv0 := [(0, .int a21), (1, .int 0), (2, .int 1)]) kc_61_21 rfl rfl (Nat.le_of_ble_eq_true rfl) rfl rfl (Nat.le_of_ble_eq_true rfl) (hJ _ _ _ _ (by decide)) (xm_le ml_11 rfl) rfl ?_
          refine xi_iload_n (pc' := 1) (x := a21) kc_11_0 rfl rfl ?_
          refine xi_iload_n (pc' := 2) (x := 0) kc_11_1 rfl rfl ?_
          refine xi_cmf (pc' := 5) kc_11_2 rfl (xc_lt_f (X := a21.toInt) (Y := 0) rfl (by decide) (by omega)) ?_
          refine xi_iload_n (pc' := 6) (x := a21) kc_11_5 rfl rfl ?_
          refine xi_iload_n (pc' := 7) (x := 1) kc_11_6 rfl rfl ?_
          refine xi_cmf (pc' := 10) kc_11_7 rfl (xc_gt_f (X := a21.toInt) (Y := 1) rfl (by decide) (by omega)) ?_
          refine xi_iconst (pc' := 11) (v := 1) kc_11_10 rfl rfl ?_
          refine xi_goto (pc' := 15) kc_11_11 rfl ?_
          refine xi_ireturn kc_11_15 mr_11 rfl ?_
          show xw J ov 99 61 (24, [(0, .ref 115), (1, .int a19), (2, .int a21), (3, .int a23), (4, .int a25), (5, .int a27)], [.int 1], hh80) _
          refine xi_ift (pc' := 34) kc_61_24 rfl rfl ?_
          refine xi_iconst (pc' := 35) (v := 0) kc_61_34 rfl rfl ?_
          refine xi_istore (pc' := 37) (lv' := [(6, .int 0), (0, .ref 115), (1, .int a19), (2, .int a21), (3, .int a23), (4, .int a25), (5, .int a27)]) kc_61_35 rfl rfl (xm_lt ml_61 rfl) ?_
          refine xw_lv (b := [(0, .ref 115), (1, .int a19), (2, .int a21), (3, .int a23), (4, .int a25), (5, .int a27), (6, .int 0)]) (lvS_cons (lvS_cons (lvS_cons (lvS_cons (lvS_cons (lvS_cons (lvS_cons (lvS_nil (show ([6, 0, 1, 2, 3, 4, 5] : List Nat).Nodup by decide)) rfl) rfl) rfl) rfl) rfl) rfl) rfl) ?_
          have zc0 : (0 : Int32).toInt = 0 := by decide
          have A83 := ((eh79.2.1 143 (by decide)).trans ((eh75.2.1 143 (by decide)).trans A69))
          have A84 := ((eh79.2.1 146 (by decide)).trans ((eh75.2.1 146 (by decide)).trans A70))
          have A85 := ((eh79.2.1 147 (by decide)).trans ((eh75.2.1 147 (by decide)).trans A71))
          refine tr_lp hJ hov1 hov2 (d := 97) K81.1 (xra_mk A83 (xrp_of hy69)) (xra_mk A84 (xrp_of hy70)) (xra_mk A85 (xrp_of hy71)) (xfi_mk eh79.1 rfl rfl) (by omega) (by omega) (by omega) (fun hx hh86 K87 => ?_) (fun hx lv9 hS => ?_) 21 0 (by omega) xov_0 (by omega)
          · have KR88 := xk_tr KR82 K87 (by decide +kernel)
            have K89 := xk_tr K81 K87 (xsb_ok _ _ (by decide +kernel))
            show xw J ov 100 195 (1091, [(4, .int x4), (3, .ref 167), (2, .ref 115), (1, .ref 0), (0, .ref 1000000)], [.int (-3)], hh86) _
            refine xi_pop (pc' := 1092) kc_195_1091 rfl rfl ?_
            refine xi_goto (pc' := 1501) kc_195_1092 rfl ?_
            obtain ⟨v90, ev90⟩ : ∃ q : Int32, x4 + 6 = q := ⟨_, rfl⟩
            have zv90 : v90.toInt = (x4.toInt + 6) := by rw [← ev90]; exact (xz_add (X := x4.toInt) (Y := 6) rfl (by decide) (by omega) (by omega)).trans (by omega)
            refine xi_iinc (pc' := 1504) (x := x4) (v := v90) (lv' := [(4, .int v90), (3, .ref 167), (2, .ref 115), (1, .ref 0), (0, .ref 1000000)]) kc_195_1501 rfl rfl ev90 rfl (xm_lt ml_195 rfl) ?_
            refine xi_goto (pc' := 23) kc_195_1504 rfl ?_
            exact kk v90 hh86 (by omega) K89 (xI_kept I KR88.2.1)
          · exact absurd hov.2 hx
        · show xw J ov 99 163 (38, [(0, .ref 0), (1, .int a19), (2, .int a21), (3, .int a23), (4, .int a25), (5, .int a27)], [.int 0], h) _
          refine xi_ift (pc' := 48) kc_163_38 rfl rfl ?_
          refine xi_iload_n (pc' := 49) (x := a23) kc_163_48 rfl rfl ?_
          by_cases c91 : a23.toInt < 0
          · refine xi_ift (pc' := 68) kc_163_49 rfl (xc_lt_t (X := a23.toInt) (Y := 0) rfl (by decide) (by omega)) ?_
            refine xi_aload_n (pc' := 69) (x := 0) kc_163_68 rfl rfl ?_
            refine xi_bipush (pc' := 71) (v := (-4)) kc_163_69 rfl rfl ?_
            refine xi_virtual (mj := 90) (as := [.int (-4)]) (st1 := []) (lv0 := [(0, .ref 0), (1, .int (-4))]) kc_163_71 rfl rfl rfl rfl rfl A3 (Nat.le_of_ble_eq_true rfl) (hJ _ _ _ _ (by decide)) (xm_le ml_90 rfl) rfl ?_
            refine xi_iload_n (pc' := 1) (x := (-4)) kc_90_0 rfl rfl ?_
            refine xi_ineg (pc' := 2) (v := 4) kc_90_1 rfl rfl ?_
            refine xi_istore_n (pc' := 3) (lv' := [(2, .int 4), (0, .ref 0), (1, .int (-4))]) kc_90_2 rfl rfl (xm_lt ml_90 rfl) ?_
            refine xi_iload_n (pc' := 4) (x := 4) kc_90_3 rfl rfl ?_
            refine xi_iff (pc' := 7) kc_90_4 rfl rfl ?_
            refine xi_iload_n (pc' := 8) (x := 4) kc_90_7 rfl rfl ?_
            refine xi_aload_n (pc' := 9) (x := 0) kc_90_8 rfl rfl ?_
            refine xi_getfield (pc' := 12) (v := .ref 94) kc_90_9 rfl rfl rfl A3 rfl ?_
            obtain ⟨y92, A92, hy92, ry92⟩ := xk_arr K.1 xD_94
            refine xi_arraylength (pc' := 13) (n := 7) (v := 7) kc_90_12 rfl (xl_lenI (by decide) (by decide) A92 hy92) rfl ?_
            refine xi_cmf (pc' := 16) kc_90_13 rfl rfl ?_
            refine xi_aload_n (pc' := 17) (x := 0) kc_90_16 rfl rfl ?_
            refine xi_getfield (pc' := 20) (v := .ref 94) kc_90_17 rfl rfl rfl A3 rfl ?_
            refine xi_iload_n (pc' := 21) (x := 4) kc_90_20 rfl rfl ?_
            refine xi_dup2 (pc' := 22) kc_90_21 rfl ⟨rfl, rfl⟩ ?_
            obtain ⟨v93, ev93, bv93, dv93⟩ := xj_get hy92 ry92 (i := 4) (by decide) (by decide)
            refine xi_iaload (pc' := 23) (v := v93) kc_90_22 rfl A92 (by decide) rfl (xi_in (by decide) (by rw [hy92]; decide)) ev93 ?_
            refine xi_iconst (pc' := 24) (v := 1) kc_90_23 rfl rfl ?_
            obtain ⟨v94, ev94⟩ : ∃ q : Int32, (v93 : Int32) + 1 = q := ⟨_, rfl⟩
            have rv94 := xc_rng v94
            refine xi_iadd (pc' := 25) (v := v94) kc_90_24 rfl ev94 ?_
            obtain ⟨y95, s95, hy95, ry95⟩ := xj_set (v := v94) hy92 ry92 4 (by first | omega | decide) (by first | omega | decide)
            refine xi_iastore (pc' := 26) (x' := y95) kc_90_25 rfl A92 rfl (xi_in (by decide) (by rw [hy92]; decide)) s95 (fun hh95 eh95 => ?_)
            have K96 := xk_pa K (xk_wa (by decide +kernel)) xD_94 hy95 ry95 eh95
            have KR97 := xk_pa KR (xk_wa (by decide +kernel)) xD_94 hy95 ry95 eh95
            refine xi_iload_n (pc' := 27) (x := (-4)) kc_90_26 rfl rfl ?_
            refine xi_ireturn kc_90_27 mr_90 rfl ?_
            show xw J ov 99 163 (74, [(0, .ref 0), (1, .int a19), (2, .int a21), (3, .int a23), (4, .int a25), (5, .int a27)], [.int (-4)], hh95) _
            refine xi_ireturn kc_163_74 mr_163 rfl ?_
            show xw J ov 100 195 (1056, [(4, .int x4), (3, .ref 167), (2, .ref 115), (1, .ref 0), (0, .ref 1000000)], [.int (-4)], hh95) _
            refine xi_pop (pc' := 1057) kc_195_1056 rfl rfl ?_
            refine xi_aload_n (pc' := 1058) (x := 115) kc_195_1057 rfl rfl ?_
            refine xi_aload_n (pc' := 1059) (x := 1000000) kc_195_1058 rfl rfl ?_
            refine xi_iload (pc' := 1061) (x := x4) kc_195_1059 rfl rfl ?_
            refine xi_iconst (pc' := 1062) (v := 1) kc_195_1061 rfl rfl ?_
            refine xi_iadd (pc' := 1063) (v := v18) kc_195_1062 rfl ev18 ?_
            refine xi_ialoadO (pc' := 1064) (v := a19) kc_195_1063 rfl (by decide) hov0 (xi_in (by omega) (by omega)) ea19 ?_
            refine xi_aload_n (pc' := 1065) (x := 1000000) kc_195_1064 rfl rfl ?_
            refine xi_iload (pc' := 1067) (x := x4) kc_195_1065 rfl rfl ?_
            refine xi_iconst (pc' := 1068) (v := 2) kc_195_1067 rfl rfl ?_
            refine xi_iadd (pc' := 1069) (v := v20) kc_195_1068 rfl ev20 ?_
            refine xi_ialoadO (pc' := 1070) (v := a21) kc_195_1069 rfl (by decide) hov0 (xi_in (by omega) (by omega)) ea21 ?_
            refine xi_aload_n (pc' := 1071) (x := 1000000) kc_195_1070 rfl rfl ?_
            refine xi_iload (pc' := 1073) (x := x4) kc_195_1071 rfl rfl ?_
            refine xi_iconst (pc' := 1074) (v := 3) kc_195_1073 rfl rfl ?_
            refine xi_iadd (pc' := 1075) (v := v22) kc_195_1074 rfl ev22 ?_
            refine xi_ialoadO (pc' := 1076) (v := a23) kc_195_1075 rfl (by decide) hov0 (xi_in (by omega) (by omega)) ea23 ?_
            refine xi_aload_n (pc' := 1077) (x := 1000000) kc_195_1076 rfl rfl ?_
            refine xi_iload (pc' := 1079) (x := x4) kc_195_1077 rfl rfl ?_
            refine xi_iconst (pc' := 1080) (v := 4) kc_195_1079 rfl rfl ?_
            refine xi_iadd (pc' := 1081) (v := v24) kc_195_1080 rfl ev24 ?_
            refine xi_ialoadO (pc' := 1082) (v := a25) kc_195_1081 rfl (by decide) hov0 (xi_in (by omega) (by omega)) ea25 ?_
            refine xi_aload_n (pc' := 1083) (x := 1000000) kc_195_1082 rfl rfl ?_
            refine xi_iload (pc' := 1085) (x := x4) kc_195_1083 rfl rfl ?_
            refine xi_iconst (pc' := 1086) (v := 5) kc_195_1085 rfl rfl ?_
            refine xi_iadd (pc' := 1087) (v := v26) kc_195_1086 rfl ev26 ?_
            refine xi_ialoadO (pc' := 1088) (v := a27) kc_195_1087 rfl (by decide) hov0 (xi_in (by omega) (by omega)) ea27 ?_
            have A98 := ((eh95.2.1 115 (by decide)).trans A17)
            refine xi_virtual (mj := 61) (as := [.int a19, .int a21, .int a23, .int a25, .int a27]) (st1 := []) (lv0 := [(0, .ref 115), (1, .int a19), (2, .int a21), (3, .int a23), (4, .int a25), (5, .int a27)]) kc_195_1088 rfl rfl rfl rfl rfl A98 (Nat.le_of_ble_eq_true rfl) (hJ _ _ _ _ (by decide)) (xm_le ml_61 rfl) rfl ?_
            refine xi_aload_n (pc' := 1) (x := 115) kc_61_0 rfl rfl ?_
            refine xi_iconst (pc' := 2) (v := 0) kc_61_1 rfl rfl ?_
            refine xi_putfield (pc' := 5) (fs' := [.int 0, .int u2, .ref 116, .ref 117, .ref 118, .ref 119, .ref 120, .ref 121, .ref 122, .ref 123, .ref 124, .ref 125, .ref 126, .ref 127, .ref 128, .ref 129, .int u6, .ref 130, .int u7, .ref 131, .ref 132, .ref 133, .ref 134, .int u8, .ref 135, .ref 136, .ref 137, .ref 138, .ref 139, .ref 140, .ref 141, .ref 142, .int u9, .int u10, .int u1, .ref 143, .ref 144, .ref 145, .ref 146, .ref 147, .ref 148, .int u12, .ref 149, .ref 150, .ref 151, .int u13, .ref 152, .ref 153, .ref 154, .ref 155, .ref 156, .ref 157, .ref 158, .ref 159, .int u14, .ref 160, .int u15, .ref 161, .ref 162, .ref 163, .ref 164, .int u16, .ref 165, .ref 166]) kc_61_2 rfl rfl rfl A98 rfl rfl rfl (Nat.le_of_ble_eq_true rfl) rfl (fun hh100 eh99 => ?_)
            have K101 := xk_pf (k := 0) (v := 0) K96 (xk_wf (by decide +kernel)) xD_115 A98 rfl (by first | omega | decide) (by first | omega | decide) eh99 rfl
            have KR102 := xk_pf (k := 0) (v := 0) KR97 (xk_wf (by decide +kernel)) xD_115 A98 rfl (by first | omega | decide) (by first | omega | decide) eh99 rfl
            refine xi_iload_n (pc' := 6) (x := a19) kc_61_5 rfl rfl ?_
            refine xi_static (mj := 10) (as := [.int a19]) (st1 := []) (lv0 := [(0, .int a19)]) kc_61_6 rfl rfl (Nat.le_of_ble_eq_true rfl) rfl rfl (Nat.le_of_ble_eq_true rfl) (hJ _ _ _ _ (by decide)) (xm_le ml_10 rfl) rfl ?_
            refine xi_iload_n (pc' := 1) (x := a19) kc_10_0 rfl rfl ?_
            refine xi_iconst (pc' := 2) (v := 0) kc_10_1 rfl rfl ?_
            refine xi_iconst (pc' := 3) (v := 5) kc_10_2 rfl rfl ?_
            refine xi_static (mj := 11) (as := [.int a19, .int 0, .int 5]) (st1 := []) (lv0 := [(0, .int a19), (1, .int 0), (2, .int 5)]) kc_10_3 rfl rfl (Nat.le_of_ble_eq_true rfl) rfl rfl (Nat.le_of_ble_eq_true rfl) (hJ _ _ _ _ (by decide)) (xm_le ml_11 rfl) rfl ?_
            refine xi_iload_n (pc' := 1) (x := a19) kc_11_0 rfl rfl ?_
            refine xi_iload_n (pc' := 2) (x := 0) kc_11_1 rfl rfl ?_
            refine xi_cmf (pc' := 5) kc_11_2 rfl (xc_lt_f (X := a19.toInt) (Y := 0) rfl (by decide) (by omega)) ?_
            refine xi_iload_n (pc' := 6) (x := a19) kc_11_5 rfl rfl ?_
            refine xi_iload_n (pc' := 7) (x := 5) kc_11_6 rfl rfl ?_
            refine xi_cmf (pc' := 10) kc_11_7 rfl (xc_gt_f (X := a19.toInt) (Y := 5) rfl (by decide) (by omega)) ?_
            refine xi_iconst (pc' := 11) (v := 1) kc_11_10 rfl rfl ?_
            refine xi_goto (pc' := 15) kc_11_11 rfl ?_
            refine xi_ireturn kc_11_15 mr_11 rfl ?_
            show xw J ov 98 10 (6, [(0, .int a19)], [.int 1], hh100) _
            refine xi_ireturn kc_10_6 mr_10 rfl ?_
            show xw J ov 99 61 (9, [(0, .ref 115), (1, .int a19), (2, .int a21), (3, .int a23), (4, .int a25), (5, .int a27)], [.int 1], hh100) _
            refine xi_ift (pc' := 18) kc_61_9 rfl rfl ?_
            refine xi_iload_n (pc' := 19) (x := a21) kc_61_18 rfl rfl ?_
            refine xi_iconst (pc' := 20) (v := 0) kc_61_19 rfl rfl ?_
            refine xi_iconst (pc' := 21) (v := 1) kc_61_20 rfl rfl ?_
            refine xi_static (mj := 11) (as := [.int a21, .int 0, .int 1]) (st1 := []) (lv0 := [(0, .int a21), (1, .int 0), (2, .int 1)]) kc_61_21 rfl rfl (Nat.le_of_ble_eq_true rfl) rfl rfl (Nat.le_of_ble_eq_true rfl) (hJ _ _ _ _ (by decide)) (xm_le ml_11 rfl) rfl ?_
            refine xi_iload_n (pc' := 1) (x := a21) kc_11_0 rfl rfl ?_
            refine xi_iload_n (pc' := 2) (x := 0) kc_11_1 rfl rfl ?_
            refine xi_cmf (pc' := 5) kc_11_2 rfl (xc_lt_f (X := a21.toInt) (Y := 0) rfl (by decide) (by omega)) ?_
            refine xi_iload_n (pc' := 6) (x := a21) kc_11_5 rfl rfl ?_
            refine xi_iload_n (pc' := 7) (x := 1) kc_11_6 rfl rfl ?_
            refine xi_cmf (pc' := 10) kc_11_7 rfl (xc_gt_f (X := a21.toInt) (Y := 1) rfl (by decide) (by omega)) ?_
            refine xi_iconst (pc' := 11) (v := 1) kc_11_10 rfl rfl ?_
            refine xi_goto (pc' := 15) kc_11_11 rfl ?_
            refine xi_ireturn kc_11_15 mr_11 rfl ?_
            show xw J ov 99 61 (24, [(0, .ref 115), (1, .int a19), (2, .int a21), (3, .int a23), (4, .int a25), (5, .int a27)], [.int 1], hh100) _
            refine xi_ift (pc' := 34) kc_61_24 rfl rfl ?_
            refine xi_iconst (pc' := 35) (v := 0) kc_61_34 rfl rfl ?_
            refine xi_istore (pc' := 37) (lv' := [(6, .int 0), (0, .ref 115), (1, .int a19), (2, .int a21), (3, .int a23), (4, .int a25), (5, .int a27)]) kc_61_35 rfl rfl (xm_lt ml_61 rfl) ?_
            refine xw_lv (b := [(0, .ref 115), (1, .int a19), (2, .int a21), (3, .int a23), (4, .int a25), (5, .int a27), (6, .int 0)]) (lvS_cons (lvS_cons (lvS_cons (lvS_cons (lvS_cons (lvS_cons (lvS_cons (lvS_nil (show ([6, 0, 1, 2, 3, 4, 5] : List Nat).Nodup by decide)) rfl) rfl) rfl) rfl) rfl) rfl) rfl) ?_
            have zc0 : (0 : Int32).toInt = 0 := by decide
            have A103 := ((eh99.2.1 143 (by decide)).trans ((eh95.2.1 143 (by decide)).trans A69))
            have A104 := ((eh99.2.1 146 (by decide)).trans ((eh95.2.1 146 (by decide)).trans A70))
            have A105 := ((eh99.2.1 147 (by decide)).trans ((eh95.2.1 147 (by decide)).trans A71))
            refine tr_lp hJ hov1 hov2 (d := 97) K101.1 (xra_mk A103 (xrp_of hy69)) (xra_mk A104 (xrp_of hy70)) (xra_mk A105 (xrp_of hy71)) (xfi_mk eh99.1 rfl rfl) (by omega) (by omega) (by omega) (fun hx hh106 K107 => ?_) (fun hx lv9 hS => ?_) 21 0 (by omega) xov_0 (by omega)
            · have KR108 := xk_tr KR102 K107 (by decide +kernel)
              have K109 := xk_tr K101 K107 (xsb_ok _ _ (by decide +kernel))
              show xw J ov 100 195 (1091, [(4, .int x4), (3, .ref 167), (2, .ref 115), (1, .ref 0), (0, .ref 1000000)], [.int (-3)], hh106) _
              refine xi_pop (pc' := 1092) kc_195_1091 rfl rfl ?_
              refine xi_goto (pc' := 1501) kc_195_1092 rfl ?_
              obtain ⟨v110, ev110⟩ : ∃ q : Int32, x4 + 6 = q := ⟨_, rfl⟩
              have zv110 : v110.toInt = (x4.toInt + 6) := by rw [← ev110]; exact (xz_add (X := x4.toInt) (Y := 6) rfl (by decide) (by omega) (by omega)).trans (by omega)
              refine xi_iinc (pc' := 1504) (x := x4) (v := v110) (lv' := [(4, .int v110), (3, .ref 167), (2, .ref 115), (1, .ref 0), (0, .ref 1000000)]) kc_195_1501 rfl rfl ev110 rfl (xm_lt ml_195 rfl) ?_
              refine xi_goto (pc' := 23) kc_195_1504 rfl ?_
              exact kk v110 hh106 (by omega) K109 (xI_kept I KR108.2.1)
            · refine xw_lv hS ?_
              show xw J ov 99 61 (94, [(0, .ref 115), (1, .int a19), (2, .int a21), (3, .int a23), (4, .int a25), (5, .int a27)], [], hh100) _
              refine xi_iload_n (pc' := 95) (x := a23) kc_61_94 rfl rfl ?_
              refine xi_ift (pc' := 114) kc_61_95 rfl (xc_lt_t (X := a23.toInt) (Y := 0) rfl (by decide) (by omega)) ?_
              refine xi_aload_n (pc' := 115) (x := 115) kc_61_114 rfl rfl ?_
              refine xi_bipush (pc' := 117) (v := (-4)) kc_61_115 rfl rfl ?_
              refine xi_virtual (mj := 12) (as := [.int (-4)]) (st1 := []) (lv0 := [(0, .ref 115), (1, .int (-4))]) kc_61_117 rfl rfl rfl rfl rfl eh99.1 (Nat.le_of_ble_eq_true rfl) (hJ _ _ _ _ (by decide)) (xm_le ml_12 rfl) rfl ?_
              refine xi_aload_n (pc' := 1) (x := 115) kc_12_0 rfl rfl ?_
              refine xi_getfield (pc' := 4) (v := .ref 140) kc_12_1 rfl rfl rfl eh99.1 rfl ?_
              refine xi_iload_n (pc' := 5) (x := (-4)) kc_12_4 rfl rfl ?_
              refine xi_ineg (pc' := 6) (v := 4) kc_12_5 rfl rfl ?_
              refine xi_dup2 (pc' := 7) kc_12_6 rfl ⟨rfl, rfl⟩ ?_
              obtain ⟨y111, A111, hy111, ry111⟩ := xk_arr K.1 xD_140
              obtain ⟨v112, ev112, bv112, dv112⟩ := xj_get hy111 ry111 (i := 4) (by decide) (by decide)
              have A113 := ((eh99.2.1 140 (by decide)).trans ((eh95.2.1 140 (by decide)).trans A111))
              refine xi_iaload (pc' := 8) (v := v112) kc_12_7 rfl A113 (by decide) rfl (xi_in (by decide) (by rw [hy111]; decide)) ev112 ?_
              refine xi_iconst (pc' := 9) (v := 1) kc_12_8 rfl rfl ?_
              obtain ⟨v114, ev114⟩ : ∃ q : Int32, (v112 : Int32) + 1 = q := ⟨_, rfl⟩
              have rv114 := xc_rng v114
              refine xi_iadd (pc' := 10) (v := v114) kc_12_9 rfl ev114 ?_
              obtain ⟨y115, s115, hy115, ry115⟩ := xj_set (v := v114) hy111 ry111 4 (by first | omega | decide) (by first | omega | decide)
              refine xi_iastore (pc' := 11) (x' := y115) kc_12_10 rfl A113 rfl (xi_in (by decide) (by rw [hy111]; decide)) s115 (fun hh115 eh115 => ?_)
              have K116 := xk_pa K101 (xk_wa (by decide +kernel)) xD_140 hy115 ry115 eh115
              have KR117 := xk_pa KR102 (xk_wa (by decide +kernel)) xD_140 hy115 ry115 eh115
              refine xi_iload_n (pc' := 12) (x := (-4)) kc_12_11 rfl rfl ?_
              refine xi_ireturn kc_12_12 mr_12 rfl ?_
              show xw J ov 99 61 (120, [(0, .ref 115), (1, .int a19), (2, .int a21), (3, .int a23), (4, .int a25), (5, .int a27)], [.int (-4)], hh115) _
              refine xi_ireturn kc_61_120 mr_61 rfl ?_
              show xw J ov 100 195 (1091, [(4, .int x4), (3, .ref 167), (2, .ref 115), (1, .ref 0), (0, .ref 1000000)], [.int (-4)], hh115) _
              refine xi_pop (pc' := 1092) kc_195_1091 rfl rfl ?_
              refine xi_goto (pc' := 1501) kc_195_1092 rfl ?_
              obtain ⟨v118, ev118⟩ : ∃ q : Int32, x4 + 6 = q := ⟨_, rfl⟩
              have zv118 : v118.toInt = (x4.toInt + 6) := by rw [← ev118]; exact (xz_add (X := x4.toInt) (Y := 6) rfl (by decide) (by omega) (by omega)).trans (by omega)
              refine xi_iinc (pc' := 1504) (x := x4) (v := v118) (lv' := [(4, .int v118), (3, .ref 167), (2, .ref 115), (1, .ref 0), (0, .ref 1000000)]) kc_195_1501 rfl rfl ev118 rfl (xm_lt ml_195 rfl) ?_
              refine xi_goto (pc' := 23) kc_195_1504 rfl ?_
              exact kk v118 hh115 (by omega) K116 (xI_kept I KR117.2.1)
          · refine xi_iff (pc' := 52) kc_163_49 rfl (xc_lt_f (X := a23.toInt) (Y := 0) rfl (by decide) (by omega)) ?_
            refine xi_iload (pc' := 54) (x := a25) kc_163_52 rfl rfl ?_
            refine xi_aload_n (pc' := 55) (x := 0) kc_163_54 rfl rfl ?_
            refine xi_getfield (pc' := 58) (v := .int u2) kc_163_55 rfl rfl rfl A3 rfl ?_
            by_cases c119 : a25.toInt < u2.toInt
            · refine xi_cmt (pc' := 68) kc_163_58 rfl (xc_lt_t (X := a25.toInt) (Y := u2.toInt) rfl rfl (by omega)) ?_
              refine xi_aload_n (pc' := 69) (x := 0) kc_163_68 rfl rfl ?_
              refine xi_bipush (pc' := 71) (v := (-4)) kc_163_69 rfl rfl ?_
              refine xi_virtual (mj := 90) (as := [.int (-4)]) (st1 := []) (lv0 := [(0, .ref 0), (1, .int (-4))]) kc_163_71 rfl rfl rfl rfl rfl A3 (Nat.le_of_ble_eq_true rfl) (hJ _ _ _ _ (by decide)) (xm_le ml_90 rfl) rfl ?_
              refine xi_iload_n (pc' := 1) (x := (-4)) kc_90_0 rfl rfl ?_
              refine xi_ineg (pc' := 2) (v := 4) kc_90_1 rfl rfl ?_
              refine xi_istore_n (pc' := 3) (lv' := [(2, .int 4), (0, .ref 0), (1, .int (-4))]) kc_90_2 rfl rfl (xm_lt ml_90 rfl) ?_
              refine xi_iload_n (pc' := 4) (x := 4) kc_90_3 rfl rfl ?_
              refine xi_iff (pc' := 7) kc_90_4 rfl rfl ?_
              refine xi_iload_n (pc' := 8) (x := 4) kc_90_7 rfl rfl ?_
              refine xi_aload_n (pc' := 9) (x := 0) kc_90_8 rfl rfl ?_
              refine xi_getfield (pc' := 12) (v := .ref 94) kc_90_9 rfl rfl rfl A3 rfl ?_
              obtain ⟨y120, A120, hy120, ry120⟩ := xk_arr K.1 xD_94
              refine xi_arraylength (pc' := 13) (n := 7) (v := 7) kc_90_12 rfl (xl_lenI (by decide) (by decide) A120 hy120) rfl ?_
              refine xi_cmf (pc' := 16) kc_90_13 rfl rfl ?_
              refine xi_aload_n (pc' := 17) (x := 0) kc_90_16 rfl rfl ?_
              refine xi_getfield (pc' := 20) (v := .ref 94) kc_90_17 rfl rfl rfl A3 rfl ?_
              refine xi_iload_n (pc' := 21) (x := 4) kc_90_20 rfl rfl ?_
              refine xi_dup2 (pc' := 22) kc_90_21 rfl ⟨rfl, rfl⟩ ?_
              obtain ⟨v121, ev121, bv121, dv121⟩ := xj_get hy120 ry120 (i := 4) (by decide) (by decide)
              refine xi_iaload (pc' := 23) (v := v121) kc_90_22 rfl A120 (by decide) rfl (xi_in (by decide) (by rw [hy120]; decide)) ev121 ?_
              refine xi_iconst (pc' := 24) (v := 1) kc_90_23 rfl rfl ?_
              obtain ⟨v122, ev122⟩ : ∃ q : Int32, (v121 : Int32) + 1 = q := ⟨_, rfl⟩
              have rv122 := xc_rng v122
              refine xi_iadd (pc' := 25) (v := v122) kc_90_24 rfl ev122 ?_
              obtain ⟨y123, s123, hy123, ry123⟩ := xj_set (v := v122) hy120 ry120 4 (by first | omega | decide) (by first | omega | decide)
              refine xi_iastore (pc' := 26) (x' := y123) kc_90_25 rfl A120 rfl (xi_in (by decide) (by rw [hy120]; decide)) s123 (fun hh123 eh123 => ?_)
              have K124 := xk_pa K (xk_wa (by decide +kernel)) xD_94 hy123 ry123 eh123
              have KR125 := xk_pa KR (xk_wa (by decide +kernel)) xD_94 hy123 ry123 eh123
              refine xi_iload_n (pc' := 27) (x := (-4)) kc_90_26 rfl rfl ?_
              refine xi_ireturn kc_90_27 mr_90 rfl ?_
              show xw J ov 99 163 (74, [(0, .ref 0), (1, .int a19), (2, .int a21), (3, .int a23), (4, .int a25), (5, .int a27)], [.int (-4)], hh123) _
              refine xi_ireturn kc_163_74 mr_163 rfl ?_
              show xw J ov 100 195 (1056, [(4, .int x4), (3, .ref 167), (2, .ref 115), (1, .ref 0), (0, .ref 1000000)], [.int (-4)], hh123) _
              refine xi_pop (pc' := 1057) kc_195_1056 rfl rfl ?_
              refine xi_aload_n (pc' := 1058) (x := 115) kc_195_1057 rfl rfl ?_
              refine xi_aload_n (pc' := 1059) (x := 1000000) kc_195_1058 rfl rfl ?_
              refine xi_iload (pc' := 1061) (x := x4) kc_195_1059 rfl rfl ?_
              refine xi_iconst (pc' := 1062) (v := 1) kc_195_1061 rfl rfl ?_
              refine xi_iadd (pc' := 1063) (v := v18) kc_195_1062 rfl ev18 ?_
              refine xi_ialoadO (pc' := 1064) (v := a19) kc_195_1063 rfl (by decide) hov0 (xi_in (by omega) (by omega)) ea19 ?_
              refine xi_aload_n (pc' := 1065) (x := 1000000) kc_195_1064 rfl rfl ?_
              refine xi_iload (pc' := 1067) (x := x4) kc_195_1065 rfl rfl ?_
              refine xi_iconst (pc' := 1068) (v := 2) kc_195_1067 rfl rfl ?_
              refine xi_iadd (pc' := 1069) (v := v20) kc_195_1068 rfl ev20 ?_
              refine xi_ialoadO (pc' := 1070) (v := a21) kc_195_1069 rfl (by decide) hov0 (xi_in (by omega) (by omega)) ea21 ?_
              refine xi_aload_n (pc' := 1071) (x := 1000000) kc_195_1070 rfl rfl ?_
              refine xi_iload (pc' := 1073) (x := x4) kc_195_1071 rfl rfl ?_
              refine xi_iconst (pc' := 1074) (v := 3) kc_195_1073 rfl rfl ?_
              refine xi_iadd (pc' := 1075) (v := v22) kc_195_1074 rfl ev22 ?_
              refine xi_ialoadO (pc' := 1076) (v := a23) kc_195_1075 rfl (by decide) hov0 (xi_in (by omega) (by omega)) ea23 ?_
              refine xi_aload_n (pc' := 1077) (x := 1000000) kc_195_1076 rfl rfl ?_
              refine xi_iload (pc' := 1079) (x := x4) kc_195_1077 rfl rfl ?_
              refine xi_iconst (pc' := 1080) (v := 4) kc_195_1079 rfl rfl ?_
              refine xi_iadd (pc' := 1081) (v := v24) kc_195_1080 rfl ev24 ?_
              refine xi_ialoadO (pc' := 1082) (v := a25) kc_195_1081 rfl (by decide) hov0 (xi_in (by omega) (by omega)) ea25 ?_
              refine xi_aload_n (pc' := 1083) (x := 1000000) kc_195_1082 rfl rfl ?_
              refine xi_iload (pc' := 1085) (x := x4) kc_195_1083 rfl rfl ?_
              refine xi_iconst (pc' := 1086) (v := 5) kc_195_1085 rfl rfl ?_
              refine xi_iadd (pc' := 1087) (v := v26) kc_195_1086 rfl ev26 ?_
              refine xi_ialoadO (pc' := 1088) (v := a27) kc_195_1087 rfl (by decide) hov0 (xi_in (by omega) (by omega)) ea27 ?_
              have A126 := ((eh123.2.1 115 (by decide)).trans A17)
              refine xi_virtual (mj := 61) (as := [.int a19, .int a21, .int a23, .int a25, .int a27]) (st1 := []) (lv0 := [(0, .ref 115), (1, .int a19), (2, .int a21), (3, .int a23), (4, .int a25), (5, .int a27)]) kc_195_1088 rfl rfl rfl rfl rfl A126 (Nat.le_of_ble_eq_true rfl) (hJ _ _ _ _ (by decide)) (xm_le ml_61 rfl) rfl ?_
              refine xi_aload_n (pc' := 1) (x := 115) kc_61_0 rfl rfl ?_
              refine xi_iconst (pc' := 2) (v := 0) kc_61_1 rfl rfl ?_
              refine xi_putfield (pc' := 5) (fs' := [.int 0, .int u2, .ref 116, .ref 117, .ref 118, .ref 119, .ref 120, .ref 121, .ref 122, .ref 123, .ref 124, .ref 125, .ref 126, .ref 127, .ref 128, .ref 129, .int u6, .ref 130, .int u7, .ref 131, .ref 132, .ref 133, .ref 134, .int u8, .ref 135, .ref 136, .ref 137, .ref 138, .ref 139, .ref 140, .ref 141, .ref 142, .int u9, .int u10, .int u1, .ref 143, .ref 144, .ref 145, .ref 146, .ref 147, .ref 148, .int u12, .ref 149, .ref 150, .ref 151, .int u13, .ref 152, .ref 153, .ref 154, .ref 155, .ref 156, .ref 157, .ref 158, .ref 159, .int u14, .ref 160, .int u15, .ref 161, .ref 162, .ref 163, .ref 164, .int u16, .ref 165, .ref 166]) kc_61_2 rfl rfl rfl A126 rfl rfl rfl (Nat.le_of_ble_eq_true rfl) rfl (fun hh128 eh127 => ?_)
              have K129 := xk_pf (k := 0) (v := 0) K124 (xk_wf (by decide +kernel)) xD_115 A126 rfl (by first | omega | decide) (by first | omega | decide) eh127 rfl
              have KR130 := xk_pf (k := 0) (v := 0) KR125 (xk_wf (by decide +kernel)) xD_115 A126 rfl (by first | omega | decide) (by first | omega | decide) eh127 rfl
              refine xi_iload_n (pc' := 6) (x := a19) kc_61_5 rfl rfl ?_
              refine xi_static (mj := 10) (as := [.int a19]) (st1 := []) (lv0 := [(0, .int a19)]) kc_61_6 rfl rfl (Nat.le_of_ble_eq_true rfl) rfl rfl (Nat.le_of_ble_eq_true rfl) (hJ _ _ _ _ (by decide)) (xm_le ml_10 rfl) rfl ?_
              refine xi_iload_n (pc' := 1) (x := a19) kc_10_0 rfl rfl ?_
              refine xi_iconst (pc' := 2) (v := 0) kc_10_1 rfl rfl ?_
              refine xi_iconst (pc' := 3) (v := 5) kc_10_2 rfl rfl ?_
              refine xi_static (mj := 11) (as := [.int a19, .int 0, .int 5]) (st1 := []) (lv0 := [(0, .int a19), (1, .int 0), (2, .int 5)]) kc_10_3 rfl rfl (Nat.le_of_ble_eq_true rfl) rfl rfl (Nat.le_of_ble_eq_true rfl) (hJ _ _ _ _ (by decide)) (xm_le ml_11 rfl) rfl ?_
              refine xi_iload_n (pc' := 1) (x := a19) kc_11_0 rfl rfl ?_
              refine xi_iload_n (pc' := 2) (x := 0) kc_11_1 rfl rfl ?_
              refine xi_cmf (pc' := 5) kc_11_2 rfl (xc_lt_f (X := a19.toInt) (Y := 0) rfl (by decide) (by omega)) ?_
              refine xi_iload_n (pc' := 6) (x := a19) kc_11_5 rfl rfl ?_
              refine xi_iload_n (pc' := 7) (x := 5) kc_11_6 rfl rfl ?_
              refine xi_cmf (pc' := 10) kc_11_7 rfl (xc_gt_f (X := a19.toInt) (Y := 5) rfl (by decide) (by omega)) ?_
              refine xi_iconst (pc' := 11) (v := 1) kc_11_10 rfl rfl ?_
              refine xi_goto (pc' := 15) kc_11_11 rfl ?_
              refine xi_ireturn kc_11_15 mr_11 rfl ?_
              show xw J ov 98 10 (6, [(0, .int a19)], [.int 1], hh128) _
              refine xi_ireturn kc_10_6 mr_10 rfl ?_
              show xw J ov 99 61 (9, [(0, .ref 115), (1, .int a19), (2, .int a21), (3, .int a23), (4, .int a25), (5, .int a27)], [.int 1], hh128) _
              refine xi_ift (pc' := 18) kc_61_9 rfl rfl ?_
              refine xi_iload_n (pc' := 19) (x := a21) kc_61_18 rfl rfl ?_
              refine xi_iconst (pc' := 20) (v := 0) kc_61_19 rfl rfl ?_
              refine xi_iconst (pc' := 21) (v := 1) kc_61_20 rfl rfl ?_
              refine xi_static (mj := 11) (as := [.int a21, .int 0, .int 1]) (st1 := []) (lv0 := [(0, .int a21), (1, .int 0), (2, .int 1)]) kc_61_21 rfl rfl (Nat.le_of_ble_eq_true rfl) rfl rfl (Nat.le_of_ble_eq_true rfl) (hJ _ _ _ _ (by decide)) (xm_le ml_11 rfl) rfl ?_
              refine xi_iload_n (pc' := 1) (x := a21) kc_11_0 rfl rfl ?_
              refine xi_iload_n (pc' := 2) (x := 0) kc_11_1 rfl rfl ?_
              refine xi_cmf (pc' := 5) kc_11_2 rfl (xc_lt_f (X := a21.toInt) (Y := 0) rfl (by decide) (by omega)) ?_
              refine xi_iload_n (pc' := 6) (x := a21) kc_11_5 rfl rfl ?_
              refine xi_iload_n (pc' := 7) (x := 1) kc_11_6 rfl rfl ?_
              refine xi_cmf (pc' := 10) kc_11_7 rfl (xc_gt_f (X := a21.toInt) (Y := 1) rfl (by decide) (by omega)) ?_
              refine xi_iconst (pc' := 11) (v := 1) kc_11_10 rfl rfl ?_
              refine xi_goto (pc' := 15) kc_11_11 rfl ?_
              refine xi_ireturn kc_11_15 mr_11 rfl ?_
              show xw J ov 99 61 (24, [(0, .ref 115), (1, .int a19), (2, .int a21), (3, .int a23), (4, .int a25), (5, .int a27)], [.int 1], hh128) _
              refine xi_ift (pc' := 34) kc_61_24 rfl rfl ?_
              refine xi_iconst (pc' := 35) (v := 0) kc_61_34 rfl rfl ?_
              refine xi_istore (pc' := 37) (lv' := [(6, .int 0), (0, .ref 115), (1, .int a19), (2, .int a21), (3, .int a23), (4, .int a25), (5, .int a27)]) kc_61_35 rfl rfl (xm_lt ml_61 rfl) ?_
              refine xw_lv (b := [(0, .ref 115), (1, .int a19), (2, .int a21), (3, .int a23), (4, .int a25), (5, .int a27), (6, .int 0)]) (lvS_cons (lvS_cons (lvS_cons (lvS_cons (lvS_cons (lvS_cons (lvS_cons (lvS_nil (show ([6, 0, 1, 2, 3, 4, 5] : List Nat).Nodup by decide)) rfl) rfl) rfl) rfl) rfl) rfl) rfl) ?_
              have zc0 : (0 : Int32).toInt = 0 := by decide
              have A131 := ((eh127.2.1 143 (by decide)).trans ((eh123.2.1 143 (by decide)).trans A69))
              have A132 := ((eh127.2.1 146 (by decide)).trans ((eh123.2.1 146 (by decide)).trans A70))
              have A133 := ((eh127.2.1 147 (by decide)).trans ((eh123.2.1 147 (by decide)).trans A71))
              refine tr_lp hJ hov1 hov2 (d := 97) K129.1 (xra_mk A131 (xrp_of hy69)) (xra_mk A132 (xrp_of hy70)) (xra_mk A133 (xrp_of hy71)) (xfi_mk eh127.1 rfl rfl) (by omega) (by omega) (by omega) (fun hx hh134 K135 => ?_) (fun hx lv9 hS => ?_) 21 0 (by omega) xov_0 (by omega)
              · have KR136 := xk_tr KR130 K135 (by decide +kernel)
                have K137 := xk_tr K129 K135 (xsb_ok _ _ (by decide +kernel))
                show xw J ov 100 195 (1091, [(4, .int x4), (3, .ref 167), (2, .ref 115), (1, .ref 0), (0, .ref 1000000)], [.int (-3)], hh134) _
                refine xi_pop (pc' := 1092) kc_195_1091 rfl rfl ?_
                refine xi_goto (pc' := 1501) kc_195_1092 rfl ?_
                obtain ⟨v138, ev138⟩ : ∃ q : Int32, x4 + 6 = q := ⟨_, rfl⟩
                have zv138 : v138.toInt = (x4.toInt + 6) := by rw [← ev138]; exact (xz_add (X := x4.toInt) (Y := 6) rfl (by decide) (by omega) (by omega)).trans (by omega)
                refine xi_iinc (pc' := 1504) (x := x4) (v := v138) (lv' := [(4, .int v138), (3, .ref 167), (2, .ref 115), (1, .ref 0), (0, .ref 1000000)]) kc_195_1501 rfl rfl ev138 rfl (xm_lt ml_195 rfl) ?_
                refine xi_goto (pc' := 23) kc_195_1504 rfl ?_
                exact kk v138 hh134 (by omega) K137 (xI_kept I KR136.2.1)
              · refine xw_lv hS ?_
                show xw J ov 99 61 (94, [(0, .ref 115), (1, .int a19), (2, .int a21), (3, .int a23), (4, .int a25), (5, .int a27)], [], hh128) _
                refine xi_iload_n (pc' := 95) (x := a23) kc_61_94 rfl rfl ?_
                refine xi_iff (pc' := 98) kc_61_95 rfl (xc_lt_f (X := a23.toInt) (Y := 0) rfl (by decide) (by omega)) ?_
                refine xi_iload (pc' := 100) (x := a25) kc_61_98 rfl rfl ?_
                refine xi_aload_n (pc' := 101) (x := 115) kc_61_100 rfl rfl ?_
                refine xi_getfield (pc' := 104) (v := .int u2) kc_61_101 rfl rfl rfl eh127.1 rfl ?_
                refine xi_cmt (pc' := 114) kc_61_104 rfl (xc_lt_t (X := a25.toInt) (Y := u2.toInt) rfl rfl (by omega)) ?_
                refine xi_aload_n (pc' := 115) (x := 115) kc_61_114 rfl rfl ?_
                refine xi_bipush (pc' := 117) (v := (-4)) kc_61_115 rfl rfl ?_
                refine xi_virtual (mj := 12) (as := [.int (-4)]) (st1 := []) (lv0 := [(0, .ref 115), (1, .int (-4))]) kc_61_117 rfl rfl rfl rfl rfl eh127.1 (Nat.le_of_ble_eq_true rfl) (hJ _ _ _ _ (by decide)) (xm_le ml_12 rfl) rfl ?_
                refine xi_aload_n (pc' := 1) (x := 115) kc_12_0 rfl rfl ?_
                refine xi_getfield (pc' := 4) (v := .ref 140) kc_12_1 rfl rfl rfl eh127.1 rfl ?_
                refine xi_iload_n (pc' := 5) (x := (-4)) kc_12_4 rfl rfl ?_
                refine xi_ineg (pc' := 6) (v := 4) kc_12_5 rfl rfl ?_
                refine xi_dup2 (pc' := 7) kc_12_6 rfl ⟨rfl, rfl⟩ ?_
                obtain ⟨y139, A139, hy139, ry139⟩ := xk_arr K.1 xD_140
                obtain ⟨v140, ev140, bv140, dv140⟩ := xj_get hy139 ry139 (i := 4) (by decide) (by decide)
                have A141 := ((eh127.2.1 140 (by decide)).trans ((eh123.2.1 140 (by decide)).trans A139))
                refine xi_iaload (pc' := 8) (v := v140) kc_12_7 rfl A141 (by decide) rfl (xi_in (by decide) (by rw [hy139]; decide)) ev140 ?_
                refine xi_iconst (pc' := 9) (v := 1) kc_12_8 rfl rfl ?_
                obtain ⟨v142, ev142⟩ : ∃ q : Int32, (v140 : Int32) + 1 = q := ⟨_, rfl⟩
                have rv142 := xc_rng v142
                refine xi_iadd (pc' := 10) (v := v142) kc_12_9 rfl ev142 ?_
                obtain ⟨y143, s143, hy143, ry143⟩ := xj_set (v := v142) hy139 ry139 4 (by first | omega | decide) (by first | omega | decide)
                refine xi_iastore (pc' := 11) (x' := y143) kc_12_10 rfl A141 rfl (xi_in (by decide) (by rw [hy139]; decide)) s143 (fun hh143 eh143 => ?_)
                have K144 := xk_pa K129 (xk_wa (by decide +kernel)) xD_140 hy143 ry143 eh143
                have KR145 := xk_pa KR130 (xk_wa (by decide +kernel)) xD_140 hy143 ry143 eh143
                refine xi_iload_n (pc' := 12) (x := (-4)) kc_12_11 rfl rfl ?_
                refine xi_ireturn kc_12_12 mr_12 rfl ?_
                show xw J ov 99 61 (120, [(0, .ref 115), (1, .int a19), (2, .int a21), (3, .int a23), (4, .int a25), (5, .int a27)], [.int (-4)], hh143) _
                refine xi_ireturn kc_61_120 mr_61 rfl ?_
                show xw J ov 100 195 (1091, [(4, .int x4), (3, .ref 167), (2, .ref 115), (1, .ref 0), (0, .ref 1000000)], [.int (-4)], hh143) _
                refine xi_pop (pc' := 1092) kc_195_1091 rfl rfl ?_
                refine xi_goto (pc' := 1501) kc_195_1092 rfl ?_
                obtain ⟨v146, ev146⟩ : ∃ q : Int32, x4 + 6 = q := ⟨_, rfl⟩
                have zv146 : v146.toInt = (x4.toInt + 6) := by rw [← ev146]; exact (xz_add (X := x4.toInt) (Y := 6) rfl (by decide) (by omega) (by omega)).trans (by omega)
                refine xi_iinc (pc' := 1504) (x := x4) (v := v146) (lv' := [(4, .int v146), (3, .ref 167), (2, .ref 115), (1, .ref 0), (0, .ref 1000000)]) kc_195_1501 rfl rfl ev146 rfl (xm_lt ml_195 rfl) ?_
                refine xi_goto (pc' := 23) kc_195_1504 rfl ?_
                exact kk v146 hh143 (by omega) K144 (xI_kept I KR145.2.1)
            · refine xi_cmf (pc' := 61) kc_163_58 rfl (xc_lt_f (X := a25.toInt) (Y := u2.toInt) rfl rfl (by omega)) ?_
              refine xi_iload (pc' := 63) (x := a27) kc_163_61 rfl rfl ?_
              refine xi_iload (pc' := 65) (x := a25) kc_163_63 rfl rfl ?_
              by_cases c147 : a25.toInt < a27.toInt
              · refine xi_cmt (pc' := 75) kc_163_65 rfl (xc_gt_t (X := a27.toInt) (Y := a25.toInt) rfl rfl (by omega)) ?_
                refine xi_iload_n (pc' := 76) (x := a23) kc_163_75 rfl rfl ?_
                refine xi_getstatic (pc' := 79) (j := 1000002) kc_163_76 rfl rfl ?_
                refine xi_iconst (pc' := 80) (v := 2) kc_163_79 rfl rfl ?_
                refine xi_ialoadO (pc' := 81) (v := 50) kc_163_80 rfl (by decide) hov2 (xi_in (n := 6) (by decide) (by decide)) rfl ?_
                by_cases c148 : 50 < a23.toInt
                · refine xi_cmt (pc' := 101) kc_163_81 rfl (xc_gt_t (X := a23.toInt) (Y := 50) rfl (by decide) (by omega)) ?_
                  refine xi_aload_n (pc' := 102) (x := 0) kc_163_101 rfl rfl ?_
                  refine xi_bipush (pc' := 104) (v := (-6)) kc_163_102 rfl rfl ?_
                  refine xi_virtual (mj := 90) (as := [.int (-6)]) (st1 := []) (lv0 := [(0, .ref 0), (1, .int (-6))]) kc_163_104 rfl rfl rfl rfl rfl A3 (Nat.le_of_ble_eq_true rfl) (hJ _ _ _ _ (by decide)) (xm_le ml_90 rfl) rfl ?_
                  refine xi_iload_n (pc' := 1) (x := (-6)) kc_90_0 rfl rfl ?_
                  refine xi_ineg (pc' := 2) (v := 6) kc_90_1 rfl rfl ?_
                  refine xi_istore_n (pc' := 3) (lv' := [(2, .int 6), (0, .ref 0), (1, .int (-6))]) kc_90_2 rfl rfl (xm_lt ml_90 rfl) ?_
                  refine xi_iload_n (pc' := 4) (x := 6) kc_90_3 rfl rfl ?_
                  refine xi_iff (pc' := 7) kc_90_4 rfl rfl ?_
                  refine xi_iload_n (pc' := 8) (x := 6) kc_90_7 rfl rfl ?_
                  refine xi_aload_n (pc' := 9) (x := 0) kc_90_8 rfl rfl ?_
                  refine xi_getfield (pc' := 12) (v := .ref 94) kc_90_9 rfl rfl rfl A3 rfl ?_
                  obtain ⟨y149, A149, hy149, ry149⟩ := xk_arr K.1 xD_94
                  refine xi_arraylength (pc' := 13) (n := 7) (v := 7) kc_90_12 rfl (xl_lenI (by decide) (by decide) A149 hy149) rfl ?_
                  refine xi_cmf (pc' := 16) kc_90_13 rfl rfl ?_
                  refine xi_aload_n (pc' := 17) (x := 0) kc_90_16 rfl rfl ?_
                  refine xi_getfield (pc' := 20) (v := .ref 94) kc_90_17 rfl rfl rfl A3 rfl ?_
                  refine xi_iload_n (pc' := 21) (x := 6) kc_90_20 rfl rfl ?_
                  refine xi_dup2 (pc' := 22) kc_90_21 rfl ⟨rfl, rfl⟩ ?_
                  obtain ⟨v150, ev150, bv150, dv150⟩ := xj_get hy149 ry149 (i := 6) (by decide) (by decide)
                  refine xi_iaload (pc' := 23) (v := v150) kc_90_22 rfl A149 (by decide) rfl (xi_in (by decide) (by rw [hy149]; decide)) ev150 ?_
                  refine xi_iconst (pc' := 24) (v := 1) kc_90_23 rfl rfl ?_
                  obtain ⟨v151, ev151⟩ : ∃ q : Int32, (v150 : Int32) + 1 = q := ⟨_, rfl⟩
                  have rv151 := xc_rng v151
                  refine xi_iadd (pc' := 25) (v := v151) kc_90_24 rfl ev151 ?_
                  obtain ⟨y152, s152, hy152, ry152⟩ := xj_set (v := v151) hy149 ry149 6 (by first | omega | decide) (by first | omega | decide)
                  refine xi_iastore (pc' := 26) (x' := y152) kc_90_25 rfl A149 rfl (xi_in (by decide) (by rw [hy149]; decide)) s152 (fun hh152 eh152 => ?_)
                  have K153 := xk_pa K (xk_wa (by decide +kernel)) xD_94 hy152 ry152 eh152
                  have KR154 := xk_pa KR (xk_wa (by decide +kernel)) xD_94 hy152 ry152 eh152
                  refine xi_iload_n (pc' := 27) (x := (-6)) kc_90_26 rfl rfl ?_
                  refine xi_ireturn kc_90_27 mr_90 rfl ?_
                  show xw J ov 99 163 (107, [(0, .ref 0), (1, .int a19), (2, .int a21), (3, .int a23), (4, .int a25), (5, .int a27)], [.int (-6)], hh152) _
                  refine xi_ireturn kc_163_107 mr_163 rfl ?_
                  show xw J ov 100 195 (1056, [(4, .int x4), (3, .ref 167), (2, .ref 115), (1, .ref 0), (0, .ref 1000000)], [.int (-6)], hh152) _
                  refine xi_pop (pc' := 1057) kc_195_1056 rfl rfl ?_
                  refine xi_aload_n (pc' := 1058) (x := 115) kc_195_1057 rfl rfl ?_
                  refine xi_aload_n (pc' := 1059) (x := 1000000) kc_195_1058 rfl rfl ?_
                  refine xi_iload (pc' := 1061) (x := x4) kc_195_1059 rfl rfl ?_
                  refine xi_iconst (pc' := 1062) (v := 1) kc_195_1061 rfl rfl ?_
                  refine xi_iadd (pc' := 1063) (v := v18) kc_195_1062 rfl ev18 ?_
                  refine xi_ialoadO (pc' := 1064) (v := a19) kc_195_1063 rfl (by decide) hov0 (xi_in (by omega) (by omega)) ea19 ?_
                  refine xi_aload_n (pc' := 1065) (x := 1000000) kc_195_1064 rfl rfl ?_
                  refine xi_iload (pc' := 1067) (x := x4) kc_195_1065 rfl rfl ?_
                  refine xi_iconst (pc' := 1068) (v := 2) kc_195_1067 rfl rfl ?_
                  refine xi_iadd (pc' := 1069) (v := v20) kc_195_1068 rfl ev20 ?_
                  refine xi_ialoadO (pc' := 1070) (v := a21) kc_195_1069 rfl (by decide) hov0 (xi_in (by omega) (by omega)) ea21 ?_
                  refine xi_aload_n (pc' := 1071) (x := 1000000) kc_195_1070 rfl rfl ?_
                  refine xi_iload (pc' := 1073) (x := x4) kc_195_1071 rfl rfl ?_
                  refine xi_iconst (pc' := 1074) (v := 3) kc_195_1073 rfl rfl ?_
                  refine xi_iadd (pc' := 1075) (v := v22) kc_195_1074 rfl ev22 ?_
                  refine xi_ialoadO (pc' := 1076) (v := a23) kc_195_1075 rfl (by decide) hov0 (xi_in (by omega) (by omega)) ea23 ?_
                  refine xi_aload_n (pc' := 1077) (x := 1000000) kc_195_1076 rfl rfl ?_
                  refine xi_iload (pc' := 1079) (x := x4) kc_195_1077 rfl rfl ?_
                  refine xi_iconst (pc' := 1080) (v := 4) kc_195_1079 rfl rfl ?_
                  refine xi_iadd (pc' := 1081) (v := v24) kc_195_1080 rfl ev24 ?_
                  refine xi_ialoadO (pc' := 1082) (v := a25) kc_195_1081 rfl (by decide) hov0 (xi_in (by omega) (by omega)) ea25 ?_
                  refine xi_aload_n (pc' := 1083) (x := 1000000) kc_195_1082 rfl rfl ?_
                  refine xi_iload (pc' := 1085) (x := x4) kc_195_1083 rfl rfl ?_
                  refine xi_iconst (pc' := 1086) (v := 5) kc_195_1085 rfl rfl ?_
                  refine xi_iadd (pc' := 1087) (v := v26) kc_195_1086 rfl ev26 ?_
                  refine xi_ialoadO (pc' := 1088) (v := a27) kc_195_1087 rfl (by decide) hov0 (xi_in (by omega) (by omega)) ea27 ?_
                  have A155 := ((eh152.2.1 115 (by decide)).trans A17)
                  refine xi_virtual (mj := 61) (as := [.int a19, .int a21, .int a23, .int a25, .int a27]) (st1 := []) (lv0 := [(0, .ref 115), (1, .int a19), (2, .int a21), (3, .int a23), (4, .int a25), (5, .int a27)]) kc_195_1088 rfl rfl rfl rfl rfl A155 (Nat.le_of_ble_eq_true rfl) (hJ _ _ _ _ (by decide)) (xm_le ml_61 rfl) rfl ?_
                  refine xi_aload_n (pc' := 1) (x := 115) kc_61_0 rfl rfl ?_
                  refine xi_iconst (pc' := 2) (v := 0) kc_61_1 rfl rfl ?_
                  refine xi_putfield (pc' := 5) (fs' := [.int 0, .int u2, .ref 116, .ref 117, .ref 118, .ref 119, .ref 120, .ref 121, .ref 122, .ref 123, .ref 124, .ref 125, .ref 126, .ref 127, .ref 128, .ref 129, .int u6, .ref 130, .int u7, .ref 131, .ref 132, .ref 133, .ref 134, .int u8, .ref 135, .ref 136, .ref 137, .ref 138, .ref 139, .ref 140, .ref 141, .ref 142, .int u9, .int u10, .int u1, .ref 143, .ref 144, .ref 145, .ref 146, .ref 147, .ref 148, .int u12, .ref 149, .ref 150, .ref 151, .int u13, .ref 152, .ref 153, .ref 154, .ref 155, .ref 156, .ref 157, .ref 158, .ref 159, .int u14, .ref 160, .int u15, .ref 161, .ref 162, .ref 163, .ref 164, .int u16, .ref 165, .ref 166]) kc_61_2 rfl rfl rfl A155 rfl rfl rfl (Nat.le_of_ble_eq_true rfl) rfl (fun hh157 eh156 => ?_)
                  have K158 := xk_pf (k := 0) (v := 0) K153 (xk_wf (by decide +kernel)) xD_115 A155 rfl (by first | omega | decide) (by first | omega | decide) eh156 rfl
                  have KR159 := xk_pf (k := 0) (v := 0) KR154 (xk_wf (by decide +kernel)) xD_115 A155 rfl (by first | omega | decide) (by first | omega | decide) eh156 rfl
                  refine xi_iload_n (pc' := 6) (x := a19) kc_61_5 rfl rfl ?_
                  refine xi_static (mj := 10) (as := [.int a19]) (st1 := []) (lv0 := [(0, .int a19)]) kc_61_6 rfl rfl (Nat.le_of_ble_eq_true rfl) rfl rfl (Nat.le_of_ble_eq_true rfl) (hJ _ _ _ _ (by decide)) (xm_le ml_10 rfl) rfl ?_
                  refine xi_iload_n (pc' := 1) (x := a19) kc_10_0 rfl rfl ?_
                  refine xi_iconst (pc' := 2) (v := 0) kc_10_1 rfl rfl ?_
                  refine xi_iconst (pc' := 3) (v := 5) kc_10_2 rfl rfl ?_
                  refine xi_static (mj := 11) (as := [.int a19, .int 0, .int 5]) (st1 := []) (lv0 := [(0, .int a19), (1, .int 0), (2, .int 5)]) kc_10_3 rfl rfl (Nat.le_of_ble_eq_true rfl) rfl rfl (Nat.le_of_ble_eq_true rfl) (hJ _ _ _ _ (by decide)) (xm_le ml_11 rfl) rfl ?_
                  refine xi_iload_n (pc' := 1) (x := a19) kc_11_0 rfl rfl ?_
                  refine xi_iload_n (pc' := 2) (x := 0) kc_11_1 rfl rfl ?_
                  refine xi_cmf (pc' := 5) kc_11_2 rfl (xc_lt_f (X := a19.toInt) (Y := 0) rfl (by decide) (by omega)) ?_
                  refine xi_iload_n (pc' := 6) (x := a19) kc_11_5 rfl rfl ?_
                  refine xi_iload_n (pc' := 7) (x := 5) kc_11_6 rfl rfl ?_
                  refine xi_cmf (pc' := 10) kc_11_7 rfl (xc_gt_f (X := a19.toInt) (Y := 5) rfl (by decide) (by omega)) ?_
                  refine xi_iconst (pc' := 11) (v := 1) kc_11_10 rfl rfl ?_
                  refine xi_goto (pc' := 15) kc_11_11 rfl ?_
                  refine xi_ireturn kc_11_15 mr_11 rfl ?_
                  show xw J ov 98 10 (6, [(0, .int a19)], [.int 1], hh157) _
                  refine xi_ireturn kc_10_6 mr_10 rfl ?_
                  show xw J ov 99 61 (9, [(0, .ref 115), (1, .int a19), (2, .int a21), (3, .int a23), (4, .int a25), (5, .int a27)], [.int 1], hh157) _
                  refine xi_ift (pc' := 18) kc_61_9 rfl rfl ?_
                  refine xi_iload_n (pc' := 19) (x := a21) kc_61_18 rfl rfl ?_
                  refine xi_iconst (pc' := 20) (v := 0) kc_61_19 rfl rfl ?_
                  refine xi_iconst (pc' := 21) (v := 1) kc_61_20 rfl rfl ?_
                  refine xi_static (mj := 11) (as := [.int a21, .int 0, .int 1]) (st1 := []) (lv0 := [(0, .int a21), (1, .int 0), (2, .int 1)]) kc_61_21 rfl rfl (Nat.le_of_ble_eq_true rfl) rfl rfl (Nat.le_of_ble_eq_true rfl) (hJ _ _ _ _ (by decide)) (xm_le ml_11 rfl) rfl ?_
                  refine xi_iload_n (pc' := 1) (x := a21) kc_11_0 rfl rfl ?_
                  refine xi_iload_n (pc' := 2) (x := 0) kc_11_1 rfl rfl ?_
                  refine xi_cmf (pc' := 5) kc_11_2 rfl (xc_lt_f (X := a21.toInt) (Y := 0) rfl (by decide) (by omega)) ?_
                  refine xi_iload_n (pc' := 6) (x := a21) kc_11_5 rfl rfl ?_
                  refine xi_iload_n (pc' := 7) (x := 1) kc_11_6 rfl rfl ?_
                  refine xi_cmf (pc' := 10) kc_11_7 rfl (xc_gt_f (X := a21.toInt) (Y := 1) rfl (by decide) (by omega)) ?_
                  refine xi_iconst (pc' := 11) (v := 1) kc_11_10 rfl rfl ?_
                  refine xi_goto (pc' := 15) kc_11_11 rfl ?_
                  refine xi_ireturn kc_11_15 mr_11 rfl ?_
                  show xw J ov 99 61 (24, [(0, .ref 115), (1, .int a19), (2, .int a21), (3, .int a23), (4, .int a25), (5, .int a27)], [.int 1], hh157) _
                  refine xi_ift (pc' := 34) kc_61_24 rfl rfl ?_
                  refine xi_iconst (pc' := 35) (v := 0) kc_61_34 rfl rfl ?_
                  refine xi_istore (pc' := 37) (lv' := [(6, .int 0), (0, .ref 115), (1, .int a19), (2, .int a21), (3, .int a23), (4, .int a25), (5, .int a27)]) kc_61_35 rfl rfl (xm_lt ml_61 rfl) ?_
                  refine xw_lv (b := [(0, .ref 115), (1, .int a19), (2, .int a21), (3, .int a23), (4, .int a25), (5, .int a27), (6, .int 0)]) (lvS_cons (lvS_cons (lvS_cons (lvS_cons (lvS_cons (lvS_cons (lvS_cons (lvS_nil (show ([6, 0, 1, 2, 3, 4, 5] : List Nat).Nodup by decide)) rfl) rfl) rfl) rfl) rfl) rfl) rfl) ?_
                  have zc0 : (0 : Int32).toInt = 0 := by decide
                  have A160 := ((eh156.2.1 143 (by decide)).trans ((eh152.2.1 143 (by decide)).trans A69))
                  have A161 := ((eh156.2.1 146 (by decide)).trans ((eh152.2.1 146 (by decide)).trans A70))
                  have A162 := ((eh156.2.1 147 (by decide)).trans ((eh152.2.1 147 (by decide)).trans A71))
                  refine tr_lp hJ hov1 hov2 (d := 97) K158.1 (xra_mk A160 (xrp_of hy69)) (xra_mk A161 (xrp_of hy70)) (xra_mk A162 (xrp_of hy71)) (xfi_mk eh156.1 rfl rfl) (by omega) (by omega) (by omega) (fun hx hh163 K164 => ?_) (fun hx lv9 hS => ?_) 21 0 (by omega) xov_0 (by omega)
                  · have KR165 := xk_tr KR159 K164 (by decide +kernel)
                    have K166 := xk_tr K158 K164 (xsb_ok _ _ (by decide +kernel))
                    show xw J ov 100 195 (1091, [(4, .int x4), (3, .ref 167), (2, .ref 115), (1, .ref 0), (0, .ref 1000000)], [.int (-3)], hh163) _
                    refine xi_pop (pc' := 1092) kc_195_1091 rfl rfl ?_
                    refine xi_goto (pc' := 1501) kc_195_1092 rfl ?_
                    obtain ⟨v167, ev167⟩ : ∃ q : Int32, x4 + 6 = q := ⟨_, rfl⟩
                    have zv167 : v167.toInt = (x4.toInt + 6) := by rw [← ev167]; exact (xz_add (X := x4.toInt) (Y := 6) rfl (by decide) (by omega) (by omega)).trans (by omega)
                    refine xi_iinc (pc' := 1504) (x := x4) (v := v167) (lv' := [(4, .int v167), (3, .ref 167), (2, .ref 115), (1, .ref 0), (0, .ref 1000000)]) kc_195_1501 rfl rfl ev167 rfl (xm_lt ml_195 rfl) ?_
                    refine xi_goto (pc' := 23) kc_195_1504 rfl ?_
                    exact kk v167 hh163 (by omega) K166 (xI_kept I KR165.2.1)
                  · refine xw_lv hS ?_
                    show xw J ov 99 61 (94, [(0, .ref 115), (1, .int a19), (2, .int a21), (3, .int a23), (4, .int a25), (5, .int a27)], [], hh157) _
                    refine xi_iload_n (pc' := 95) (x := a23) kc_61_94 rfl rfl ?_
                    refine xi_iff (pc' := 98) kc_61_95 rfl (xc_lt_f (X := a23.toInt) (Y := 0) rfl (by decide) (by omega)) ?_
                    refine xi_iload (pc' := 100) (x := a25) kc_61_98 rfl rfl ?_
                    refine xi_aload_n (pc' := 101) (x := 115) kc_61_100 rfl rfl ?_
                    refine xi_getfield (pc' := 104) (v := .int u2) kc_61_101 rfl rfl rfl eh156.1 rfl ?_
                    refine xi_cmf (pc' := 107) kc_61_104 rfl (xc_lt_f (X := a25.toInt) (Y := u2.toInt) rfl rfl (by omega)) ?_
                    refine xi_iload (pc' := 109) (x := a27) kc_61_107 rfl rfl ?_
                    refine xi_iload (pc' := 111) (x := a25) kc_61_109 rfl rfl ?_
                    refine xi_cmt (pc' := 121) kc_61_111 rfl (xc_gt_t (X := a27.toInt) (Y := a25.toInt) rfl rfl (by omega)) ?_
                    refine xi_iload (pc' := 123) (x := a27) kc_61_121 rfl rfl ?_
                    refine xi_sipush (pc' := 126) (v := 600) kc_61_123 rfl rfl ?_
                    by_cases c168 : 600 < a27.toInt
                    · refine xi_cmt (pc' := 144) kc_61_126 rfl (xc_gt_t (X := a27.toInt) (Y := 600) rfl (by decide) (by omega)) ?_
                      refine xi_aload_n (pc' := 145) (x := 115) kc_61_144 rfl rfl ?_
                      refine xi_bipush (pc' := 147) (v := (-6)) kc_61_145 rfl rfl ?_
                      refine xi_virtual (mj := 12) (as := [.int (-6)]) (st1 := []) (lv0 := [(0, .ref 115), (1, .int (-6))]) kc_61_147 rfl rfl rfl rfl rfl eh156.1 (Nat.le_of_ble_eq_true rfl) (hJ _ _ _ _ (by decide)) (xm_le ml_12 rfl) rfl ?_
                      refine xi_aload_n (pc' := 1) (x := 115) kc_12_0 rfl rfl ?_
                      refine xi_getfield (pc' := 4) (v := .ref 140) kc_12_1 rfl rfl rfl eh156.1 rfl ?_
                      refine xi_iload_n (pc' := 5) (x := (-6)) kc_12_4 rfl rfl ?_
                      refine xi_ineg (pc' := 6) (v := 6) kc_12_5 rfl rfl ?_
                      refine xi_dup2 (pc' := 7) kc_12_6 rfl ⟨rfl, rfl⟩ ?_
                      obtain ⟨y169, A169, hy169, ry169⟩ := xk_arr K.1 xD_140
                      obtain ⟨v170, ev170, bv170, dv170⟩ := xj_get hy169 ry169 (i := 6) (by decide) (by decide)
                      have A171 := ((eh156.2.1 140 (by decide)).trans ((eh152.2.1 140 (by decide)).trans A169))
                      refine xi_iaload (pc' := 8) (v := v170) kc_12_7 rfl A171 (by decide) rfl (xi_in (by decide) (by rw [hy169]; decide)) ev170 ?_
                      refine xi_iconst (pc' := 9) (v := 1) kc_12_8 rfl rfl ?_
                      obtain ⟨v172, ev172⟩ : ∃ q : Int32, (v170 : Int32) + 1 = q := ⟨_, rfl⟩
                      have rv172 := xc_rng v172
                      refine xi_iadd (pc' := 10) (v := v172) kc_12_9 rfl ev172 ?_
                      obtain ⟨y173, s173, hy173, ry173⟩ := xj_set (v := v172) hy169 ry169 6 (by first | omega | decide) (by first | omega | decide)
                      refine xi_iastore (pc' := 11) (x' := y173) kc_12_10 rfl A171 rfl (xi_in (by decide) (by rw [hy169]; decide)) s173 (fun hh173 eh173 => ?_)
                      have K174 := xk_pa K158 (xk_wa (by decide +kernel)) xD_140 hy173 ry173 eh173
                      have KR175 := xk_pa KR159 (xk_wa (by decide +kernel)) xD_140 hy173 ry173 eh173
                      refine xi_iload_n (pc' := 12) (x := (-6)) kc_12_11 rfl rfl ?_
                      refine xi_ireturn kc_12_12 mr_12 rfl ?_
                      show xw J ov 99 61 (150, [(0, .ref 115), (1, .int a19), (2, .int a21), (3, .int a23), (4, .int a25), (5, .int a27)], [.int (-6)], hh173) _
                      refine xi_ireturn kc_61_150 mr_61 rfl ?_
                      show xw J ov 100 195 (1091, [(4, .int x4), (3, .ref 167), (2, .ref 115), (1, .ref 0), (0, .ref 1000000)], [.int (-6)], hh173) _
                      refine xi_pop (pc' := 1092) kc_195_1091 rfl rfl ?_
                      refine xi_goto (pc' := 1501) kc_195_1092 rfl ?_
                      obtain ⟨v176, ev176⟩ : ∃ q : Int32, x4 + 6 = q := ⟨_, rfl⟩
                      have zv176 : v176.toInt = (x4.toInt + 6) := by rw [← ev176]; exact (xz_add (X := x4.toInt) (Y := 6) rfl (by decide) (by omega) (by omega)).trans (by omega)
                      refine xi_iinc (pc' := 1504) (x := x4) (v := v176) (lv' := [(4, .int v176), (3, .ref 167), (2, .ref 115), (1, .ref 0), (0, .ref 1000000)]) kc_195_1501 rfl rfl ev176 rfl (xm_lt ml_195 rfl) ?_
                      refine xi_goto (pc' := 23) kc_195_1504 rfl ?_
                      exact kk v176 hh173 (by omega) K174 (xI_kept I KR175.2.1)
                    · refine xi_cmf (pc' := 129) kc_61_126 rfl (xc_gt_f (X := a27.toInt) (Y := 600) rfl (by decide) (by omega)) ?_
                      refine xi_iload_n (pc' := 130) (x := a23) kc_61_129 rfl rfl ?_
                      refine xi_bipush (pc' := 132) (v := 50) kc_61_130 rfl rfl ?_
                      refine xi_cmt (pc' := 144) kc_61_132 rfl (xc_gt_t (X := a23.toInt) (Y := 50) rfl (by decide) (by omega)) ?_
                      refine xi_aload_n (pc' := 145) (x := 115) kc_61_144 rfl rfl ?_
                      refine xi_bipush (pc' := 147) (v := (-6)) kc_61_145 rfl rfl ?_
                      refine xi_virtual (mj := 12) (as := [.int (-6)]) (st1 := []) (lv0 := [(0, .ref 115), (1, .int (-6))]) kc_61_147 rfl rfl rfl rfl rfl eh156.1 (Nat.le_of_ble_eq_true rfl) (hJ _ _ _ _ (by decide)) (xm_le ml_12 rfl) rfl ?_
                      refine xi_aload_n (pc' := 1) (x := 115) kc_12_0 rfl rfl ?_
                      refine xi_getfield (pc' := 4) (v := .ref 140) kc_12_1 rfl rfl rfl eh156.1 rfl ?_
                      refine xi_iload_n (pc' := 5) (x := (-6)) kc_12_4 rfl rfl ?_
                      refine xi_ineg (pc' := 6) (v := 6) kc_12_5 rfl rfl ?_
                      refine xi_dup2 (pc' := 7) kc_12_6 rfl ⟨rfl, rfl⟩ ?_
                      obtain ⟨y177, A177, hy177, ry177⟩ := xk_arr K.1 xD_140
                      obtain ⟨v178, ev178, bv178, dv178⟩ := xj_get hy177 ry177 (i := 6) (by decide) (by decide)
                      have A179 := ((eh156.2.1 140 (by decide)).trans ((eh152.2.1 140 (by decide)).trans A177))
                      refine xi_iaload (pc' := 8) (v := v178) kc_12_7 rfl A179 (by decide) rfl (xi_in (by decide) (by rw [hy177]; decide)) ev178 ?_
                      refine xi_iconst (pc' := 9) (v := 1) kc_12_8 rfl rfl ?_
                      obtain ⟨v180, ev180⟩ : ∃ q : Int32, (v178 : Int32) + 1 = q := ⟨_, rfl⟩
                      have rv180 := xc_rng v180
                      refine xi_iadd (pc' := 10) (v := v180) kc_12_9 rfl ev180 ?_
                      obtain ⟨y181, s181, hy181, ry181⟩ := xj_set (v := v180) hy177 ry177 6 (by first | omega | decide) (by first | omega | decide)
                      refine xi_iastore (pc' := 11) (x' := y181) kc_12_10 rfl A179 rfl (xi_in (by decide) (by rw [hy177]; decide)) s181 (fun hh181 eh181 => ?_)
                      have K182 := xk_pa K158 (xk_wa (by decide +kernel)) xD_140 hy181 ry181 eh181
                      have KR183 := xk_pa KR159 (xk_wa (by decide +kernel)) xD_140 hy181 ry181 eh181
                      refine xi_iload_n (pc' := 12) (x := (-6)) kc_12_11 rfl rfl ?_
                      refine xi_ireturn kc_12_12 mr_12 rfl ?_
                      show xw J ov 99 61 (150, [(0, .ref 115), (1, .int a19), (2, .int a21), (3, .int a23), (4, .int a25), (5, .int a27)], [.int (-6)], hh181) _
                      refine xi_ireturn kc_61_150 mr_61 rfl ?_
                      show xw J ov 100 195 (1091, [(4, .int x4), (3, .ref 167), (2, .ref 115), (1, .ref 0), (0, .ref 1000000)], [.int (-6)], hh181) _
                      refine xi_pop (pc' := 1092) kc_195_1091 rfl rfl ?_
                      refine xi_goto (pc' := 1501) kc_195_1092 rfl ?_
                      obtain ⟨v184, ev184⟩ : ∃ q : Int32, x4 + 6 = q := ⟨_, rfl⟩
                      have zv184 : v184.toInt = (x4.toInt + 6) := by rw [← ev184]; exact (xz_add (X := x4.toInt) (Y := 6) rfl (by decide) (by omega) (by omega)).trans (by omega)
                      refine xi_iinc (pc' := 1504) (x := x4) (v := v184) (lv' := [(4, .int v184), (3, .ref 167), (2, .ref 115), (1, .ref 0), (0, .ref 1000000)]) kc_195_1501 rfl rfl ev184 rfl (xm_lt ml_195 rfl) ?_
                      refine xi_goto (pc' := 23) kc_195_1504 rfl ?_
                      exact kk v184 hh181 (by omega) K182 (xI_kept I KR183.2.1)
                · refine xi_cmf (pc' := 84) kc_163_81 rfl (xc_gt_f (X := a23.toInt) (Y := 50) rfl (by decide) (by omega)) ?_
                  refine xi_iload (pc' := 86) (x := a27) kc_163_84 rfl rfl ?_
                  refine xi_sipush (pc' := 89) (v := 600) kc_163_86 rfl rfl ?_
                  by_cases c185 : 600 < a27.toInt
                  · refine xi_cmt (pc' := 101) kc_163_89 rfl (xc_gt_t (X := a27.toInt) (Y := 600) rfl (by decide) (by omega)) ?_
                    refine xi_aload_n (pc' := 102) (x := 0) kc_163_101 rfl rfl ?_
                    refine xi_bipush (pc' := 104) (v := (-6)) kc_163_102 rfl rfl ?_
                    refine xi_virtual (mj := 90) (as := [.int (-6)]) (st1 := []) (lv0 := [(0, .ref 0), (1, .int (-6))]) kc_163_104 rfl rfl rfl rfl rfl A3 (Nat.le_of_ble_eq_true rfl) (hJ _ _ _ _ (by decide)) (xm_le ml_90 rfl) rfl ?_
                    refine xi_iload_n (pc' := 1) (x := (-6)) kc_90_0 rfl rfl ?_
                    refine xi_ineg (pc' := 2) (v := 6) kc_90_1 rfl rfl ?_
                    refine xi_istore_n (pc' := 3) (lv' := [(2, .int 6), (0, .ref 0), (1, .int (-6))]) kc_90_2 rfl rfl (xm_lt ml_90 rfl) ?_
                    refine xi_iload_n (pc' := 4) (x := 6) kc_90_3 rfl rfl ?_
                    refine xi_iff (pc' := 7) kc_90_4 rfl rfl ?_
                    refine xi_iload_n (pc' := 8) (x := 6) kc_90_7 rfl rfl ?_
                    refine xi_aload_n (pc' := 9) (x := 0) kc_90_8 rfl rfl ?_
                    refine xi_getfield (pc' := 12) (v := .ref 94) kc_90_9 rfl rfl rfl A3 rfl ?_
                    obtain ⟨y186, A186, hy186, ry186⟩ := xk_arr K.1 xD_94
                    refine xi_arraylength (pc' := 13) (n := 7) (v := 7) kc_90_12 rfl (xl_lenI (by decide) (by decide) A186 hy186) rfl ?_
                    refine xi_cmf (pc' := 16) kc_90_13 rfl rfl ?_
                    refine xi_aload_n (pc' := 17) (x := 0) kc_90_16 rfl rfl ?_
                    refine xi_getfield (pc' := 20) (v := .ref 94) kc_90_17 rfl rfl rfl A3 rfl ?_
                    refine xi_iload_n (pc' := 21) (x := 6) kc_90_20 rfl rfl ?_
                    refine xi_dup2 (pc' := 22) kc_90_21 rfl ⟨rfl, rfl⟩ ?_
                    obtain ⟨v187, ev187, bv187, dv187⟩ := xj_get hy186 ry186 (i := 6) (by decide) (by decide)
                    refine xi_iaload (pc' := 23) (v := v187) kc_90_22 rfl A186 (by decide) rfl (xi_in (by decide) (by rw [hy186]; decide)) ev187 ?_
                    refine xi_iconst (pc' := 24) (v := 1) kc_90_23 rfl rfl ?_
                    obtain ⟨v188, ev188⟩ : ∃ q : Int32, (v187 : Int32) + 1 = q := ⟨_, rfl⟩
                    have rv188 := xc_rng v188
                    refine xi_iadd (pc' := 25) (v := v188) kc_90_24 rfl ev188 ?_
                    obtain ⟨y189, s189, hy189, ry189⟩ := xj_set (v := v188) hy186 ry186 6 (by first | omega | decide) (by first | omega | decide)
                    refine xi_iastore (pc' := 26) (x' := y189) kc_90_25 rfl A186 rfl (xi_in (by decide) (by rw [hy186]; decide)) s189 (fun hh189 eh189 => ?_)
                    have K190 := xk_pa K (xk_wa (by decide +kernel)) xD_94 hy189 ry189 eh189
                    have KR191 := xk_pa KR (xk_wa (by decide +kernel)) xD_94 hy189 ry189 eh189
                    refine xi_iload_n (pc' := 27) (x := (-6)) kc_90_26 rfl rfl ?_
                    refine xi_ireturn kc_90_27 mr_90 rfl ?_
                    show xw J ov 99 163 (107, [(0, .ref 0), (1, .int a19), (2, .int a21), (3, .int a23), (4, .int a25), (5, .int a27)], [.int (-6)], hh189) _
                    refine xi_ireturn kc_163_107 mr_163 rfl ?_
                    show xw J ov 100 195 (1056, [(4, .int x4), (3, .ref 167), (2, .ref 115), (1, .ref 0), (0, .ref 1000000)], [.int (-6)], hh189) _
                    refine xi_pop (pc' := 1057) kc_195_1056 rfl rfl ?_
                    refine xi_aload_n (pc' := 1058) (x := 115) kc_195_1057 rfl rfl ?_
                    refine xi_aload_n (pc' := 1059) (x := 1000000) kc_195_1058 rfl rfl ?_
                    refine xi_iload (pc' := 1061) (x := x4) kc_195_1059 rfl rfl ?_
                    refine xi_iconst (pc' := 1062) (v := 1) kc_195_1061 rfl rfl ?_
                    refine xi_iadd (pc' := 1063) (v := v18) kc_195_1062 rfl ev18 ?_
                    refine xi_ialoadO (pc' := 1064) (v := a19) kc_195_1063 rfl (by decide) hov0 (xi_in (by omega) (by omega)) ea19 ?_
                    refine xi_aload_n (pc' := 1065) (x := 1000000) kc_195_1064 rfl rfl ?_
                    refine xi_iload (pc' := 1067) (x := x4) kc_195_1065 rfl rfl ?_
                    refine xi_iconst (pc' := 1068) (v := 2) kc_195_1067 rfl rfl ?_
                    refine xi_iadd (pc' := 1069) (v := v20) kc_195_1068 rfl ev20 ?_
                    refine xi_ialoadO (pc' := 1070) (v := a21) kc_195_1069 rfl (by decide) hov0 (xi_in (by omega) (by omega)) ea21 ?_
                    refine xi_aload_n (pc' := 1071) (x := 1000000) kc_195_1070 rfl rfl ?_
                    refine xi_iload (pc' := 1073) (x := x4) kc_195_1071 rfl rfl ?_
                    refine xi_iconst (pc' := 1074) (v := 3) kc_195_1073 rfl rfl ?_
                    refine xi_iadd (pc' := 1075) (v := v22) kc_195_1074 rfl ev22 ?_
                    refine xi_ialoadO (pc' := 1076) (v := a23) kc_195_1075 rfl (by decide) hov0 (xi_in (by omega) (by omega)) ea23 ?_
                    refine xi_aload_n (pc' := 1077) (x := 1000000) kc_195_1076 rfl rfl ?_
                    refine xi_iload (pc' := 1079) (x := x4) kc_195_1077 rfl rfl ?_
                    refine xi_iconst (pc' := 1080) (v := 4) kc_195_1079 rfl rfl ?_
                    refine xi_iadd (pc' := 1081) (v := v24) kc_195_1080 rfl ev24 ?_
                    refine xi_ialoadO (pc' := 1082) (v := a25) kc_195_1081 rfl (by decide) hov0 (xi_in (by omega) (by omega)) ea25 ?_
                    refine xi_aload_n (pc' := 1083) (x := 1000000) kc_195_1082 rfl rfl ?_
                    refine xi_iload (pc' := 1085) (x := x4) kc_195_1083 rfl rfl ?_
                    refine xi_iconst (pc' := 1086) (v := 5) kc_195_1085 rfl rfl ?_
                    refine xi_iadd (pc' := 1087) (v := v26) kc_195_1086 rfl ev26 ?_
                    refine xi_ialoadO (pc' := 1088) (v := a27) kc_195_1087 rfl (by decide) hov0 (xi_in (by omega) (by omega)) ea27 ?_
                    have A192 := ((eh189.2.1 115 (by decide)).trans A17)
                    refine xi_virtual (mj := 61) (as := [.int a19, .int a21, .int a23, .int a25, .int a27]) (st1 := []) (lv0 := [(0, .ref 115), (1, .int a19), (2, .int a21), (3, .int a23), (4, .int a25), (5, .int a27)]) kc_195_1088 rfl rfl rfl rfl rfl A192 (Nat.le_of_ble_eq_true rfl) (hJ _ _ _ _ (by decide)) (xm_le ml_61 rfl) rfl ?_
                    refine xi_aload_n (pc' := 1) (x := 115) kc_61_0 rfl rfl ?_
                    refine xi_iconst (pc' := 2) (v := 0) kc_61_1 rfl rfl ?_
                    refine xi_putfield (pc' := 5) (fs' := [.int 0, .int u2, .ref 116, .ref 117, .ref 118, .ref 119, .ref 120, .ref 121, .ref 122, .ref 123, .ref 124, .ref 125, .ref 126, .ref 127, .ref 128, .ref 129, .int u6, .ref 130, .int u7, .ref 131, .ref 132, .ref 133, .ref 134, .int u8, .ref 135, .ref 136, .ref 137, .ref 138, .ref 139, .ref 140, .ref 141, .ref 142, .int u9, .int u10, .int u1, .ref 143, .ref 144, .ref 145, .ref 146, .ref 147, .ref 148, .int u12, .ref 149, .ref 150, .ref 151, .int u13, .ref 152, .ref 153, .ref 154, .ref 155, .ref 156, .ref 157, .ref 158, .ref 159, .int u14, .ref 160, .int u15, .ref 161, .ref 162, .ref 163, .ref 164, .int u16, .ref 165, .ref 166]) kc_61_2 rfl rfl rfl A192 rfl rfl rfl (Nat.le_of_ble_eq_true rfl) rfl (fun hh194 eh193 => ?_)
                    have K195 := xk_pf (k := 0) (v := 0) K190 (xk_wf (by decide +kernel)) xD_115 A192 rfl (by first | omega | decide) (by first | omega | decide) eh193 rfl
                    have KR196 := xk_pf (k := 0) (v := 0) KR191 (xk_wf (by decide +kernel)) xD_115 A192 rfl (by first | omega | decide) (by first | omega | decide) eh193 rfl
                    refine xi_iload_n (pc' := 6) (x := a19) kc_61_5 rfl rfl ?_
                    refine xi_static (mj := 10) (as := [.int a19]) (st1 := []) (lv0 := [(0, .int a19)]) kc_61_6 rfl rfl (Nat.le_of_ble_eq_true rfl) rfl rfl (Nat.le_of_ble_eq_true rfl) (hJ _ _ _ _ (by decide)) (xm_le ml_10 rfl) rfl ?_
                    refine xi_iload_n (pc' := 1) (x := a19) kc_10_0 rfl rfl ?_
                    refine xi_iconst (pc' := 2) (v := 0) kc_10_1 rfl rfl ?_
                    refine xi_iconst (pc' := 3) (v := 5) kc_10_2 rfl rfl ?_
                    refine xi_static (mj := 11) (as := [.int a19, .int 0, .int 5]) (st1 := []) (lv0 := [(0, .int a19), (1, .int 0), (2, .int 5)]) kc_10_3 rfl rfl (Nat.le_of_ble_eq_true rfl) rfl rfl (Nat.le_of_ble_eq_true rfl) (hJ _ _ _ _ (by decide)) (xm_le ml_11 rfl) rfl ?_
                    refine xi_iload_n (pc' := 1) (x := a19) kc_11_0 rfl rfl ?_
                    refine xi_iload_n (pc' := 2) (x := 0) kc_11_1 rfl rfl ?_
                    refine xi_cmf (pc' := 5) kc_11_2 rfl (xc_lt_f (X := a19.toInt) (Y := 0) rfl (by decide) (by omega)) ?_
                    refine xi_iload_n (pc' := 6) (x := a19) kc_11_5 rfl rfl ?_
                    refine xi_iload_n (pc' := 7) (x := 5) kc_11_6 rfl rfl ?_
                    refine xi_cmf (pc' := 10) kc_11_7 rfl (xc_gt_f (X := a19.toInt) (Y := 5) rfl (by decide) (by omega)) ?_
                    refine xi_iconst (pc' := 11) (v := 1) kc_11_10 rfl rfl ?_
                    refine xi_goto (pc' := 15) kc_11_11 rfl ?_
                    refine xi_ireturn kc_11_15 mr_11 rfl ?_
                    show xw J ov 98 10 (6, [(0, .int a19)], [.int 1], hh194) _
                    refine xi_ireturn kc_10_6 mr_10 rfl ?_
                    show xw J ov 99 61 (9, [(0, .ref 115), (1, .int a19), (2, .int a21), (3, .int a23), (4, .int a25), (5, .int a27)], [.int 1], hh194) _
                    refine xi_ift (pc' := 18) kc_61_9 rfl rfl ?_
                    refine xi_iload_n (pc' := 19) (x := a21) kc_61_18 rfl rfl ?_
                    refine xi_iconst (pc' := 20) (v := 0) kc_61_19 rfl rfl ?_
                    refine xi_iconst (pc' := 21) (v := 1) kc_61_20 rfl rfl ?_
                    refine xi_static (mj := 11) (as := [.int a21, .int 0, .int 1]) (st1 := []) (lv0 := [(0, .int a21), (1, .int 0), (2, .int 1)]) kc_61_21 rfl rfl (Nat.le_of_ble_eq_true rfl) rfl rfl (Nat.le_of_ble_eq_true rfl) (hJ _ _ _ _ (by decide)) (xm_le ml_11 rfl) rfl ?_
                    refine xi_iload_n (pc' := 1) (x := a21) kc_11_0 rfl rfl ?_
                    refine xi_iload_n (pc' := 2) (x := 0) kc_11_1 rfl rfl ?_
                    refine xi_cmf (pc' := 5) kc_11_2 rfl (xc_lt_f (X := a21.toInt) (Y := 0) rfl (by decide) (by omega)) ?_
                    refine xi_iload_n (pc' := 6) (x := a21) kc_11_5 rfl rfl ?_
                    refine xi_iload_n (pc' := 7) (x := 1) kc_11_6 rfl rfl ?_
                    refine xi_cmf (pc' := 10) kc_11_7 rfl (xc_gt_f (X := a21.toInt) (Y := 1) rfl (by decide) (by omega)) ?_
                    refine xi_iconst (pc' := 11) (v := 1) kc_11_10 rfl rfl ?_
                    refine xi_goto (pc' := 15) kc_11_11 rfl ?_
                    refine xi_ireturn kc_11_15 mr_11 rfl ?_
                    show xw J ov 99 61 (24, [(0, .ref 115), (1, .int a19), (2, .int a21), (3, .int a23), (4, .int a25), (5, .int a27)], [.int 1], hh194) _
                    refine xi_ift (pc' := 34) kc_61_24 rfl rfl ?_
                    refine xi_iconst (pc' := 35) (v := 0) kc_61_34 rfl rfl ?_
                    refine xi_istore (pc' := 37) (lv' := [(6, .int 0), (0, .ref 115), (1, .int a19), (2, .int a21), (3, .int a23), (4, .int a25), (5, .int a27)]) kc_61_35 rfl rfl (xm_lt ml_61 rfl) ?_
                    refine xw_lv (b := [(0, .ref 115), (1, .int a19), (2, .int a21), (3, .int a23), (4, .int a25), (5, .int a27), (6, .int 0)]) (lvS_cons (lvS_cons (lvS_cons (lvS_cons (lvS_cons (lvS_cons (lvS_cons (lvS_nil (show ([6, 0, 1, 2, 3, 4, 5] : List Nat).Nodup by decide)) rfl) rfl) rfl) rfl) rfl) rfl) rfl) ?_
                    have zc0 : (0 : Int32).toInt = 0 := by decide
                    have A197 := ((eh193.2.1 143 (by decide)).trans ((eh189.2.1 143 (by decide)).trans A69))
                    have A198 := ((eh193.2.1 146 (by decide)).trans ((eh189.2.1 146 (by decide)).trans A70))
                    have A199 := ((eh193.2.1 147 (by decide)).trans ((eh189.2.1 147 (by decide)).trans A71))
                    refine tr_lp hJ hov1 hov2 (d := 97) K195.1 (xra_mk A197 (xrp_of hy69)) (xra_mk A198 (xrp_of hy70)) (xra_mk A199 (xrp_of hy71)) (xfi_mk eh193.1 rfl rfl) (by omega) (by omega) (by omega) (fun hx hh200 K201 => ?_) (fun hx lv9 hS => ?_) 21 0 (by omega) xov_0 (by omega)
                    · have KR202 := xk_tr KR196 K201 (by decide +kernel)
                      have K203 := xk_tr K195 K201 (xsb_ok _ _ (by decide +kernel))
                      show xw J ov 100 195 (1091, [(4, .int x4), (3, .ref 167), (2, .ref 115), (1, .ref 0), (0, .ref 1000000)], [.int (-3)], hh200) _
                      refine xi_pop (pc' := 1092) kc_195_1091 rfl rfl ?_
                      refine xi_goto (pc' := 1501) kc_195_1092 rfl ?_
                      obtain ⟨v204, ev204⟩ : ∃ q : Int32, x4 + 6 = q := ⟨_, rfl⟩
                      have zv204 : v204.toInt = (x4.toInt + 6) := by rw [← ev204]; exact (xz_add (X := x4.toInt) (Y := 6) rfl (by decide) (by omega) (by omega)).trans (by omega)
                      refine xi_iinc (pc' := 1504) (x := x4) (v := v204) (lv' := [(4, .int v204), (3, .ref 167), (2, .ref 115), (1, .ref 0), (0, .ref 1000000)]) kc_195_1501 rfl rfl ev204 rfl (xm_lt ml_195 rfl) ?_
                      refine xi_goto (pc' := 23) kc_195_1504 rfl ?_
                      exact kk v204 hh200 (by omega) K203 (xI_kept I KR202.2.1)
                    · refine xw_lv hS ?_
                      show xw J ov 99 61 (94, [(0, .ref 115), (1, .int a19), (2, .int a21), (3, .int a23), (4, .int a25), (5, .int a27)], [], hh194) _
                      refine xi_iload_n (pc' := 95) (x := a23) kc_61_94 rfl rfl ?_
                      refine xi_iff (pc' := 98) kc_61_95 rfl (xc_lt_f (X := a23.toInt) (Y := 0) rfl (by decide) (by omega)) ?_
                      refine xi_iload (pc' := 100) (x := a25) kc_61_98 rfl rfl ?_
                      refine xi_aload_n (pc' := 101) (x := 115) kc_61_100 rfl rfl ?_
                      refine xi_getfield (pc' := 104) (v := .int u2) kc_61_101 rfl rfl rfl eh193.1 rfl ?_
                      refine xi_cmf (pc' := 107) kc_61_104 rfl (xc_lt_f (X := a25.toInt) (Y := u2.toInt) rfl rfl (by omega)) ?_
                      refine xi_iload (pc' := 109) (x := a27) kc_61_107 rfl rfl ?_
                      refine xi_iload (pc' := 111) (x := a25) kc_61_109 rfl rfl ?_
                      refine xi_cmt (pc' := 121) kc_61_111 rfl (xc_gt_t (X := a27.toInt) (Y := a25.toInt) rfl rfl (by omega)) ?_
                      refine xi_iload (pc' := 123) (x := a27) kc_61_121 rfl rfl ?_
                      refine xi_sipush (pc' := 126) (v := 600) kc_61_123 rfl rfl ?_
                      refine xi_cmt (pc' := 144) kc_61_126 rfl (xc_gt_t (X := a27.toInt) (Y := 600) rfl (by decide) (by omega)) ?_
                      refine xi_aload_n (pc' := 145) (x := 115) kc_61_144 rfl rfl ?_
                      refine xi_bipush (pc' := 147) (v := (-6)) kc_61_145 rfl rfl ?_
                      refine xi_virtual (mj := 12) (as := [.int (-6)]) (st1 := []) (lv0 := [(0, .ref 115), (1, .int (-6))]) kc_61_147 rfl rfl rfl rfl rfl eh193.1 (Nat.le_of_ble_eq_true rfl) (hJ _ _ _ _ (by decide)) (xm_le ml_12 rfl) rfl ?_
                      refine xi_aload_n (pc' := 1) (x := 115) kc_12_0 rfl rfl ?_
                      refine xi_getfield (pc' := 4) (v := .ref 140) kc_12_1 rfl rfl rfl eh193.1 rfl ?_
                      refine xi_iload_n (pc' := 5) (x := (-6)) kc_12_4 rfl rfl ?_
                      refine xi_ineg (pc' := 6) (v := 6) kc_12_5 rfl rfl ?_
                      refine xi_dup2 (pc' := 7) kc_12_6 rfl ⟨rfl, rfl⟩ ?_
                      obtain ⟨y205, A205, hy205, ry205⟩ := xk_arr K.1 xD_140
                      obtain ⟨v206, ev206, bv206, dv206⟩ := xj_get hy205 ry205 (i := 6) (by decide) (by decide)
                      have A207 := ((eh193.2.1 140 (by decide)).trans ((eh189.2.1 140 (by decide)).trans A205))
                      refine xi_iaload (pc' := 8) (v := v206) kc_12_7 rfl A207 (by decide) rfl (xi_in (by decide) (by rw [hy205]; decide)) ev206 ?_
                      refine xi_iconst (pc' := 9) (v := 1) kc_12_8 rfl rfl ?_
                      obtain ⟨v208, ev208⟩ : ∃ q : Int32, (v206 : Int32) + 1 = q := ⟨_, rfl⟩
                      have rv208 := xc_rng v208
                      refine xi_iadd (pc' := 10) (v := v208) kc_12_9 rfl ev208 ?_
                      obtain ⟨y209, s209, hy209, ry209⟩ := xj_set (v := v208) hy205 ry205 6 (by first | omega | decide) (by first | omega | decide)
                      refine xi_iastore (pc' := 11) (x' := y209) kc_12_10 rfl A207 rfl (xi_in (by decide) (by rw [hy205]; decide)) s209 (fun hh209 eh209 => ?_)
                      have K210 := xk_pa K195 (xk_wa (by decide +kernel)) xD_140 hy209 ry209 eh209
                      have KR211 := xk_pa KR196 (xk_wa (by decide +kernel)) xD_140 hy209 ry209 eh209
                      refine xi_iload_n (pc' := 12) (x := (-6)) kc_12_11 rfl rfl ?_
                      refine xi_ireturn kc_12_12 mr_12 rfl ?_
                      show xw J ov 99 61 (150, [(0, .ref 115), (1, .int a19), (2, .int a21), (3, .int a23), (4, .int a25), (5, .int a27)], [.int (-6)], hh209) _
                      refine xi_ireturn kc_61_150 mr_61 rfl ?_
                      show xw J ov 100 195 (1091, [(4, .int x4), (3, .ref 167), (2, .ref 115), (1, .ref 0), (0, .ref 1000000)], [.int (-6)], hh209) _
                      refine xi_pop (pc' := 1092) kc_195_1091 rfl rfl ?_
                      refine xi_goto (pc' := 1501) kc_195_1092 rfl ?_
                      obtain ⟨v212, ev212⟩ : ∃ q : Int32, x4 + 6 = q := ⟨_, rfl⟩
                      have zv212 : v212.toInt = (x4.toInt + 6) := by rw [← ev212]; exact (xz_add (X := x4.toInt) (Y := 6) rfl (by decide) (by omega) (by omega)).trans (by omega)
                      refine xi_iinc (pc' := 1504) (x := x4) (v := v212) (lv' := [(4, .int v212), (3, .ref 167), (2, .ref 115), (1, .ref 0), (0, .ref 1000000)]) kc_195_1501 rfl rfl ev212 rfl (xm_lt ml_195 rfl) ?_
                      refine xi_goto (pc' := 23) kc_195_1504 rfl ?_
                      exact kk v212 hh209 (by omega) K210 (xI_kept I KR211.2.1)
                  · refine xi_cmf (pc' := 92) kc_163_89 rfl (xc_gt_f (X := a27.toInt) (Y := 600) rfl (by decide) (by omega)) ?_
                    refine xi_aload_n (pc' := 93) (x := 0) kc_163_92 rfl rfl ?_
                    refine xi_getfield (pc' := 96) (v := .int u1) kc_163_93 rfl rfl rfl A3 rfl ?_
                    refine xi_bipush (pc' := 98) (v := 20) kc_163_96 rfl rfl ?_
                    by_cases c213 : u1.toInt < 20
                    · refine xi_cmt (pc' := 108) kc_163_98 rfl (xc_lt_t (X := u1.toInt) (Y := 20) rfl (by decide) (by omega)) ?_
                      refine xi_aload_n (pc' := 109) (x := 0) kc_163_108 rfl rfl ?_
                      refine xi_getfield (pc' := 112) (v := .ref 93) kc_163_109 rfl rfl rfl A3 rfl ?_
                      refine xi_aload_n (pc' := 113) (x := 0) kc_163_112 rfl rfl ?_
                      refine xi_getfield (pc' := 116) (v := .int u1) kc_163_113 rfl rfl rfl A3 rfl ?_
                      have A214 := xk_ex K.1 xD_93
                      obtain ⟨pt215, ept215, mpt215⟩ := xR_93 (i := u1) (by omega) (by omega)
                      refine xj_aaload (pc' := 117) (b := pt215) kc_163_116 rfl A214 rfl (xi_in (n := 20) (by omega) (by omega)) ept215 ?_
                      refine xi_astore (pc' := 119) (lv' := [(6, .ref pt215), (0, .ref 0), (1, .int a19), (2, .int a21), (3, .int a23), (4, .int a25), (5, .int a27)]) kc_163_117 rfl rfl (xm_lt ml_163 rfl) ?_
                      refine xi_aload (pc' := 121) (x := pt215) kc_163_119 rfl rfl ?_
                      refine xi_iload_n (pc' := 122) (x := a19) kc_163_121 rfl rfl ?_
                      obtain ⟨u216, u217, u218, u219, u220, u221, bu216, bu217, bu218, bu219, bu220, bu221, A222⟩ := xg_trial K.1 mpt215
                      have HG223 : y69.getD (Int32.toNatClampNeg u1) 0 = u216 := xGR_ld (Lo := [some 95, some 96, some 97, some 98, some 99, some 100, some 101, some 102, some 103, some 104, some 105, some 106, some 107, some 108, some 109, some 110, some 111, some 112, some 113, some 114]) I.2.2.2.2.2.2.2.2.2.2.2.2.2.2.2.2.2.2.2.2.2.2.2.2.1 rfl ept215 (by omega) (by show _ < ((20 : Nat) : Int); omega) A222 rfl A69
                      have bHG223 : 0 ≤ u216.toInt ∧ u216.toInt ≤ 5 := by rw [← HG223]; exact ry69 _ (xj_nat (n := 20) (by omega) (by omega))
                      have HG224 : y70.getD (Int32.toNatClampNeg u1) 0 = u219 := xGR_ld (Lo := [some 95, some 96, some 97, some 98, some 99, some 100, some 101, some 102, some 103, some 104, some 105, some 106, some 107, some 108, some 109, some 110, some 111, some 112, some 113, some 114]) I.2.2.2.2.2.2.2.2.2.2.2.2.2.2.2.2.2.2.2.2.2.2.2.2.2.1 rfl ept215 (by omega) (by show _ < ((20 : Nat) : Int); omega) A222 rfl A70
                      have bHG224 : 0 ≤ u219.toInt ∧ u219.toInt ≤ 600 := by rw [← HG224]; exact ry70 _ (xj_nat (n := 20) (by omega) (by omega))
                      have HG225 : y71.getD (Int32.toNatClampNeg u1) 0 = u220 := xGR_ld (Lo := [some 95, some 96, some 97, some 98, some 99, some 100, some 101, some 102, some 103, some 104, some 105, some 106, some 107, some 108, some 109, some 110, some 111, some 112, some 113, some 114]) I.2.2.2.2.2.2.2.2.2.2.2.2.2.2.2.2.2.2.2.2.2.2.2.2.2.2.1 rfl ept215 (by omega) (by show _ < ((20 : Nat) : Int); omega) A222 rfl A71
                      have bHG225 : 0 ≤ u220.toInt ∧ u220.toInt ≤ 600 := by rw [← HG225]; exact ry71 _ (xj_nat (n := 20) (by omega) (by omega))
                      obtain ⟨y226, A226, hy226, ry226⟩ := xk_arr K.1 xD_148
                      have HG227 : y226.getD (Int32.toNatClampNeg u1) 0 = u221 := xGR_ld (Lo := [some 95, some 96, some 97, some 98, some 99, some 100, some 101, some 102, some 103, some 104, some 105, some 106, some 107, some 108, some 109, some 110, some 111, some 112, some 113, some 114]) I.2.2.2.2.2.2.2.2.2.2.2.2.2.2.2.2.2.2.2.2.2.2.2.2.2.2.2.1 rfl ept215 (by omega) (by show _ < ((20 : Nat) : Int); omega) A222 rfl A226
                      have bHG227 : 0 ≤ u221.toInt ∧ u221.toInt ≤ 50 := by rw [← HG227]; exact ry226 _ (xj_nat (n := 20) (by omega) (by omega))
                      refine xi_putfield (pc' := 125) (fs' := [.int a19, .int u217, .int u218, .int u219, .int u220, .int u221]) kc_163_122 rfl rfl rfl A222 rfl rfl rfl (Nat.le_of_ble_eq_true rfl) rfl (fun hh229 eh228 => ?_)
                      obtain ⟨ds230, Dds230, dds230_0, dds230_1, dds230_2, dds230_3, dds230_4, dds230_5⟩ := xGo_trial mpt215
                      have K231 := xk_pf (k := 0) (v := a19) K (xk_gf mpt215 (by decide +kernel)) Dds230 A222 dds230_0 (by first | omega | decide) (by first | omega | decide) eh228 rfl
                      refine xi_aload (pc' := 127) (x := pt215) kc_163_125 rfl rfl ?_
                      refine xi_iload_n (pc' := 128) (x := a21) kc_163_127 rfl rfl ?_
                      refine xi_iff (pc' := 131) kc_163_128 rfl (xc_ne_f (X := a21.toInt) (Y := 0) rfl (by decide) (by omega)) ?_
                      refine xi_iconst (pc' := 132) (v := 4) kc_163_131 rfl rfl ?_
                      refine xi_goto (pc' := 136) kc_163_132 rfl ?_
                      refine xi_putfield (pc' := 139) (fs' := [.int a19, .int 4, .int u218, .int u219, .int u220, .int u221]) kc_163_136 rfl rfl rfl eh228.1 rfl rfl rfl (Nat.le_of_ble_eq_true rfl) rfl (fun hh233 eh232 => ?_)
                      obtain ⟨ds234, Dds234, dds234_0, dds234_1, dds234_2, dds234_3, dds234_4, dds234_5⟩ := xGo_trial mpt215
                      have K235 := xk_pf (k := 1) (v := 4) K231 (xk_gf mpt215 (by decide +kernel)) Dds234 eh228.1 dds234_1 (by first | omega | decide) (by first | omega | decide) eh232 rfl
                      refine xi_aload (pc' := 141) (x := pt215) kc_163_139 rfl rfl ?_
                      refine xi_iload_n (pc' := 142) (x := a21) kc_163_141 rfl rfl ?_
                      refine xi_iff (pc' := 145) kc_163_142 rfl (xc_ne_f (X := a21.toInt) (Y := 0) rfl (by decide) (by omega)) ?_
                      refine xi_iconst (pc' := 146) (v := 1) kc_163_145 rfl rfl ?_
                      refine xi_goto (pc' := 150) kc_163_146 rfl ?_
                      refine xi_putfield (pc' := 153) (fs' := [.int a19, .int 4, .int 1, .int u219, .int u220, .int u221]) kc_163_150 rfl rfl rfl eh232.1 rfl rfl rfl (Nat.le_of_ble_eq_true rfl) rfl (fun hh237 eh236 => ?_)
                      obtain ⟨ds238, Dds238, dds238_0, dds238_1, dds238_2, dds238_3, dds238_4, dds238_5⟩ := xGo_trial mpt215
                      have K239 := xk_pf (k := 2) (v := 1) K235 (xk_gf mpt215 (by decide +kernel)) Dds238 eh232.1 dds238_2 (by first | omega | decide) (by first | omega | decide) eh236 rfl
                      refine xi_aload (pc' := 155) (x := pt215) kc_163_153 rfl rfl ?_
                      refine xi_iload (pc' := 157) (x := a25) kc_163_155 rfl rfl ?_
                      refine xi_putfield (pc' := 160) (fs' := [.int a19, .int 4, .int 1, .int a25, .int u220, .int u221]) kc_163_157 rfl rfl rfl eh236.1 rfl rfl rfl (Nat.le_of_ble_eq_true rfl) rfl (fun hh241 eh240 => ?_)
                      obtain ⟨ds242, Dds242, dds242_0, dds242_1, dds242_2, dds242_3, dds242_4, dds242_5⟩ := xGo_trial mpt215
                      have K243 := xk_pf (k := 3) (v := a25) K239 (xk_gf mpt215 (by decide +kernel)) Dds242 eh236.1 dds242_3 (by first | omega | decide) (by first | omega | decide) eh240 rfl
                      refine xi_aload (pc' := 162) (x := pt215) kc_163_160 rfl rfl ?_
                      refine xi_iload (pc' := 164) (x := a27) kc_163_162 rfl rfl ?_
                      refine xi_putfield (pc' := 167) (fs' := [.int a19, .int 4, .int 1, .int a25, .int a27, .int u221]) kc_163_164 rfl rfl rfl eh240.1 rfl rfl rfl (Nat.le_of_ble_eq_true rfl) rfl (fun hh245 eh244 => ?_)
                      obtain ⟨ds246, Dds246, dds246_0, dds246_1, dds246_2, dds246_3, dds246_4, dds246_5⟩ := xGo_trial mpt215
                      have K247 := xk_pf (k := 4) (v := a27) K243 (xk_gf mpt215 (by decide +kernel)) Dds246 eh240.1 dds246_4 (by first | omega | decide) (by first | omega | decide) eh244 rfl
                      refine xi_aload_n (pc' := 168) (x := 0) kc_163_167 rfl rfl ?_
                      refine xi_dup (pc' := 169) kc_163_168 rfl rfl ?_
                      have A248 := ((eh244.2.1 0 (xk_nc mpt215 rfl)).trans ((eh240.2.1 0 (xk_nc mpt215 rfl)).trans ((eh236.2.1 0 (xk_nc mpt215 rfl)).trans ((eh232.2.1 0 (xk_nc mpt215 rfl)).trans ((eh228.2.1 0 (xk_nc mpt215 rfl)).trans A3)))))
                      refine xi_getfield (pc' := 172) (v := .int u1) kc_163_169 rfl rfl rfl A248 rfl ?_
                      refine xi_iconst (pc' := 173) (v := 1) kc_163_172 rfl rfl ?_
                      obtain ⟨v249, ev249⟩ : ∃ q : Int32, u1 + 1 = q := ⟨_, rfl⟩
                      have zv249 : v249.toInt = (u1.toInt + 1) := by rw [← ev249]; exact (xz_add (X := u1.toInt) (Y := 1) rfl (by decide) (by omega) (by omega)).trans (by omega)
                      refine xi_iadd (pc' := 174) (v := v249) kc_163_173 rfl ev249 ?_
                      refine xi_putfield (pc' := 177) (fs' := [.ref 1, .ref 63, .ref 66, .ref 75, .ref 80, .ref 85, .ref 93, .ref 94, .int v249, .int u2]) kc_163_174 rfl rfl rfl A248 rfl rfl rfl (Nat.le_of_ble_eq_true rfl) rfl (fun hh251 eh250 => ?_)
                      have K252 := xk_pf (k := 8) (v := v249) K247 (xk_wf (by decide +kernel)) xD_0 A248 rfl (by first | omega | decide) (by first | omega | decide) eh250 rfl
                      refine xi_aload_n (pc' := 178) (x := 0) kc_163_177 rfl rfl ?_
                      refine xi_getfield (pc' := 181) (v := .int v249) kc_163_178 rfl rfl rfl eh250.1 rfl ?_
                      refine xi_iconst (pc' := 182) (v := 1) kc_163_181 rfl rfl ?_
                      obtain ⟨v253, ev253⟩ : ∃ q : Int32, v249 - 1 = q := ⟨_, rfl⟩
                      have zv253 : v253.toInt = u1.toInt := by rw [← ev253]; exact (xz_sub (X := (u1.toInt + 1)) (Y := 1) zv249 (by decide) (by omega) (by omega)).trans (by omega)
                      refine xi_isub (pc' := 183) (v := v253) kc_163_182 rfl ev253 ?_
                      refine xi_ireturn kc_163_183 mr_163 rfl ?_
                      show xw J ov 100 195 (1056, [(4, .int x4), (3, .ref 167), (2, .ref 115), (1, .ref 0), (0, .ref 1000000)], [.int v253], hh251) _
                      refine xi_pop (pc' := 1057) kc_195_1056 rfl rfl ?_
                      refine xi_aload_n (pc' := 1058) (x := 115) kc_195_1057 rfl rfl ?_
                      refine xi_aload_n (pc' := 1059) (x := 1000000) kc_195_1058 rfl rfl ?_
                      refine xi_iload (pc' := 1061) (x := x4) kc_195_1059 rfl rfl ?_
                      refine xi_iconst (pc' := 1062) (v := 1) kc_195_1061 rfl rfl ?_
                      refine xi_iadd (pc' := 1063) (v := v18) kc_195_1062 rfl ev18 ?_
                      refine xi_ialoadO (pc' := 1064) (v := a19) kc_195_1063 rfl (by decide) hov0 (xi_in (by omega) (by omega)) ea19 ?_
                      refine xi_aload_n (pc' := 1065) (x := 1000000) kc_195_1064 rfl rfl ?_
                      refine xi_iload (pc' := 1067) (x := x4) kc_195_1065 rfl rfl ?_
                      refine xi_iconst (pc' := 1068) (v := 2) kc_195_1067 rfl rfl ?_
                      refine xi_iadd (pc' := 1069) (v := v20) kc_195_1068 rfl ev20 ?_
                      refine xi_ialoadO (pc' := 1070) (v := a21) kc_195_1069 rfl (by decide) hov0 (xi_in (by omega) (by omega)) ea21 ?_
                      refine xi_aload_n (pc' := 1071) (x := 1000000) kc_195_1070 rfl rfl ?_
                      refine xi_iload (pc' := 1073) (x := x4) kc_195_1071 rfl rfl ?_
                      refine xi_iconst (pc' := 1074) (v := 3) kc_195_1073 rfl rfl ?_
                      refine xi_iadd (pc' := 1075) (v := v22) kc_195_1074 rfl ev22 ?_
                      refine xi_ialoadO (pc' := 1076) (v := a23) kc_195_1075 rfl (by decide) hov0 (xi_in (by omega) (by omega)) ea23 ?_
                      refine xi_aload_n (pc' := 1077) (x := 1000000) kc_195_1076 rfl rfl ?_
                      refine xi_iload (pc' := 1079) (x := x4) kc_195_1077 rfl rfl ?_
                      refine xi_iconst (pc' := 1080) (v := 4) kc_195_1079 rfl rfl ?_
                      refine xi_iadd (pc' := 1081) (v := v24) kc_195_1080 rfl ev24 ?_
                      refine xi_ialoadO (pc' := 1082) (v := a25) kc_195_1081 rfl (by decide) hov0 (xi_in (by omega) (by omega)) ea25 ?_
                      refine xi_aload_n (pc' := 1083) (x := 1000000) kc_195_1082 rfl rfl ?_
                      refine xi_iload (pc' := 1085) (x := x4) kc_195_1083 rfl rfl ?_
                      refine xi_iconst (pc' := 1086) (v := 5) kc_195_1085 rfl rfl ?_
                      refine xi_iadd (pc' := 1087) (v := v26) kc_195_1086 rfl ev26 ?_
                      refine xi_ialoadO (pc' := 1088) (v := a27) kc_195_1087 rfl (by decide) hov0 (xi_in (by omega) (by omega)) ea27 ?_
                      have A254 := ((eh250.2.1 115 (by decide)).trans ((eh244.2.1 115 (xk_nc mpt215 rfl)).trans ((eh240.2.1 115 (xk_nc mpt215 rfl)).trans ((eh236.2.1 115 (xk_nc mpt215 rfl)).trans ((eh232.2.1 115 (xk_nc mpt215 rfl)).trans ((eh228.2.1 115 (xk_nc mpt215 rfl)).trans A17))))))
                      refine xi_virtual (mj := 61) (as := [.int a19, .int a21, .int a23, .int a25, .int a27]) (st1 := []) (lv0 := [(0, .ref 115), (1, .int a19), (2, .int a21), (3, .int a23), (4, .int a25), (5, .int a27)]) kc_195_1088 rfl rfl rfl rfl rfl A254 (Nat.le_of_ble_eq_true rfl) (hJ _ _ _ _ (by decide)) (xm_le ml_61 rfl) rfl ?_
                      refine xi_aload_n (pc' := 1) (x := 115) kc_61_0 rfl rfl ?_
                      refine xi_iconst (pc' := 2) (v := 0) kc_61_1 rfl rfl ?_
                      refine xi_putfield (pc' := 5) (fs' := [.int 0, .int u2, .ref 116, .ref 117, .ref 118, .ref 119, .ref 120, .ref 121, .ref 122, .ref 123, .ref 124, .ref 125, .ref 126, .ref 127, .ref 128, .ref 129, .int u6, .ref 130, .int u7, .ref 131, .ref 132, .ref 133, .ref 134, .int u8, .ref 135, .ref 136, .ref 137, .ref 138, .ref 139, .ref 140, .ref 141, .ref 142, .int u9, .int u10, .int u1, .ref 143, .ref 144, .ref 145, .ref 146, .ref 147, .ref 148, .int u12, .ref 149, .ref 150, .ref 151, .int u13, .ref 152, .ref 153, .ref 154, .ref 155, .ref 156, .ref 157, .ref 158, .ref 159, .int u14, .ref 160, .int u15, .ref 161, .ref 162, .ref 163, .ref 164, .int u16, .ref 165, .ref 166]) kc_61_2 rfl rfl rfl A254 rfl rfl rfl (Nat.le_of_ble_eq_true rfl) rfl (fun hh256 eh255 => ?_)
                      have K257 := xk_pf (k := 0) (v := 0) K252 (xk_wf (by decide +kernel)) xD_115 A254 rfl (by first | omega | decide) (by first | omega | decide) eh255 rfl
                      refine xi_iload_n (pc' := 6) (x := a19) kc_61_5 rfl rfl ?_
                      refine xi_static (mj := 10) (as := [.int a19]) (st1 := []) (lv0 := [(0, .int a19)]) kc_61_6 rfl rfl (Nat.le_of_ble_eq_true rfl) rfl rfl (Nat.le_of_ble_eq_true rfl) (hJ _ _ _ _ (by decide)) (xm_le ml_10 rfl) rfl ?_
                      refine xi_iload_n (pc' := 1) (x := a19) kc_10_0 rfl rfl ?_
                      refine xi_iconst (pc' := 2) (v := 0) kc_10_1 rfl rfl ?_
                      refine xi_iconst (pc' := 3) (v := 5) kc_10_2 rfl rfl ?_
                      refine xi_static (mj := 11) (as := [.int a19, .int 0, .int 5]) (st1 := []) (lv0 := [(0, .int a19), (1, .int 0), (2, .int 5)]) kc_10_3 rfl rfl (Nat.le_of_ble_eq_true rfl) rfl rfl (Nat.le_of_ble_eq_true rfl) (hJ _ _ _ _ (by decide)) (xm_le ml_11 rfl) rfl ?_
                      refine xi_iload_n (pc' := 1) (x := a19) kc_11_0 rfl rfl ?_
                      refine xi_iload_n (pc' := 2) (x := 0) kc_11_1 rfl rfl ?_
                      refine xi_cmf (pc' := 5) kc_11_2 rfl (xc_lt_f (X := a19.toInt) (Y := 0) rfl (by decide) (by omega)) ?_
                      refine xi_iload_n (pc' := 6) (x := a19) kc_11_5 rfl rfl ?_
                      refine xi_iload_n (pc' := 7) (x := 5) kc_11_6 rfl rfl ?_
                      refine xi_cmf (pc' := 10) kc_11_7 rfl (xc_gt_f (X := a19.toInt) (Y := 5) rfl (by decide) (by omega)) ?_
                      refine xi_iconst (pc' := 11) (v := 1) kc_11_10 rfl rfl ?_
                      refine xi_goto (pc' := 15) kc_11_11 rfl ?_
                      refine xi_ireturn kc_11_15 mr_11 rfl ?_
                      show xw J ov 98 10 (6, [(0, .int a19)], [.int 1], hh256) _
                      refine xi_ireturn kc_10_6 mr_10 rfl ?_
                      show xw J ov 99 61 (9, [(0, .ref 115), (1, .int a19), (2, .int a21), (3, .int a23), (4, .int a25), (5, .int a27)], [.int 1], hh256) _
                      refine xi_ift (pc' := 18) kc_61_9 rfl rfl ?_
                      refine xi_iload_n (pc' := 19) (x := a21) kc_61_18 rfl rfl ?_
                      refine xi_iconst (pc' := 20) (v := 0) kc_61_19 rfl rfl ?_
                      refine xi_iconst (pc' := 21) (v := 1) kc_61_20 rfl rfl ?_
                      refine xi_static (mj := 11) (as := [.int a21, .int 0, .int 1]) (st1 := []) (lv0 := [(0, .int a21), (1, .int 0), (2, .int 1)]) kc_61_21 rfl rfl (Nat.le_of_ble_eq_true rfl) rfl rfl (Nat.le_of_ble_eq_true rfl) (hJ _ _ _ _ (by decide)) (xm_le ml_11 rfl) rfl ?_
                      refine xi_iload_n (pc' := 1) (x := a21) kc_11_0 rfl rfl ?_
                      refine xi_iload_n (pc' := 2) (x := 0) kc_11_1 rfl rfl ?_
                      refine xi_cmf (pc' := 5) kc_11_2 rfl (xc_lt_f (X := a21.toInt) (Y := 0) rfl (by decide) (by omega)) ?_
                      refine xi_iload_n (pc' := 6) (x := a21) kc_11_5 rfl rfl ?_
                      refine xi_iload_n (pc' := 7) (x := 1) kc_11_6 rfl rfl ?_
                      refine xi_cmf (pc' := 10) kc_11_7 rfl (xc_gt_f (X := a21.toInt) (Y := 1) rfl (by decide) (by omega)) ?_
                      refine xi_iconst (pc' := 11) (v := 1) kc_11_10 rfl rfl ?_
                      refine xi_goto (pc' := 15) kc_11_11 rfl ?_
                      refine xi_ireturn kc_11_15 mr_11 rfl ?_
                      show xw J ov 99 61 (24, [(0, .ref 115), (1, .int a19), (2, .int a21), (3, .int a23), (4, .int a25), (5, .int a27)], [.int 1], hh256) _
                      refine xi_ift (pc' := 34) kc_61_24 rfl rfl ?_
                      refine xi_iconst (pc' := 35) (v := 0) kc_61_34 rfl rfl ?_
                      refine xi_istore (pc' := 37) (lv' := [(6, .int 0), (0, .ref 115), (1, .int a19), (2, .int a21), (3, .int a23), (4, .int a25), (5, .int a27)]) kc_61_35 rfl rfl (xm_lt ml_61 rfl) ?_
                      refine xw_lv (b := [(0, .ref 115), (1, .int a19), (2, .int a21), (3, .int a23), (4, .int a25), (5, .int a27), (6, .int 0)]) (lvS_cons (lvS_cons (lvS_cons (lvS_cons (lvS_cons (lvS_cons (lvS_cons (lvS_nil (show ([6, 0, 1, 2, 3, 4, 5] : List Nat).Nodup by decide)) rfl) rfl) rfl) rfl) rfl) rfl) rfl) ?_
                      have zc0 : (0 : Int32).toInt = 0 := by decide
                      have A258 := ((eh255.2.1 143 (by decide)).trans ((eh250.2.1 143 (by decide)).trans ((eh244.2.1 143 (xk_nc mpt215 rfl)).trans ((eh240.2.1 143 (xk_nc mpt215 rfl)).trans ((eh236.2.1 143 (xk_nc mpt215 rfl)).trans ((eh232.2.1 143 (xk_nc mpt215 rfl)).trans ((eh228.2.1 143 (xk_nc mpt215 rfl)).trans A69)))))))
                      have A259 := ((eh255.2.1 146 (by decide)).trans ((eh250.2.1 146 (by decide)).trans ((eh244.2.1 146 (xk_nc mpt215 rfl)).trans ((eh240.2.1 146 (xk_nc mpt215 rfl)).trans ((eh236.2.1 146 (xk_nc mpt215 rfl)).trans ((eh232.2.1 146 (xk_nc mpt215 rfl)).trans ((eh228.2.1 146 (xk_nc mpt215 rfl)).trans A70)))))))
                      have A260 := ((eh255.2.1 147 (by decide)).trans ((eh250.2.1 147 (by decide)).trans ((eh244.2.1 147 (xk_nc mpt215 rfl)).trans ((eh240.2.1 147 (xk_nc mpt215 rfl)).trans ((eh236.2.1 147 (xk_nc mpt215 rfl)).trans ((eh232.2.1 147 (xk_nc mpt215 rfl)).trans ((eh228.2.1 147 (xk_nc mpt215 rfl)).trans A71)))))))
                      refine tr_lp hJ hov1 hov2 (d := 97) K257.1 (xra_mk A258 (xrp_of hy69)) (xra_mk A259 (xrp_of hy70)) (xra_mk A260 (xrp_of hy71)) (xfi_mk eh255.1 rfl rfl) (by omega) (by omega) (by omega) (fun hx hh261 K262 => ?_) (fun hx lv9 hS => ?_) 21 0 (by omega) xov_0 (by omega)
                      · exact absurd ⟨by omega, hx⟩ hov
                      · refine xw_lv hS ?_
                        show xw J ov 99 61 (94, [(0, .ref 115), (1, .int a19), (2, .int a21), (3, .int a23), (4, .int a25), (5, .int a27)], [], hh256) _
                        refine xi_iload_n (pc' := 95) (x := a23) kc_61_94 rfl rfl ?_
                        refine xi_iff (pc' := 98) kc_61_95 rfl (xc_lt_f (X := a23.toInt) (Y := 0) rfl (by decide) (by omega)) ?_
                        refine xi_iload (pc' := 100) (x := a25) kc_61_98 rfl rfl ?_
                        refine xi_aload_n (pc' := 101) (x := 115) kc_61_100 rfl rfl ?_
                        refine xi_getfield (pc' := 104) (v := .int u2) kc_61_101 rfl rfl rfl eh255.1 rfl ?_
                        refine xi_cmf (pc' := 107) kc_61_104 rfl (xc_lt_f (X := a25.toInt) (Y := u2.toInt) rfl rfl (by omega)) ?_
                        refine xi_iload (pc' := 109) (x := a27) kc_61_107 rfl rfl ?_
                        refine xi_iload (pc' := 111) (x := a25) kc_61_109 rfl rfl ?_
                        refine xi_cmt (pc' := 121) kc_61_111 rfl (xc_gt_t (X := a27.toInt) (Y := a25.toInt) rfl rfl (by omega)) ?_
                        refine xi_iload (pc' := 123) (x := a27) kc_61_121 rfl rfl ?_
                        refine xi_sipush (pc' := 126) (v := 600) kc_61_123 rfl rfl ?_
                        refine xi_cmf (pc' := 129) kc_61_126 rfl (xc_gt_f (X := a27.toInt) (Y := 600) rfl (by decide) (by omega)) ?_
                        refine xi_iload_n (pc' := 130) (x := a23) kc_61_129 rfl rfl ?_
                        refine xi_bipush (pc' := 132) (v := 50) kc_61_130 rfl rfl ?_
                        refine xi_cmf (pc' := 135) kc_61_132 rfl (xc_gt_f (X := a23.toInt) (Y := 50) rfl (by decide) (by omega)) ?_
                        refine xi_aload_n (pc' := 136) (x := 115) kc_61_135 rfl rfl ?_
                        refine xi_getfield (pc' := 139) (v := .int u1) kc_61_136 rfl rfl rfl eh255.1 rfl ?_
                        refine xi_bipush (pc' := 141) (v := 20) kc_61_139 rfl rfl ?_
                        refine xi_cmt (pc' := 151) kc_61_141 rfl (xc_ne_t (X := u1.toInt) (Y := 20) rfl (by decide) (by omega)) ?_
                        refine xi_aload_n (pc' := 152) (x := 115) kc_61_151 rfl rfl ?_
                        refine xi_getfield (pc' := 155) (v := .ref 143) kc_61_152 rfl rfl rfl eh255.1 rfl ?_
                        refine xi_aload_n (pc' := 156) (x := 115) kc_61_155 rfl rfl ?_
                        refine xi_getfield (pc' := 159) (v := .int u1) kc_61_156 rfl rfl rfl eh255.1 rfl ?_
                        refine xi_iload_n (pc' := 160) (x := a19) kc_61_159 rfl rfl ?_
                        obtain ⟨y263, s263, hy263, ry263⟩ := xj_set (v := a19) hy69 ry69 u1 (by first | omega | decide) (by first | omega | decide)
                        refine xi_iastore (pc' := 161) (x' := y263) kc_61_160 rfl A258 rfl (xi_in (by omega) (by rw [hy69]; omega)) s263 (fun hh263 eh263 => ?_)
                        have K264 := xk_pa K257 (xk_wa (by decide +kernel)) xD_143 hy263 ry263 eh263
                        refine xi_aload_n (pc' := 162) (x := 115) kc_61_161 rfl rfl ?_
                        have A265 := ((eh263.2.1 115 (by decide)).trans eh255.1)
                        refine xi_getfield (pc' := 165) (v := .ref 144) kc_61_162 rfl rfl rfl A265 rfl ?_
                        refine xi_aload_n (pc' := 166) (x := 115) kc_61_165 rfl rfl ?_
                        refine xi_getfield (pc' := 169) (v := .int u1) kc_61_166 rfl rfl rfl A265 rfl ?_
                        refine xi_iload_n (pc' := 170) (x := a21) kc_61_169 rfl rfl ?_
                        obtain ⟨y266, A266, hy266, ry266⟩ := xk_arr K.1 xD_144
                        have A267 := ((eh263.2.1 144 (by decide)).trans ((eh255.2.1 144 (by decide)).trans ((eh250.2.1 144 (by decide)).trans ((eh244.2.1 144 (xk_nc mpt215 rfl)).trans ((eh240.2.1 144 (xk_nc mpt215 rfl)).trans ((eh236.2.1 144 (xk_nc mpt215 rfl)).trans ((eh232.2.1 144 (xk_nc mpt215 rfl)).trans ((eh228.2.1 144 (xk_nc mpt215 rfl)).trans A266))))))))
                        obtain ⟨y268, s268, hy268, ry268⟩ := xj_set (v := a21) hy266 ry266 u1 (by first | omega | decide) (by first | omega | decide)
                        refine xi_iastore (pc' := 171) (x' := y268) kc_61_170 rfl A267 rfl (xi_in (by omega) (by rw [hy266]; omega)) s268 (fun hh268 eh268 => ?_)
                        have K269 := xk_pa K264 (xk_wa (by decide +kernel)) xD_144 hy268 ry268 eh268
                        refine xi_aload_n (pc' := 172) (x := 115) kc_61_171 rfl rfl ?_
                        have A270 := ((eh268.2.1 115 (by decide)).trans A265)
                        refine xi_getfield (pc' := 175) (v := .ref 145) kc_61_172 rfl rfl rfl A270 rfl ?_
                        refine xi_aload_n (pc' := 176) (x := 115) kc_61_175 rfl rfl ?_
                        refine xi_getfield (pc' := 179) (v := .int u1) kc_61_176 rfl rfl rfl A270 rfl ?_
                        refine xi_iload_n (pc' := 180) (x := a23) kc_61_179 rfl rfl ?_
                        obtain ⟨y271, A271, hy271, ry271⟩ := xk_arr K.1 xD_145
                        have A272 := ((eh268.2.1 145 (by decide)).trans ((eh263.2.1 145 (by decide)).trans ((eh255.2.1 145 (by decide)).trans ((eh250.2.1 145 (by decide)).trans ((eh244.2.1 145 (xk_nc mpt215 rfl)).trans ((eh240.2.1 145 (xk_nc mpt215 rfl)).trans ((eh236.2.1 145 (xk_nc mpt215 rfl)).trans ((eh232.2.1 145 (xk_nc mpt215 rfl)).trans ((eh228.2.1 145 (xk_nc mpt215 rfl)).trans A271)))))))))
                        obtain ⟨y273, s273, hy273, ry273⟩ := xj_set (v := a23) hy271 ry271 u1 (by first | omega | decide) (by first | omega | decide)
                        refine xi_iastore (pc' := 181) (x' := y273) kc_61_180 rfl A272 rfl (xi_in (by omega) (by rw [hy271]; omega)) s273 (fun hh273 eh273 => ?_)
                        have K274 := xk_pa K269 (xk_wa (by decide +kernel)) xD_145 hy273 ry273 eh273
                        refine xi_aload_n (pc' := 182) (x := 115) kc_61_181 rfl rfl ?_
                        have A275 := ((eh273.2.1 115 (by decide)).trans A270)
                        refine xi_getfield (pc' := 185) (v := .ref 146) kc_61_182 rfl rfl rfl A275 rfl ?_
                        refine xi_aload_n (pc' := 186) (x := 115) kc_61_185 rfl rfl ?_
                        refine xi_getfield (pc' := 189) (v := .int u1) kc_61_186 rfl rfl rfl A275 rfl ?_
                        refine xi_iload (pc' := 191) (x := a25) kc_61_189 rfl rfl ?_
                        have t276 : 0 ≤ a25.toInt ∧ a25.toInt ≤ 600 := by omega
                        have A277 := ((eh273.2.1 146 (by decide)).trans ((eh268.2.1 146 (by decide)).trans ((eh263.2.1 146 (by decide)).trans A259)))
                        obtain ⟨y278, s278, hy278, ry278⟩ := xj_set (v := a25) hy70 ry70 u1 (by first | omega | decide) (by first | omega | decide)
                        refine xi_iastore (pc' := 192) (x' := y278) kc_61_191 rfl A277 rfl (xi_in (by omega) (by rw [hy70]; omega)) s278 (fun hh278 eh278 => ?_)
                        have K279 := xk_pa K274 (xk_wa (by decide +kernel)) xD_146 hy278 ry278 eh278
                        refine xi_aload_n (pc' := 193) (x := 115) kc_61_192 rfl rfl ?_
                        have A280 := ((eh278.2.1 115 (by decide)).trans A275)
                        refine xi_getfield (pc' := 196) (v := .ref 147) kc_61_193 rfl rfl rfl A280 rfl ?_
                        refine xi_aload_n (pc' := 197) (x := 115) kc_61_196 rfl rfl ?_
                        refine xi_getfield (pc' := 200) (v := .int u1) kc_61_197 rfl rfl rfl A280 rfl ?_
                        refine xi_iload (pc' := 202) (x := a27) kc_61_200 rfl rfl ?_
                        have t281 : 0 ≤ a27.toInt ∧ a27.toInt ≤ 600 := by omega
                        have A282 := ((eh278.2.1 147 (by decide)).trans ((eh273.2.1 147 (by decide)).trans ((eh268.2.1 147 (by decide)).trans ((eh263.2.1 147 (by decide)).trans A260))))
                        obtain ⟨y283, s283, hy283, ry283⟩ := xj_set (v := a27) hy71 ry71 u1 (by first | omega | decide) (by first | omega | decide)
                        refine xi_iastore (pc' := 203) (x' := y283) kc_61_202 rfl A282 rfl (xi_in (by omega) (by rw [hy71]; omega)) s283 (fun hh283 eh283 => ?_)
                        have K284 := xk_pa K279 (xk_wa (by decide +kernel)) xD_147 hy283 ry283 eh283
                        refine xi_aload_n (pc' := 204) (x := 115) kc_61_203 rfl rfl ?_
                        refine xi_dup (pc' := 205) kc_61_204 rfl rfl ?_
                        have A285 := ((eh283.2.1 115 (by decide)).trans A280)
                        refine xi_getfield (pc' := 208) (v := .int u1) kc_61_205 rfl rfl rfl A285 rfl ?_
                        refine xi_iconst (pc' := 209) (v := 1) kc_61_208 rfl rfl ?_
                        refine xi_iadd (pc' := 210) (v := v249) kc_61_209 rfl ev249 ?_
                        refine xi_putfield (pc' := 213) (fs' := [.int 0, .int u2, .ref 116, .ref 117, .ref 118, .ref 119, .ref 120, .ref 121, .ref 122, .ref 123, .ref 124, .ref 125, .ref 126, .ref 127, .ref 128, .ref 129, .int u6, .ref 130, .int u7, .ref 131, .ref 132, .ref 133, .ref 134, .int u8, .ref 135, .ref 136, .ref 137, .ref 138, .ref 139, .ref 140, .ref 141, .ref 142, .int u9, .int u10, .int v249, .ref 143, .ref 144, .ref 145, .ref 146, .ref 147, .ref 148, .int u12, .ref 149, .ref 150, .ref 151, .int u13, .ref 152, .ref 153, .ref 154, .ref 155, .ref 156, .ref 157, .ref 158, .ref 159, .int u14, .ref 160, .int u15, .ref 161, .ref 162, .ref 163, .ref 164, .int u16, .ref 165, .ref 166]) kc_61_210 rfl rfl rfl A285 rfl rfl rfl (Nat.le_of_ble_eq_true rfl) rfl (fun hh287 eh286 => ?_)
                        have K288 := xk_pf (k := 34) (v := v249) K284 (xk_wf (by decide +kernel)) xD_115 A285 rfl (by first | omega | decide) (by first | omega | decide) eh286 rfl
                        refine xi_aload_n (pc' := 214) (x := 115) kc_61_213 rfl rfl ?_
                        refine xi_getfield (pc' := 217) (v := .int v249) kc_61_214 rfl rfl rfl eh286.1 rfl ?_
                        refine xi_iconst (pc' := 218) (v := 1) kc_61_217 rfl rfl ?_
                        refine xi_isub (pc' := 219) (v := v253) kc_61_218 rfl ev253 ?_
                        refine xi_ireturn kc_61_219 mr_61 rfl ?_
                        show xw J ov 100 195 (1091, [(4, .int x4), (3, .ref 167), (2, .ref 115), (1, .ref 0), (0, .ref 1000000)], [.int v253], hh287) _
                        refine xi_pop (pc' := 1092) kc_195_1091 rfl rfl ?_
                        refine xi_goto (pc' := 1501) kc_195_1092 rfl ?_
                        obtain ⟨v289, ev289⟩ : ∃ q : Int32, x4 + 6 = q := ⟨_, rfl⟩
                        have zv289 : v289.toInt = (x4.toInt + 6) := by rw [← ev289]; exact (xz_add (X := x4.toInt) (Y := 6) rfl (by decide) (by omega) (by omega)).trans (by omega)
                        refine xi_iinc (pc' := 1504) (x := x4) (v := v289) (lv' := [(4, .int v289), (3, .ref 167), (2, .ref 115), (1, .ref 0), (0, .ref 1000000)]) kc_195_1501 rfl rfl ev289 rfl (xm_lt ml_195 rfl) ?_
                        refine xi_goto (pc' := 23) kc_195_1504 rfl ?_
                        have A290 := ((eh286.2.1 0 (by decide)).trans ((eh283.2.1 0 (by decide)).trans ((eh278.2.1 0 (by decide)).trans ((eh273.2.1 0 (by decide)).trans ((eh268.2.1 0 (by decide)).trans ((eh263.2.1 0 (by decide)).trans ((eh255.2.1 0 (by decide)).trans eh250.1)))))))
                        have A291 := ((eh286.2.1 pt215 (Ne.symm (xk_nc mpt215 rfl))).trans ((eh283.2.1 pt215 (Ne.symm (xk_nc mpt215 rfl))).trans ((eh278.2.1 pt215 (Ne.symm (xk_nc mpt215 rfl))).trans ((eh273.2.1 pt215 (Ne.symm (xk_nc mpt215 rfl))).trans ((eh268.2.1 pt215 (Ne.symm (xk_nc mpt215 rfl))).trans ((eh263.2.1 pt215 (Ne.symm (xk_nc mpt215 rfl))).trans ((eh255.2.1 pt215 (Ne.symm (xk_nc mpt215 rfl))).trans ((eh250.2.1 pt215 (Ne.symm (xk_nc mpt215 rfl))).trans eh244.1))))))))
                        have A292 := ((eh286.2.1 143 (by decide)).trans ((eh283.2.1 143 (by decide)).trans ((eh278.2.1 143 (by decide)).trans ((eh273.2.1 143 (by decide)).trans ((eh268.2.1 143 (by decide)).trans eh263.1)))))
                        have A293 := ((eh286.2.1 146 (by decide)).trans ((eh283.2.1 146 (by decide)).trans eh278.1))
                        have A294 := ((eh286.2.1 147 (by decide)).trans eh283.1)
                        have zc0 : (0 : Int32).toInt = 0 := by decide
                        have zc1 : (1 : Int32).toInt = 1 := by decide
                        have zc4 : (4 : Int32).toInt = 4 := by decide
                        obtain ⟨tq, tu, ka, va, n9, ta, tb, tc, td, te, tf⟩ := ITS
                        have hn9 : (u1 : Int32).toInt = n9 := xfi_ld te A17 rfl
                        have qn9 := xj_tn (i := u1) (by omega)
                        have g1 := xgf_set (Lo := [some 95, some 96, some 97, some 98, some 99, some 100, some 101, some 102, some 103, some 104, some 105, some 106, some 107, some 108, some 109, some 110, some 111, some 112, some 113, some 114]) (h' := hh287) ta xGd_trial rfl ept215 (by omega) (by show _ < ((20 : Nat) : Int); omega) A291 rfl (fun c hc hne => ((eh286.2.1 c (Ne.symm (xk_nc hc rfl))).trans ((eh283.2.1 c (Ne.symm (xk_nc hc rfl))).trans ((eh278.2.1 c (Ne.symm (xk_nc hc rfl))).trans ((eh273.2.1 c (Ne.symm (xk_nc hc rfl))).trans ((eh268.2.1 c (Ne.symm (xk_nc hc rfl))).trans ((eh263.2.1 c (Ne.symm (xk_nc hc rfl))).trans ((eh255.2.1 c (Ne.symm (xk_nc hc rfl))).trans ((eh250.2.1 c (Ne.symm (xk_nc hc rfl))).trans ((eh244.2.1 c hne).trans ((eh240.2.1 c hne).trans ((eh236.2.1 c hne).trans ((eh232.2.1 c hne).trans (eh228.2.1 c hne))))))))))))))
                        have g2 := xgf_set (Lo := [some 95, some 96, some 97, some 98, some 99, some 100, some 101, some 102, some 103, some 104, some 105, some 106, some 107, some 108, some 109, some 110, some 111, some 112, some 113, some 114]) (h' := hh287) tb xGd_trial rfl ept215 (by omega) (by show _ < ((20 : Nat) : Int); omega) A291 rfl (fun c hc hne => ((eh286.2.1 c (Ne.symm (xk_nc hc rfl))).trans ((eh283.2.1 c (Ne.symm (xk_nc hc rfl))).trans ((eh278.2.1 c (Ne.symm (xk_nc hc rfl))).trans ((eh273.2.1 c (Ne.symm (xk_nc hc rfl))).trans ((eh268.2.1 c (Ne.symm (xk_nc hc rfl))).trans ((eh263.2.1 c (Ne.symm (xk_nc hc rfl))).trans ((eh255.2.1 c (Ne.symm (xk_nc hc rfl))).trans ((eh250.2.1 c (Ne.symm (xk_nc hc rfl))).trans ((eh244.2.1 c hne).trans ((eh240.2.1 c hne).trans ((eh236.2.1 c hne).trans ((eh232.2.1 c hne).trans (eh228.2.1 c hne))))))))))))))
                        have A295 := ((eh286.2.1 144 (by decide)).trans ((eh283.2.1 144 (by decide)).trans ((eh278.2.1 144 (by decide)).trans ((eh273.2.1 144 (by decide)).trans eh268.1))))
                        have g3 := xra_mk A295 (xrp_set (xra_ld tc A266) s268)
                        have A296 := ((eh286.2.1 145 (by decide)).trans ((eh283.2.1 145 (by decide)).trans ((eh278.2.1 145 (by decide)).trans eh273.1)))
                        have g4 := xra_mk A296 (xrp_set (xra_ld td A271) s273)
                        have g5 : xfi hh287 115 34 (v249 : Int32).toInt := xfi_mk eh286.1 rfl rfl
                        exact kk v289 hh287 (by omega) K288 ⟨((xl_of A290 rfl).trans (xl_of eh286.1 rfl).symm), (xWW_fr I.2.1 (K288.2.1 (64, 0) (by decide +kernel)) (K288.2.1 (121, 0) (by decide +kernel))), (xSG_fr I.2.2.1 (fun l hl => K288.2.1 l (xk_el (by decide +kernel) hl))), (by rw [(K288.2.1 (13, 0) (by decide +kernel)), (K288.2.1 (122, 0) (by decide +kernel))]; exact I.2.2.2.1), (by rw [(K288.2.1 (16, 0) (by decide +kernel)), (K288.2.1 (122, 0) (by decide +kernel))]; exact I.2.2.2.2.1), (by rw [(K288.2.1 (19, 0) (by decide +kernel)), (K288.2.1 (122, 0) (by decide +kernel))]; exact I.2.2.2.2.2.1), (by rw [(K288.2.1 (22, 0) (by decide +kernel)), (K288.2.1 (122, 0) (by decide +kernel))]; exact I.2.2.2.2.2.2.1), (by rw [(K288.2.1 (25, 0) (by decide +kernel)), (K288.2.1 (122, 0) (by decide +kernel))]; exact I.2.2.2.2.2.2.2.1), (by rw [(K288.2.1 (28, 0) (by decide +kernel)), (K288.2.1 (122, 0) (by decide +kernel))]; exact I.2.2.2.2.2.2.2.2.1), (by rw [(K288.2.1 (6, 0) (by decide +kernel)), (K288.2.1 (123, 0) (by decide +kernel))]; exact I.2.2.2.2.2.2.2.2.2.1), (by rw [(K288.2.1 (9, 0) (by decide +kernel)), (K288.2.1 (124, 0) (by decide +kernel))]; exact I.2.2.2.2.2.2.2.2.2.2.1), (by rw [(K288.2.1 (7, 0) (by decide +kernel)), (K288.2.1 (6, 0) (by decide +kernel))]; exact I.2.2.2.2.2.2.2.2.2.2.2.1), (by rw [(K288.2.1 (10, 0) (by decide +kernel)), (K288.2.1 (9, 0) (by decide +kernel))]; exact I.2.2.2.2.2.2.2.2.2.2.2.2.1), ((K288.2.1 (5, 0) (by decide +kernel)).trans I.2.2.2.2.2.2.2.2.2.2.2.2.2.1), ((K288.2.1 (8, 0) (by decide +kernel)).trans I.2.2.2.2.2.2.2.2.2.2.2.2.2.2.1), (xGR_fr I.2.2.2.2.2.2.2.2.2.2.2.2.2.2.2.1 K288.2.1 (by decide +kernel) (by decide +kernel)), (xGR_fr I.2.2.2.2.2.2.2.2.2.2.2.2.2.2.2.2.1 K288.2.1 (by decide +kernel) (by decide +kernel)), ((K288.2.1 (1, 5) (by decide +kernel)).trans (I.2.2.2.2.2.2.2.2.2.2.2.2.2.2.2.2.2.1.trans (K288.2.1 (115, 23) (by decide +kernel)).symm)), (xGR_fr I.2.2.2.2.2.2.2.2.2.2.2.2.2.2.2.2.2.2.1 K288.2.1 (by decide +kernel) (by decide +kernel)), (xGR_fr I.2.2.2.2.2.2.2.2.2.2.2.2.2.2.2.2.2.2.2.1 K288.2.1 (by decide +kernel) (by decide +kernel)), (xGR_fr I.2.2.2.2.2.2.2.2.2.2.2.2.2.2.2.2.2.2.2.2.1 K288.2.1 (by decide +kernel) (by decide +kernel)), (xGR_fr I.2.2.2.2.2.2.2.2.2.2.2.2.2.2.2.2.2.2.2.2.2.1 K288.2.1 (by decide +kernel) (by decide +kernel)), (by rw [(K288.2.1 (63, 2) (by decide +kernel)), (K288.2.1 (139, 0) (by decide +kernel)), (K288.2.1 (1, 5) (by decide +kernel))]; exact I.2.2.2.2.2.2.2.2.2.2.2.2.2.2.2.2.2.2.2.2.2.2.1), ((xl_of A290 rfl).trans (xl_of eh286.1 rfl).symm), (xGR_set (Lo := [some 95, some 96, some 97, some 98, some 99, some 100, some 101, some 102, some 103, some 104, some 105, some 106, some 107, some 108, some 109, some 110, some 111, some 112, some 113, some 114]) I.2.2.2.2.2.2.2.2.2.2.2.2.2.2.2.2.2.2.2.2.2.2.2.2.1 (by decide) rfl ept215 (by omega) (by show _ < ((20 : Nat) : Int); omega) A69 (by rw [hy69]; decide) A291 rfl A292 s263 (fun c hc hne => ((eh286.2.1 c (Ne.symm (xk_nc hc rfl))).trans ((eh283.2.1 c (Ne.symm (xk_nc hc rfl))).trans ((eh278.2.1 c (Ne.symm (xk_nc hc rfl))).trans ((eh273.2.1 c (Ne.symm (xk_nc hc rfl))).trans ((eh268.2.1 c (Ne.symm (xk_nc hc rfl))).trans ((eh263.2.1 c (Ne.symm (xk_nc hc rfl))).trans ((eh255.2.1 c (Ne.symm (xk_nc hc rfl))).trans ((eh250.2.1 c (Ne.symm (xk_nc hc rfl))).trans ((eh244.2.1 c hne).trans ((eh240.2.1 c hne).trans ((eh236.2.1 c hne).trans ((eh232.2.1 c hne).trans (eh228.2.1 c hne))))))))))))))), (xGR_set (Lo := [some 95, some 96, some 97, some 98, some 99, some 100, some 101, some 102, some 103, some 104, some 105, some 106, some 107, some 108, some 109, some 110, some 111, some 112, some 113, some 114]) I.2.2.2.2.2.2.2.2.2.2.2.2.2.2.2.2.2.2.2.2.2.2.2.2.2.1 (by decide) rfl ept215 (by omega) (by show _ < ((20 : Nat) : Int); omega) A70 (by rw [hy70]; decide) A291 rfl A293 s278 (fun c hc hne => ((eh286.2.1 c (Ne.symm (xk_nc hc rfl))).trans ((eh283.2.1 c (Ne.symm (xk_nc hc rfl))).trans ((eh278.2.1 c (Ne.symm (xk_nc hc rfl))).trans ((eh273.2.1 c (Ne.symm (xk_nc hc rfl))).trans ((eh268.2.1 c (Ne.symm (xk_nc hc rfl))).trans ((eh263.2.1 c (Ne.symm (xk_nc hc rfl))).trans ((eh255.2.1 c (Ne.symm (xk_nc hc rfl))).trans ((eh250.2.1 c (Ne.symm (xk_nc hc rfl))).trans ((eh244.2.1 c hne).trans ((eh240.2.1 c hne).trans ((eh236.2.1 c hne).trans ((eh232.2.1 c hne).trans (eh228.2.1 c hne))))))))))))))), (xGR_set (Lo := [some 95, some 96, some 97, some 98, some 99, some 100, some 101, some 102, some 103, some 104, some 105, some 106, some 107, some 108, some 109, some 110, some 111, some 112, some 113, some 114]) I.2.2.2.2.2.2.2.2.2.2.2.2.2.2.2.2.2.2.2.2.2.2.2.2.2.2.1 (by decide) rfl ept215 (by omega) (by show _ < ((20 : Nat) : Int); omega) A71 (by rw [hy71]; decide) A291 rfl A294 s283 (fun c hc hne => ((eh286.2.1 c (Ne.symm (xk_nc hc rfl))).trans ((eh283.2.1 c (Ne.symm (xk_nc hc rfl))).trans ((eh278.2.1 c (Ne.symm (xk_nc hc rfl))).trans ((eh273.2.1 c (Ne.symm (xk_nc hc rfl))).trans ((eh268.2.1 c (Ne.symm (xk_nc hc rfl))).trans ((eh263.2.1 c (Ne.symm (xk_nc hc rfl))).trans ((eh255.2.1 c (Ne.symm (xk_nc hc rfl))).trans ((eh250.2.1 c (Ne.symm (xk_nc hc rfl))).trans ((eh244.2.1 c hne).trans ((eh240.2.1 c hne).trans ((eh236.2.1 c hne).trans ((eh232.2.1 c hne).trans (eh228.2.1 c hne))))))))))))))), (xGR_same I.2.2.2.2.2.2.2.2.2.2.2.2.2.2.2.2.2.2.2.2.2.2.2.2.2.2.2.1 (p := pt215) (fun c hc hne => ((eh286.2.1 c (Ne.symm (xk_nc hc rfl))).trans ((eh283.2.1 c (Ne.symm (xk_nc hc rfl))).trans ((eh278.2.1 c (Ne.symm (xk_nc hc rfl))).trans ((eh273.2.1 c (Ne.symm (xk_nc hc rfl))).trans ((eh268.2.1 c (Ne.symm (xk_nc hc rfl))).trans ((eh263.2.1 c (Ne.symm (xk_nc hc rfl))).trans ((eh255.2.1 c (Ne.symm (xk_nc hc rfl))).trans ((eh250.2.1 c (Ne.symm (xk_nc hc rfl))).trans ((eh244.2.1 c hne).trans ((eh240.2.1 c hne).trans ((eh236.2.1 c hne).trans ((eh232.2.1 c hne).trans (eh228.2.1 c hne)))))))))))))) A222 A291 rfl ((eh286.2.1 148 (by decide)).trans ((eh283.2.1 148 (by decide)).trans ((eh278.2.1 148 (by decide)).trans ((eh273.2.1 148 (by decide)).trans ((eh268.2.1 148 (by decide)).trans ((eh263.2.1 148 (by decide)).trans ((eh255.2.1 148 (by decide)).trans ((eh250.2.1 148 (by decide)).trans ((eh244.2.1 148 (xk_nc mpt215 rfl)).trans ((eh240.2.1 148 (xk_nc mpt215 rfl)).trans ((eh236.2.1 148 (xk_nc mpt215 rfl)).trans ((eh232.2.1 148 (xk_nc mpt215 rfl)).trans (eh228.2.1 148 (xk_nc mpt215 rfl))))))))))))))), ⟨_, _, _, _, _, g1, g2, g3, g4, g5, xts_add (n := n9) (N := Int32.toNatClampNeg u1) (by omega) tf (by omega) (by omega)⟩, ((K288.2.1 (63, 3) (by decide +kernel)).trans I.2.2.2.2.2.2.2.2.2.2.2.2.2.2.2.2.2.2.2.2.2.2.2.2.2.2.2.2.2)⟩
                    · refine xi_cmf (pc' := 101) kc_163_98 rfl (xc_lt_f (X := u1.toInt) (Y := 20) rfl (by decide) (by omega)) ?_
                      refine xi_aload_n (pc' := 102) (x := 0) kc_163_101 rfl rfl ?_
                      refine xi_bipush (pc' := 104) (v := (-6)) kc_163_102 rfl rfl ?_
                      refine xi_virtual (mj := 90) (as := [.int (-6)]) (st1 := []) (lv0 := [(0, .ref 0), (1, .int (-6))]) kc_163_104 rfl rfl rfl rfl rfl A3 (Nat.le_of_ble_eq_true rfl) (hJ _ _ _ _ (by decide)) (xm_le ml_90 rfl) rfl ?_
                      refine xi_iload_n (pc' := 1) (x := (-6)) kc_90_0 rfl rfl ?_
                      refine xi_ineg (pc' := 2) (v := 6) kc_90_1 rfl rfl ?_
                      refine xi_istore_n (pc' := 3) (lv' := [(2, .int 6), (0, .ref 0), (1, .int (-6))]) kc_90_2 rfl rfl (xm_lt ml_90 rfl) ?_
                      refine xi_iload_n (pc' := 4) (x := 6) kc_90_3 rfl rfl ?_
                      refine xi_iff (pc' := 7) kc_90_4 rfl rfl ?_
                      refine xi_iload_n (pc' := 8) (x := 6) kc_90_7 rfl rfl ?_
                      refine xi_aload_n (pc' := 9) (x := 0) kc_90_8 rfl rfl ?_
                      refine xi_getfield (pc' := 12) (v := .ref 94) kc_90_9 rfl rfl rfl A3 rfl ?_
                      obtain ⟨y297, A297, hy297, ry297⟩ := xk_arr K.1 xD_94
                      refine xi_arraylength (pc' := 13) (n := 7) (v := 7) kc_90_12 rfl (xl_lenI (by decide) (by decide) A297 hy297) rfl ?_
                      refine xi_cmf (pc' := 16) kc_90_13 rfl rfl ?_
                      refine xi_aload_n (pc' := 17) (x := 0) kc_90_16 rfl rfl ?_
                      refine xi_getfield (pc' := 20) (v := .ref 94) kc_90_17 rfl rfl rfl A3 rfl ?_
                      refine xi_iload_n (pc' := 21) (x := 6) kc_90_20 rfl rfl ?_
                      refine xi_dup2 (pc' := 22) kc_90_21 rfl ⟨rfl, rfl⟩ ?_
                      obtain ⟨v298, ev298, bv298, dv298⟩ := xj_get hy297 ry297 (i := 6) (by decide) (by decide)
                      refine xi_iaload (pc' := 23) (v := v298) kc_90_22 rfl A297 (by decide) rfl (xi_in (by decide) (by rw [hy297]; decide)) ev298 ?_
                      refine xi_iconst (pc' := 24) (v := 1) kc_90_23 rfl rfl ?_
                      obtain ⟨v299, ev299⟩ : ∃ q : Int32, (v298 : Int32) + 1 = q := ⟨_, rfl⟩
                      have rv299 := xc_rng v299
                      refine xi_iadd (pc' := 25) (v := v299) kc_90_24 rfl ev299 ?_
                      obtain ⟨y300, s300, hy300, ry300⟩ := xj_set (v := v299) hy297 ry297 6 (by first | omega | decide) (by first | omega | decide)
                      refine xi_iastore (pc' := 26) (x' := y300) kc_90_25 rfl A297 rfl (xi_in (by decide) (by rw [hy297]; decide)) s300 (fun hh300 eh300 => ?_)
                      have K301 := xk_pa K (xk_wa (by decide +kernel)) xD_94 hy300 ry300 eh300
                      have KR302 := xk_pa KR (xk_wa (by decide +kernel)) xD_94 hy300 ry300 eh300
                      refine xi_iload_n (pc' := 27) (x := (-6)) kc_90_26 rfl rfl ?_
                      refine xi_ireturn kc_90_27 mr_90 rfl ?_
                      show xw J ov 99 163 (107, [(0, .ref 0), (1, .int a19), (2, .int a21), (3, .int a23), (4, .int a25), (5, .int a27)], [.int (-6)], hh300) _
                      refine xi_ireturn kc_163_107 mr_163 rfl ?_
                      show xw J ov 100 195 (1056, [(4, .int x4), (3, .ref 167), (2, .ref 115), (1, .ref 0), (0, .ref 1000000)], [.int (-6)], hh300) _
                      refine xi_pop (pc' := 1057) kc_195_1056 rfl rfl ?_
                      refine xi_aload_n (pc' := 1058) (x := 115) kc_195_1057 rfl rfl ?_
                      refine xi_aload_n (pc' := 1059) (x := 1000000) kc_195_1058 rfl rfl ?_
                      refine xi_iload (pc' := 1061) (x := x4) kc_195_1059 rfl rfl ?_
                      refine xi_iconst (pc' := 1062) (v := 1) kc_195_1061 rfl rfl ?_
                      refine xi_iadd (pc' := 1063) (v := v18) kc_195_1062 rfl ev18 ?_
                      refine xi_ialoadO (pc' := 1064) (v := a19) kc_195_1063 rfl (by decide) hov0 (xi_in (by omega) (by omega)) ea19 ?_
                      refine xi_aload_n (pc' := 1065) (x := 1000000) kc_195_1064 rfl rfl ?_
                      refine xi_iload (pc' := 1067) (x := x4) kc_195_1065 rfl rfl ?_
                      refine xi_iconst (pc' := 1068) (v := 2) kc_195_1067 rfl rfl ?_
                      refine xi_iadd (pc' := 1069) (v := v20) kc_195_1068 rfl ev20 ?_
                      refine xi_ialoadO (pc' := 1070) (v := a21) kc_195_1069 rfl (by decide) hov0 (xi_in (by omega) (by omega)) ea21 ?_
                      refine xi_aload_n (pc' := 1071) (x := 1000000) kc_195_1070 rfl rfl ?_
                      refine xi_iload (pc' := 1073) (x := x4) kc_195_1071 rfl rfl ?_
                      refine xi_iconst (pc' := 1074) (v := 3) kc_195_1073 rfl rfl ?_
                      refine xi_iadd (pc' := 1075) (v := v22) kc_195_1074 rfl ev22 ?_
                      refine xi_ialoadO (pc' := 1076) (v := a23) kc_195_1075 rfl (by decide) hov0 (xi_in (by omega) (by omega)) ea23 ?_
                      refine xi_aload_n (pc' := 1077) (x := 1000000) kc_195_1076 rfl rfl ?_
                      refine xi_iload (pc' := 1079) (x := x4) kc_195_1077 rfl rfl ?_
                      refine xi_iconst (pc' := 1080) (v := 4) kc_195_1079 rfl rfl ?_
                      refine xi_iadd (pc' := 1081) (v := v24) kc_195_1080 rfl ev24 ?_
                      refine xi_ialoadO (pc' := 1082) (v := a25) kc_195_1081 rfl (by decide) hov0 (xi_in (by omega) (by omega)) ea25 ?_
                      refine xi_aload_n (pc' := 1083) (x := 1000000) kc_195_1082 rfl rfl ?_
                      refine xi_iload (pc' := 1085) (x := x4) kc_195_1083 rfl rfl ?_
                      refine xi_iconst (pc' := 1086) (v := 5) kc_195_1085 rfl rfl ?_
                      refine xi_iadd (pc' := 1087) (v := v26) kc_195_1086 rfl ev26 ?_
                      refine xi_ialoadO (pc' := 1088) (v := a27) kc_195_1087 rfl (by decide) hov0 (xi_in (by omega) (by omega)) ea27 ?_
                      have A303 := ((eh300.2.1 115 (by decide)).trans A17)
                      refine xi_virtual (mj := 61) (as := [.int a19, .int a21, .int a23, .int a25, .int a27]) (st1 := []) (lv0 := [(0, .ref 115), (1, .int a19), (2, .int a21), (3, .int a23), (4, .int a25), (5, .int a27)]) kc_195_1088 rfl rfl rfl rfl rfl A303 (Nat.le_of_ble_eq_true rfl) (hJ _ _ _ _ (by decide)) (xm_le ml_61 rfl) rfl ?_
                      refine xi_aload_n (pc' := 1) (x := 115) kc_61_0 rfl rfl ?_
                      refine xi_iconst (pc' := 2) (v := 0) kc_61_1 rfl rfl ?_
                      refine xi_putfield (pc' := 5) (fs' := [.int 0, .int u2, .ref 116, .ref 117, .ref 118, .ref 119, .ref 120, .ref 121, .ref 122, .ref 123, .ref 124, .ref 125, .ref 126, .ref 127, .ref 128, .ref 129, .int u6, .ref 130, .int u7, .ref 131, .ref 132, .ref 133, .ref 134, .int u8, .ref 135, .ref 136, .ref 137, .ref 138, .ref 139, .ref 140, .ref 141, .ref 142, .int u9, .int u10, .int u1, .ref 143, .ref 144, .ref 145, .ref 146, .ref 147, .ref 148, .int u12, .ref 149, .ref 150, .ref 151, .int u13, .ref 152, .ref 153, .ref 154, .ref 155, .ref 156, .ref 157, .ref 158, .ref 159, .int u14, .ref 160, .int u15, .ref 161, .ref 162, .ref 163, .ref 164, .int u16, .ref 165, .ref 166]) kc_61_2 rfl rfl rfl A303 rfl rfl rfl (Nat.le_of_ble_eq_true rfl) rfl (fun hh305 eh304 => ?_)
                      have K306 := xk_pf (k := 0) (v := 0) K301 (xk_wf (by decide +kernel)) xD_115 A303 rfl (by first | omega | decide) (by first | omega | decide) eh304 rfl
                      have KR307 := xk_pf (k := 0) (v := 0) KR302 (xk_wf (by decide +kernel)) xD_115 A303 rfl (by first | omega | decide) (by first | omega | decide) eh304 rfl
                      refine xi_iload_n (pc' := 6) (x := a19) kc_61_5 rfl rfl ?_
                      refine xi_static (mj := 10) (as := [.int a19]) (st1 := []) (lv0 := [(0, .int a19)]) kc_61_6 rfl rfl (Nat.le_of_ble_eq_true rfl) rfl rfl (Nat.le_of_ble_eq_true rfl) (hJ _ _ _ _ (by decide)) (xm_le ml_10 rfl) rfl ?_
                      refine xi_iload_n (pc' := 1) (x := a19) kc_10_0 rfl rfl ?_
                      refine xi_iconst (pc' := 2) (v := 0) kc_10_1 rfl rfl ?_
                      refine xi_iconst (pc' := 3) (v := 5) kc_10_2 rfl rfl ?_
                      refine xi_static (mj := 11) (as := [.int a19, .int 0, .int 5]) (st1 := []) (lv0 := [(0, .int a19), (1, .int 0), (2, .int 5)]) kc_10_3 rfl rfl (Nat.le_of_ble_eq_true rfl) rfl rfl (Nat.le_of_ble_eq_true rfl) (hJ _ _ _ _ (by decide)) (xm_le ml_11 rfl) rfl ?_
                      refine xi_iload_n (pc' := 1) (x := a19) kc_11_0 rfl rfl ?_
                      refine xi_iload_n (pc' := 2) (x := 0) kc_11_1 rfl rfl ?_
                      refine xi_cmf (pc' := 5) kc_11_2 rfl (xc_lt_f (X := a19.toInt) (Y := 0) rfl (by decide) (by omega)) ?_
                      refine xi_iload_n (pc' := 6) (x := a19) kc_11_5 rfl rfl ?_
                      refine xi_iload_n (pc' := 7) (x := 5) kc_11_6 rfl rfl ?_
                      refine xi_cmf (pc' := 10) kc_11_7 rfl (xc_gt_f (X := a19.toInt) (Y := 5) rfl (by decide) (by omega)) ?_
                      refine xi_iconst (pc' := 11) (v := 1) kc_11_10 rfl rfl ?_
                      refine xi_goto (pc' := 15) kc_11_11 rfl ?_
                      refine xi_ireturn kc_11_15 mr_11 rfl ?_
                      show xw J ov 98 10 (6, [(0, .int a19)], [.int 1], hh305) _
                      refine xi_ireturn kc_10_6 mr_10 rfl ?_
                      show xw J ov 99 61 (9, [(0, .ref 115), (1, .int a19), (2, .int a21), (3, .int a23), (4, .int a25), (5, .int a27)], [.int 1], hh305) _
                      refine xi_ift (pc' := 18) kc_61_9 rfl rfl ?_
                      refine xi_iload_n (pc' := 19) (x := a21) kc_61_18 rfl rfl ?_
                      refine xi_iconst (pc' := 20) (v := 0) kc_61_19 rfl rfl ?_
                      refine xi_iconst (pc' := 21) (v := 1) kc_61_20 rfl rfl ?_
                      refine xi_static (mj := 11) (as := [.int a21, .int 0, .int 1]) (st1 := []) (lv0 := [(0, .int a21), (1, .int 0), (2, .int 1)]) kc_61_21 rfl rfl (Nat.le_of_ble_eq_true rfl) rfl rfl (Nat.le_of_ble_eq_true rfl) (hJ _ _ _ _ (by decide)) (xm_le ml_11 rfl) rfl ?_
                      refine xi_iload_n (pc' := 1) (x := a21) kc_11_0 rfl rfl ?_
                      refine xi_iload_n (pc' := 2) (x := 0) kc_11_1 rfl rfl ?_
                      refine xi_cmf (pc' := 5) kc_11_2 rfl (xc_lt_f (X := a21.toInt) (Y := 0) rfl (by decide) (by omega)) ?_
                      refine xi_iload_n (pc' := 6) (x := a21) kc_11_5 rfl rfl ?_
                      refine xi_iload_n (pc' := 7) (x := 1) kc_11_6 rfl rfl ?_
                      refine xi_cmf (pc' := 10) kc_11_7 rfl (xc_gt_f (X := a21.toInt) (Y := 1) rfl (by decide) (by omega)) ?_
                      refine xi_iconst (pc' := 11) (v := 1) kc_11_10 rfl rfl ?_
                      refine xi_goto (pc' := 15) kc_11_11 rfl ?_
                      refine xi_ireturn kc_11_15 mr_11 rfl ?_
                      show xw J ov 99 61 (24, [(0, .ref 115), (1, .int a19), (2, .int a21), (3, .int a23), (4, .int a25), (5, .int a27)], [.int 1], hh305) _
                      refine xi_ift (pc' := 34) kc_61_24 rfl rfl ?_
                      refine xi_iconst (pc' := 35) (v := 0) kc_61_34 rfl rfl ?_
                      refine xi_istore (pc' := 37) (lv' := [(6, .int 0), (0, .ref 115), (1, .int a19), (2, .int a21), (3, .int a23), (4, .int a25), (5, .int a27)]) kc_61_35 rfl rfl (xm_lt ml_61 rfl) ?_
                      refine xw_lv (b := [(0, .ref 115), (1, .int a19), (2, .int a21), (3, .int a23), (4, .int a25), (5, .int a27), (6, .int 0)]) (lvS_cons (lvS_cons (lvS_cons (lvS_cons (lvS_cons (lvS_cons (lvS_cons (lvS_nil (show ([6, 0, 1, 2, 3, 4, 5] : List Nat).Nodup by decide)) rfl) rfl) rfl) rfl) rfl) rfl) rfl) ?_
                      have zc0 : (0 : Int32).toInt = 0 := by decide
                      have A308 := ((eh304.2.1 143 (by decide)).trans ((eh300.2.1 143 (by decide)).trans A69))
                      have A309 := ((eh304.2.1 146 (by decide)).trans ((eh300.2.1 146 (by decide)).trans A70))
                      have A310 := ((eh304.2.1 147 (by decide)).trans ((eh300.2.1 147 (by decide)).trans A71))
                      refine tr_lp hJ hov1 hov2 (d := 97) K306.1 (xra_mk A308 (xrp_of hy69)) (xra_mk A309 (xrp_of hy70)) (xra_mk A310 (xrp_of hy71)) (xfi_mk eh304.1 rfl rfl) (by omega) (by omega) (by omega) (fun hx hh311 K312 => ?_) (fun hx lv9 hS => ?_) 21 0 (by omega) xov_0 (by omega)
                      · have KR313 := xk_tr KR307 K312 (by decide +kernel)
                        have K314 := xk_tr K306 K312 (xsb_ok _ _ (by decide +kernel))
                        show xw J ov 100 195 (1091, [(4, .int x4), (3, .ref 167), (2, .ref 115), (1, .ref 0), (0, .ref 1000000)], [.int (-3)], hh311) _
                        refine xi_pop (pc' := 1092) kc_195_1091 rfl rfl ?_
                        refine xi_goto (pc' := 1501) kc_195_1092 rfl ?_
                        obtain ⟨v315, ev315⟩ : ∃ q : Int32, x4 + 6 = q := ⟨_, rfl⟩
                        have zv315 : v315.toInt = (x4.toInt + 6) := by rw [← ev315]; exact (xz_add (X := x4.toInt) (Y := 6) rfl (by decide) (by omega) (by omega)).trans (by omega)
                        refine xi_iinc (pc' := 1504) (x := x4) (v := v315) (lv' := [(4, .int v315), (3, .ref 167), (2, .ref 115), (1, .ref 0), (0, .ref 1000000)]) kc_195_1501 rfl rfl ev315 rfl (xm_lt ml_195 rfl) ?_
                        refine xi_goto (pc' := 23) kc_195_1504 rfl ?_
                        exact kk v315 hh311 (by omega) K314 (xI_kept I KR313.2.1)
                      · refine xw_lv hS ?_
                        show xw J ov 99 61 (94, [(0, .ref 115), (1, .int a19), (2, .int a21), (3, .int a23), (4, .int a25), (5, .int a27)], [], hh305) _
                        refine xi_iload_n (pc' := 95) (x := a23) kc_61_94 rfl rfl ?_
                        refine xi_iff (pc' := 98) kc_61_95 rfl (xc_lt_f (X := a23.toInt) (Y := 0) rfl (by decide) (by omega)) ?_
                        refine xi_iload (pc' := 100) (x := a25) kc_61_98 rfl rfl ?_
                        refine xi_aload_n (pc' := 101) (x := 115) kc_61_100 rfl rfl ?_
                        refine xi_getfield (pc' := 104) (v := .int u2) kc_61_101 rfl rfl rfl eh304.1 rfl ?_
                        refine xi_cmf (pc' := 107) kc_61_104 rfl (xc_lt_f (X := a25.toInt) (Y := u2.toInt) rfl rfl (by omega)) ?_
                        refine xi_iload (pc' := 109) (x := a27) kc_61_107 rfl rfl ?_
                        refine xi_iload (pc' := 111) (x := a25) kc_61_109 rfl rfl ?_
                        refine xi_cmt (pc' := 121) kc_61_111 rfl (xc_gt_t (X := a27.toInt) (Y := a25.toInt) rfl rfl (by omega)) ?_
                        refine xi_iload (pc' := 123) (x := a27) kc_61_121 rfl rfl ?_
                        refine xi_sipush (pc' := 126) (v := 600) kc_61_123 rfl rfl ?_
                        refine xi_cmf (pc' := 129) kc_61_126 rfl (xc_gt_f (X := a27.toInt) (Y := 600) rfl (by decide) (by omega)) ?_
                        refine xi_iload_n (pc' := 130) (x := a23) kc_61_129 rfl rfl ?_
                        refine xi_bipush (pc' := 132) (v := 50) kc_61_130 rfl rfl ?_
                        refine xi_cmf (pc' := 135) kc_61_132 rfl (xc_gt_f (X := a23.toInt) (Y := 50) rfl (by decide) (by omega)) ?_
                        refine xi_aload_n (pc' := 136) (x := 115) kc_61_135 rfl rfl ?_
                        refine xi_getfield (pc' := 139) (v := .int u1) kc_61_136 rfl rfl rfl eh304.1 rfl ?_
                        refine xi_bipush (pc' := 141) (v := 20) kc_61_139 rfl rfl ?_
                        refine xi_cmf (pc' := 144) kc_61_141 rfl (xc_ne_f (X := u1.toInt) (Y := 20) rfl (by decide) (by omega)) ?_
                        refine xi_aload_n (pc' := 145) (x := 115) kc_61_144 rfl rfl ?_
                        refine xi_bipush (pc' := 147) (v := (-6)) kc_61_145 rfl rfl ?_
                        refine xi_virtual (mj := 12) (as := [.int (-6)]) (st1 := []) (lv0 := [(0, .ref 115), (1, .int (-6))]) kc_61_147 rfl rfl rfl rfl rfl eh304.1 (Nat.le_of_ble_eq_true rfl) (hJ _ _ _ _ (by decide)) (xm_le ml_12 rfl) rfl ?_
                        refine xi_aload_n (pc' := 1) (x := 115) kc_12_0 rfl rfl ?_
                        refine xi_getfield (pc' := 4) (v := .ref 140) kc_12_1 rfl rfl rfl eh304.1 rfl ?_
                        refine xi_iload_n (pc' := 5) (x := (-6)) kc_12_4 rfl rfl ?_
                        refine xi_ineg (pc' := 6) (v := 6) kc_12_5 rfl rfl ?_
                        refine xi_dup2 (pc' := 7) kc_12_6 rfl ⟨rfl, rfl⟩ ?_
                        obtain ⟨y316, A316, hy316, ry316⟩ := xk_arr K.1 xD_140
                        obtain ⟨v317, ev317, bv317, dv317⟩ := xj_get hy316 ry316 (i := 6) (by decide) (by decide)
                        have A318 := ((eh304.2.1 140 (by decide)).trans ((eh300.2.1 140 (by decide)).trans A316))
                        refine xi_iaload (pc' := 8) (v := v317) kc_12_7 rfl A318 (by decide) rfl (xi_in (by decide) (by rw [hy316]; decide)) ev317 ?_
                        refine xi_iconst (pc' := 9) (v := 1) kc_12_8 rfl rfl ?_
                        obtain ⟨v319, ev319⟩ : ∃ q : Int32, (v317 : Int32) + 1 = q := ⟨_, rfl⟩
                        have rv319 := xc_rng v319
                        refine xi_iadd (pc' := 10) (v := v319) kc_12_9 rfl ev319 ?_
                        obtain ⟨y320, s320, hy320, ry320⟩ := xj_set (v := v319) hy316 ry316 6 (by first | omega | decide) (by first | omega | decide)
                        refine xi_iastore (pc' := 11) (x' := y320) kc_12_10 rfl A318 rfl (xi_in (by decide) (by rw [hy316]; decide)) s320 (fun hh320 eh320 => ?_)
                        have K321 := xk_pa K306 (xk_wa (by decide +kernel)) xD_140 hy320 ry320 eh320
                        have KR322 := xk_pa KR307 (xk_wa (by decide +kernel)) xD_140 hy320 ry320 eh320
                        refine xi_iload_n (pc' := 12) (x := (-6)) kc_12_11 rfl rfl ?_
                        refine xi_ireturn kc_12_12 mr_12 rfl ?_
                        show xw J ov 99 61 (150, [(0, .ref 115), (1, .int a19), (2, .int a21), (3, .int a23), (4, .int a25), (5, .int a27)], [.int (-6)], hh320) _
                        refine xi_ireturn kc_61_150 mr_61 rfl ?_
                        show xw J ov 100 195 (1091, [(4, .int x4), (3, .ref 167), (2, .ref 115), (1, .ref 0), (0, .ref 1000000)], [.int (-6)], hh320) _
                        refine xi_pop (pc' := 1092) kc_195_1091 rfl rfl ?_
                        refine xi_goto (pc' := 1501) kc_195_1092 rfl ?_
                        obtain ⟨v323, ev323⟩ : ∃ q : Int32, x4 + 6 = q := ⟨_, rfl⟩
                        have zv323 : v323.toInt = (x4.toInt + 6) := by rw [← ev323]; exact (xz_add (X := x4.toInt) (Y := 6) rfl (by decide) (by omega) (by omega)).trans (by omega)
                        refine xi_iinc (pc' := 1504) (x := x4) (v := v323) (lv' := [(4, .int v323), (3, .ref 167), (2, .ref 115), (1, .ref 0), (0, .ref 1000000)]) kc_195_1501 rfl rfl ev323 rfl (xm_lt ml_195 rfl) ?_
                        refine xi_goto (pc' := 23) kc_195_1504 rfl ?_
                        exact kk v323 hh320 (by omega) K321 (xI_kept I KR322.2.1)
              · refine xi_cmf (pc' := 68) kc_163_65 rfl (xc_gt_f (X := a27.toInt) (Y := a25.toInt) rfl rfl (by omega)) ?_
                refine xi_aload_n (pc' := 69) (x := 0) kc_163_68 rfl rfl ?_
                refine xi_bipush (pc' := 71) (v := (-4)) kc_163_69 rfl rfl ?_
                refine xi_virtual (mj := 90) (as := [.int (-4)]) (st1 := []) (lv0 := [(0, .ref 0), (1, .int (-4))]) kc_163_71 rfl rfl rfl rfl rfl A3 (Nat.le_of_ble_eq_true rfl) (hJ _ _ _ _ (by decide)) (xm_le ml_90 rfl) rfl ?_
                refine xi_iload_n (pc' := 1) (x := (-4)) kc_90_0 rfl rfl ?_
                refine xi_ineg (pc' := 2) (v := 4) kc_90_1 rfl rfl ?_
                refine xi_istore_n (pc' := 3) (lv' := [(2, .int 4), (0, .ref 0), (1, .int (-4))]) kc_90_2 rfl rfl (xm_lt ml_90 rfl) ?_
                refine xi_iload_n (pc' := 4) (x := 4) kc_90_3 rfl rfl ?_
                refine xi_iff (pc' := 7) kc_90_4 rfl rfl ?_
                refine xi_iload_n (pc' := 8) (x := 4) kc_90_7 rfl rfl ?_
                refine xi_aload_n (pc' := 9) (x := 0) kc_90_8 rfl rfl ?_
                refine xi_getfield (pc' := 12) (v := .ref 94) kc_90_9 rfl rfl rfl A3 rfl ?_
                obtain ⟨y324, A324, hy324, ry324⟩ := xk_arr K.1 xD_94
                refine xi_arraylength (pc' := 13) (n := 7) (v := 7) kc_90_12 rfl (xl_lenI (by decide) (by decide) A324 hy324) rfl ?_
                refine xi_cmf (pc' := 16) kc_90_13 rfl rfl ?_
                refine xi_aload_n (pc' := 17) (x := 0) kc_90_16 rfl rfl ?_
                refine xi_getfield (pc' := 20) (v := .ref 94) kc_90_17 rfl rfl rfl A3 rfl ?_
                refine xi_iload_n (pc' := 21) (x := 4) kc_90_20 rfl rfl ?_
                refine xi_dup2 (pc' := 22) kc_90_21 rfl ⟨rfl, rfl⟩ ?_
                obtain ⟨v325, ev325, bv325, dv325⟩ := xj_get hy324 ry324 (i := 4) (by decide) (by decide)
                refine xi_iaload (pc' := 23) (v := v325) kc_90_22 rfl A324 (by decide) rfl (xi_in (by decide) (by rw [hy324]; decide)) ev325 ?_
                refine xi_iconst (pc' := 24) (v := 1) kc_90_23 rfl rfl ?_
                obtain ⟨v326, ev326⟩ : ∃ q : Int32, (v325 : Int32) + 1 = q := ⟨_, rfl⟩
                have rv326 := xc_rng v326
                refine xi_iadd (pc' := 25) (v := v326) kc_90_24 rfl ev326 ?_
                obtain ⟨y327, s327, hy327, ry327⟩ := xj_set (v := v326) hy324 ry324 4 (by first | omega | decide) (by first | omega | decide)
                refine xi_iastore (pc' := 26) (x' := y327) kc_90_25 rfl A324 rfl (xi_in (by decide) (by rw [hy324]; decide)) s327 (fun hh327 eh327 => ?_)
                have K328 := xk_pa K (xk_wa (by decide +kernel)) xD_94 hy327 ry327 eh327
                have KR329 := xk_pa KR (xk_wa (by decide +kernel)) xD_94 hy327 ry327 eh327
                refine xi_iload_n (pc' := 27) (x := (-4)) kc_90_26 rfl rfl ?_
                refine xi_ireturn kc_90_27 mr_90 rfl ?_
                show xw J ov 99 163 (74, [(0, .ref 0), (1, .int a19), (2, .int a21), (3, .int a23), (4, .int a25), (5, .int a27)], [.int (-4)], hh327) _
                refine xi_ireturn kc_163_74 mr_163 rfl ?_
                show xw J ov 100 195 (1056, [(4, .int x4), (3, .ref 167), (2, .ref 115), (1, .ref 0), (0, .ref 1000000)], [.int (-4)], hh327) _
                refine xi_pop (pc' := 1057) kc_195_1056 rfl rfl ?_
                refine xi_aload_n (pc' := 1058) (x := 115) kc_195_1057 rfl rfl ?_
                refine xi_aload_n (pc' := 1059) (x := 1000000) kc_195_1058 rfl rfl ?_
                refine xi_iload (pc' := 1061) (x := x4) kc_195_1059 rfl rfl ?_
                refine xi_iconst (pc' := 1062) (v := 1) kc_195_1061 rfl rfl ?_
                refine xi_iadd (pc' := 1063) (v := v18) kc_195_1062 rfl ev18 ?_
                refine xi_ialoadO (pc' := 1064) (v := a19) kc_195_1063 rfl (by decide) hov0 (xi_in (by omega) (by omega)) ea19 ?_
                refine xi_aload_n (pc' := 1065) (x := 1000000) kc_195_1064 rfl rfl ?_
                refine xi_iload (pc' := 1067) (x := x4) kc_195_1065 rfl rfl ?_
                refine xi_iconst (pc' := 1068) (v := 2) kc_195_1067 rfl rfl ?_
                refine xi_iadd (pc' := 1069) (v := v20) kc_195_1068 rfl ev20 ?_
                refine xi_ialoadO (pc' := 1070) (v := a21) kc_195_1069 rfl (by decide) hov0 (xi_in (by omega) (by omega)) ea21 ?_
                refine xi_aload_n (pc' := 1071) (x := 1000000) kc_195_1070 rfl rfl ?_
                refine xi_iload (pc' := 1073) (x := x4) kc_195_1071 rfl rfl ?_
                refine xi_iconst (pc' := 1074) (v := 3) kc_195_1073 rfl rfl ?_
                refine xi_iadd (pc' := 1075) (v := v22) kc_195_1074 rfl ev22 ?_
                refine xi_ialoadO (pc' := 1076) (v := a23) kc_195_1075 rfl (by decide) hov0 (xi_in (by omega) (by omega)) ea23 ?_
                refine xi_aload_n (pc' := 1077) (x := 1000000) kc_195_1076 rfl rfl ?_
                refine xi_iload (pc' := 1079) (x := x4) kc_195_1077 rfl rfl ?_
                refine xi_iconst (pc' := 1080) (v := 4) kc_195_1079 rfl rfl ?_
                refine xi_iadd (pc' := 1081) (v := v24) kc_195_1080 rfl ev24 ?_
                refine xi_ialoadO (pc' := 1082) (v := a25) kc_195_1081 rfl (by decide) hov0 (xi_in (by omega) (by omega)) ea25 ?_
                refine xi_aload_n (pc' := 1083) (x := 1000000) kc_195_1082 rfl rfl ?_
                refine xi_iload (pc' := 1085) (x := x4) kc_195_1083 rfl rfl ?_
                refine xi_iconst (pc' := 1086) (v := 5) kc_195_1085 rfl rfl ?_
                refine xi_iadd (pc' := 1087) (v := v26) kc_195_1086 rfl ev26 ?_
                refine xi_ialoadO (pc' := 1088) (v := a27) kc_195_1087 rfl (by decide) hov0 (xi_in (by omega) (by omega)) ea27 ?_
                have A330 := ((eh327.2.1 115 (by decide)).trans A17)
                refine xi_virtual (mj := 61) (as := [.int a19, .int a21, .int a23, .int a25, .int a27]) (st1 := []) (lv0 := [(0, .ref 115), (1, .int a19), (2, .int a21), (3, .int a23), (4, .int a25), (5, .int a27)]) kc_195_1088 rfl rfl rfl rfl rfl A330 (Nat.le_of_ble_eq_true rfl) (hJ _ _ _ _ (by decide)) (xm_le ml_61 rfl) rfl ?_
                refine xi_aload_n (pc' := 1) (x := 115) kc_61_0 rfl rfl ?_
                refine xi_iconst (pc' := 2) (v := 0) kc_61_1 rfl rfl ?_
                refine xi_putfield (pc' := 5) (fs' := [.int 0, .int u2, .ref 116, .ref 117, .ref 118, .ref 119, .ref 120, .ref 121, .ref 122, .ref 123, .ref 124, .ref 125, .ref 126, .ref 127, .ref 128, .ref 129, .int u6, .ref 130, .int u7, .ref 131, .ref 132, .ref 133, .ref 134, .int u8, .ref 135, .ref 136, .ref 137, .ref 138, .ref 139, .ref 140, .ref 141, .ref 142, .int u9, .int u10, .int u1, .ref 143, .ref 144, .ref 145, .ref 146, .ref 147, .ref 148, .int u12, .ref 149, .ref 150, .ref 151, .int u13, .ref 152, .ref 153, .ref 154, .ref 155, .ref 156, .ref 157, .ref 158, .ref 159, .int u14, .ref 160, .int u15, .ref 161, .ref 162, .ref 163, .ref 164, .int u16, .ref 165, .ref 166]) kc_61_2 rfl rfl rfl A330 rfl rfl rfl (Nat.le_of_ble_eq_true rfl) rfl (fun hh332 eh331 => ?_)
                have K333 := xk_pf (k := 0) (v := 0) K328 (xk_wf (by decide +kernel)) xD_115 A330 rfl (by first | omega | decide) (by first | omega | decide) eh331 rfl
                have KR334 := xk_pf (k := 0) (v := 0) KR329 (xk_wf (by decide +kernel)) xD_115 A330 rfl (by first | omega | decide) (by first | omega | decide) eh331 rfl
                refine xi_iload_n (pc' := 6) (x := a19) kc_61_5 rfl rfl ?_
                refine xi_static (mj := 10) (as := [.int a19]) (st1 := []) (lv0 := [(0, .int a19)]) kc_61_6 rfl rfl (Nat.le_of_ble_eq_true rfl) rfl rfl (Nat.le_of_ble_eq_true rfl) (hJ _ _ _ _ (by decide)) (xm_le ml_10 rfl) rfl ?_
                refine xi_iload_n (pc' := 1) (x := a19) kc_10_0 rfl rfl ?_
                refine xi_iconst (pc' := 2) (v := 0) kc_10_1 rfl rfl ?_
                refine xi_iconst (pc' := 3) (v := 5) kc_10_2 rfl rfl ?_
                refine xi_static (mj := 11) (as := [.int a19, .int 0, .int 5]) (st1 := []) (lv0 := [(0, .int a19), (1, .int 0), (2, .int 5)]) kc_10_3 rfl rfl (Nat.le_of_ble_eq_true rfl) rfl rfl (Nat.le_of_ble_eq_true rfl) (hJ _ _ _ _ (by decide)) (xm_le ml_11 rfl) rfl ?_
                refine xi_iload_n (pc' := 1) (x := a19) kc_11_0 rfl rfl ?_
                refine xi_iload_n (pc' := 2) (x := 0) kc_11_1 rfl rfl ?_
                refine xi_cmf (pc' := 5) kc_11_2 rfl (xc_lt_f (X := a19.toInt) (Y := 0) rfl (by decide) (by omega)) ?_
                refine xi_iload_n (pc' := 6) (x := a19) kc_11_5 rfl rfl ?_
                refine xi_iload_n (pc' := 7) (x := 5) kc_11_6 rfl rfl ?_
                refine xi_cmf (pc' := 10) kc_11_7 rfl (xc_gt_f (X := a19.toInt) (Y := 5) rfl (by decide) (by omega)) ?_
                refine xi_iconst (pc' := 11) (v := 1) kc_11_10 rfl rfl ?_
                refine xi_goto (pc' := 15) kc_11_11 rfl ?_
                refine xi_ireturn kc_11_15 mr_11 rfl ?_
                show xw J ov 98 10 (6, [(0, .int a19)], [.int 1], hh332) _
                refine xi_ireturn kc_10_6 mr_10 rfl ?_
                show xw J ov 99 61 (9, [(0, .ref 115), (1, .int a19), (2, .int a21), (3, .int a23), (4, .int a25), (5, .int a27)], [.int 1], hh332) _
                refine xi_ift (pc' := 18) kc_61_9 rfl rfl ?_
                refine xi_iload_n (pc' := 19) (x := a21) kc_61_18 rfl rfl ?_
                refine xi_iconst (pc' := 20) (v := 0) kc_61_19 rfl rfl ?_
                refine xi_iconst (pc' := 21) (v := 1) kc_61_20 rfl rfl ?_
                refine xi_static (mj := 11) (as := [.int a21, .int 0, .int 1]) (st1 := []) (lv0 := [(0, .int a21), (1, .int 0), (2, .int 1)]) kc_61_21 rfl rfl (Nat.le_of_ble_eq_true rfl) rfl rfl (Nat.le_of_ble_eq_true rfl) (hJ _ _ _ _ (by decide)) (xm_le ml_11 rfl) rfl ?_
                refine xi_iload_n (pc' := 1) (x := a21) kc_11_0 rfl rfl ?_
                refine xi_iload_n (pc' := 2) (x := 0) kc_11_1 rfl rfl ?_
                refine xi_cmf (pc' := 5) kc_11_2 rfl (xc_lt_f (X := a21.toInt) (Y := 0) rfl (by decide) (by omega)) ?_
                refine xi_iload_n (pc' := 6) (x := a21) kc_11_5 rfl rfl ?_
                refine xi_iload_n (pc' := 7) (x := 1) kc_11_6 rfl rfl ?_
                refine xi_cmf (pc' := 10) kc_11_7 rfl (xc_gt_f (X := a21.toInt) (Y := 1) rfl (by decide) (by omega)) ?_
                refine xi_iconst (pc' := 11) (v := 1) kc_11_10 rfl rfl ?_
                refine xi_goto (pc' := 15) kc_11_11 rfl ?_
                refine xi_ireturn kc_11_15 mr_11 rfl ?_
                show xw J ov 99 61 (24, [(0, .ref 115), (1, .int a19), (2, .int a21), (3, .int a23), (4, .int a25), (5, .int a27)], [.int 1], hh332) _
                refine xi_ift (pc' := 34) kc_61_24 rfl rfl ?_
                refine xi_iconst (pc' := 35) (v := 0) kc_61_34 rfl rfl ?_
                refine xi_istore (pc' := 37) (lv' := [(6, .int 0), (0, .ref 115), (1, .int a19), (2, .int a21), (3, .int a23), (4, .int a25), (5, .int a27)]) kc_61_35 rfl rfl (xm_lt ml_61 rfl) ?_
                refine xw_lv (b := [(0, .ref 115), (1, .int a19), (2, .int a21), (3, .int a23), (4, .int a25), (5, .int a27), (6, .int 0)]) (lvS_cons (lvS_cons (lvS_cons (lvS_cons (lvS_cons (lvS_cons (lvS_cons (lvS_nil (show ([6, 0, 1, 2, 3, 4, 5] : List Nat).Nodup by decide)) rfl) rfl) rfl) rfl) rfl) rfl) rfl) ?_
                have zc0 : (0 : Int32).toInt = 0 := by decide
                have A335 := ((eh331.2.1 143 (by decide)).trans ((eh327.2.1 143 (by decide)).trans A69))
                have A336 := ((eh331.2.1 146 (by decide)).trans ((eh327.2.1 146 (by decide)).trans A70))
                have A337 := ((eh331.2.1 147 (by decide)).trans ((eh327.2.1 147 (by decide)).trans A71))
                refine tr_lp hJ hov1 hov2 (d := 97) K333.1 (xra_mk A335 (xrp_of hy69)) (xra_mk A336 (xrp_of hy70)) (xra_mk A337 (xrp_of hy71)) (xfi_mk eh331.1 rfl rfl) (by omega) (by omega) (by omega) (fun hx hh338 K339 => ?_) (fun hx lv9 hS => ?_) 21 0 (by omega) xov_0 (by omega)
                · have KR340 := xk_tr KR334 K339 (by decide +kernel)
                  have K341 := xk_tr K333 K339 (xsb_ok _ _ (by decide +kernel))
                  show xw J ov 100 195 (1091, [(4, .int x4), (3, .ref 167), (2, .ref 115), (1, .ref 0), (0, .ref 1000000)], [.int (-3)], hh338) _
                  refine xi_pop (pc' := 1092) kc_195_1091 rfl rfl ?_
                  refine xi_goto (pc' := 1501) kc_195_1092 rfl ?_
                  obtain ⟨v342, ev342⟩ : ∃ q : Int32, x4 + 6 = q := ⟨_, rfl⟩
                  have zv342 : v342.toInt = (x4.toInt + 6) := by rw [← ev342]; exact (xz_add (X := x4.toInt) (Y := 6) rfl (by decide) (by omega) (by omega)).trans (by omega)
                  refine xi_iinc (pc' := 1504) (x := x4) (v := v342) (lv' := [(4, .int v342), (3, .ref 167), (2, .ref 115), (1, .ref 0), (0, .ref 1000000)]) kc_195_1501 rfl rfl ev342 rfl (xm_lt ml_195 rfl) ?_
                  refine xi_goto (pc' := 23) kc_195_1504 rfl ?_
                  exact kk v342 hh338 (by omega) K341 (xI_kept I KR340.2.1)
                · refine xw_lv hS ?_
                  show xw J ov 99 61 (94, [(0, .ref 115), (1, .int a19), (2, .int a21), (3, .int a23), (4, .int a25), (5, .int a27)], [], hh332) _
                  refine xi_iload_n (pc' := 95) (x := a23) kc_61_94 rfl rfl ?_
                  refine xi_iff (pc' := 98) kc_61_95 rfl (xc_lt_f (X := a23.toInt) (Y := 0) rfl (by decide) (by omega)) ?_
                  refine xi_iload (pc' := 100) (x := a25) kc_61_98 rfl rfl ?_
                  refine xi_aload_n (pc' := 101) (x := 115) kc_61_100 rfl rfl ?_
                  refine xi_getfield (pc' := 104) (v := .int u2) kc_61_101 rfl rfl rfl eh331.1 rfl ?_
                  refine xi_cmf (pc' := 107) kc_61_104 rfl (xc_lt_f (X := a25.toInt) (Y := u2.toInt) rfl rfl (by omega)) ?_
                  refine xi_iload (pc' := 109) (x := a27) kc_61_107 rfl rfl ?_
                  refine xi_iload (pc' := 111) (x := a25) kc_61_109 rfl rfl ?_
                  refine xi_cmf (pc' := 114) kc_61_111 rfl (xc_gt_f (X := a27.toInt) (Y := a25.toInt) rfl rfl (by omega)) ?_
                  refine xi_aload_n (pc' := 115) (x := 115) kc_61_114 rfl rfl ?_
                  refine xi_bipush (pc' := 117) (v := (-4)) kc_61_115 rfl rfl ?_
                  refine xi_virtual (mj := 12) (as := [.int (-4)]) (st1 := []) (lv0 := [(0, .ref 115), (1, .int (-4))]) kc_61_117 rfl rfl rfl rfl rfl eh331.1 (Nat.le_of_ble_eq_true rfl) (hJ _ _ _ _ (by decide)) (xm_le ml_12 rfl) rfl ?_
                  refine xi_aload_n (pc' := 1) (x := 115) kc_12_0 rfl rfl ?_
                  refine xi_getfield (pc' := 4) (v := .ref 140) kc_12_1 rfl rfl rfl eh331.1 rfl ?_
                  refine xi_iload_n (pc' := 5) (x := (-4)) kc_12_4 rfl rfl ?_
                  refine xi_ineg (pc' := 6) (v := 4) kc_12_5 rfl rfl ?_
                  refine xi_dup2 (pc' := 7) kc_12_6 rfl ⟨rfl, rfl⟩ ?_
                  obtain ⟨y343, A343, hy343, ry343⟩ := xk_arr K.1 xD_140
                  obtain ⟨v344, ev344, bv344, dv344⟩ := xj_get hy343 ry343 (i := 4) (by decide) (by decide)
                  have A345 := ((eh331.2.1 140 (by decide)).trans ((eh327.2.1 140 (by decide)).trans A343))
                  refine xi_iaload (pc' := 8) (v := v344) kc_12_7 rfl A345 (by decide) rfl (xi_in (by decide) (by rw [hy343]; decide)) ev344 ?_
                  refine xi_iconst (pc' := 9) (v := 1) kc_12_8 rfl rfl ?_
                  obtain ⟨v346, ev346⟩ : ∃ q : Int32, (v344 : Int32) + 1 = q := ⟨_, rfl⟩
                  have rv346 := xc_rng v346
                  refine xi_iadd (pc' := 10) (v := v346) kc_12_9 rfl ev346 ?_
                  obtain ⟨y347, s347, hy347, ry347⟩ := xj_set (v := v346) hy343 ry343 4 (by first | omega | decide) (by first | omega | decide)
                  refine xi_iastore (pc' := 11) (x' := y347) kc_12_10 rfl A345 rfl (xi_in (by decide) (by rw [hy343]; decide)) s347 (fun hh347 eh347 => ?_)
                  have K348 := xk_pa K333 (xk_wa (by decide +kernel)) xD_140 hy347 ry347 eh347
                  have KR349 := xk_pa KR334 (xk_wa (by decide +kernel)) xD_140 hy347 ry347 eh347
                  refine xi_iload_n (pc' := 12) (x := (-4)) kc_12_11 rfl rfl ?_
                  refine xi_ireturn kc_12_12 mr_12 rfl ?_
                  show xw J ov 99 61 (120, [(0, .ref 115), (1, .int a19), (2, .int a21), (3, .int a23), (4, .int a25), (5, .int a27)], [.int (-4)], hh347) _
                  refine xi_ireturn kc_61_120 mr_61 rfl ?_
                  show xw J ov 100 195 (1091, [(4, .int x4), (3, .ref 167), (2, .ref 115), (1, .ref 0), (0, .ref 1000000)], [.int (-4)], hh347) _
                  refine xi_pop (pc' := 1092) kc_195_1091 rfl rfl ?_
                  refine xi_goto (pc' := 1501) kc_195_1092 rfl ?_
                  obtain ⟨v350, ev350⟩ : ∃ q : Int32, x4 + 6 = q := ⟨_, rfl⟩
                  have zv350 : v350.toInt = (x4.toInt + 6) := by rw [← ev350]; exact (xz_add (X := x4.toInt) (Y := 6) rfl (by decide) (by omega) (by omega)).trans (by omega)
                  refine xi_iinc (pc' := 1504) (x := x4) (v := v350) (lv' := [(4, .int v350), (3, .ref 167), (2, .ref 115), (1, .ref 0), (0, .ref 1000000)]) kc_195_1501 rfl rfl ev350 rfl (xm_lt ml_195 rfl) ?_
                  refine xi_goto (pc' := 23) kc_195_1504 rfl ?_
                  exact kk v350 hh347 (by omega) K348 (xI_kept I KR349.2.1)
      · refine xi_iff (pc' := 17) kc_163_14 rfl (xc_eq_f (X := a21.toInt) (Y := 0) rfl (by decide) (by omega)) ?_
        refine xi_iload_n (pc' := 18) (x := a21) kc_163_17 rfl rfl ?_
        refine xi_iconst (pc' := 19) (v := 1) kc_163_18 rfl rfl ?_
        by_cases c351 : a21.toInt = 1
        · refine xi_cmt (pc' := 29) kc_163_19 rfl (xc_eq_t (X := a21.toInt) (Y := 1) rfl (by decide) (by omega)) ?_
          refine xi_aload_n (pc' := 30) (x := 0) kc_163_29 rfl rfl ?_
          refine xi_iload_n (pc' := 31) (x := a19) kc_163_30 rfl rfl ?_
          refine xi_iload (pc' := 33) (x := a25) kc_163_31 rfl rfl ?_
          refine xi_iload (pc' := 35) (x := a27) kc_163_33 rfl rfl ?_
          refine xi_virtual (mj := 164) (as := [.int a19, .int a25, .int a27]) (st1 := []) (lv0 := [(0, .ref 0), (1, .int a19), (2, .int a25), (3, .int a27)]) kc_163_35 rfl rfl rfl rfl rfl A3 (Nat.le_of_ble_eq_true rfl) (hJ _ _ _ _ (by decide)) (xm_le ml_164 rfl) rfl ?_
          obtain ⟨y352, A352, hy352, ry352⟩ := xk_arr K.1 xD_143
          have Ga := xgf_of I.2.2.2.2.2.2.2.2.2.2.2.2.2.2.2.2.2.2.2.2.2.2.2.2.1 A352 (xrp_of hy352) (by decide)
          obtain ⟨y353, A353, hy353, ry353⟩ := xk_arr K.1 xD_146
          have Gb := xgf_of I.2.2.2.2.2.2.2.2.2.2.2.2.2.2.2.2.2.2.2.2.2.2.2.2.2.1 A353 (xrp_of hy353) (by decide)
          obtain ⟨y354, A354, hy354, ry354⟩ := xk_arr K.1 xD_147
          have Gc := xgf_of I.2.2.2.2.2.2.2.2.2.2.2.2.2.2.2.2.2.2.2.2.2.2.2.2.2.2.1 A354 (xrp_of hy354) (by decide)
          refine xw_ti hJ hov1 hov2 (d := 97) (x1 := a19) (x2 := a25) (x3 := a27) K.1 Ga Gb Gc (xfi_mk A3 rfl rfl) (by omega) (by omega) (fun hov => ?_) (fun hov => ?_)
          · show xw J ov 99 163 (38, [(0, .ref 0), (1, .int a19), (2, .int a21), (3, .int a23), (4, .int a25), (5, .int a27)], [.int 1], h) _
            refine xi_iff (pc' := 41) kc_163_38 rfl rfl ?_
            refine xi_aload_n (pc' := 42) (x := 0) kc_163_41 rfl rfl ?_
            refine xi_bipush (pc' := 44) (v := (-3)) kc_163_42 rfl rfl ?_
            refine xi_virtual (mj := 90) (as := [.int (-3)]) (st1 := []) (lv0 := [(0, .ref 0), (1, .int (-3))]) kc_163_44 rfl rfl rfl rfl rfl A3 (Nat.le_of_ble_eq_true rfl) (hJ _ _ _ _ (by decide)) (xm_le ml_90 rfl) rfl ?_
            refine xi_iload_n (pc' := 1) (x := (-3)) kc_90_0 rfl rfl ?_
            refine xi_ineg (pc' := 2) (v := 3) kc_90_1 rfl rfl ?_
            refine xi_istore_n (pc' := 3) (lv' := [(2, .int 3), (0, .ref 0), (1, .int (-3))]) kc_90_2 rfl rfl (xm_lt ml_90 rfl) ?_
            refine xi_iload_n (pc' := 4) (x := 3) kc_90_3 rfl rfl ?_
            refine xi_iff (pc' := 7) kc_90_4 rfl rfl ?_
            refine xi_iload_n (pc' := 8) (x := 3) kc_90_7 rfl rfl ?_
            refine xi_aload_n (pc' := 9) (x := 0) kc_90_8 rfl rfl ?_
            refine xi_getfield (pc' := 12) (v := .ref 94) kc_90_9 rfl rfl rfl A3 rfl ?_
            obtain ⟨y355, A355, hy355, ry355⟩ := xk_arr K.1 xD_94
            refine xi_arraylength (pc' := 13) (n := 7) (v := 7) kc_90_12 rfl (xl_lenI (by decide) (by decide) A355 hy355) rfl ?_
            refine xi_cmf (pc' := 16) kc_90_13 rfl rfl ?_
            refine xi_aload_n (pc' := 17) (x := 0) kc_90_16 rfl rfl ?_
            refine xi_getfield (pc' := 20) (v := .ref 94) kc_90_17 rfl rfl rfl A3 rfl ?_
            refine xi_iload_n (pc' := 21) (x := 3) kc_90_20 rfl rfl ?_
            refine xi_dup2 (pc' := 22) kc_90_21 rfl ⟨rfl, rfl⟩ ?_
            obtain ⟨v356, ev356, bv356, dv356⟩ := xj_get hy355 ry355 (i := 3) (by decide) (by decide)
            refine xi_iaload (pc' := 23) (v := v356) kc_90_22 rfl A355 (by decide) rfl (xi_in (by decide) (by rw [hy355]; decide)) ev356 ?_
            refine xi_iconst (pc' := 24) (v := 1) kc_90_23 rfl rfl ?_
            obtain ⟨v357, ev357⟩ : ∃ q : Int32, (v356 : Int32) + 1 = q := ⟨_, rfl⟩
            have rv357 := xc_rng v357
            refine xi_iadd (pc' := 25) (v := v357) kc_90_24 rfl ev357 ?_
            obtain ⟨y358, s358, hy358, ry358⟩ := xj_set (v := v357) hy355 ry355 3 (by first | omega | decide) (by first | omega | decide)
            refine xi_iastore (pc' := 26) (x' := y358) kc_90_25 rfl A355 rfl (xi_in (by decide) (by rw [hy355]; decide)) s358 (fun hh358 eh358 => ?_)
            have K359 := xk_pa K (xk_wa (by decide +kernel)) xD_94 hy358 ry358 eh358
            have KR360 := xk_pa KR (xk_wa (by decide +kernel)) xD_94 hy358 ry358 eh358
            refine xi_iload_n (pc' := 27) (x := (-3)) kc_90_26 rfl rfl ?_
            refine xi_ireturn kc_90_27 mr_90 rfl ?_
            show xw J ov 99 163 (47, [(0, .ref 0), (1, .int a19), (2, .int a21), (3, .int a23), (4, .int a25), (5, .int a27)], [.int (-3)], hh358) _
            refine xi_ireturn kc_163_47 mr_163 rfl ?_
            show xw J ov 100 195 (1056, [(4, .int x4), (3, .ref 167), (2, .ref 115), (1, .ref 0), (0, .ref 1000000)], [.int (-3)], hh358) _
            refine xi_pop (pc' := 1057) kc_195_1056 rfl rfl ?_
            refine xi_aload_n (pc' := 1058) (x := 115) kc_195_1057 rfl rfl ?_
            refine xi_aload_n (pc' := 1059) (x := 1000000) kc_195_1058 rfl rfl ?_
            refine xi_iload (pc' := 1061) (x := x4) kc_195_1059 rfl rfl ?_
            refine xi_iconst (pc' := 1062) (v := 1) kc_195_1061 rfl rfl ?_
            refine xi_iadd (pc' := 1063) (v := v18) kc_195_1062 rfl ev18 ?_
            refine xi_ialoadO (pc' := 1064) (v := a19) kc_195_1063 rfl (by decide) hov0 (xi_in (by omega) (by omega)) ea19 ?_
            refine xi_aload_n (pc' := 1065) (x := 1000000) kc_195_1064 rfl rfl ?_
            refine xi_iload (pc' := 1067) (x := x4) kc_195_1065 rfl rfl ?_
            refine xi_iconst (pc' := 1068) (v := 2) kc_195_1067 rfl rfl ?_
            refine xi_iadd (pc' := 1069) (v := v20) kc_195_1068 rfl ev20 ?_
            refine xi_ialoadO (pc' := 1070) (v := a21) kc_195_1069 rfl (by decide) hov0 (xi_in (by omega) (by omega)) ea21 ?_
            refine xi_aload_n (pc' := 1071) (x := 1000000) kc_195_1070 rfl rfl ?_
            refine xi_iload (pc' := 1073) (x := x4) kc_195_1071 rfl rfl ?_
            refine xi_iconst (pc' := 1074) (v := 3) kc_195_1073 rfl rfl ?_
            refine xi_iadd (pc' := 1075) (v := v22) kc_195_1074 rfl ev22 ?_
            refine xi_ialoadO (pc' := 1076) (v := a23) kc_195_1075 rfl (by decide) hov0 (xi_in (by omega) (by omega)) ea23 ?_
            refine xi_aload_n (pc' := 1077) (x := 1000000) kc_195_1076 rfl rfl ?_
            refine xi_iload (pc' := 1079) (x := x4) kc_195_1077 rfl rfl ?_
            refine xi_iconst (pc' := 1080) (v := 4) kc_195_1079 rfl rfl ?_
            refine xi_iadd (pc' := 1081) (v := v24) kc_195_1080 rfl ev24 ?_
            refine xi_ialoadO (pc' := 1082) (v := a25) kc_195_1081 rfl (by decide) hov0 (xi_in (by omega) (by omega)) ea25 ?_
            refine xi_aload_n (pc' := 1083) (x := 1000000) kc_195_1082 rfl rfl ?_
            refine xi_iload (pc' := 1085) (x := x4) kc_195_1083 rfl rfl ?_
            refine xi_iconst (pc' := 1086) (v := 5) kc_195_1085 rfl rfl ?_
            refine xi_iadd (pc' := 1087) (v := v26) kc_195_1086 rfl ev26 ?_
            refine xi_ialoadO (pc' := 1088) (v := a27) kc_195_1087 rfl (by decide) hov0 (xi_in (by omega) (by omega)) ea27 ?_
            have A361 := ((eh358.2.1 115 (by decide)).trans A17)
            refine xi_virtual (mj := 61) (as := [.int a19, .int a21, .int a23, .int a25, .int a27]) (st1 := []) (lv0 := [(0, .ref 115), (1, .int a19), (2, .int a21), (3, .int a23), (4, .int a25), (5, .int a27)]) kc_195_1088 rfl rfl rfl rfl rfl A361 (Nat.le_of_ble_eq_true rfl) (hJ _ _ _ _ (by decide)) (xm_le ml_61 rfl) rfl ?_
            refine xi_aload_n (pc' := 1) (x := 115) kc_61_0 rfl rfl ?_
            refine xi_iconst (pc' := 2) (v := 0) kc_61_1 rfl rfl ?_
            refine xi_putfield (pc' := 5) (fs' := [.int 0, .int u2, .ref 116, .ref 117, .ref 118, .ref 119, .ref 120, .ref 121, .ref 122, .ref 123, .ref 124, .ref 125, .ref 126, .ref 127, .ref 128, .ref 129, .int u6, .ref 130, .int u7, .ref 131, .ref 132, .ref 133, .ref 134, .int u8, .ref 135, .ref 136, .ref 137, .ref 138, .ref 139, .ref 140, .ref 141, .ref 142, .int u9, .int u10, .int u1, .ref 143, .ref 144, .ref 145, .ref 146, .ref 147, .ref 148, .int u12, .ref 149, .ref 150, .ref 151, .int u13, .ref 152, .ref 153, .ref 154, .ref 155, .ref 156, .ref 157, .ref 158, .ref 159, .int u14, .ref 160, .int u15, .ref 161, .ref 162, .ref 163, .ref 164, .int u16, .ref 165, .ref 166]) kc_61_2 rfl rfl rfl A361 rfl rfl rfl (Nat.le_of_ble_eq_true rfl) rfl (fun hh363 eh362 => ?_)
            have K364 := xk_pf (k := 0) (v := 0) K359 (xk_wf (by decide +kernel)) xD_115 A361 rfl (by first | omega | decide) (by first | omega | decide) eh362 rfl
            have KR365 := xk_pf (k := 0) (v := 0) KR360 (xk_wf (by decide +kernel)) xD_115 A361 rfl (by first | omega | decide) (by first | omega | decide) eh362 rfl
            refine xi_iload_n (pc' := 6) (x := a19) kc_61_5 rfl rfl ?_
            refine xi_static (mj := 10) (as := [.int a19]) (st1 := []) (lv0 := [(0, .int a19)]) kc_61_6 rfl rfl (Nat.le_of_ble_eq_true rfl) rfl rfl (Nat.le_of_ble_eq_true rfl) (hJ _ _ _ _ (by decide)) (xm_le ml_10 rfl) rfl ?_
            refine xi_iload_n (pc' := 1) (x := a19) kc_10_0 rfl rfl ?_
            refine xi_iconst (pc' := 2) (v := 0) kc_10_1 rfl rfl ?_
            refine xi_iconst (pc' := 3) (v := 5) kc_10_2 rfl rfl ?_
            refine xi_static (mj := 11) (as := [.int a19, .int 0, .int 5]) (st1 := []) (lv0 := [(0, .int a19), (1, .int 0), (2, .int 5)]) kc_10_3 rfl rfl (Nat.le_of_ble_eq_true rfl) rfl rfl (Nat.le_of_ble_eq_true rfl) (hJ _ _ _ _ (by decide)) (xm_le ml_11 rfl) rfl ?_
            refine xi_iload_n (pc' := 1) (x := a19) kc_11_0 rfl rfl ?_
            refine xi_iload_n (pc' := 2) (x := 0) kc_11_1 rfl rfl ?_
            refine xi_cmf (pc' := 5) kc_11_2 rfl (xc_lt_f (X := a19.toInt) (Y := 0) rfl (by decide) (by omega)) ?_
            refine xi_iload_n (pc' := 6) (x := a19) kc_11_5 rfl rfl ?_
            refine xi_iload_n (pc' := 7) (x := 5) kc_11_6 rfl rfl ?_
            refine xi_cmf (pc' := 10) kc_11_7 rfl (xc_gt_f (X := a19.toInt) (Y := 5) rfl (by decide) (by omega)) ?_
            refine xi_iconst (pc' := 11) (v := 1) kc_11_10 rfl rfl ?_
            refine xi_goto (pc' := 15) kc_11_11 rfl ?_
            refine xi_ireturn kc_11_15 mr_11 rfl ?_
            show xw J ov 98 10 (6, [(0, .int a19)], [.int 1], hh363) _
            refine xi_ireturn kc_10_6 mr_10 rfl ?_
            show xw J ov 99 61 (9, [(0, .ref 115), (1, .int a19), (2, .int a21), (3, .int a23), (4, .int a25), (5, .int a27)], [.int 1], hh363) _
            refine xi_ift (pc' := 18) kc_61_9 rfl rfl ?_
            refine xi_iload_n (pc' := 19) (x := a21) kc_61_18 rfl rfl ?_
            refine xi_iconst (pc' := 20) (v := 0) kc_61_19 rfl rfl ?_
            refine xi_iconst (pc' := 21) (v := 1) kc_61_20 rfl rfl ?_
            refine xi_static (mj := 11) (as := [.int a21, .int 0, .int 1]) (st1 := []) (lv0 := [(0, .int a21), (1, .int 0), (2, .int 1)]) kc_61_21 rfl rfl (Nat.le_of_ble_eq_true rfl) rfl rfl (Nat.le_of_ble_eq_true rfl) (hJ _ _ _ _ (by decide)) (xm_le ml_11 rfl) rfl ?_
            refine xi_iload_n (pc' := 1) (x := a21) kc_11_0 rfl rfl ?_
            refine xi_iload_n (pc' := 2) (x := 0) kc_11_1 rfl rfl ?_
            refine xi_cmf (pc' := 5) kc_11_2 rfl (xc_lt_f (X := a21.toInt) (Y := 0) rfl (by decide) (by omega)) ?_
            refine xi_iload_n (pc' := 6) (x := a21) kc_11_5 rfl rfl ?_
            refine xi_iload_n (pc' := 7) (x := 1) kc_11_6 rfl rfl ?_
            refine xi_cmf (pc' := 10) kc_11_7 rfl (xc_gt_f (X := a21.toInt) (Y := 1) rfl (by decide) (by omega)) ?_
            refine xi_iconst (pc' := 11) (v := 1) kc_11_10 rfl rfl ?_
            refine xi_goto (pc' := 15) kc_11_11 rfl ?_
            refine xi_ireturn kc_11_15 mr_11 rfl ?_
            show xw J ov 99 61 (24, [(0, .ref 115), (1, .int a19), (2, .int a21), (3, .int a23), (4, .int a25), (5, .int a27)], [.int 1], hh363) _
            refine xi_ift (pc' := 34) kc_61_24 rfl rfl ?_
            refine xi_iconst (pc' := 35) (v := 0) kc_61_34 rfl rfl ?_
            refine xi_istore (pc' := 37) (lv' := [(6, .int 0), (0, .ref 115), (1, .int a19), (2, .int a21), (3, .int a23), (4, .int a25), (5, .int a27)]) kc_61_35 rfl rfl (xm_lt ml_61 rfl) ?_
            refine xw_lv (b := [(0, .ref 115), (1, .int a19), (2, .int a21), (3, .int a23), (4, .int a25), (5, .int a27), (6, .int 0)]) (lvS_cons (lvS_cons (lvS_cons (lvS_cons (lvS_cons (lvS_cons (lvS_cons (lvS_nil (show ([6, 0, 1, 2, 3, 4, 5] : List Nat).Nodup by decide)) rfl) rfl) rfl) rfl) rfl) rfl) rfl) ?_
            have zc0 : (0 : Int32).toInt = 0 := by decide
            have A366 := ((eh362.2.1 143 (by decide)).trans ((eh358.2.1 143 (by decide)).trans A352))
            have A367 := ((eh362.2.1 146 (by decide)).trans ((eh358.2.1 146 (by decide)).trans A353))
            have A368 := ((eh362.2.1 147 (by decide)).trans ((eh358.2.1 147 (by decide)).trans A354))
            refine tr_lp hJ hov1 hov2 (d := 97) K364.1 (xra_mk A366 (xrp_of hy352)) (xra_mk A367 (xrp_of hy353)) (xra_mk A368 (xrp_of hy354)) (xfi_mk eh362.1 rfl rfl) (by omega) (by omega) (by omega) (fun hx hh369 K370 => ?_) (fun hx lv9 hS => ?_) 21 0 (by omega) xov_0 (by omega)
            · have KR371 := xk_tr KR365 K370 (by decide +kernel)
              have K372 := xk_tr K364 K370 (xsb_ok _ _ (by decide +kernel))
              show xw J ov 100 195 (1091, [(4, .int x4), (3, .ref 167), (2, .ref 115), (1, .ref 0), (0, .ref 1000000)], [.int (-3)], hh369) _
              refine xi_pop (pc' := 1092) kc_195_1091 rfl rfl ?_
              refine xi_goto (pc' := 1501) kc_195_1092 rfl ?_
              obtain ⟨v373, ev373⟩ : ∃ q : Int32, x4 + 6 = q := ⟨_, rfl⟩
              have zv373 : v373.toInt = (x4.toInt + 6) := by rw [← ev373]; exact (xz_add (X := x4.toInt) (Y := 6) rfl (by decide) (by omega) (by omega)).trans (by omega)
              refine xi_iinc (pc' := 1504) (x := x4) (v := v373) (lv' := [(4, .int v373), (3, .ref 167), (2, .ref 115), (1, .ref 0), (0, .ref 1000000)]) kc_195_1501 rfl rfl ev373 rfl (xm_lt ml_195 rfl) ?_
              refine xi_goto (pc' := 23) kc_195_1504 rfl ?_
              exact kk v373 hh369 (by omega) K372 (xI_kept I KR371.2.1)
            · exact absurd hov.2 hx
          · show xw J ov 99 163 (38, [(0, .ref 0), (1, .int a19), (2, .int a21), (3, .int a23), (4, .int a25), (5, .int a27)], [.int 0], h) _
            refine xi_ift (pc' := 48) kc_163_38 rfl rfl ?_
            refine xi_iload_n (pc' := 49) (x := a23) kc_163_48 rfl rfl ?_
            by_cases c374 : a23.toInt < 0
            · refine xi_ift (pc' := 68) kc_163_49 rfl (xc_lt_t (X := a23.toInt) (Y := 0) rfl (by decide) (by omega)) ?_
              refine xi_aload_n (pc' := 69) (x := 0) kc_163_68 rfl rfl ?_
              refine xi_bipush (pc' := 71) (v := (-4)) kc_163_69 rfl rfl ?_
              refine xi_virtual (mj := 90) (as := [.int (-4)]) (st1 := []) (lv0 := [(0, .ref 0), (1, .int (-4))]) kc_163_71 rfl rfl rfl rfl rfl A3 (Nat.le_of_ble_eq_true rfl) (hJ _ _ _ _ (by decide)) (xm_le ml_90 rfl) rfl ?_
              refine xi_iload_n (pc' := 1) (x := (-4)) kc_90_0 rfl rfl ?_
              refine xi_ineg (pc' := 2) (v := 4) kc_90_1 rfl rfl ?_
              refine xi_istore_n (pc' := 3) (lv' := [(2, .int 4), (0, .ref 0), (1, .int (-4))]) kc_90_2 rfl rfl (xm_lt ml_90 rfl) ?_
              refine xi_iload_n (pc' := 4) (x := 4) kc_90_3 rfl rfl ?_
              refine xi_iff (pc' := 7) kc_90_4 rfl rfl ?_
              refine xi_iload_n (pc' := 8) (x := 4) kc_90_7 rfl rfl ?_
              refine xi_aload_n (pc' := 9) (x := 0) kc_90_8 rfl rfl ?_
              refine xi_getfield (pc' := 12) (v := .ref 94) kc_90_9 rfl rfl rfl A3 rfl ?_
              obtain ⟨y375, A375, hy375, ry375⟩ := xk_arr K.1 xD_94
              refine xi_arraylength (pc' := 13) (n := 7) (v := 7) kc_90_12 rfl (xl_lenI (by decide) (by decide) A375 hy375) rfl ?_
              refine xi_cmf (pc' := 16) kc_90_13 rfl rfl ?_
              refine xi_aload_n (pc' := 17) (x := 0) kc_90_16 rfl rfl ?_
              refine xi_getfield (pc' := 20) (v := .ref 94) kc_90_17 rfl rfl rfl A3 rfl ?_
              refine xi_iload_n (pc' := 21) (x := 4) kc_90_20 rfl rfl ?_
              refine xi_dup2 (pc' := 22) kc_90_21 rfl ⟨rfl, rfl⟩ ?_
              obtain ⟨v376, ev376, bv376, dv376⟩ := xj_get hy375 ry375 (i := 4) (by decide) (by decide)
              refine xi_iaload (pc' := 23) (v := v376) kc_90_22 rfl A375 (by decide) rfl (xi_in (by decide) (by rw [hy375]; decide)) ev376 ?_
              refine xi_iconst (pc' := 24) (v := 1) kc_90_23 rfl rfl ?_
              obtain ⟨v377, ev377⟩ : ∃ q : Int32, (v376 : Int32) + 1 = q := ⟨_, rfl⟩
              have rv377 := xc_rng v377
              refine xi_iadd (pc' := 25) (v := v377) kc_90_24 rfl ev377 ?_
              obtain ⟨y378, s378, hy378, ry378⟩ := xj_set (v := v377) hy375 ry375 4 (by first | omega | decide) (by first | omega | decide)
              refine xi_iastore (pc' := 26) (x' := y378) kc_90_25 rfl A375 rfl (xi_in (by decide) (by rw [hy375]; decide)) s378 (fun hh378 eh378 => ?_)
              have K379 := xk_pa K (xk_wa (by decide +kernel)) xD_94 hy378 ry378 eh378
              have KR380 := xk_pa KR (xk_wa (by decide +kernel)) xD_94 hy378 ry378 eh378
              refine xi_iload_n (pc' := 27) (x := (-4)) kc_90_26 rfl rfl ?_
              refine xi_ireturn kc_90_27 mr_90 rfl ?_
              show xw J ov 99 163 (74, [(0, .ref 0), (1, .int a19), (2, .int a21), (3, .int a23), (4, .int a25), (5, .int a27)], [.int (-4)], hh378) _
              refine xi_ireturn kc_163_74 mr_163 rfl ?_
              show xw J ov 100 195 (1056, [(4, .int x4), (3, .ref 167), (2, .ref 115), (1, .ref 0), (0, .ref 1000000)], [.int (-4)], hh378) _
              refine xi_pop (pc' := 1057) kc_195_1056 rfl rfl ?_
              refine xi_aload_n (pc' := 1058) (x := 115) kc_195_1057 rfl rfl ?_
              refine xi_aload_n (pc' := 1059) (x := 1000000) kc_195_1058 rfl rfl ?_
              refine xi_iload (pc' := 1061) (x := x4) kc_195_1059 rfl rfl ?_
              refine xi_iconst (pc' := 1062) (v := 1) kc_195_1061 rfl rfl ?_
              refine xi_iadd (pc' := 1063) (v := v18) kc_195_1062 rfl ev18 ?_
              refine xi_ialoadO (pc' := 1064) (v := a19) kc_195_1063 rfl (by decide) hov0 (xi_in (by omega) (by omega)) ea19 ?_
              refine xi_aload_n (pc' := 1065) (x := 1000000) kc_195_1064 rfl rfl ?_
              refine xi_iload (pc' := 1067) (x := x4) kc_195_1065 rfl rfl ?_
              refine xi_iconst (pc' := 1068) (v := 2) kc_195_1067 rfl rfl ?_
              refine xi_iadd (pc' := 1069) (v := v20) kc_195_1068 rfl ev20 ?_
              refine xi_ialoadO (pc' := 1070) (v := a21) kc_195_1069 rfl (by decide) hov0 (xi_in (by omega) (by omega)) ea21 ?_
              refine xi_aload_n (pc' := 1071) (x := 1000000) kc_195_1070 rfl rfl ?_
              refine xi_iload (pc' := 1073) (x := x4) kc_195_1071 rfl rfl ?_
              refine xi_iconst (pc' := 1074) (v := 3) kc_195_1073 rfl rfl ?_
              refine xi_iadd (pc' := 1075) (v := v22) kc_195_1074 rfl ev22 ?_
              refine xi_ialoadO (pc' := 1076) (v := a23) kc_195_1075 rfl (by decide) hov0 (xi_in (by omega) (by omega)) ea23 ?_
              refine xi_aload_n (pc' := 1077) (x := 1000000) kc_195_1076 rfl rfl ?_
              refine xi_iload (pc' := 1079) (x := x4) kc_195_1077 rfl rfl ?_
              refine xi_iconst (pc' := 1080) (v := 4) kc_195_1079 rfl rfl ?_
              refine xi_iadd (pc' := 1081) (v := v24) kc_195_1080 rfl ev24 ?_
              refine xi_ialoadO (pc' := 1082) (v := a25) kc_195_1081 rfl (by decide) hov0 (xi_in (by omega) (by omega)) ea25 ?_
              refine xi_aload_n (pc' := 1083) (x := 1000000) kc_195_1082 rfl rfl ?_
              refine xi_iload (pc' := 1085) (x := x4) kc_195_1083 rfl rfl ?_
              refine xi_iconst (pc' := 1086) (v := 5) kc_195_1085 rfl rfl ?_
              refine xi_iadd (pc' := 1087) (v := v26) kc_195_1086 rfl ev26 ?_
              refine xi_ialoadO (pc' := 1088) (v := a27) kc_195_1087 rfl (by decide) hov0 (xi_in (by omega) (by omega)) ea27 ?_
              have A381 := ((eh378.2.1 115 (by decide)).trans A17)
              refine xi_virtual (mj := 61) (as := [.int a19, .int a21, .int a23, .int a25, .int a27]) (st1 := []) (lv0 := [(0, .ref 115), (1, .int a19), (2, .int a21), (3, .int a23), (4, .int a25), (5, .int a27)]) kc_195_1088 rfl rfl rfl rfl rfl A381 (Nat.le_of_ble_eq_true rfl) (hJ _ _ _ _ (by decide)) (xm_le ml_61 rfl) rfl ?_
              refine xi_aload_n (pc' := 1) (x := 115) kc_61_0 rfl rfl ?_
              refine xi_iconst (pc' := 2) (v := 0) kc_61_1 rfl rfl ?_
              refine xi_putfield (pc' := 5) (fs' := [.int 0, .int u2, .ref 116, .ref 117, .ref 118, .ref 119, .ref 120, .ref 121, .ref 122, .ref 123, .ref 124, .ref 125, .ref 126, .ref 127, .ref 128, .ref 129, .int u6, .ref 130, .int u7, .ref 131, .ref 132, .ref 133, .ref 134, .int u8, .ref 135, .ref 136, .ref 137, .ref 138, .ref 139, .ref 140, .ref 141, .ref 142, .int u9, .int u10, .int u1, .ref 143, .ref 144, .ref 145, .ref 146, .ref 147, .ref 148, .int u12, .ref 149, .ref 150, .ref 151, .int u13, .ref 152, .ref 153, .ref 154, .ref 155, .ref 156, .ref 157, .ref 158, .ref 159, .int u14, .ref 160, .int u15, .ref 161, .ref 162, .ref 163, .ref 164, .int u16, .ref 165, .ref 166]) kc_61_2 rfl rfl rfl A381 rfl rfl rfl (Nat.le_of_ble_eq_true rfl) rfl (fun hh383 eh382 => ?_)
              have K384 := xk_pf (k := 0) (v := 0) K379 (xk_wf (by decide +kernel)) xD_115 A381 rfl (by first | omega | decide) (by first | omega | decide) eh382 rfl
              have KR385 := xk_pf (k := 0) (v := 0) KR380 (xk_wf (by decide +kernel)) xD_115 A381 rfl (by first | omega | decide) (by first | omega | decide) eh382 rfl
              refine xi_iload_n (pc' := 6) (x := a19) kc_61_5 rfl rfl ?_
              refine xi_static (mj := 10) (as := [.int a19]) (st1 := []) (lv0 := [(0, .int a19)]) kc_61_6 rfl rfl (Nat.le_of_ble_eq_true rfl) rfl rfl (Nat.le_of_ble_eq_true rfl) (hJ _ _ _ _ (by decide)) (xm_le ml_10 rfl) rfl ?_
              refine xi_iload_n (pc' := 1) (x := a19) kc_10_0 rfl rfl ?_
              refine xi_iconst (pc' := 2) (v := 0) kc_10_1 rfl rfl ?_
              refine xi_iconst (pc' := 3) (v := 5) kc_10_2 rfl rfl ?_
              refine xi_static (mj := 11) (as := [.int a19, .int 0, .int 5]) (st1 := []) (lv0 := [(0, .int a19), (1, .int 0), (2, .int 5)]) kc_10_3 rfl rfl (Nat.le_of_ble_eq_true rfl) rfl rfl (Nat.le_of_ble_eq_true rfl) (hJ _ _ _ _ (by decide)) (xm_le ml_11 rfl) rfl ?_
              refine xi_iload_n (pc' := 1) (x := a19) kc_11_0 rfl rfl ?_
              refine xi_iload_n (pc' := 2) (x := 0) kc_11_1 rfl rfl ?_
              refine xi_cmf (pc' := 5) kc_11_2 rfl (xc_lt_f (X := a19.toInt) (Y := 0) rfl (by decide) (by omega)) ?_
              refine xi_iload_n (pc' := 6) (x := a19) kc_11_5 rfl rfl ?_
              refine xi_iload_n (pc' := 7) (x := 5) kc_11_6 rfl rfl ?_
              refine xi_cmf (pc' := 10) kc_11_7 rfl (xc_gt_f (X := a19.toInt) (Y := 5) rfl (by decide) (by omega)) ?_
              refine xi_iconst (pc' := 11) (v := 1) kc_11_10 rfl rfl ?_
              refine xi_goto (pc' := 15) kc_11_11 rfl ?_
              refine xi_ireturn kc_11_15 mr_11 rfl ?_
              show xw J ov 98 10 (6, [(0, .int a19)], [.int 1], hh383) _
              refine xi_ireturn kc_10_6 mr_10 rfl ?_
              show xw J ov 99 61 (9, [(0, .ref 115), (1, .int a19), (2, .int a21), (3, .int a23), (4, .int a25), (5, .int a27)], [.int 1], hh383) _
              refine xi_ift (pc' := 18) kc_61_9 rfl rfl ?_
              refine xi_iload_n (pc' := 19) (x := a21) kc_61_18 rfl rfl ?_
              refine xi_iconst (pc' := 20) (v := 0) kc_61_19 rfl rfl ?_
              refine xi_iconst (pc' := 21) (v := 1) kc_61_20 rfl rfl ?_
              refine xi_static (mj := 11) (as := [.int a21, .int 0, .int 1]) (st1 := []) (lv0 := [(0, .int a21), (1, .int 0), (2, .int 1)]) kc_61_21 rfl rfl (Nat.le_of_ble_eq_true rfl) rfl rfl (Nat.le_of_ble_eq_true rfl) (hJ _ _ _ _ (by decide)) (xm_le ml_11 rfl) rfl ?_
              refine xi_iload_n (pc' := 1) (x := a21) kc_11_0 rfl rfl ?_
              refine xi_iload_n (pc' := 2) (x := 0) kc_11_1 rfl rfl ?_
              refine xi_cmf (pc' := 5) kc_11_2 rfl (xc_lt_f (X := a21.toInt) (Y := 0) rfl (by decide) (by omega)) ?_
              refine xi_iload_n (pc' := 6) (x := a21) kc_11_5 rfl rfl ?_
              refine xi_iload_n (pc' := 7) (x := 1) kc_11_6 rfl rfl ?_
              refine xi_cmf (pc' := 10) kc_11_7 rfl (xc_gt_f (X := a21.toInt) (Y := 1) rfl (by decide) (by omega)) ?_
              refine xi_iconst (pc' := 11) (v := 1) kc_11_10 rfl rfl ?_
              refine xi_goto (pc' := 15) kc_11_11 rfl ?_
              refine xi_ireturn kc_11_15 mr_11 rfl ?_
              show xw J ov 99 61 (24, [(0, .ref 115), (1, .int a19), (2, .int a21), (3, .int a23), (4, .int a25), (5, .int a27)], [.int 1], hh383) _
              refine xi_ift (pc' := 34) kc_61_24 rfl rfl ?_
              refine xi_iconst (pc' := 35) (v := 0) kc_61_34 rfl rfl ?_
              refine xi_istore (pc' := 37) (lv' := [(6, .int 0), (0, .ref 115), (1, .int a19), (2, .int a21), (3, .int a23), (4, .int a25), (5, .int a27)]) kc_61_35 rfl rfl (xm_lt ml_61 rfl) ?_
              refine xw_lv (b := [(0, .ref 115), (1, .int a19), (2, .int a21), (3, .int a23), (4, .int a25), (5, .int a27), (6, .int 0)]) (lvS_cons (lvS_cons (lvS_cons (lvS_cons (lvS_cons (lvS_cons (lvS_cons (lvS_nil (show ([6, 0, 1, 2, 3, 4, 5] : List Nat).Nodup by decide)) rfl) rfl) rfl) rfl) rfl) rfl) rfl) ?_
              have zc0 : (0 : Int32).toInt = 0 := by decide
              have A386 := ((eh382.2.1 143 (by decide)).trans ((eh378.2.1 143 (by decide)).trans A352))
              have A387 := ((eh382.2.1 146 (by decide)).trans ((eh378.2.1 146 (by decide)).trans A353))
              have A388 := ((eh382.2.1 147 (by decide)).trans ((eh378.2.1 147 (by decide)).trans A354))
              refine tr_lp hJ hov1 hov2 (d := 97) K384.1 (xra_mk A386 (xrp_of hy352)) (xra_mk A387 (xrp_of hy353)) (xra_mk A388 (xrp_of hy354)) (xfi_mk eh382.1 rfl rfl) (by omega) (by omega) (by omega) (fun hx hh389 K390 => ?_) (fun hx lv9 hS => ?_) 21 0 (by omega) xov_0 (by omega)
              · have KR391 := xk_tr KR385 K390 (by decide +kernel)
                have K392 := xk_tr K384 K390 (xsb_ok _ _ (by decide +kernel))
                show xw J ov 100 195 (1091, [(4, .int x4), (3, .ref 167), (2, .ref 115), (1, .ref 0), (0, .ref 1000000)], [.int (-3)], hh389) _
                refine xi_pop (pc' := 1092) kc_195_1091 rfl rfl ?_
                refine xi_goto (pc' := 1501) kc_195_1092 rfl ?_
                obtain ⟨v393, ev393⟩ : ∃ q : Int32, x4 + 6 = q := ⟨_, rfl⟩
                have zv393 : v393.toInt = (x4.toInt + 6) := by rw [← ev393]; exact (xz_add (X := x4.toInt) (Y := 6) rfl (by decide) (by omega) (by omega)).trans (by omega)
                refine xi_iinc (pc' := 1504) (x := x4) (v := v393) (lv' := [(4, .int v393), (3, .ref 167), (2, .ref 115), (1, .ref 0), (0, .ref 1000000)]) kc_195_1501 rfl rfl ev393 rfl (xm_lt ml_195 rfl) ?_
                refine xi_goto (pc' := 23) kc_195_1504 rfl ?_
                exact kk v393 hh389 (by omega) K392 (xI_kept I KR391.2.1)
              · refine xw_lv hS ?_
                show xw J ov 99 61 (94, [(0, .ref 115), (1, .int a19), (2, .int a21), (3, .int a23), (4, .int a25), (5, .int a27)], [], hh383) _
                refine xi_iload_n (pc' := 95) (x := a23) kc_61_94 rfl rfl ?_
                refine xi_ift (pc' := 114) kc_61_95 rfl (xc_lt_t (X := a23.toInt) (Y := 0) rfl (by decide) (by omega)) ?_
                refine xi_aload_n (pc' := 115) (x := 115) kc_61_114 rfl rfl ?_
                refine xi_bipush (pc' := 117) (v := (-4)) kc_61_115 rfl rfl ?_
                refine xi_virtual (mj := 12) (as := [.int (-4)]) (st1 := []) (lv0 := [(0, .ref 115), (1, .int (-4))]) kc_61_117 rfl rfl rfl rfl rfl eh382.1 (Nat.le_of_ble_eq_true rfl) (hJ _ _ _ _ (by decide)) (xm_le ml_12 rfl) rfl ?_
                refine xi_aload_n (pc' := 1) (x := 115) kc_12_0 rfl rfl ?_
                refine xi_getfield (pc' := 4) (v := .ref 140) kc_12_1 rfl rfl rfl eh382.1 rfl ?_
                refine xi_iload_n (pc' := 5) (x := (-4)) kc_12_4 rfl rfl ?_
                refine xi_ineg (pc' := 6) (v := 4) kc_12_5 rfl rfl ?_
                refine xi_dup2 (pc' := 7) kc_12_6 rfl ⟨rfl, rfl⟩ ?_
                obtain ⟨y394, A394, hy394, ry394⟩ := xk_arr K.1 xD_140
                obtain ⟨v395, ev395, bv395, dv395⟩ := xj_get hy394 ry394 (i := 4) (by decide) (by decide)
                have A396 := ((eh382.2.1 140 (by decide)).trans ((eh378.2.1 140 (by decide)).trans A394))
                refine xi_iaload (pc' := 8) (v := v395) kc_12_7 rfl A396 (by decide) rfl (xi_in (by decide) (by rw [hy394]; decide)) ev395 ?_
                refine xi_iconst (pc' := 9) (v := 1) kc_12_8 rfl rfl ?_
                obtain ⟨v397, ev397⟩ : ∃ q : Int32, (v395 : Int32) + 1 = q := ⟨_, rfl⟩
                have rv397 := xc_rng v397
                refine xi_iadd (pc' := 10) (v := v397) kc_12_9 rfl ev397 ?_
                obtain ⟨y398, s398, hy398, ry398⟩ := xj_set (v := v397) hy394 ry394 4 (by first | omega | decide) (by first | omega | decide)
                refine xi_iastore (pc' := 11) (x' := y398) kc_12_10 rfl A396 rfl (xi_in (by decide) (by rw [hy394]; decide)) s398 (fun hh398 eh398 => ?_)
                have K399 := xk_pa K384 (xk_wa (by decide +kernel)) xD_140 hy398 ry398 eh398
                have KR400 := xk_pa KR385 (xk_wa (by decide +kernel)) xD_140 hy398 ry398 eh398
                refine xi_iload_n (pc' := 12) (x := (-4)) kc_12_11 rfl rfl ?_
                refine xi_ireturn kc_12_12 mr_12 rfl ?_
                show xw J ov 99 61 (120, [(0, .ref 115), (1, .int a19), (2, .int a21), (3, .int a23), (4, .int a25), (5, .int a27)], [.int (-4)], hh398) _
                refine xi_ireturn kc_61_120 mr_61 rfl ?_
                show xw J ov 100 195 (1091, [(4, .int x4), (3, .ref 167), (2, .ref 115), (1, .ref 0), (0, .ref 1000000)], [.int (-4)], hh398) _
                refine xi_pop (pc' := 1092) kc_195_1091 rfl rfl ?_
                refine xi_goto (pc' := 1501) kc_195_1092 rfl ?_
                obtain ⟨v401, ev401⟩ : ∃ q : Int32, x4 + 6 = q := ⟨_, rfl⟩
                have zv401 : v401.toInt = (x4.toInt + 6) := by rw [← ev401]; exact (xz_add (X := x4.toInt) (Y := 6) rfl (by decide) (by omega) (by omega)).trans (by omega)
                refine xi_iinc (pc' := 1504) (x := x4) (v := v401) (lv' := [(4, .int v401), (3, .ref 167), (2, .ref 115), (1, .ref 0), (0, .ref 1000000)]) kc_195_1501 rfl rfl ev401 rfl (xm_lt ml_195 rfl) ?_
                refine xi_goto (pc' := 23) kc_195_1504 rfl ?_
                exact kk v401 hh398 (by omega) K399 (xI_kept I KR400.2.1)
            · refine xi_iff (pc' := 52) kc_163_49 rfl (xc_lt_f (X := a23.toInt) (Y := 0) rfl (by decide) (by omega)) ?_
              refine xi_iload (pc' := 54) (x := a25) kc_163_52 rfl rfl ?_
              refine xi_aload_n (pc' := 55) (x := 0) kc_163_54 rfl rfl ?_
              refine xi_getfield (pc' := 58) (v := .int u2) kc_163_55 rfl rfl rfl A3 rfl ?_
              by_cases c402 : a25.toInt < u2.toInt
              · refine xi_cmt (pc' := 68) kc_163_58 rfl (xc_lt_t (X := a25.toInt) (Y := u2.toInt) rfl rfl (by omega)) ?_
                refine xi_aload_n (pc' := 69) (x := 0) kc_163_68 rfl rfl ?_
                refine xi_bipush (pc' := 71) (v := (-4)) kc_163_69 rfl rfl ?_
                refine xi_virtual (mj := 90) (as := [.int (-4)]) (st1 := []) (lv0 := [(0, .ref 0), (1, .int (-4))]) kc_163_71 rfl rfl rfl rfl rfl A3 (Nat.le_of_ble_eq_true rfl) (hJ _ _ _ _ (by decide)) (xm_le ml_90 rfl) rfl ?_
                refine xi_iload_n (pc' := 1) (x := (-4)) kc_90_0 rfl rfl ?_
                refine xi_ineg (pc' := 2) (v := 4) kc_90_1 rfl rfl ?_
                refine xi_istore_n (pc' := 3) (lv' := [(2, .int 4), (0, .ref 0), (1, .int (-4))]) kc_90_2 rfl rfl (xm_lt ml_90 rfl) ?_
                refine xi_iload_n (pc' := 4) (x := 4) kc_90_3 rfl rfl ?_
                refine xi_iff (pc' := 7) kc_90_4 rfl rfl ?_
                refine xi_iload_n (pc' := 8) (x := 4) kc_90_7 rfl rfl ?_
                refine xi_aload_n (pc' := 9) (x := 0) kc_90_8 rfl rfl ?_
                refine xi_getfield (pc' := 12) (v := .ref 94) kc_90_9 rfl rfl rfl A3 rfl ?_
                obtain ⟨y403, A403, hy403, ry403⟩ := xk_arr K.1 xD_94
                refine xi_arraylength (pc' := 13) (n := 7) (v := 7) kc_90_12 rfl (xl_lenI (by decide) (by decide) A403 hy403) rfl ?_
                refine xi_cmf (pc' := 16) kc_90_13 rfl rfl ?_
                refine xi_aload_n (pc' := 17) (x := 0) kc_90_16 rfl rfl ?_
                refine xi_getfield (pc' := 20) (v := .ref 94) kc_90_17 rfl rfl rfl A3 rfl ?_
                refine xi_iload_n (pc' := 21) (x := 4) kc_90_20 rfl rfl ?_
                refine xi_dup2 (pc' := 22) kc_90_21 rfl ⟨rfl, rfl⟩ ?_
                obtain ⟨v404, ev404, bv404, dv404⟩ := xj_get hy403 ry403 (i := 4) (by decide) (by decide)
                refine xi_iaload (pc' := 23) (v := v404) kc_90_22 rfl A403 (by decide) rfl (xi_in (by decide) (by rw [hy403]; decide)) ev404 ?_
                refine xi_iconst (pc' := 24) (v := 1) kc_90_23 rfl rfl ?_
                obtain ⟨v405, ev405⟩ : ∃ q : Int32, (v404 : Int32) + 1 = q := ⟨_, rfl⟩
                have rv405 := xc_rng v405
                refine xi_iadd (pc' := 25) (v := v405) kc_90_24 rfl ev405 ?_
                obtain ⟨y406, s406, hy406, ry406⟩ := xj_set (v := v405) hy403 ry403 4 (by first | omega | decide) (by first | omega | decide)
                refine xi_iastore (pc' := 26) (x' := y406) kc_90_25 rfl A403 rfl (xi_in (by decide) (by rw [hy403]; decide)) s406 (fun hh406 eh406 => ?_)
                have K407 := xk_pa K (xk_wa (by decide +kernel)) xD_94 hy406 ry406 eh406
                have KR408 := xk_pa KR (xk_wa (by decide +kernel)) xD_94 hy406 ry406 eh406
                refine xi_iload_n (pc' := 27) (x := (-4)) kc_90_26 rfl rfl ?_
                refine xi_ireturn kc_90_27 mr_90 rfl ?_
                show xw J ov 99 163 (74, [(0, .ref 0), (1, .int a19), (2, .int a21), (3, .int a23), (4, .int a25), (5, .int a27)], [.int (-4)], hh406) _
                refine xi_ireturn kc_163_74 mr_163 rfl ?_
                show xw J ov 100 195 (1056, [(4, .int x4), (3, .ref 167), (2, .ref 115), (1, .ref 0), (0, .ref 1000000)], [.int (-4)], hh406) _
                refine xi_pop (pc' := 1057) kc_195_1056 rfl rfl ?_
                refine xi_aload_n (pc' := 1058) (x := 115) kc_195_1057 rfl rfl ?_
                refine xi_aload_n (pc' := 1059) (x := 1000000) kc_195_1058 rfl rfl ?_
                refine xi_iload (pc' := 1061) (x := x4) kc_195_1059 rfl rfl ?_
                refine xi_iconst (pc' := 1062) (v := 1) kc_195_1061 rfl rfl ?_
                refine xi_iadd (pc' := 1063) (v := v18) kc_195_1062 rfl ev18 ?_
                refine xi_ialoadO (pc' := 1064) (v := a19) kc_195_1063 rfl (by decide) hov0 (xi_in (by omega) (by omega)) ea19 ?_
                refine xi_aload_n (pc' := 1065) (x := 1000000) kc_195_1064 rfl rfl ?_
                refine xi_iload (pc' := 1067) (x := x4) kc_195_1065 rfl rfl ?_
                refine xi_iconst (pc' := 1068) (v := 2) kc_195_1067 rfl rfl ?_
                refine xi_iadd (pc' := 1069) (v := v20) kc_195_1068 rfl ev20 ?_
                refine xi_ialoadO (pc' := 1070) (v := a21) kc_195_1069 rfl (by decide) hov0 (xi_in (by omega) (by omega)) ea21 ?_
                refine xi_aload_n (pc' := 1071) (x := 1000000) kc_195_1070 rfl rfl ?_
                refine xi_iload (pc' := 1073) (x := x4) kc_195_1071 rfl rfl ?_
                refine xi_iconst (pc' := 1074) (v := 3) kc_195_1073 rfl rfl ?_
                refine xi_iadd (pc' := 1075) (v := v22) kc_195_1074 rfl ev22 ?_
                refine xi_ialoadO (pc' := 1076) (v := a23) kc_195_1075 rfl (by decide) hov0 (xi_in (by omega) (by omega)) ea23 ?_
                refine xi_aload_n (pc' := 1077) (x := 1000000) kc_195_1076 rfl rfl ?_
                refine xi_iload (pc' := 1079) (x := x4) kc_195_1077 rfl rfl ?_
                refine xi_iconst (pc' := 1080) (v := 4) kc_195_1079 rfl rfl ?_
                refine xi_iadd (pc' := 1081) (v := v24) kc_195_1080 rfl ev24 ?_
                refine xi_ialoadO (pc' := 1082) (v := a25) kc_195_1081 rfl (by decide) hov0 (xi_in (by omega) (by omega)) ea25 ?_
                refine xi_aload_n (pc' := 1083) (x := 1000000) kc_195_1082 rfl rfl ?_
                refine xi_iload (pc' := 1085) (x := x4) kc_195_1083 rfl rfl ?_
                refine xi_iconst (pc' := 1086) (v := 5) kc_195_1085 rfl rfl ?_
                refine xi_iadd (pc' := 1087) (v := v26) kc_195_1086 rfl ev26 ?_
                refine xi_ialoadO (pc' := 1088) (v := a27) kc_195_1087 rfl (by decide) hov0 (xi_in (by omega) (by omega)) ea27 ?_
                have A409 := ((eh406.2.1 115 (by decide)).trans A17)
                refine xi_virtual (mj := 61) (as := [.int a19, .int a21, .int a23, .int a25, .int a27]) (st1 := []) (lv0 := [(0, .ref 115), (1, .int a19), (2, .int a21), (3, .int a23), (4, .int a25), (5, .int a27)]) kc_195_1088 rfl rfl rfl rfl rfl A409 (Nat.le_of_ble_eq_true rfl) (hJ _ _ _ _ (by decide)) (xm_le ml_61 rfl) rfl ?_
                refine xi_aload_n (pc' := 1) (x := 115) kc_61_0 rfl rfl ?_
                refine xi_iconst (pc' := 2) (v := 0) kc_61_1 rfl rfl ?_
                refine xi_putfield (pc' := 5) (fs' := [.int 0, .int u2, .ref 116, .ref 117, .ref 118, .ref 119, .ref 120, .ref 121, .ref 122, .ref 123, .ref 124, .ref 125, .ref 126, .ref 127, .ref 128, .ref 129, .int u6, .ref 130, .int u7, .ref 131, .ref 132, .ref 133, .ref 134, .int u8, .ref 135, .ref 136, .ref 137, .ref 138, .ref 139, .ref 140, .ref 141, .ref 142, .int u9, .int u10, .int u1, .ref 143, .ref 144, .ref 145, .ref 146, .ref 147, .ref 148, .int u12, .ref 149, .ref 150, .ref 151, .int u13, .ref 152, .ref 153, .ref 154, .ref 155, .ref 156, .ref 157, .ref 158, .ref 159, .int u14, .ref 160, .int u15, .ref 161, .ref 162, .ref 163, .ref 164, .int u16, .ref 165, .ref 166]) kc_61_2 rfl rfl rfl A409 rfl rfl rfl (Nat.le_of_ble_eq_true rfl) rfl (fun hh411 eh410 => ?_)
                have K412 := xk_pf (k := 0) (v := 0) K407 (xk_wf (by decide +kernel)) xD_115 A409 rfl (by first | omega | decide) (by first | omega | decide) eh410 rfl
                have KR413 := xk_pf (k := 0) (v := 0) KR408 (xk_wf (by decide +kernel)) xD_115 A409 rfl (by first | omega | decide) (by first | omega | decide) eh410 rfl
                refine xi_iload_n (pc' := 6) (x := a19) kc_61_5 rfl rfl ?_
                refine xi_static (mj := 10) (as := [.int a19]) (st1 := []) (lv0 := [(0, .int a19)]) kc_61_6 rfl rfl (Nat.le_of_ble_eq_true rfl) rfl rfl (Nat.le_of_ble_eq_true rfl) (hJ _ _ _ _ (by decide)) (xm_le ml_10 rfl) rfl ?_
                refine xi_iload_n (pc' := 1) (x := a19) kc_10_0 rfl rfl ?_
                refine xi_iconst (pc' := 2) (v := 0) kc_10_1 rfl rfl ?_
                refine xi_iconst (pc' := 3) (v := 5) kc_10_2 rfl rfl ?_
                refine xi_static (mj := 11) (as := [.int a19, .int 0, .int 5]) (st1 := []) (lv0 := [(0, .int a19), (1, .int 0), (2, .int 5)]) kc_10_3 rfl rfl (Nat.le_of_ble_eq_true rfl) rfl rfl (Nat.le_of_ble_eq_true rfl) (hJ _ _ _ _ (by decide)) (xm_le ml_11 rfl) rfl ?_
                refine xi_iload_n (pc' := 1) (x := a19) kc_11_0 rfl rfl ?_
                refine xi_iload_n (pc' := 2) (x := 0) kc_11_1 rfl rfl ?_
                refine xi_cmf (pc' := 5) kc_11_2 rfl (xc_lt_f (X := a19.toInt) (Y := 0) rfl (by decide) (by omega)) ?_
                refine xi_iload_n (pc' := 6) (x := a19) kc_11_5 rfl rfl ?_
                refine xi_iload_n (pc' := 7) (x := 5) kc_11_6 rfl rfl ?_
                refine xi_cmf (pc' := 10) kc_11_7 rfl (xc_gt_f (X := a19.toInt) (Y := 5) rfl (by decide) (by omega)) ?_
                refine xi_iconst (pc' := 11) (v := 1) kc_11_10 rfl rfl ?_
                refine xi_goto (pc' := 15) kc_11_11 rfl ?_
                refine xi_ireturn kc_11_15 mr_11 rfl ?_
                show xw J ov 98 10 (6, [(0, .int a19)], [.int 1], hh411) _
                refine xi_ireturn kc_10_6 mr_10 rfl ?_
                show xw J ov 99 61 (9, [(0, .ref 115), (1, .int a19), (2, .int a21), (3, .int a23), (4, .int a25), (5, .int a27)], [.int 1], hh411) _
                refine xi_ift (pc' := 18) kc_61_9 rfl rfl ?_
                refine xi_iload_n (pc' := 19) (x := a21) kc_61_18 rfl rfl ?_
                refine xi_iconst (pc' := 20) (v := 0) kc_61_19 rfl rfl ?_
                refine xi_iconst (pc' := 21) (v := 1) kc_61_20 rfl rfl ?_
                refine xi_static (mj := 11) (as := [.int a21, .int 0, .int 1]) (st1 := []) (lv0 := [(0, .int a21), (1, .int 0), (2, .int 1)]) kc_61_21 rfl rfl (Nat.le_of_ble_eq_true rfl) rfl rfl (Nat.le_of_ble_eq_true rfl) (hJ _ _ _ _ (by decide)) (xm_le ml_11 rfl) rfl ?_
                refine xi_iload_n (pc' := 1) (x := a21) kc_11_0 rfl rfl ?_
                refine xi_iload_n (pc' := 2) (x := 0) kc_11_1 rfl rfl ?_
                refine xi_cmf (pc' := 5) kc_11_2 rfl (xc_lt_f (X := a21.toInt) (Y := 0) rfl (by decide) (by omega)) ?_
                refine xi_iload_n (pc' := 6) (x := a21) kc_11_5 rfl rfl ?_
                refine xi_iload_n (pc' := 7) (x := 1) kc_11_6 rfl rfl ?_
                refine xi_cmf (pc' := 10) kc_11_7 rfl (xc_gt_f (X := a21.toInt) (Y := 1) rfl (by decide) (by omega)) ?_
                refine xi_iconst (pc' := 11) (v := 1) kc_11_10 rfl rfl ?_
                refine xi_goto (pc' := 15) kc_11_11 rfl ?_
                refine xi_ireturn kc_11_15 mr_11 rfl ?_
                show xw J ov 99 61 (24, [(0, .ref 115), (1, .int a19), (2, .int a21), (3, .int a23), (4, .int a25), (5, .int a27)], [.int 1], hh411) _
                refine xi_ift (pc' := 34) kc_61_24 rfl rfl ?_
                refine xi_iconst (pc' := 35) (v := 0) kc_61_34 rfl rfl ?_
                refine xi_istore (pc' := 37) (lv' := [(6, .int 0), (0, .ref 115), (1, .int a19), (2, .int a21), (3, .int a23), (4, .int a25), (5, .int a27)]) kc_61_35 rfl rfl (xm_lt ml_61 rfl) ?_
                refine xw_lv (b := [(0, .ref 115), (1, .int a19), (2, .int a21), (3, .int a23), (4, .int a25), (5, .int a27), (6, .int 0)]) (lvS_cons (lvS_cons (lvS_cons (lvS_cons (lvS_cons (lvS_cons (lvS_cons (lvS_nil (show ([6, 0, 1, 2, 3, 4, 5] : List Nat).Nodup by decide)) rfl) rfl) rfl) rfl) rfl) rfl) rfl) ?_
                have zc0 : (0 : Int32).toInt = 0 := by decide
                have A414 := ((eh410.2.1 143 (by decide)).trans ((eh406.2.1 143 (by decide)).trans A352))
                have A415 := ((eh410.2.1 146 (by decide)).trans ((eh406.2.1 146 (by decide)).trans A353))
                have A416 := ((eh410.2.1 147 (by decide)).trans ((eh406.2.1 147 (by decide)).trans A354))
                refine tr_lp hJ hov1 hov2 (d := 97) K412.1 (xra_mk A414 (xrp_of hy352)) (xra_mk A415 (xrp_of hy353)) (xra_mk A416 (xrp_of hy354)) (xfi_mk eh410.1 rfl rfl) (by omega) (by omega) (by omega) (fun hx hh417 K418 => ?_) (fun hx lv9 hS => ?_) 21 0 (by omega) xov_0 (by omega)
                · have KR419 := xk_tr KR413 K418 (by decide +kernel)
                  have K420 := xk_tr K412 K418 (xsb_ok _ _ (by decide +kernel))
                  show xw J ov 100 195 (1091, [(4, .int x4), (3, .ref 167), (2, .ref 115), (1, .ref 0), (0, .ref 1000000)], [.int (-3)], hh417) _
                  refine xi_pop (pc' := 1092) kc_195_1091 rfl rfl ?_
                  refine xi_goto (pc' := 1501) kc_195_1092 rfl ?_
                  obtain ⟨v421, ev421⟩ : ∃ q : Int32, x4 + 6 = q := ⟨_, rfl⟩
                  have zv421 : v421.toInt = (x4.toInt + 6) := by rw [← ev421]; exact (xz_add (X := x4.toInt) (Y := 6) rfl (by decide) (by omega) (by omega)).trans (by omega)
                  refine xi_iinc (pc' := 1504) (x := x4) (v := v421) (lv' := [(4, .int v421), (3, .ref 167), (2, .ref 115), (1, .ref 0), (0, .ref 1000000)]) kc_195_1501 rfl rfl ev421 rfl (xm_lt ml_195 rfl) ?_
                  refine xi_goto (pc' := 23) kc_195_1504 rfl ?_
                  exact kk v421 hh417 (by omega) K420 (xI_kept I KR419.2.1)
                · refine xw_lv hS ?_
                  show xw J ov 99 61 (94, [(0, .ref 115), (1, .int a19), (2, .int a21), (3, .int a23), (4, .int a25), (5, .int a27)], [], hh411) _
                  refine xi_iload_n (pc' := 95) (x := a23) kc_61_94 rfl rfl ?_
                  refine xi_iff (pc' := 98) kc_61_95 rfl (xc_lt_f (X := a23.toInt) (Y := 0) rfl (by decide) (by omega)) ?_
                  refine xi_iload (pc' := 100) (x := a25) kc_61_98 rfl rfl ?_
                  refine xi_aload_n (pc' := 101) (x := 115) kc_61_100 rfl rfl ?_
                  refine xi_getfield (pc' := 104) (v := .int u2) kc_61_101 rfl rfl rfl eh410.1 rfl ?_
                  refine xi_cmt (pc' := 114) kc_61_104 rfl (xc_lt_t (X := a25.toInt) (Y := u2.toInt) rfl rfl (by omega)) ?_
                  refine xi_aload_n (pc' := 115) (x := 115) kc_61_114 rfl rfl ?_
                  refine xi_bipush (pc' := 117) (v := (-4)) kc_61_115 rfl rfl ?_
                  refine xi_virtual (mj := 12) (as := [.int (-4)]) (st1 := []) (lv0 := [(0, .ref 115), (1, .int (-4))]) kc_61_117 rfl rfl rfl rfl rfl eh410.1 (Nat.le_of_ble_eq_true rfl) (hJ _ _ _ _ (by decide)) (xm_le ml_12 rfl) rfl ?_
                  refine xi_aload_n (pc' := 1) (x := 115) kc_12_0 rfl rfl ?_
                  refine xi_getfield (pc' := 4) (v := .ref 140) kc_12_1 rfl rfl rfl eh410.1 rfl ?_
                  refine xi_iload_n (pc' := 5) (x := (-4)) kc_12_4 rfl rfl ?_
                  refine xi_ineg (pc' := 6) (v := 4) kc_12_5 rfl rfl ?_
                  refine xi_dup2 (pc' := 7) kc_12_6 rfl ⟨rfl, rfl⟩ ?_
                  obtain ⟨y422, A422, hy422, ry422⟩ := xk_arr K.1 xD_140
                  obtain ⟨v423, ev423, bv423, dv423⟩ := xj_get hy422 ry422 (i := 4) (by decide) (by decide)
                  have A424 := ((eh410.2.1 140 (by decide)).trans ((eh406.2.1 140 (by decide)).trans A422))
                  refine xi_iaload (pc' := 8) (v := v423) kc_12_7 rfl A424 (by decide) rfl (xi_in (by decide) (by rw [hy422]; decide)) ev423 ?_
                  refine xi_iconst (pc' := 9) (v := 1) kc_12_8 rfl rfl ?_
                  obtain ⟨v425, ev425⟩ : ∃ q : Int32, (v423 : Int32) + 1 = q := ⟨_, rfl⟩
                  have rv425 := xc_rng v425
                  refine xi_iadd (pc' := 10) (v := v425) kc_12_9 rfl ev425 ?_
                  obtain ⟨y426, s426, hy426, ry426⟩ := xj_set (v := v425) hy422 ry422 4 (by first | omega | decide) (by first | omega | decide)
                  refine xi_iastore (pc' := 11) (x' := y426) kc_12_10 rfl A424 rfl (xi_in (by decide) (by rw [hy422]; decide)) s426 (fun hh426 eh426 => ?_)
                  have K427 := xk_pa K412 (xk_wa (by decide +kernel)) xD_140 hy426 ry426 eh426
                  have KR428 := xk_pa KR413 (xk_wa (by decide +kernel)) xD_140 hy426 ry426 eh426
                  refine xi_iload_n (pc' := 12) (x := (-4)) kc_12_11 rfl rfl ?_
                  refine xi_ireturn kc_12_12 mr_12 rfl ?_
                  show xw J ov 99 61 (120, [(0, .ref 115), (1, .int a19), (2, .int a21), (3, .int a23), (4, .int a25), (5, .int a27)], [.int (-4)], hh426) _
                  refine xi_ireturn kc_61_120 mr_61 rfl ?_
                  show xw J ov 100 195 (1091, [(4, .int x4), (3, .ref 167), (2, .ref 115), (1, .ref 0), (0, .ref 1000000)], [.int (-4)], hh426) _
                  refine xi_pop (pc' := 1092) kc_195_1091 rfl rfl ?_
                  refine xi_goto (pc' := 1501) kc_195_1092 rfl ?_
                  obtain ⟨v429, ev429⟩ : ∃ q : Int32, x4 + 6 = q := ⟨_, rfl⟩
                  have zv429 : v429.toInt = (x4.toInt + 6) := by rw [← ev429]; exact (xz_add (X := x4.toInt) (Y := 6) rfl (by decide) (by omega) (by omega)).trans (by omega)
                  refine xi_iinc (pc' := 1504) (x := x4) (v := v429) (lv' := [(4, .int v429), (3, .ref 167), (2, .ref 115), (1, .ref 0), (0, .ref 1000000)]) kc_195_1501 rfl rfl ev429 rfl (xm_lt ml_195 rfl) ?_
                  refine xi_goto (pc' := 23) kc_195_1504 rfl ?_
                  exact kk v429 hh426 (by omega) K427 (xI_kept I KR428.2.1)
              · refine xi_cmf (pc' := 61) kc_163_58 rfl (xc_lt_f (X := a25.toInt) (Y := u2.toInt) rfl rfl (by omega)) ?_
                refine xi_iload (pc' := 63) (x := a27) kc_163_61 rfl rfl ?_
                refine xi_iload (pc' := 65) (x := a25) kc_163_63 rfl rfl ?_
                by_cases c430 : a25.toInt < a27.toInt
                · refine xi_cmt (pc' := 75) kc_163_65 rfl (xc_gt_t (X := a27.toInt) (Y := a25.toInt) rfl rfl (by omega)) ?_
                  refine xi_iload_n (pc' := 76) (x := a23) kc_163_75 rfl rfl ?_
                  refine xi_getstatic (pc' := 79) (j := 1000002) kc_163_76 rfl rfl ?_
                  refine xi_iconst (pc' := 80) (v := 2) kc_163_79 rfl rfl ?_
                  refine xi_ialoadO (pc' := 81) (v := 50) kc_163_80 rfl (by decide) hov2 (xi_in (n := 6) (by decide) (by decide)) rfl ?_
                  by_cases c431 : 50 < a23.toInt
                  · refine xi_cmt (pc' := 101) kc_163_81 rfl (xc_gt_t (X := a23.toInt) (Y := 50) rfl (by decide) (by omega)) ?_
                    refine xi_aload_n (pc' := 102) (x := 0) kc_163_101 rfl rfl ?_
                    refine xi_bipush (pc' := 104) (v := (-6)) kc_163_102 rfl rfl ?_
                    refine xi_virtual (mj := 90) (as := [.int (-6)]) (st1 := []) (lv0 := [(0, .ref 0), (1, .int (-6))]) kc_163_104 rfl rfl rfl rfl rfl A3 (Nat.le_of_ble_eq_true rfl) (hJ _ _ _ _ (by decide)) (xm_le ml_90 rfl) rfl ?_
                    refine xi_iload_n (pc' := 1) (x := (-6)) kc_90_0 rfl rfl ?_
                    refine xi_ineg (pc' := 2) (v := 6) kc_90_1 rfl rfl ?_
                    refine xi_istore_n (pc' := 3) (lv' := [(2, .int 6), (0, .ref 0), (1, .int (-6))]) kc_90_2 rfl rfl (xm_lt ml_90 rfl) ?_
                    refine xi_iload_n (pc' := 4) (x := 6) kc_90_3 rfl rfl ?_
                    refine xi_iff (pc' := 7) kc_90_4 rfl rfl ?_
                    refine xi_iload_n (pc' := 8) (x := 6) kc_90_7 rfl rfl ?_
                    refine xi_aload_n (pc' := 9) (x := 0) kc_90_8 rfl rfl ?_
                    refine xi_getfield (pc' := 12) (v := .ref 94) kc_90_9 rfl rfl rfl A3 rfl ?_
                    obtain ⟨y432, A432, hy432, ry432⟩ := xk_arr K.1 xD_94
                    refine xi_arraylength (pc' := 13) (n := 7) (v := 7) kc_90_12 rfl (xl_lenI (by decide) (by decide) A432 hy432) rfl ?_
                    refine xi_cmf (pc' := 16) kc_90_13 rfl rfl ?_
                    refine xi_aload_n (pc' := 17) (x := 0) kc_90_16 rfl rfl ?_
                    refine xi_getfield (pc' := 20) (v := .ref 94) kc_90_17 rfl rfl rfl A3 rfl ?_
                    refine xi_iload_n (pc' := 21) (x := 6) kc_90_20 rfl rfl ?_
                    refine xi_dup2 (pc' := 22) kc_90_21 rfl ⟨rfl, rfl⟩ ?_
                    obtain ⟨v433, ev433, bv433, dv433⟩ := xj_get hy432 ry432 (i := 6) (by decide) (by decide)
                    refine xi_iaload (pc' := 23) (v := v433) kc_90_22 rfl A432 (by decide) rfl (xi_in (by decide) (by rw [hy432]; decide)) ev433 ?_
                    refine xi_iconst (pc' := 24) (v := 1) kc_90_23 rfl rfl ?_
                    obtain ⟨v434, ev434⟩ : ∃ q : Int32, (v433 : Int32) + 1 = q := ⟨_, rfl⟩
                    have rv434 := xc_rng v434
                    refine xi_iadd (pc' := 25) (v := v434) kc_90_24 rfl ev434 ?_
                    obtain ⟨y435, s435, hy435, ry435⟩ := xj_set (v := v434) hy432 ry432 6 (by first | omega | decide) (by first | omega | decide)
                    refine xi_iastore (pc' := 26) (x' := y435) kc_90_25 rfl A432 rfl (xi_in (by decide) (by rw [hy432]; decide)) s435 (fun hh435 eh435 => ?_)
                    have K436 := xk_pa K (xk_wa (by decide +kernel)) xD_94 hy435 ry435 eh435
                    have KR437 := xk_pa KR (xk_wa (by decide +kernel)) xD_94 hy435 ry435 eh435
                    refine xi_iload_n (pc' := 27) (x := (-6)) kc_90_26 rfl rfl ?_
                    refine xi_ireturn kc_90_27 mr_90 rfl ?_
                    show xw J ov 99 163 (107, [(0, .ref 0), (1, .int a19), (2, .int a21), (3, .int a23), (4, .int a25), (5, .int a27)], [.int (-6)], hh435) _
                    refine xi_ireturn kc_163_107 mr_163 rfl ?_
                    show xw J ov 100 195 (1056, [(4, .int x4), (3, .ref 167), (2, .ref 115), (1, .ref 0), (0, .ref 1000000)], [.int (-6)], hh435) _
                    refine xi_pop (pc' := 1057) kc_195_1056 rfl rfl ?_
                    refine xi_aload_n (pc' := 1058) (x := 115) kc_195_1057 rfl rfl ?_
                    refine xi_aload_n (pc' := 1059) (x := 1000000) kc_195_1058 rfl rfl ?_
                    refine xi_iload (pc' := 1061) (x := x4) kc_195_1059 rfl rfl ?_
                    refine xi_iconst (pc' := 1062) (v := 1) kc_195_1061 rfl rfl ?_
                    refine xi_iadd (pc' := 1063) (v := v18) kc_195_1062 rfl ev18 ?_
                    refine xi_ialoadO (pc' := 1064) (v := a19) kc_195_1063 rfl (by decide) hov0 (xi_in (by omega) (by omega)) ea19 ?_
                    refine xi_aload_n (pc' := 1065) (x := 1000000) kc_195_1064 rfl rfl ?_
                    refine xi_iload (pc' := 1067) (x := x4) kc_195_1065 rfl rfl ?_
                    refine xi_iconst (pc' := 1068) (v := 2) kc_195_1067 rfl rfl ?_
                    refine xi_iadd (pc' := 1069) (v := v20) kc_195_1068 rfl ev20 ?_
                    refine xi_ialoadO (pc' := 1070) (v := a21) kc_195_1069 rfl (by decide) hov0 (xi_in (by omega) (by omega)) ea21 ?_
                    refine xi_aload_n (pc' := 1071) (x := 1000000) kc_195_1070 rfl rfl ?_
                    refine xi_iload (pc' := 1073) (x := x4) kc_195_1071 rfl rfl ?_
                    refine xi_iconst (pc' := 1074) (v := 3) kc_195_1073 rfl rfl ?_
                    refine xi_iadd (pc' := 1075) (v := v22) kc_195_1074 rfl ev22 ?_
                    refine xi_ialoadO (pc' := 1076) (v := a23) kc_195_1075 rfl (by decide) hov0 (xi_in (by omega) (by omega)) ea23 ?_
                    refine xi_aload_n (pc' := 1077) (x := 1000000) kc_195_1076 rfl rfl ?_
                    refine xi_iload (pc' := 1079) (x := x4) kc_195_1077 rfl rfl ?_
                    refine xi_iconst (pc' := 1080) (v := 4) kc_195_1079 rfl rfl ?_
                    refine xi_iadd (pc' := 1081) (v := v24) kc_195_1080 rfl ev24 ?_
                    refine xi_ialoadO (pc' := 1082) (v := a25) kc_195_1081 rfl (by decide) hov0 (xi_in (by omega) (by omega)) ea25 ?_
                    refine xi_aload_n (pc' := 1083) (x := 1000000) kc_195_1082 rfl rfl ?_
                    refine xi_iload (pc' := 1085) (x := x4) kc_195_1083 rfl rfl ?_
                    refine xi_iconst (pc' := 1086) (v := 5) kc_195_1085 rfl rfl ?_
                    refine xi_iadd (pc' := 1087) (v := v26) kc_195_1086 rfl ev26 ?_
                    refine xi_ialoadO (pc' := 1088) (v := a27) kc_195_1087 rfl (by decide) hov0 (xi_in (by omega) (by omega)) ea27 ?_
                    have A438 := ((eh435.2.1 115 (by decide)).trans A17)
                    refine xi_virtual (mj := 61) (as := [.int a19, .int a21, .int a23, .int a25, .int a27]) (st1 := []) (lv0 := [(0, .ref 115), (1, .int a19), (2, .int a21), (3, .int a23), (4, .int a25), (5, .int a27)]) kc_195_1088 rfl rfl rfl rfl rfl A438 (Nat.le_of_ble_eq_true rfl) (hJ _ _ _ _ (by decide)) (xm_le ml_61 rfl) rfl ?_
                    refine xi_aload_n (pc' := 1) (x := 115) kc_61_0 rfl rfl ?_
                    refine xi_iconst (pc' := 2) (v := 0) kc_61_1 rfl rfl ?_
                    refine xi_putfield (pc' := 5) (fs' := [.int 0, .int u2, .ref 116, .ref 117, .ref 118, .ref 119, .ref 120, .ref 121, .ref 122, .ref 123, .ref 124, .ref 125, .ref 126, .ref 127, .ref 128, .ref 129, .int u6, .ref 130, .int u7, .ref 131, .ref 132, .ref 133, .ref 134, .int u8, .ref 135, .ref 136, .ref 137, .ref 138, .ref 139, .ref 140, .ref 141, .ref 142, .int u9, .int u10, .int u1, .ref 143, .ref 144, .ref 145, .ref 146, .ref 147, .ref 148, .int u12, .ref 149, .ref 150, .ref 151, .int u13, .ref 152, .ref 153, .ref 154, .ref 155, .ref 156, .ref 157, .ref 158, .ref 159, .int u14, .ref 160, .int u15, .ref 161, .ref 162, .ref 163, .ref 164, .int u16, .ref 165, .ref 166]) kc_61_2 rfl rfl rfl A438 rfl rfl rfl (Nat.le_of_ble_eq_true rfl) rfl (fun hh440 eh439 => ?_)
                    have K441 := xk_pf (k := 0) (v := 0) K436 (xk_wf (by decide +kernel)) xD_115 A438 rfl (by first | omega | decide) (by first | omega | decide) eh439 rfl
                    have KR442 := xk_pf (k := 0) (v := 0) KR437 (xk_wf (by decide +kernel)) xD_115 A438 rfl (by first | omega | decide) (by first | omega | decide) eh439 rfl
                    refine xi_iload_n (pc' := 6) (x := a19) kc_61_5 rfl rfl ?_
                    refine xi_static (mj := 10) (as := [.int a19]) (st1 := []) (lv0 := [(0, .int a19)]) kc_61_6 rfl rfl (Nat.le_of_ble_eq_true rfl) rfl rfl (Nat.le_of_ble_eq_true rfl) (hJ _ _ _ _ (by decide)) (xm_le ml_10 rfl) rfl ?_
                    refine xi_iload_n (pc' := 1) (x := a19) kc_10_0 rfl rfl ?_
                    refine xi_iconst (pc' := 2) (v := 0) kc_10_1 rfl rfl ?_
                    refine xi_iconst (pc' := 3) (v := 5) kc_10_2 rfl rfl ?_
                    refine xi_static (mj := 11) (as := [.int a19, .int 0, .int 5]) (st1 := []) (lv0 := [(0, .int a19), (1, .int 0), (2, .int 5)]) kc_10_3 rfl rfl (Nat.le_of_ble_eq_true rfl) rfl rfl (Nat.le_of_ble_eq_true rfl) (hJ _ _ _ _ (by decide)) (xm_le ml_11 rfl) rfl ?_
                    refine xi_iload_n (pc' := 1) (x := a19) kc_11_0 rfl rfl ?_
                    refine xi_iload_n (pc' := 2) (x := 0) kc_11_1 rfl rfl ?_
                    refine xi_cmf (pc' := 5) kc_11_2 rfl (xc_lt_f (X := a19.toInt) (Y := 0) rfl (by decide) (by omega)) ?_
                    refine xi_iload_n (pc' := 6) (x := a19) kc_11_5 rfl rfl ?_
                    refine xi_iload_n (pc' := 7) (x := 5) kc_11_6 rfl rfl ?_
                    refine xi_cmf (pc' := 10) kc_11_7 rfl (xc_gt_f (X := a19.toInt) (Y := 5) rfl (by decide) (by omega)) ?_
                    refine xi_iconst (pc' := 11) (v := 1) kc_11_10 rfl rfl ?_
                    refine xi_goto (pc' := 15) kc_11_11 rfl ?_
                    refine xi_ireturn kc_11_15 mr_11 rfl ?_
                    show xw J ov 98 10 (6, [(0, .int a19)], [.int 1], hh440) _
                    refine xi_ireturn kc_10_6 mr_10 rfl ?_
                    show xw J ov 99 61 (9, [(0, .ref 115), (1, .int a19), (2, .int a21), (3, .int a23), (4, .int a25), (5, .int a27)], [.int 1], hh440) _
                    refine xi_ift (pc' := 18) kc_61_9 rfl rfl ?_
                    refine xi_iload_n (pc' := 19) (x := a21) kc_61_18 rfl rfl ?_
                    refine xi_iconst (pc' := 20) (v := 0) kc_61_19 rfl rfl ?_
                    refine xi_iconst (pc' := 21) (v := 1) kc_61_20 rfl rfl ?_
                    refine xi_static (mj := 11) (as := [.int a21, .int 0, .int 1]) (st1 := []) (lv0 := [(0, .int a21), (1, .int 0), (2, .int 1)]) kc_61_21 rfl rfl (Nat.le_of_ble_eq_true rfl) rfl rfl (Nat.le_of_ble_eq_true rfl) (hJ _ _ _ _ (by decide)) (xm_le ml_11 rfl) rfl ?_
                    refine xi_iload_n (pc' := 1) (x := a21) kc_11_0 rfl rfl ?_
                    refine xi_iload_n (pc' := 2) (x := 0) kc_11_1 rfl rfl ?_
                    refine xi_cmf (pc' := 5) kc_11_2 rfl (xc_lt_f (X := a21.toInt) (Y := 0) rfl (by decide) (by omega)) ?_
                    refine xi_iload_n (pc' := 6) (x := a21) kc_11_5 rfl rfl ?_
                    refine xi_iload_n (pc' := 7) (x := 1) kc_11_6 rfl rfl ?_
                    refine xi_cmf (pc' := 10) kc_11_7 rfl (xc_gt_f (X := a21.toInt) (Y := 1) rfl (by decide) (by omega)) ?_
                    refine xi_iconst (pc' := 11) (v := 1) kc_11_10 rfl rfl ?_
                    refine xi_goto (pc' := 15) kc_11_11 rfl ?_
                    refine xi_ireturn kc_11_15 mr_11 rfl ?_
                    show xw J ov 99 61 (24, [(0, .ref 115), (1, .int a19), (2, .int a21), (3, .int a23), (4, .int a25), (5, .int a27)], [.int 1], hh440) _
                    refine xi_ift (pc' := 34) kc_61_24 rfl rfl ?_
                    refine xi_iconst (pc' := 35) (v := 0) kc_61_34 rfl rfl ?_
                    refine xi_istore (pc' := 37) (lv' := [(6, .int 0), (0, .ref 115), (1, .int a19), (2, .int a21), (3, .int a23), (4, .int a25), (5, .int a27)]) kc_61_35 rfl rfl (xm_lt ml_61 rfl) ?_
                    refine xw_lv (b := [(0, .ref 115), (1, .int a19), (2, .int a21), (3, .int a23), (4, .int a25), (5, .int a27), (6, .int 0)]) (lvS_cons (lvS_cons (lvS_cons (lvS_cons (lvS_cons (lvS_cons (lvS_cons (lvS_nil (show ([6, 0, 1, 2, 3, 4, 5] : List Nat).Nodup by decide)) rfl) rfl) rfl) rfl) rfl) rfl) rfl) ?_
                    have zc0 : (0 : Int32).toInt = 0 := by decide
                    have A443 := ((eh439.2.1 143 (by decide)).trans ((eh435.2.1 143 (by decide)).trans A352))
                    have A444 := ((eh439.2.1 146 (by decide)).trans ((eh435.2.1 146 (by decide)).trans A353))
                    have A445 := ((eh439.2.1 147 (by decide)).trans ((eh435.2.1 147 (by decide)).trans A354))
                    refine tr_lp hJ hov1 hov2 (d := 97) K441.1 (xra_mk A443 (xrp_of hy352)) (xra_mk A444 (xrp_of hy353)) (xra_mk A445 (xrp_of hy354)) (xfi_mk eh439.1 rfl rfl) (by omega) (by omega) (by omega) (fun hx hh446 K447 => ?_) (fun hx lv9 hS => ?_) 21 0 (by omega) xov_0 (by omega)
                    · have KR448 := xk_tr KR442 K447 (by decide +kernel)
                      have K449 := xk_tr K441 K447 (xsb_ok _ _ (by decide +kernel))
                      show xw J ov 100 195 (1091, [(4, .int x4), (3, .ref 167), (2, .ref 115), (1, .ref 0), (0, .ref 1000000)], [.int (-3)], hh446) _
                      refine xi_pop (pc' := 1092) kc_195_1091 rfl rfl ?_
                      refine xi_goto (pc' := 1501) kc_195_1092 rfl ?_
                      obtain ⟨v450, ev450⟩ : ∃ q : Int32, x4 + 6 = q := ⟨_, rfl⟩
                      have zv450 : v450.toInt = (x4.toInt + 6) := by rw [← ev450]; exact (xz_add (X := x4.toInt) (Y := 6) rfl (by decide) (by omega) (by omega)).trans (by omega)
                      refine xi_iinc (pc' := 1504) (x := x4) (v := v450) (lv' := [(4, .int v450), (3, .ref 167), (2, .ref 115), (1, .ref 0), (0, .ref 1000000)]) kc_195_1501 rfl rfl ev450 rfl (xm_lt ml_195 rfl) ?_
                      refine xi_goto (pc' := 23) kc_195_1504 rfl ?_
                      exact kk v450 hh446 (by omega) K449 (xI_kept I KR448.2.1)
                    · refine xw_lv hS ?_
                      show xw J ov 99 61 (94, [(0, .ref 115), (1, .int a19), (2, .int a21), (3, .int a23), (4, .int a25), (5, .int a27)], [], hh440) _
                      refine xi_iload_n (pc' := 95) (x := a23) kc_61_94 rfl rfl ?_
                      refine xi_iff (pc' := 98) kc_61_95 rfl (xc_lt_f (X := a23.toInt) (Y := 0) rfl (by decide) (by omega)) ?_
                      refine xi_iload (pc' := 100) (x := a25) kc_61_98 rfl rfl ?_
                      refine xi_aload_n (pc' := 101) (x := 115) kc_61_100 rfl rfl ?_
                      refine xi_getfield (pc' := 104) (v := .int u2) kc_61_101 rfl rfl rfl eh439.1 rfl ?_
                      refine xi_cmf (pc' := 107) kc_61_104 rfl (xc_lt_f (X := a25.toInt) (Y := u2.toInt) rfl rfl (by omega)) ?_
                      refine xi_iload (pc' := 109) (x := a27) kc_61_107 rfl rfl ?_
                      refine xi_iload (pc' := 111) (x := a25) kc_61_109 rfl rfl ?_
                      refine xi_cmt (pc' := 121) kc_61_111 rfl (xc_gt_t (X := a27.toInt) (Y := a25.toInt) rfl rfl (by omega)) ?_
                      refine xi_iload (pc' := 123) (x := a27) kc_61_121 rfl rfl ?_
                      refine xi_sipush (pc' := 126) (v := 600) kc_61_123 rfl rfl ?_
                      by_cases c451 : 600 < a27.toInt
                      · refine xi_cmt (pc' := 144) kc_61_126 rfl (xc_gt_t (X := a27.toInt) (Y := 600) rfl (by decide) (by omega)) ?_
                        refine xi_aload_n (pc' := 145) (x := 115) kc_61_144 rfl rfl ?_
                        refine xi_bipush (pc' := 147) (v := (-6)) kc_61_145 rfl rfl ?_
                        refine xi_virtual (mj := 12) (as := [.int (-6)]) (st1 := []) (lv0 := [(0, .ref 115), (1, .int (-6))]) kc_61_147 rfl rfl rfl rfl rfl eh439.1 (Nat.le_of_ble_eq_true rfl) (hJ _ _ _ _ (by decide)) (xm_le ml_12 rfl) rfl ?_
                        refine xi_aload_n (pc' := 1) (x := 115) kc_12_0 rfl rfl ?_
                        refine xi_getfield (pc' := 4) (v := .ref 140) kc_12_1 rfl rfl rfl eh439.1 rfl ?_
                        refine xi_iload_n (pc' := 5) (x := (-6)) kc_12_4 rfl rfl ?_
                        refine xi_ineg (pc' := 6) (v := 6) kc_12_5 rfl rfl ?_
                        refine xi_dup2 (pc' := 7) kc_12_6 rfl ⟨rfl, rfl⟩ ?_
                        obtain ⟨y452, A452, hy452, ry452⟩ := xk_arr K.1 xD_140
                        obtain ⟨v453, ev453, bv453, dv453⟩ := xj_get hy452 ry452 (i := 6) (by decide) (by decide)
                        have A454 := ((eh439.2.1 140 (by decide)).trans ((eh435.2.1 140 (by decide)).trans A452))
                        refine xi_iaload (pc' := 8) (v := v453) kc_12_7 rfl A454 (by decide) rfl (xi_in (by decide) (by rw [hy452]; decide)) ev453 ?_
                        refine xi_iconst (pc' := 9) (v := 1) kc_12_8 rfl rfl ?_
                        obtain ⟨v455, ev455⟩ : ∃ q : Int32, (v453 : Int32) + 1 = q := ⟨_, rfl⟩
                        have rv455 := xc_rng v455
                        refine xi_iadd (pc' := 10) (v := v455) kc_12_9 rfl ev455 ?_
                        obtain ⟨y456, s456, hy456, ry456⟩ := xj_set (v := v455) hy452 ry452 6 (by first | omega | decide) (by first | omega | decide)
                        refine xi_iastore (pc' := 11) (x' := y456) kc_12_10 rfl A454 rfl (xi_in (by decide) (by rw [hy452]; decide)) s456 (fun hh456 eh456 => ?_)
                        have K457 := xk_pa K441 (xk_wa (by decide +kernel)) xD_140 hy456 ry456 eh456
                        have KR458 := xk_pa KR442 (xk_wa (by decide +kernel)) xD_140 hy456 ry456 eh456
                        refine xi_iload_n (pc' := 12) (x := (-6)) kc_12_11 rfl rfl ?_
                        refine xi_ireturn kc_12_12 mr_12 rfl ?_
                        show xw J ov 99 61 (150, [(0, .ref 115), (1, .int a19), (2, .int a21), (3, .int a23), (4, .int a25), (5, .int a27)], [.int (-6)], hh456) _
                        refine xi_ireturn kc_61_150 mr_61 rfl ?_
                        show xw J ov 100 195 (1091, [(4, .int x4), (3, .ref 167), (2, .ref 115), (1, .ref 0), (0, .ref 1000000)], [.int (-6)], hh456) _
                        refine xi_pop (pc' := 1092) kc_195_1091 rfl rfl ?_
                        refine xi_goto (pc' := 1501) kc_195_1092 rfl ?_
                        obtain ⟨v459, ev459⟩ : ∃ q : Int32, x4 + 6 = q := ⟨_, rfl⟩
                        have zv459 : v459.toInt = (x4.toInt + 6) := by rw [← ev459]; exact (xz_add (X := x4.toInt) (Y := 6) rfl (by decide) (by omega) (by omega)).trans (by omega)
                        refine xi_iinc (pc' := 1504) (x := x4) (v := v459) (lv' := [(4, .int v459), (3, .ref 167), (2, .ref 115), (1, .ref 0), (0, .ref 1000000)]) kc_195_1501 rfl rfl ev459 rfl (xm_lt ml_195 rfl) ?_
                        refine xi_goto (pc' := 23) kc_195_1504 rfl ?_
                        exact kk v459 hh456 (by omega) K457 (xI_kept I KR458.2.1)
                      · refine xi_cmf (pc' := 129) kc_61_126 rfl (xc_gt_f (X := a27.toInt) (Y := 600) rfl (by decide) (by omega)) ?_
                        refine xi_iload_n (pc' := 130) (x := a23) kc_61_129 rfl rfl ?_
                        refine xi_bipush (pc' := 132) (v := 50) kc_61_130 rfl rfl ?_
                        refine xi_cmt (pc' := 144) kc_61_132 rfl (xc_gt_t (X := a23.toInt) (Y := 50) rfl (by decide) (by omega)) ?_
                        refine xi_aload_n (pc' := 145) (x := 115) kc_61_144 rfl rfl ?_
                        refine xi_bipush (pc' := 147) (v := (-6)) kc_61_145 rfl rfl ?_
                        refine xi_virtual (mj := 12) (as := [.int (-6)]) (st1 := []) (lv0 := [(0, .ref 115), (1, .int (-6))]) kc_61_147 rfl rfl rfl rfl rfl eh439.1 (Nat.le_of_ble_eq_true rfl) (hJ _ _ _ _ (by decide)) (xm_le ml_12 rfl) rfl ?_
                        refine xi_aload_n (pc' := 1) (x := 115) kc_12_0 rfl rfl ?_
                        refine xi_getfield (pc' := 4) (v := .ref 140) kc_12_1 rfl rfl rfl eh439.1 rfl ?_
                        refine xi_iload_n (pc' := 5) (x := (-6)) kc_12_4 rfl rfl ?_
                        refine xi_ineg (pc' := 6) (v := 6) kc_12_5 rfl rfl ?_
                        refine xi_dup2 (pc' := 7) kc_12_6 rfl ⟨rfl, rfl⟩ ?_
                        obtain ⟨y460, A460, hy460, ry460⟩ := xk_arr K.1 xD_140
                        obtain ⟨v461, ev461, bv461, dv461⟩ := xj_get hy460 ry460 (i := 6) (by decide) (by decide)
                        have A462 := ((eh439.2.1 140 (by decide)).trans ((eh435.2.1 140 (by decide)).trans A460))
                        refine xi_iaload (pc' := 8) (v := v461) kc_12_7 rfl A462 (by decide) rfl (xi_in (by decide) (by rw [hy460]; decide)) ev461 ?_
                        refine xi_iconst (pc' := 9) (v := 1) kc_12_8 rfl rfl ?_
                        obtain ⟨v463, ev463⟩ : ∃ q : Int32, (v461 : Int32) + 1 = q := ⟨_, rfl⟩
                        have rv463 := xc_rng v463
                        refine xi_iadd (pc' := 10) (v := v463) kc_12_9 rfl ev463 ?_
                        obtain ⟨y464, s464, hy464, ry464⟩ := xj_set (v := v463) hy460 ry460 6 (by first | omega | decide) (by first | omega | decide)
                        refine xi_iastore (pc' := 11) (x' := y464) kc_12_10 rfl A462 rfl (xi_in (by decide) (by rw [hy460]; decide)) s464 (fun hh464 eh464 => ?_)
                        have K465 := xk_pa K441 (xk_wa (by decide +kernel)) xD_140 hy464 ry464 eh464
                        have KR466 := xk_pa KR442 (xk_wa (by decide +kernel)) xD_140 hy464 ry464 eh464
                        refine xi_iload_n (pc' := 12) (x := (-6)) kc_12_11 rfl rfl ?_
                        refine xi_ireturn kc_12_12 mr_12 rfl ?_
                        show xw J ov 99 61 (150, [(0, .ref 115), (1, .int a19), (2, .int a21), (3, .int a23), (4, .int a25), (5, .int a27)], [.int (-6)], hh464) _
                        refine xi_ireturn kc_61_150 mr_61 rfl ?_
                        show xw J ov 100 195 (1091, [(4, .int x4), (3, .ref 167), (2, .ref 115), (1, .ref 0), (0, .ref 1000000)], [.int (-6)], hh464) _
                        refine xi_pop (pc' := 1092) kc_195_1091 rfl rfl ?_
                        refine xi_goto (pc' := 1501) kc_195_1092 rfl ?_
                        obtain ⟨v467, ev467⟩ : ∃ q : Int32, x4 + 6 = q := ⟨_, rfl⟩
                        have zv467 : v467.toInt = (x4.toInt + 6) := by rw [← ev467]; exact (xz_add (X := x4.toInt) (Y := 6) rfl (by decide) (by omega) (by omega)).trans (by omega)
                        refine xi_iinc (pc' := 1504) (x := x4) (v := v467) (lv' := [(4, .int v467), (3, .ref 167), (2, .ref 115), (1, .ref 0), (0, .ref 1000000)]) kc_195_1501 rfl rfl ev467 rfl (xm_lt ml_195 rfl) ?_
                        refine xi_goto (pc' := 23) kc_195_1504 rfl ?_
                        exact kk v467 hh464 (by omega) K465 (xI_kept I KR466.2.1)
                  · refine xi_cmf (pc' := 84) kc_163_81 rfl (xc_gt_f (X := a23.toInt) (Y := 50) rfl (by decide) (by omega)) ?_
                    refine xi_iload (pc' := 86) (x := a27) kc_163_84 rfl rfl ?_
                    refine xi_sipush (pc' := 89) (v := 600) kc_163_86 rfl rfl ?_
                    by_cases c468 : 600 < a27.toInt
                    · refine xi_cmt (pc' := 101) kc_163_89 rfl (xc_gt_t (X := a27.toInt) (Y := 600) rfl (by decide) (by omega)) ?_
                      refine xi_aload_n (pc' := 102) (x := 0) kc_163_101 rfl rfl ?_
                      refine xi_bipush (pc' := 104) (v := (-6)) kc_163_102 rfl rfl ?_
                      refine xi_virtual (mj := 90) (as := [.int (-6)]) (st1 := []) (lv0 := [(0, .ref 0), (1, .int (-6))]) kc_163_104 rfl rfl rfl rfl rfl A3 (Nat.le_of_ble_eq_true rfl) (hJ _ _ _ _ (by decide)) (xm_le ml_90 rfl) rfl ?_
                      refine xi_iload_n (pc' := 1) (x := (-6)) kc_90_0 rfl rfl ?_
                      refine xi_ineg (pc' := 2) (v := 6) kc_90_1 rfl rfl ?_
                      refine xi_istore_n (pc' := 3) (lv' := [(2, .int 6), (0, .ref 0), (1, .int (-6))]) kc_90_2 rfl rfl (xm_lt ml_90 rfl) ?_
                      refine xi_iload_n (pc' := 4) (x := 6) kc_90_3 rfl rfl ?_
                      refine xi_iff (pc' := 7) kc_90_4 rfl rfl ?_
                      refine xi_iload_n (pc' := 8) (x := 6) kc_90_7 rfl rfl ?_
                      refine xi_aload_n (pc' := 9) (x := 0) kc_90_8 rfl rfl ?_
                      refine xi_getfield (pc' := 12) (v := .ref 94) kc_90_9 rfl rfl rfl A3 rfl ?_
                      obtain ⟨y469, A469, hy469, ry469⟩ := xk_arr K.1 xD_94
                      refine xi_arraylength (pc' := 13) (n := 7) (v := 7) kc_90_12 rfl (xl_lenI (by decide) (by decide) A469 hy469) rfl ?_
                      refine xi_cmf (pc' := 16) kc_90_13 rfl rfl ?_
                      refine xi_aload_n (pc' := 17) (x := 0) kc_90_16 rfl rfl ?_
                      refine xi_getfield (pc' := 20) (v := .ref 94) kc_90_17 rfl rfl rfl A3 rfl ?_
                      refine xi_iload_n (pc' := 21) (x := 6) kc_90_20 rfl rfl ?_
                      refine xi_dup2 (pc' := 22) kc_90_21 rfl ⟨rfl, rfl⟩ ?_
                      obtain ⟨v470, ev470, bv470, dv470⟩ := xj_get hy469 ry469 (i := 6) (by decide) (by decide)
                      refine xi_iaload (pc' := 23) (v := v470) kc_90_22 rfl A469 (by decide) rfl (xi_in (by decide) (by rw [hy469]; decide)) ev470 ?_
                      refine xi_iconst (pc' := 24) (v := 1) kc_90_23 rfl rfl ?_
                      obtain ⟨v471, ev471⟩ : ∃ q : Int32, (v470 : Int32) + 1 = q := ⟨_, rfl⟩
                      have rv471 := xc_rng v471
                      refine xi_iadd (pc' := 25) (v := v471) kc_90_24 rfl ev471 ?_
                      obtain ⟨y472, s472, hy472, ry472⟩ := xj_set (v := v471) hy469 ry469 6 (by first | omega | decide) (by first | omega | decide)
                      refine xi_iastore (pc' := 26) (x' := y472) kc_90_25 rfl A469 rfl (xi_in (by decide) (by rw [hy469]; decide)) s472 (fun hh472 eh472 => ?_)
                      have K473 := xk_pa K (xk_wa (by decide +kernel)) xD_94 hy472 ry472 eh472
                      have KR474 := xk_pa KR (xk_wa (by decide +kernel)) xD_94 hy472 ry472 eh472
                      refine xi_iload_n (pc' := 27) (x := (-6)) kc_90_26 rfl rfl ?_
                      refine xi_ireturn kc_90_27 mr_90 rfl ?_
                      show xw J ov 99 163 (107, [(0, .ref 0), (1, .int a19), (2, .int a21), (3, .int a23), (4, .int a25), (5, .int a27)], [.int (-6)], hh472) _
                      refine xi_ireturn kc_163_107 mr_163 rfl ?_
                      show xw J ov 100 195 (1056, [(4, .int x4), (3, .ref 167), (2, .ref 115), (1, .ref 0), (0, .ref 1000000)], [.int (-6)], hh472) _
                      refine xi_pop (pc' := 1057) kc_195_1056 rfl rfl ?_
                      refine xi_aload_n (pc' := 1058) (x := 115) kc_195_1057 rfl rfl ?_
                      refine xi_aload_n (pc' := 1059) (x := 1000000) kc_195_1058 rfl rfl ?_
                      refine xi_iload (pc' := 1061) (x := x4) kc_195_1059 rfl rfl ?_
                      refine xi_iconst (pc' := 1062) (v := 1) kc_195_1061 rfl rfl ?_
                      refine xi_iadd (pc' := 1063) (v := v18) kc_195_1062 rfl ev18 ?_
                      refine xi_ialoadO (pc' := 1064) (v := a19) kc_195_1063 rfl (by decide) hov0 (xi_in (by omega) (by omega)) ea19 ?_
                      refine xi_aload_n (pc' := 1065) (x := 1000000) kc_195_1064 rfl rfl ?_
                      refine xi_iload (pc' := 1067) (x := x4) kc_195_1065 rfl rfl ?_
                      refine xi_iconst (pc' := 1068) (v := 2) kc_195_1067 rfl rfl ?_
                      refine xi_iadd (pc' := 1069) (v := v20) kc_195_1068 rfl ev20 ?_
                      refine xi_ialoadO (pc' := 1070) (v := a21) kc_195_1069 rfl (by decide) hov0 (xi_in (by omega) (by omega)) ea21 ?_
                      refine xi_aload_n (pc' := 1071) (x := 1000000) kc_195_1070 rfl rfl ?_
                      refine xi_iload (pc' := 1073) (x := x4) kc_195_1071 rfl rfl ?_
                      refine xi_iconst (pc' := 1074) (v := 3) kc_195_1073 rfl rfl ?_
                      refine xi_iadd (pc' := 1075) (v := v22) kc_195_1074 rfl ev22 ?_
                      refine xi_ialoadO (pc' := 1076) (v := a23) kc_195_1075 rfl (by decide) hov0 (xi_in (by omega) (by omega)) ea23 ?_
                      refine xi_aload_n (pc' := 1077) (x := 1000000) kc_195_1076 rfl rfl ?_
                      refine xi_iload (pc' := 1079) (x := x4) kc_195_1077 rfl rfl ?_
                      refine xi_iconst (pc' := 1080) (v := 4) kc_195_1079 rfl rfl ?_
                      refine xi_iadd (pc' := 1081) (v := v24) kc_195_1080 rfl ev24 ?_
                      refine xi_ialoadO (pc' := 1082) (v := a25) kc_195_1081 rfl (by decide) hov0 (xi_in (by omega) (by omega)) ea25 ?_
                      refine xi_aload_n (pc' := 1083) (x := 1000000) kc_195_1082 rfl rfl ?_
                      refine xi_iload (pc' := 1085) (x := x4) kc_195_1083 rfl rfl ?_
                      refine xi_iconst (pc' := 1086) (v := 5) kc_195_1085 rfl rfl ?_
                      refine xi_iadd (pc' := 1087) (v := v26) kc_195_1086 rfl ev26 ?_
                      refine xi_ialoadO (pc' := 1088) (v := a27) kc_195_1087 rfl (by decide) hov0 (xi_in (by omega) (by omega)) ea27 ?_
                      have A475 := ((eh472.2.1 115 (by decide)).trans A17)
                      refine xi_virtual (mj := 61) (as := [.int a19, .int a21, .int a23, .int a25, .int a27]) (st1 := []) (lv0 := [(0, .ref 115), (1, .int a19), (2, .int a21), (3, .int a23), (4, .int a25), (5, .int a27)]) kc_195_1088 rfl rfl rfl rfl rfl A475 (Nat.le_of_ble_eq_true rfl) (hJ _ _ _ _ (by decide)) (xm_le ml_61 rfl) rfl ?_
                      refine xi_aload_n (pc' := 1) (x := 115) kc_61_0 rfl rfl ?_
                      refine xi_iconst (pc' := 2) (v := 0) kc_61_1 rfl rfl ?_
                      refine xi_putfield (pc' := 5) (fs' := [.int 0, .int u2, .ref 116, .ref 117, .ref 118, .ref 119, .ref 120, .ref 121, .ref 122, .ref 123, .ref 124, .ref 125, .ref 126, .ref 127, .ref 128, .ref 129, .int u6, .ref 130, .int u7, .ref 131, .ref 132, .ref 133, .ref 134, .int u8, .ref 135, .ref 136, .ref 137, .ref 138, .ref 139, .ref 140, .ref 141, .ref 142, .int u9, .int u10, .int u1, .ref 143, .ref 144, .ref 145, .ref 146, .ref 147, .ref 148, .int u12, .ref 149, .ref 150, .ref 151, .int u13, .ref 152, .ref 153, .ref 154, .ref 155, .ref 156, .ref 157, .ref 158, .ref 159, .int u14, .ref 160, .int u15, .ref 161, .ref 162, .ref 163, .ref 164, .int u16, .ref 165, .ref 166]) kc_61_2 rfl rfl rfl A475 rfl rfl rfl (Nat.le_of_ble_eq_true rfl) rfl (fun hh477 eh476 => ?_)
                      have K478 := xk_pf (k := 0) (v := 0) K473 (xk_wf (by decide +kernel)) xD_115 A475 rfl (by first | omega | decide) (by first | omega | decide) eh476 rfl
                      have KR479 := xk_pf (k := 0) (v := 0) KR474 (xk_wf (by decide +kernel)) xD_115 A475 rfl (by first | omega | decide) (by first | omega | decide) eh476 rfl
                      refine xi_iload_n (pc' := 6) (x := a19) kc_61_5 rfl rfl ?_
                      refine xi_static (mj := 10) (as := [.int a19]) (st1 := []) (lv0 := [(0, .int a19)]) kc_61_6 rfl rfl (Nat.le_of_ble_eq_true rfl) rfl rfl (Nat.le_of_ble_eq_true rfl) (hJ _ _ _ _ (by decide)) (xm_le ml_10 rfl) rfl ?_
                      refine xi_iload_n (pc' := 1) (x := a19) kc_10_0 rfl rfl ?_
                      refine xi_iconst (pc' := 2) (v := 0) kc_10_1 rfl rfl ?_
                      refine xi_iconst (pc' := 3) (v := 5) kc_10_2 rfl rfl ?_
                      refine xi_static (mj := 11) (as := [.int a19, .int 0, .int 5]) (st1 := []) (lv0 := [(0, .int a19), (1, .int 0), (2, .int 5)]) kc_10_3 rfl rfl (Nat.le_of_ble_eq_true rfl) rfl rfl (Nat.le_of_ble_eq_true rfl) (hJ _ _ _ _ (by decide)) (xm_le ml_11 rfl) rfl ?_
                      refine xi_iload_n (pc' := 1) (x := a19) kc_11_0 rfl rfl ?_
                      refine xi_iload_n (pc' := 2) (x := 0) kc_11_1 rfl rfl ?_
                      refine xi_cmf (pc' := 5) kc_11_2 rfl (xc_lt_f (X := a19.toInt) (Y := 0) rfl (by decide) (by omega)) ?_
                      refine xi_iload_n (pc' := 6) (x := a19) kc_11_5 rfl rfl ?_
                      refine xi_iload_n (pc' := 7) (x := 5) kc_11_6 rfl rfl ?_
                      refine xi_cmf (pc' := 10) kc_11_7 rfl (xc_gt_f (X := a19.toInt) (Y := 5) rfl (by decide) (by omega)) ?_
                      refine xi_iconst (pc' := 11) (v := 1) kc_11_10 rfl rfl ?_
                      refine xi_goto (pc' := 15) kc_11_11 rfl ?_
                      refine xi_ireturn kc_11_15 mr_11 rfl ?_
                      show xw J ov 98 10 (6, [(0, .int a19)], [.int 1], hh477) _
                      refine xi_ireturn kc_10_6 mr_10 rfl ?_
                      show xw J ov 99 61 (9, [(0, .ref 115), (1, .int a19), (2, .int a21), (3, .int a23), (4, .int a25), (5, .int a27)], [.int 1], hh477) _
                      refine xi_ift (pc' := 18) kc_61_9 rfl rfl ?_
                      refine xi_iload_n (pc' := 19) (x := a21) kc_61_18 rfl rfl ?_
                      refine xi_iconst (pc' := 20) (v := 0) kc_61_19 rfl rfl ?_
                      refine xi_iconst (pc' := 21) (v := 1) kc_61_20 rfl rfl ?_
                      refine xi_static (mj := 11) (as := [.int a21, .int 0, .int 1]) (st1 := []) (lv0 := [(0, .int a21), (1, .int 0), (2, .int 1)]) kc_61_21 rfl rfl (Nat.le_of_ble_eq_true rfl) rfl rfl (Nat.le_of_ble_eq_true rfl) (hJ _ _ _ _ (by decide)) (xm_le ml_11 rfl) rfl ?_
                      refine xi_iload_n (pc' := 1) (x := a21) kc_11_0 rfl rfl ?_
                      refine xi_iload_n (pc' := 2) (x := 0) kc_11_1 rfl rfl ?_
                      refine xi_cmf (pc' := 5) kc_11_2 rfl (xc_lt_f (X := a21.toInt) (Y := 0) rfl (by decide) (by omega)) ?_
                      refine xi_iload_n (pc' := 6) (x := a21) kc_11_5 rfl rfl ?_
                      refine xi_iload_n (pc' := 7) (x := 1) kc_11_6 rfl rfl ?_
                      refine xi_cmf (pc' := 10) kc_11_7 rfl (xc_gt_f (X := a21.toInt) (Y := 1) rfl (by decide) (by omega)) ?_
                      refine xi_iconst (pc' := 11) (v := 1) kc_11_10 rfl rfl ?_
                      refine xi_goto (pc' := 15) kc_11_11 rfl ?_
                      refine xi_ireturn kc_11_15 mr_11 rfl ?_
                      show xw J ov 99 61 (24, [(0, .ref 115), (1, .int a19), (2, .int a21), (3, .int a23), (4, .int a25), (5, .int a27)], [.int 1], hh477) _
                      refine xi_ift (pc' := 34) kc_61_24 rfl rfl ?_
                      refine xi_iconst (pc' := 35) (v := 0) kc_61_34 rfl rfl ?_
                      refine xi_istore (pc' := 37) (lv' := [(6, .int 0), (0, .ref 115), (1, .int a19), (2, .int a21), (3, .int a23), (4, .int a25), (5, .int a27)]) kc_61_35 rfl rfl (xm_lt ml_61 rfl) ?_
                      refine xw_lv (b := [(0, .ref 115), (1, .int a19), (2, .int a21), (3, .int a23), (4, .int a25), (5, .int a27), (6, .int 0)]) (lvS_cons (lvS_cons (lvS_cons (lvS_cons (lvS_cons (lvS_cons (lvS_cons (lvS_nil (show ([6, 0, 1, 2, 3, 4, 5] : List Nat).Nodup by decide)) rfl) rfl) rfl) rfl) rfl) rfl) rfl) ?_
                      have zc0 : (0 : Int32).toInt = 0 := by decide
                      have A480 := ((eh476.2.1 143 (by decide)).trans ((eh472.2.1 143 (by decide)).trans A352))
                      have A481 := ((eh476.2.1 146 (by decide)).trans ((eh472.2.1 146 (by decide)).trans A353))
                      have A482 := ((eh476.2.1 147 (by decide)).trans ((eh472.2.1 147 (by decide)).trans A354))
                      refine tr_lp hJ hov1 hov2 (d := 97) K478.1 (xra_mk A480 (xrp_of hy352)) (xra_mk A481 (xrp_of hy353)) (xra_mk A482 (xrp_of hy354)) (xfi_mk eh476.1 rfl rfl) (by omega) (by omega) (by omega) (fun hx hh483 K484 => ?_) (fun hx lv9 hS => ?_) 21 0 (by omega) xov_0 (by omega)
                      · have KR485 := xk_tr KR479 K484 (by decide +kernel)
                        have K486 := xk_tr K478 K484 (xsb_ok _ _ (by decide +kernel))
                        show xw J ov 100 195 (1091, [(4, .int x4), (3, .ref 167), (2, .ref 115), (1, .ref 0), (0, .ref 1000000)], [.int (-3)], hh483) _
                        refine xi_pop (pc' := 1092) kc_195_1091 rfl rfl ?_
                        refine xi_goto (pc' := 1501) kc_195_1092 rfl ?_
                        obtain ⟨v487, ev487⟩ : ∃ q : Int32, x4 + 6 = q := ⟨_, rfl⟩
                        have zv487 : v487.toInt = (x4.toInt + 6) := by rw [← ev487]; exact (xz_add (X := x4.toInt) (Y := 6) rfl (by decide) (by omega) (by omega)).trans (by omega)
                        refine xi_iinc (pc' := 1504) (x := x4) (v := v487) (lv' := [(4, .int v487), (3, .ref 167), (2, .ref 115), (1, .ref 0), (0, .ref 1000000)]) kc_195_1501 rfl rfl ev487 rfl (xm_lt ml_195 rfl) ?_
                        refine xi_goto (pc' := 23) kc_195_1504 rfl ?_
                        exact kk v487 hh483 (by omega) K486 (xI_kept I KR485.2.1)
                      · refine xw_lv hS ?_
                        show xw J ov 99 61 (94, [(0, .ref 115), (1, .int a19), (2, .int a21), (3, .int a23), (4, .int a25), (5, .int a27)], [], hh477) _
                        refine xi_iload_n (pc' := 95) (x := a23) kc_61_94 rfl rfl ?_
                        refine xi_iff (pc' := 98) kc_61_95 rfl (xc_lt_f (X := a23.toInt) (Y := 0) rfl (by decide) (by omega)) ?_
                        refine xi_iload (pc' := 100) (x := a25) kc_61_98 rfl rfl ?_
                        refine xi_aload_n (pc' := 101) (x := 115) kc_61_100 rfl rfl ?_
                        refine xi_getfield (pc' := 104) (v := .int u2) kc_61_101 rfl rfl rfl eh476.1 rfl ?_
                        refine xi_cmf (pc' := 107) kc_61_104 rfl (xc_lt_f (X := a25.toInt) (Y := u2.toInt) rfl rfl (by omega)) ?_
                        refine xi_iload (pc' := 109) (x := a27) kc_61_107 rfl rfl ?_
                        refine xi_iload (pc' := 111) (x := a25) kc_61_109 rfl rfl ?_
                        refine xi_cmt (pc' := 121) kc_61_111 rfl (xc_gt_t (X := a27.toInt) (Y := a25.toInt) rfl rfl (by omega)) ?_
                        refine xi_iload (pc' := 123) (x := a27) kc_61_121 rfl rfl ?_
                        refine xi_sipush (pc' := 126) (v := 600) kc_61_123 rfl rfl ?_
                        refine xi_cmt (pc' := 144) kc_61_126 rfl (xc_gt_t (X := a27.toInt) (Y := 600) rfl (by decide) (by omega)) ?_
                        refine xi_aload_n (pc' := 145) (x := 115) kc_61_144 rfl rfl ?_
                        refine xi_bipush (pc' := 147) (v := (-6)) kc_61_145 rfl rfl ?_
                        refine xi_virtual (mj := 12) (as := [.int (-6)]) (st1 := []) (lv0 := [(0, .ref 115), (1, .int (-6))]) kc_61_147 rfl rfl rfl rfl rfl eh476.1 (Nat.le_of_ble_eq_true rfl) (hJ _ _ _ _ (by decide)) (xm_le ml_12 rfl) rfl ?_
                        refine xi_aload_n (pc' := 1) (x := 115) kc_12_0 rfl rfl ?_
                        refine xi_getfield (pc' := 4) (v := .ref 140) kc_12_1 rfl rfl rfl eh476.1 rfl ?_
                        refine xi_iload_n (pc' := 5) (x := (-6)) kc_12_4 rfl rfl ?_
                        refine xi_ineg (pc' := 6) (v := 6) kc_12_5 rfl rfl ?_
                        refine xi_dup2 (pc' := 7) kc_12_6 rfl ⟨rfl, rfl⟩ ?_
                        obtain ⟨y488, A488, hy488, ry488⟩ := xk_arr K.1 xD_140
                        obtain ⟨v489, ev489, bv489, dv489⟩ := xj_get hy488 ry488 (i := 6) (by decide) (by decide)
                        have A490 := ((eh476.2.1 140 (by decide)).trans ((eh472.2.1 140 (by decide)).trans A488))
                        refine xi_iaload (pc' := 8) (v := v489) kc_12_7 rfl A490 (by decide) rfl (xi_in (by decide) (by rw [hy488]; decide)) ev489 ?_
                        refine xi_iconst (pc' := 9) (v := 1) kc_12_8 rfl rfl ?_
                        obtain ⟨v491, ev491⟩ : ∃ q : Int32, (v489 : Int32) + 1 = q := ⟨_, rfl⟩
                        have rv491 := xc_rng v491
                        refine xi_iadd (pc' := 10) (v := v491) kc_12_9 rfl ev491 ?_
                        obtain ⟨y492, s492, hy492, ry492⟩ := xj_set (v := v491) hy488 ry488 6 (by first | omega | decide) (by first | omega | decide)
                        refine xi_iastore (pc' := 11) (x' := y492) kc_12_10 rfl A490 rfl (xi_in (by decide) (by rw [hy488]; decide)) s492 (fun hh492 eh492 => ?_)
                        have K493 := xk_pa K478 (xk_wa (by decide +kernel)) xD_140 hy492 ry492 eh492
                        have KR494 := xk_pa KR479 (xk_wa (by decide +kernel)) xD_140 hy492 ry492 eh492
                        refine xi_iload_n (pc' := 12) (x := (-6)) kc_12_11 rfl rfl ?_
                        refine xi_ireturn kc_12_12 mr_12 rfl ?_
                        show xw J ov 99 61 (150, [(0, .ref 115), (1, .int a19), (2, .int a21), (3, .int a23), (4, .int a25), (5, .int a27)], [.int (-6)], hh492) _
                        refine xi_ireturn kc_61_150 mr_61 rfl ?_
                        show xw J ov 100 195 (1091, [(4, .int x4), (3, .ref 167), (2, .ref 115), (1, .ref 0), (0, .ref 1000000)], [.int (-6)], hh492) _
                        refine xi_pop (pc' := 1092) kc_195_1091 rfl rfl ?_
                        refine xi_goto (pc' := 1501) kc_195_1092 rfl ?_
                        obtain ⟨v495, ev495⟩ : ∃ q : Int32, x4 + 6 = q := ⟨_, rfl⟩
                        have zv495 : v495.toInt = (x4.toInt + 6) := by rw [← ev495]; exact (xz_add (X := x4.toInt) (Y := 6) rfl (by decide) (by omega) (by omega)).trans (by omega)
                        refine xi_iinc (pc' := 1504) (x := x4) (v := v495) (lv' := [(4, .int v495), (3, .ref 167), (2, .ref 115), (1, .ref 0), (0, .ref 1000000)]) kc_195_1501 rfl rfl ev495 rfl (xm_lt ml_195 rfl) ?_
                        refine xi_goto (pc' := 23) kc_195_1504 rfl ?_
                        exact kk v495 hh492 (by omega) K493 (xI_kept I KR494.2.1)
                    · refine xi_cmf (pc' := 92) kc_163_89 rfl (xc_gt_f (X := a27.toInt) (Y := 600) rfl (by decide) (by omega)) ?_
                      refine xi_aload_n (pc' := 93) (x := 0) kc_163_92 rfl rfl ?_
                      refine xi_getfield (pc' := 96) (v := .int u1) kc_163_93 rfl rfl rfl A3 rfl ?_
                      refine xi_bipush (pc' := 98) (v := 20) kc_163_96 rfl rfl ?_
                      by_cases c496 : u1.toInt < 20
                      · refine xi_cmt (pc' := 108) kc_163_98 rfl (xc_lt_t (X := u1.toInt) (Y := 20) rfl (by decide) (by omega)) ?_
                        refine xi_aload_n (pc' := 109) (x := 0) kc_163_108 rfl rfl ?_
                        refine xi_getfield (pc' := 112) (v := .ref 93) kc_163_109 rfl rfl rfl A3 rfl ?_
                        refine xi_aload_n (pc' := 113) (x := 0) kc_163_112 rfl rfl ?_
                        refine xi_getfield (pc' := 116) (v := .int u1) kc_163_113 rfl rfl rfl A3 rfl ?_
                        have A497 := xk_ex K.1 xD_93
                        obtain ⟨pt498, ept498, mpt498⟩ := xR_93 (i := u1) (by omega) (by omega)
                        refine xj_aaload (pc' := 117) (b := pt498) kc_163_116 rfl A497 rfl (xi_in (n := 20) (by omega) (by omega)) ept498 ?_
                        refine xi_astore (pc' := 119) (lv' := [(6, .ref pt498), (0, .ref 0), (1, .int a19), (2, .int a21), (3, .int a23), (4, .int a25), (5, .int a27)]) kc_163_117 rfl rfl (xm_lt ml_163 rfl) ?_
                        refine xi_aload (pc' := 121) (x := pt498) kc_163_119 rfl rfl ?_
                        refine xi_iload_n (pc' := 122) (x := a19) kc_163_121 rfl rfl ?_
                        obtain ⟨u499, u500, u501, u502, u503, u504, bu499, bu500, bu501, bu502, bu503, bu504, A505⟩ := xg_trial K.1 mpt498
                        have HG506 : y352.getD (Int32.toNatClampNeg u1) 0 = u499 := xGR_ld (Lo := [some 95, some 96, some 97, some 98, some 99, some 100, some 101, some 102, some 103, some 104, some 105, some 106, some 107, some 108, some 109, some 110, some 111, some 112, some 113, some 114]) I.2.2.2.2.2.2.2.2.2.2.2.2.2.2.2.2.2.2.2.2.2.2.2.2.1 rfl ept498 (by omega) (by show _ < ((20 : Nat) : Int); omega) A505 rfl A352
                        have bHG506 : 0 ≤ u499.toInt ∧ u499.toInt ≤ 5 := by rw [← HG506]; exact ry352 _ (xj_nat (n := 20) (by omega) (by omega))
                        have HG507 : y353.getD (Int32.toNatClampNeg u1) 0 = u502 := xGR_ld (Lo := [some 95, some 96, some 97, some 98, some 99, some 100, some 101, some 102, some 103, some 104, some 105, some 106, some 107, some 108, some 109, some 110, some 111, some 112, some 113, some 114]) I.2.2.2.2.2.2.2.2.2.2.2.2.2.2.2.2.2.2.2.2.2.2.2.2.2.1 rfl ept498 (by omega) (by show _ < ((20 : Nat) : Int); omega) A505 rfl A353
                        have bHG507 : 0 ≤ u502.toInt ∧ u502.toInt ≤ 600 := by rw [← HG507]; exact ry353 _ (xj_nat (n := 20) (by omega) (by omega))
                        have HG508 : y354.getD (Int32.toNatClampNeg u1) 0 = u503 := xGR_ld (Lo := [some 95, some 96, some 97, some 98, some 99, some 100, some 101, some 102, some 103, some 104, some 105, some 106, some 107, some 108, some 109, some 110, some 111, some 112, some 113, some 114]) I.2.2.2.2.2.2.2.2.2.2.2.2.2.2.2.2.2.2.2.2.2.2.2.2.2.2.1 rfl ept498 (by omega) (by show _ < ((20 : Nat) : Int); omega) A505 rfl A354
                        have bHG508 : 0 ≤ u503.toInt ∧ u503.toInt ≤ 600 := by rw [← HG508]; exact ry354 _ (xj_nat (n := 20) (by omega) (by omega))
                        obtain ⟨y509, A509, hy509, ry509⟩ := xk_arr K.1 xD_148
                        have HG510 : y509.getD (Int32.toNatClampNeg u1) 0 = u504 := xGR_ld (Lo := [some 95, some 96, some 97, some 98, some 99, some 100, some 101, some 102, some 103, some 104, some 105, some 106, some 107, some 108, some 109, some 110, some 111, some 112, some 113, some 114]) I.2.2.2.2.2.2.2.2.2.2.2.2.2.2.2.2.2.2.2.2.2.2.2.2.2.2.2.1 rfl ept498 (by omega) (by show _ < ((20 : Nat) : Int); omega) A505 rfl A509
                        have bHG510 : 0 ≤ u504.toInt ∧ u504.toInt ≤ 50 := by rw [← HG510]; exact ry509 _ (xj_nat (n := 20) (by omega) (by omega))
                        refine xi_putfield (pc' := 125) (fs' := [.int a19, .int u500, .int u501, .int u502, .int u503, .int u504]) kc_163_122 rfl rfl rfl A505 rfl rfl rfl (Nat.le_of_ble_eq_true rfl) rfl (fun hh512 eh511 => ?_)
                        obtain ⟨ds513, Dds513, dds513_0, dds513_1, dds513_2, dds513_3, dds513_4, dds513_5⟩ := xGo_trial mpt498
                        have K514 := xk_pf (k := 0) (v := a19) K (xk_gf mpt498 (by decide +kernel)) Dds513 A505 dds513_0 (by first | omega | decide) (by first | omega | decide) eh511 rfl
                        refine xi_aload (pc' := 127) (x := pt498) kc_163_125 rfl rfl ?_
                        refine xi_iload_n (pc' := 128) (x := a21) kc_163_127 rfl rfl ?_
                        refine xi_ift (pc' := 135) kc_163_128 rfl (xc_ne_t (X := a21.toInt) (Y := 0) rfl (by decide) (by omega)) ?_
                        refine xi_iconst (pc' := 136) (v := 2) kc_163_135 rfl rfl ?_
                        refine xi_putfield (pc' := 139) (fs' := [.int a19, .int 2, .int u501, .int u502, .int u503, .int u504]) kc_163_136 rfl rfl rfl eh511.1 rfl rfl rfl (Nat.le_of_ble_eq_true rfl) rfl (fun hh516 eh515 => ?_)
                        obtain ⟨ds517, Dds517, dds517_0, dds517_1, dds517_2, dds517_3, dds517_4, dds517_5⟩ := xGo_trial mpt498
                        have K518 := xk_pf (k := 1) (v := 2) K514 (xk_gf mpt498 (by decide +kernel)) Dds517 eh511.1 dds517_1 (by first | omega | decide) (by first | omega | decide) eh515 rfl
                        refine xi_aload (pc' := 141) (x := pt498) kc_163_139 rfl rfl ?_
                        refine xi_iload_n (pc' := 142) (x := a21) kc_163_141 rfl rfl ?_
                        refine xi_ift (pc' := 149) kc_163_142 rfl (xc_ne_t (X := a21.toInt) (Y := 0) rfl (by decide) (by omega)) ?_
                        refine xi_iload_n (pc' := 150) (x := a23) kc_163_149 rfl rfl ?_
                        refine xi_putfield (pc' := 153) (fs' := [.int a19, .int 2, .int a23, .int u502, .int u503, .int u504]) kc_163_150 rfl rfl rfl eh515.1 rfl rfl rfl (Nat.le_of_ble_eq_true rfl) rfl (fun hh520 eh519 => ?_)
                        obtain ⟨ds521, Dds521, dds521_0, dds521_1, dds521_2, dds521_3, dds521_4, dds521_5⟩ := xGo_trial mpt498
                        have K522 := xk_pf (k := 2) (v := a23) K518 (xk_gf mpt498 (by decide +kernel)) Dds521 eh515.1 dds521_2 (by first | omega | decide) (by first | omega | decide) eh519 rfl
                        refine xi_aload (pc' := 155) (x := pt498) kc_163_153 rfl rfl ?_
                        refine xi_iload (pc' := 157) (x := a25) kc_163_155 rfl rfl ?_
                        refine xi_putfield (pc' := 160) (fs' := [.int a19, .int 2, .int a23, .int a25, .int u503, .int u504]) kc_163_157 rfl rfl rfl eh519.1 rfl rfl rfl (Nat.le_of_ble_eq_true rfl) rfl (fun hh524 eh523 => ?_)
                        obtain ⟨ds525, Dds525, dds525_0, dds525_1, dds525_2, dds525_3, dds525_4, dds525_5⟩ := xGo_trial mpt498
                        have K526 := xk_pf (k := 3) (v := a25) K522 (xk_gf mpt498 (by decide +kernel)) Dds525 eh519.1 dds525_3 (by first | omega | decide) (by first | omega | decide) eh523 rfl
                        refine xi_aload (pc' := 162) (x := pt498) kc_163_160 rfl rfl ?_
                        refine xi_iload (pc' := 164) (x := a27) kc_163_162 rfl rfl ?_
                        refine xi_putfield (pc' := 167) (fs' := [.int a19, .int 2, .int a23, .int a25, .int a27, .int u504]) kc_163_164 rfl rfl rfl eh523.1 rfl rfl rfl (Nat.le_of_ble_eq_true rfl) rfl (fun hh528 eh527 => ?_)
                        obtain ⟨ds529, Dds529, dds529_0, dds529_1, dds529_2, dds529_3, dds529_4, dds529_5⟩ := xGo_trial mpt498
                        have K530 := xk_pf (k := 4) (v := a27) K526 (xk_gf mpt498 (by decide +kernel)) Dds529 eh523.1 dds529_4 (by first | omega | decide) (by first | omega | decide) eh527 rfl
                        refine xi_aload_n (pc' := 168) (x := 0) kc_163_167 rfl rfl ?_
                        refine xi_dup (pc' := 169) kc_163_168 rfl rfl ?_
                        have A531 := ((eh527.2.1 0 (xk_nc mpt498 rfl)).trans ((eh523.2.1 0 (xk_nc mpt498 rfl)).trans ((eh519.2.1 0 (xk_nc mpt498 rfl)).trans ((eh515.2.1 0 (xk_nc mpt498 rfl)).trans ((eh511.2.1 0 (xk_nc mpt498 rfl)).trans A3)))))
                        refine xi_getfield (pc' := 172) (v := .int u1) kc_163_169 rfl rfl rfl A531 rfl ?_
                        refine xi_iconst (pc' := 173) (v := 1) kc_163_172 rfl rfl ?_
                        obtain ⟨v532, ev532⟩ : ∃ q : Int32, u1 + 1 = q := ⟨_, rfl⟩
                        have zv532 : v532.toInt = (u1.toInt + 1) := by rw [← ev532]; exact (xz_add (X := u1.toInt) (Y := 1) rfl (by decide) (by omega) (by omega)).trans (by omega)
                        refine xi_iadd (pc' := 174) (v := v532) kc_163_173 rfl ev532 ?_
                        refine xi_putfield (pc' := 177) (fs' := [.ref 1, .ref 63, .ref 66, .ref 75, .ref 80, .ref 85, .ref 93, .ref 94, .int v532, .int u2]) kc_163_174 rfl rfl rfl A531 rfl rfl rfl (Nat.le_of_ble_eq_true rfl) rfl (fun hh534 eh533 => ?_)
                        have K535 := xk_pf (k := 8) (v := v532) K530 (xk_wf (by decide +kernel)) xD_0 A531 rfl (by first | omega | decide) (by first | omega | decide) eh533 rfl
                        refine xi_aload_n (pc' := 178) (x := 0) kc_163_177 rfl rfl ?_
                        refine xi_getfield (pc' := 181) (v := .int v532) kc_163_178 rfl rfl rfl eh533.1 rfl ?_
                        refine xi_iconst (pc' := 182) (v := 1) kc_163_181 rfl rfl ?_
                        obtain ⟨v536, ev536⟩ : ∃ q : Int32, v532 - 1 = q := ⟨_, rfl⟩
                        have zv536 : v536.toInt = u1.toInt := by rw [← ev536]; exact (xz_sub (X := (u1.toInt + 1)) (Y := 1) zv532 (by decide) (by omega) (by omega)).trans (by omega)
                        refine xi_isub (pc' := 183) (v := v536) kc_163_182 rfl ev536 ?_
                        refine xi_ireturn kc_163_183 mr_163 rfl ?_
                        show xw J ov 100 195 (1056, [(4, .int x4), (3, .ref 167), (2, .ref 115), (1, .ref 0), (0, .ref 1000000)], [.int v536], hh534) _
                        refine xi_pop (pc' := 1057) kc_195_1056 rfl rfl ?_
                        refine xi_aload_n (pc' := 1058) (x := 115) kc_195_1057 rfl rfl ?_
                        refine xi_aload_n (pc' := 1059) (x := 1000000) kc_195_1058 rfl rfl ?_
                        refine xi_iload (pc' := 1061) (x := x4) kc_195_1059 rfl rfl ?_
                        refine xi_iconst (pc' := 1062) (v := 1) kc_195_1061 rfl rfl ?_
                        refine xi_iadd (pc' := 1063) (v := v18) kc_195_1062 rfl ev18 ?_
                        refine xi_ialoadO (pc' := 1064) (v := a19) kc_195_1063 rfl (by decide) hov0 (xi_in (by omega) (by omega)) ea19 ?_
                        refine xi_aload_n (pc' := 1065) (x := 1000000) kc_195_1064 rfl rfl ?_
                        refine xi_iload (pc' := 1067) (x := x4) kc_195_1065 rfl rfl ?_
                        refine xi_iconst (pc' := 1068) (v := 2) kc_195_1067 rfl rfl ?_
                        refine xi_iadd (pc' := 1069) (v := v20) kc_195_1068 rfl ev20 ?_
                        refine xi_ialoadO (pc' := 1070) (v := a21) kc_195_1069 rfl (by decide) hov0 (xi_in (by omega) (by omega)) ea21 ?_
                        refine xi_aload_n (pc' := 1071) (x := 1000000) kc_195_1070 rfl rfl ?_
                        refine xi_iload (pc' := 1073) (x := x4) kc_195_1071 rfl rfl ?_
                        refine xi_iconst (pc' := 1074) (v := 3) kc_195_1073 rfl rfl ?_
                        refine xi_iadd (pc' := 1075) (v := v22) kc_195_1074 rfl ev22 ?_
                        refine xi_ialoadO (pc' := 1076) (v := a23) kc_195_1075 rfl (by decide) hov0 (xi_in (by omega) (by omega)) ea23 ?_
                        refine xi_aload_n (pc' := 1077) (x := 1000000) kc_195_1076 rfl rfl ?_
                        refine xi_iload (pc' := 1079) (x := x4) kc_195_1077 rfl rfl ?_
                        refine xi_iconst (pc' := 1080) (v := 4) kc_195_1079 rfl rfl ?_
                        refine xi_iadd (pc' := 1081) (v := v24) kc_195_1080 rfl ev24 ?_
                        refine xi_ialoadO (pc' := 1082) (v := a25) kc_195_1081 rfl (by decide) hov0 (xi_in (by omega) (by omega)) ea25 ?_
                        refine xi_aload_n (pc' := 1083) (x := 1000000) kc_195_1082 rfl rfl ?_
                        refine xi_iload (pc' := 1085) (x := x4) kc_195_1083 rfl rfl ?_
                        refine xi_iconst (pc' := 1086) (v := 5) kc_195_1085 rfl rfl ?_
                        refine xi_iadd (pc' := 1087) (v := v26) kc_195_1086 rfl ev26 ?_
                        refine xi_ialoadO (pc' := 1088) (v := a27) kc_195_1087 rfl (by decide) hov0 (xi_in (by omega) (by omega)) ea27 ?_
                        have A537 := ((eh533.2.1 115 (by decide)).trans ((eh527.2.1 115 (xk_nc mpt498 rfl)).trans ((eh523.2.1 115 (xk_nc mpt498 rfl)).trans ((eh519.2.1 115 (xk_nc mpt498 rfl)).trans ((eh515.2.1 115 (xk_nc mpt498 rfl)).trans ((eh511.2.1 115 (xk_nc mpt498 rfl)).trans A17))))))
                        refine xi_virtual (mj := 61) (as := [.int a19, .int a21, .int a23, .int a25, .int a27]) (st1 := []) (lv0 := [(0, .ref 115), (1, .int a19), (2, .int a21), (3, .int a23), (4, .int a25), (5, .int a27)]) kc_195_1088 rfl rfl rfl rfl rfl A537 (Nat.le_of_ble_eq_true rfl) (hJ _ _ _ _ (by decide)) (xm_le ml_61 rfl) rfl ?_
                        refine xi_aload_n (pc' := 1) (x := 115) kc_61_0 rfl rfl ?_
                        refine xi_iconst (pc' := 2) (v := 0) kc_61_1 rfl rfl ?_
                        refine xi_putfield (pc' := 5) (fs' := [.int 0, .int u2, .ref 116, .ref 117, .ref 118, .ref 119, .ref 120, .ref 121, .ref 122, .ref 123, .ref 124, .ref 125, .ref 126, .ref 127, .ref 128, .ref 129, .int u6, .ref 130, .int u7, .ref 131, .ref 132, .ref 133, .ref 134, .int u8, .ref 135, .ref 136, .ref 137, .ref 138, .ref 139, .ref 140, .ref 141, .ref 142, .int u9, .int u10, .int u1, .ref 143, .ref 144, .ref 145, .ref 146, .ref 147, .ref 148, .int u12, .ref 149, .ref 150, .ref 151, .int u13, .ref 152, .ref 153, .ref 154, .ref 155, .ref 156, .ref 157, .ref 158, .ref 159, .int u14, .ref 160, .int u15, .ref 161, .ref 162, .ref 163, .ref 164, .int u16, .ref 165, .ref 166]) kc_61_2 rfl rfl rfl A537 rfl rfl rfl (Nat.le_of_ble_eq_true rfl) rfl (fun hh539 eh538 => ?_)
                        have K540 := xk_pf (k := 0) (v := 0) K535 (xk_wf (by decide +kernel)) xD_115 A537 rfl (by first | omega | decide) (by first | omega | decide) eh538 rfl
                        refine xi_iload_n (pc' := 6) (x := a19) kc_61_5 rfl rfl ?_
                        refine xi_static (mj := 10) (as := [.int a19]) (st1 := []) (lv0 := [(0, .int a19)]) kc_61_6 rfl rfl (Nat.le_of_ble_eq_true rfl) rfl rfl (Nat.le_of_ble_eq_true rfl) (hJ _ _ _ _ (by decide)) (xm_le ml_10 rfl) rfl ?_
                        refine xi_iload_n (pc' := 1) (x := a19) kc_10_0 rfl rfl ?_
                        refine xi_iconst (pc' := 2) (v := 0) kc_10_1 rfl rfl ?_
                        refine xi_iconst (pc' := 3) (v := 5) kc_10_2 rfl rfl ?_
                        refine xi_static (mj := 11) (as := [.int a19, .int 0, .int 5]) (st1 := []) (lv0 := [(0, .int a19), (1, .int 0), (2, .int 5)]) kc_10_3 rfl rfl (Nat.le_of_ble_eq_true rfl) rfl rfl (Nat.le_of_ble_eq_true rfl) (hJ _ _ _ _ (by decide)) (xm_le ml_11 rfl) rfl ?_
                        refine xi_iload_n (pc' := 1) (x := a19) kc_11_0 rfl rfl ?_
                        refine xi_iload_n (pc' := 2) (x := 0) kc_11_1 rfl rfl ?_
                        refine xi_cmf (pc' := 5) kc_11_2 rfl (xc_lt_f (X := a19.toInt) (Y := 0) rfl (by decide) (by omega)) ?_
                        refine xi_iload_n (pc' := 6) (x := a19) kc_11_5 rfl rfl ?_
                        refine xi_iload_n (pc' := 7) (x := 5) kc_11_6 rfl rfl ?_
                        refine xi_cmf (pc' := 10) kc_11_7 rfl (xc_gt_f (X := a19.toInt) (Y := 5) rfl (by decide) (by omega)) ?_
                        refine xi_iconst (pc' := 11) (v := 1) kc_11_10 rfl rfl ?_
                        refine xi_goto (pc' := 15) kc_11_11 rfl ?_
                        refine xi_ireturn kc_11_15 mr_11 rfl ?_
                        show xw J ov 98 10 (6, [(0, .int a19)], [.int 1], hh539) _
                        refine xi_ireturn kc_10_6 mr_10 rfl ?_
                        show xw J ov 99 61 (9, [(0, .ref 115), (1, .int a19), (2, .int a21), (3, .int a23), (4, .int a25), (5, .int a27)], [.int 1], hh539) _
                        refine xi_ift (pc' := 18) kc_61_9 rfl rfl ?_
                        refine xi_iload_n (pc' := 19) (x := a21) kc_61_18 rfl rfl ?_
                        refine xi_iconst (pc' := 20) (v := 0) kc_61_19 rfl rfl ?_
                        refine xi_iconst (pc' := 21) (v := 1) kc_61_20 rfl rfl ?_
                        refine xi_static (mj := 11) (as := [.int a21, .int 0, .int 1]) (st1 := []) (lv0 := [(0, .int a21), (1, .int 0), (2, .int 1)]) kc_61_21 rfl rfl (Nat.le_of_ble_eq_true rfl) rfl rfl (Nat.le_of_ble_eq_true rfl) (hJ _ _ _ _ (by decide)) (xm_le ml_11 rfl) rfl ?_
                        refine xi_iload_n (pc' := 1) (x := a21) kc_11_0 rfl rfl ?_
                        refine xi_iload_n (pc' := 2) (x := 0) kc_11_1 rfl rfl ?_
                        refine xi_cmf (pc' := 5) kc_11_2 rfl (xc_lt_f (X := a21.toInt) (Y := 0) rfl (by decide) (by omega)) ?_
                        refine xi_iload_n (pc' := 6) (x := a21) kc_11_5 rfl rfl ?_
                        refine xi_iload_n (pc' := 7) (x := 1) kc_11_6 rfl rfl ?_
                        refine xi_cmf (pc' := 10) kc_11_7 rfl (xc_gt_f (X := a21.toInt) (Y := 1) rfl (by decide) (by omega)) ?_
                        refine xi_iconst (pc' := 11) (v := 1) kc_11_10 rfl rfl ?_
                        refine xi_goto (pc' := 15) kc_11_11 rfl ?_
                        refine xi_ireturn kc_11_15 mr_11 rfl ?_
                        show xw J ov 99 61 (24, [(0, .ref 115), (1, .int a19), (2, .int a21), (3, .int a23), (4, .int a25), (5, .int a27)], [.int 1], hh539) _
                        refine xi_ift (pc' := 34) kc_61_24 rfl rfl ?_
                        refine xi_iconst (pc' := 35) (v := 0) kc_61_34 rfl rfl ?_
                        refine xi_istore (pc' := 37) (lv' := [(6, .int 0), (0, .ref 115), (1, .int a19), (2, .int a21), (3, .int a23), (4, .int a25), (5, .int a27)]) kc_61_35 rfl rfl (xm_lt ml_61 rfl) ?_
                        refine xw_lv (b := [(0, .ref 115), (1, .int a19), (2, .int a21), (3, .int a23), (4, .int a25), (5, .int a27), (6, .int 0)]) (lvS_cons (lvS_cons (lvS_cons (lvS_cons (lvS_cons (lvS_cons (lvS_cons (lvS_nil (show ([6, 0, 1, 2, 3, 4, 5] : List Nat).Nodup by decide)) rfl) rfl) rfl) rfl) rfl) rfl) rfl) ?_
                        have zc0 : (0 : Int32).toInt = 0 := by decide
                        have A541 := ((eh538.2.1 143 (by decide)).trans ((eh533.2.1 143 (by decide)).trans ((eh527.2.1 143 (xk_nc mpt498 rfl)).trans ((eh523.2.1 143 (xk_nc mpt498 rfl)).trans ((eh519.2.1 143 (xk_nc mpt498 rfl)).trans ((eh515.2.1 143 (xk_nc mpt498 rfl)).trans ((eh511.2.1 143 (xk_nc mpt498 rfl)).trans A352)))))))
                        have A542 := ((eh538.2.1 146 (by decide)).trans ((eh533.2.1 146 (by decide)).trans ((eh527.2.1 146 (xk_nc mpt498 rfl)).trans ((eh523.2.1 146 (xk_nc mpt498 rfl)).trans ((eh519.2.1 146 (xk_nc mpt498 rfl)).trans ((eh515.2.1 146 (xk_nc mpt498 rfl)).trans ((eh511.2.1 146 (xk_nc mpt498 rfl)).trans A353)))))))
                        have A543 := ((eh538.2.1 147 (by decide)).trans ((eh533.2.1 147 (by decide)).trans ((eh527.2.1 147 (xk_nc mpt498 rfl)).trans ((eh523.2.1 147 (xk_nc mpt498 rfl)).trans ((eh519.2.1 147 (xk_nc mpt498 rfl)).trans ((eh515.2.1 147 (xk_nc mpt498 rfl)).trans ((eh511.2.1 147 (xk_nc mpt498 rfl)).trans A354)))))))
                        refine tr_lp hJ hov1 hov2 (d := 97) K540.1 (xra_mk A541 (xrp_of hy352)) (xra_mk A542 (xrp_of hy353)) (xra_mk A543 (xrp_of hy354)) (xfi_mk eh538.1 rfl rfl) (by omega) (by omega) (by omega) (fun hx hh544 K545 => ?_) (fun hx lv9 hS => ?_) 21 0 (by omega) xov_0 (by omega)
                        · exact absurd ⟨by omega, hx⟩ hov
                        · refine xw_lv hS ?_
                          show xw J ov 99 61 (94, [(0, .ref 115), (1, .int a19), (2, .int a21), (3, .int a23), (4, .int a25), (5, .int a27)], [], hh539) _
                          refine xi_iload_n (pc' := 95) (x := a23) kc_61_94 rfl rfl ?_
                          refine xi_iff (pc' := 98) kc_61_95 rfl (xc_lt_f (X := a23.toInt) (Y := 0) rfl (by decide) (by omega)) ?_
                          refine xi_iload (pc' := 100) (x := a25) kc_61_98 rfl rfl ?_
                          refine xi_aload_n (pc' := 101) (x := 115) kc_61_100 rfl rfl ?_
                          refine xi_getfield (pc' := 104) (v := .int u2) kc_61_101 rfl rfl rfl eh538.1 rfl ?_
                          refine xi_cmf (pc' := 107) kc_61_104 rfl (xc_lt_f (X := a25.toInt) (Y := u2.toInt) rfl rfl (by omega)) ?_
                          refine xi_iload (pc' := 109) (x := a27) kc_61_107 rfl rfl ?_
                          refine xi_iload (pc' := 111) (x := a25) kc_61_109 rfl rfl ?_
                          refine xi_cmt (pc' := 121) kc_61_111 rfl (xc_gt_t (X := a27.toInt) (Y := a25.toInt) rfl rfl (by omega)) ?_
                          refine xi_iload (pc' := 123) (x := a27) kc_61_121 rfl rfl ?_
                          refine xi_sipush (pc' := 126) (v := 600) kc_61_123 rfl rfl ?_
                          refine xi_cmf (pc' := 129) kc_61_126 rfl (xc_gt_f (X := a27.toInt) (Y := 600) rfl (by decide) (by omega)) ?_
                          refine xi_iload_n (pc' := 130) (x := a23) kc_61_129 rfl rfl ?_
                          refine xi_bipush (pc' := 132) (v := 50) kc_61_130 rfl rfl ?_
                          refine xi_cmf (pc' := 135) kc_61_132 rfl (xc_gt_f (X := a23.toInt) (Y := 50) rfl (by decide) (by omega)) ?_
                          refine xi_aload_n (pc' := 136) (x := 115) kc_61_135 rfl rfl ?_
                          refine xi_getfield (pc' := 139) (v := .int u1) kc_61_136 rfl rfl rfl eh538.1 rfl ?_
                          refine xi_bipush (pc' := 141) (v := 20) kc_61_139 rfl rfl ?_
                          refine xi_cmt (pc' := 151) kc_61_141 rfl (xc_ne_t (X := u1.toInt) (Y := 20) rfl (by decide) (by omega)) ?_
                          refine xi_aload_n (pc' := 152) (x := 115) kc_61_151 rfl rfl ?_
                          refine xi_getfield (pc' := 155) (v := .ref 143) kc_61_152 rfl rfl rfl eh538.1 rfl ?_
                          refine xi_aload_n (pc' := 156) (x := 115) kc_61_155 rfl rfl ?_
                          refine xi_getfield (pc' := 159) (v := .int u1) kc_61_156 rfl rfl rfl eh538.1 rfl ?_
                          refine xi_iload_n (pc' := 160) (x := a19) kc_61_159 rfl rfl ?_
                          obtain ⟨y546, s546, hy546, ry546⟩ := xj_set (v := a19) hy352 ry352 u1 (by first | omega | decide) (by first | omega | decide)
                          refine xi_iastore (pc' := 161) (x' := y546) kc_61_160 rfl A541 rfl (xi_in (by omega) (by rw [hy352]; omega)) s546 (fun hh546 eh546 => ?_)
                          have K547 := xk_pa K540 (xk_wa (by decide +kernel)) xD_143 hy546 ry546 eh546
                          refine xi_aload_n (pc' := 162) (x := 115) kc_61_161 rfl rfl ?_
                          have A548 := ((eh546.2.1 115 (by decide)).trans eh538.1)
                          refine xi_getfield (pc' := 165) (v := .ref 144) kc_61_162 rfl rfl rfl A548 rfl ?_
                          refine xi_aload_n (pc' := 166) (x := 115) kc_61_165 rfl rfl ?_
                          refine xi_getfield (pc' := 169) (v := .int u1) kc_61_166 rfl rfl rfl A548 rfl ?_
                          refine xi_iload_n (pc' := 170) (x := a21) kc_61_169 rfl rfl ?_
                          obtain ⟨y549, A549, hy549, ry549⟩ := xk_arr K.1 xD_144
                          have A550 := ((eh546.2.1 144 (by decide)).trans ((eh538.2.1 144 (by decide)).trans ((eh533.2.1 144 (by decide)).trans ((eh527.2.1 144 (xk_nc mpt498 rfl)).trans ((eh523.2.1 144 (xk_nc mpt498 rfl)).trans ((eh519.2.1 144 (xk_nc mpt498 rfl)).trans ((eh515.2.1 144 (xk_nc mpt498 rfl)).trans ((eh511.2.1 144 (xk_nc mpt498 rfl)).trans A549))))))))
                          obtain ⟨y551, s551, hy551, ry551⟩ := xj_set (v := a21) hy549 ry549 u1 (by first | omega | decide) (by first | omega | decide)
                          refine xi_iastore (pc' := 171) (x' := y551) kc_61_170 rfl A550 rfl (xi_in (by omega) (by rw [hy549]; omega)) s551 (fun hh551 eh551 => ?_)
                          have K552 := xk_pa K547 (xk_wa (by decide +kernel)) xD_144 hy551 ry551 eh551
                          refine xi_aload_n (pc' := 172) (x := 115) kc_61_171 rfl rfl ?_
                          have A553 := ((eh551.2.1 115 (by decide)).trans A548)
                          refine xi_getfield (pc' := 175) (v := .ref 145) kc_61_172 rfl rfl rfl A553 rfl ?_
                          refine xi_aload_n (pc' := 176) (x := 115) kc_61_175 rfl rfl ?_
                          refine xi_getfield (pc' := 179) (v := .int u1) kc_61_176 rfl rfl rfl A553 rfl ?_
                          refine xi_iload_n (pc' := 180) (x := a23) kc_61_179 rfl rfl ?_
                          obtain ⟨y554, A554, hy554, ry554⟩ := xk_arr K.1 xD_145
                          have A555 := ((eh551.2.1 145 (by decide)).trans ((eh546.2.1 145 (by decide)).trans ((eh538.2.1 145 (by decide)).trans ((eh533.2.1 145 (by decide)).trans ((eh527.2.1 145 (xk_nc mpt498 rfl)).trans ((eh523.2.1 145 (xk_nc mpt498 rfl)).trans ((eh519.2.1 145 (xk_nc mpt498 rfl)).trans ((eh515.2.1 145 (xk_nc mpt498 rfl)).trans ((eh511.2.1 145 (xk_nc mpt498 rfl)).trans A554)))))))))
                          obtain ⟨y556, s556, hy556, ry556⟩ := xj_set (v := a23) hy554 ry554 u1 (by first | omega | decide) (by first | omega | decide)
                          refine xi_iastore (pc' := 181) (x' := y556) kc_61_180 rfl A555 rfl (xi_in (by omega) (by rw [hy554]; omega)) s556 (fun hh556 eh556 => ?_)
                          have K557 := xk_pa K552 (xk_wa (by decide +kernel)) xD_145 hy556 ry556 eh556
                          refine xi_aload_n (pc' := 182) (x := 115) kc_61_181 rfl rfl ?_
                          have A558 := ((eh556.2.1 115 (by decide)).trans A553)
                          refine xi_getfield (pc' := 185) (v := .ref 146) kc_61_182 rfl rfl rfl A558 rfl ?_
                          refine xi_aload_n (pc' := 186) (x := 115) kc_61_185 rfl rfl ?_
                          refine xi_getfield (pc' := 189) (v := .int u1) kc_61_186 rfl rfl rfl A558 rfl ?_
                          refine xi_iload (pc' := 191) (x := a25) kc_61_189 rfl rfl ?_
                          have t559 : 0 ≤ a25.toInt ∧ a25.toInt ≤ 600 := by omega
                          have A560 := ((eh556.2.1 146 (by decide)).trans ((eh551.2.1 146 (by decide)).trans ((eh546.2.1 146 (by decide)).trans A542)))
                          obtain ⟨y561, s561, hy561, ry561⟩ := xj_set (v := a25) hy353 ry353 u1 (by first | omega | decide) (by first | omega | decide)
                          refine xi_iastore (pc' := 192) (x' := y561) kc_61_191 rfl A560 rfl (xi_in (by omega) (by rw [hy353]; omega)) s561 (fun hh561 eh561 => ?_)
                          have K562 := xk_pa K557 (xk_wa (by decide +kernel)) xD_146 hy561 ry561 eh561
                          refine xi_aload_n (pc' := 193) (x := 115) kc_61_192 rfl rfl ?_
                          have A563 := ((eh561.2.1 115 (by decide)).trans A558)
                          refine xi_getfield (pc' := 196) (v := .ref 147) kc_61_193 rfl rfl rfl A563 rfl ?_
                          refine xi_aload_n (pc' := 197) (x := 115) kc_61_196 rfl rfl ?_
                          refine xi_getfield (pc' := 200) (v := .int u1) kc_61_197 rfl rfl rfl A563 rfl ?_
                          refine xi_iload (pc' := 202) (x := a27) kc_61_200 rfl rfl ?_
                          have t564 : 0 ≤ a27.toInt ∧ a27.toInt ≤ 600 := by omega
                          have A565 := ((eh561.2.1 147 (by decide)).trans ((eh556.2.1 147 (by decide)).trans ((eh551.2.1 147 (by decide)).trans ((eh546.2.1 147 (by decide)).trans A543))))
                          obtain ⟨y566, s566, hy566, ry566⟩ := xj_set (v := a27) hy354 ry354 u1 (by first | omega | decide) (by first | omega | decide)
                          refine xi_iastore (pc' := 203) (x' := y566) kc_61_202 rfl A565 rfl (xi_in (by omega) (by rw [hy354]; omega)) s566 (fun hh566 eh566 => ?_)
                          have K567 := xk_pa K562 (xk_wa (by decide +kernel)) xD_147 hy566 ry566 eh566
                          refine xi_aload_n (pc' := 204) (x := 115) kc_61_203 rfl rfl ?_
                          refine xi_dup (pc' := 205) kc_61_204 rfl rfl ?_
                          have A568 := ((eh566.2.1 115 (by decide)).trans A563)
                          refine xi_getfield (pc' := 208) (v := .int u1) kc_61_205 rfl rfl rfl A568 rfl ?_
                          refine xi_iconst (pc' := 209) (v := 1) kc_61_208 rfl rfl ?_
                          refine xi_iadd (pc' := 210) (v := v532) kc_61_209 rfl ev532 ?_
                          refine xi_putfield (pc' := 213) (fs' := [.int 0, .int u2, .ref 116, .ref 117, .ref 118, .ref 119, .ref 120, .ref 121, .ref 122, .ref 123, .ref 124, .ref 125, .ref 126, .ref 127, .ref 128, .ref 129, .int u6, .ref 130, .int u7, .ref 131, .ref 132, .ref 133, .ref 134, .int u8, .ref 135, .ref 136, .ref 137, .ref 138, .ref 139, .ref 140, .ref 141, .ref 142, .int u9, .int u10, .int v532, .ref 143, .ref 144, .ref 145, .ref 146, .ref 147, .ref 148, .int u12, .ref 149, .ref 150, .ref 151, .int u13, .ref 152, .ref 153, .ref 154, .ref 155, .ref 156, .ref 157, .ref 158, .ref 159, .int u14, .ref 160, .int u15, .ref 161, .ref 162, .ref 163, .ref 164, .int u16, .ref 165, .ref 166]) kc_61_210 rfl rfl rfl A568 rfl rfl rfl (Nat.le_of_ble_eq_true rfl) rfl (fun hh570 eh569 => ?_)
                          have K571 := xk_pf (k := 34) (v := v532) K567 (xk_wf (by decide +kernel)) xD_115 A568 rfl (by first | omega | decide) (by first | omega | decide) eh569 rfl
                          refine xi_aload_n (pc' := 214) (x := 115) kc_61_213 rfl rfl ?_
                          refine xi_getfield (pc' := 217) (v := .int v532) kc_61_214 rfl rfl rfl eh569.1 rfl ?_
                          refine xi_iconst (pc' := 218) (v := 1) kc_61_217 rfl rfl ?_
                          refine xi_isub (pc' := 219) (v := v536) kc_61_218 rfl ev536 ?_
                          refine xi_ireturn kc_61_219 mr_61 rfl ?_
                          show xw J ov 100 195 (1091, [(4, .int x4), (3, .ref 167), (2, .ref 115), (1, .ref 0), (0, .ref 1000000)], [.int v536], hh570) _
                          refine xi_pop (pc' := 1092) kc_195_1091 rfl rfl ?_
                          refine xi_goto (pc' := 1501) kc_195_1092 rfl ?_
                          obtain ⟨v572, ev572⟩ : ∃ q : Int32, x4 + 6 = q := ⟨_, rfl⟩
                          have zv572 : v572.toInt = (x4.toInt + 6) := by rw [← ev572]; exact (xz_add (X := x4.toInt) (Y := 6) rfl (by decide) (by omega) (by omega)).trans (by omega)
                          refine xi_iinc (pc' := 1504) (x := x4) (v := v572) (lv' := [(4, .int v572), (3, .ref 167), (2, .ref 115), (1, .ref 0), (0, .ref 1000000)]) kc_195_1501 rfl rfl ev572 rfl (xm_lt ml_195 rfl) ?_
                          refine xi_goto (pc' := 23) kc_195_1504 rfl ?_
                          have A573 := ((eh569.2.1 0 (by decide)).trans ((eh566.2.1 0 (by decide)).trans ((eh561.2.1 0 (by decide)).trans ((eh556.2.1 0 (by decide)).trans ((eh551.2.1 0 (by decide)).trans ((eh546.2.1 0 (by decide)).trans ((eh538.2.1 0 (by decide)).trans eh533.1)))))))
                          have A574 := ((eh569.2.1 pt498 (Ne.symm (xk_nc mpt498 rfl))).trans ((eh566.2.1 pt498 (Ne.symm (xk_nc mpt498 rfl))).trans ((eh561.2.1 pt498 (Ne.symm (xk_nc mpt498 rfl))).trans ((eh556.2.1 pt498 (Ne.symm (xk_nc mpt498 rfl))).trans ((eh551.2.1 pt498 (Ne.symm (xk_nc mpt498 rfl))).trans ((eh546.2.1 pt498 (Ne.symm (xk_nc mpt498 rfl))).trans ((eh538.2.1 pt498 (Ne.symm (xk_nc mpt498 rfl))).trans ((eh533.2.1 pt498 (Ne.symm (xk_nc mpt498 rfl))).trans eh527.1))))))))
                          have A575 := ((eh569.2.1 143 (by decide)).trans ((eh566.2.1 143 (by decide)).trans ((eh561.2.1 143 (by decide)).trans ((eh556.2.1 143 (by decide)).trans ((eh551.2.1 143 (by decide)).trans eh546.1)))))
                          have A576 := ((eh569.2.1 146 (by decide)).trans ((eh566.2.1 146 (by decide)).trans eh561.1))
                          have A577 := ((eh569.2.1 147 (by decide)).trans eh566.1)
                          have zc0 : (0 : Int32).toInt = 0 := by decide
                          have zc1 : (1 : Int32).toInt = 1 := by decide
                          have zc2 : (2 : Int32).toInt = 2 := by decide
                          obtain ⟨tq, tu, ka, va, n9, ta, tb, tc, td, te, tf⟩ := ITS
                          have hn9 : (u1 : Int32).toInt = n9 := xfi_ld te A17 rfl
                          have qn9 := xj_tn (i := u1) (by omega)
                          have g1 := xgf_set (Lo := [some 95, some 96, some 97, some 98, some 99, some 100, some 101, some 102, some 103, some 104, some 105, some 106, some 107, some 108, some 109, some 110, some 111, some 112, some 113, some 114]) (h' := hh570) ta xGd_trial rfl ept498 (by omega) (by show _ < ((20 : Nat) : Int); omega) A574 rfl (fun c hc hne => ((eh569.2.1 c (Ne.symm (xk_nc hc rfl))).trans ((eh566.2.1 c (Ne.symm (xk_nc hc rfl))).trans ((eh561.2.1 c (Ne.symm (xk_nc hc rfl))).trans ((eh556.2.1 c (Ne.symm (xk_nc hc rfl))).trans ((eh551.2.1 c (Ne.symm (xk_nc hc rfl))).trans ((eh546.2.1 c (Ne.symm (xk_nc hc rfl))).trans ((eh538.2.1 c (Ne.symm (xk_nc hc rfl))).trans ((eh533.2.1 c (Ne.symm (xk_nc hc rfl))).trans ((eh527.2.1 c hne).trans ((eh523.2.1 c hne).trans ((eh519.2.1 c hne).trans ((eh515.2.1 c hne).trans (eh511.2.1 c hne))))))))))))))
                          have g2 := xgf_set (Lo := [some 95, some 96, some 97, some 98, some 99, some 100, some 101, some 102, some 103, some 104, some 105, some 106, some 107, some 108, some 109, some 110, some 111, some 112, some 113, some 114]) (h' := hh570) tb xGd_trial rfl ept498 (by omega) (by show _ < ((20 : Nat) : Int); omega) A574 rfl (fun c hc hne => ((eh569.2.1 c (Ne.symm (xk_nc hc rfl))).trans ((eh566.2.1 c (Ne.symm (xk_nc hc rfl))).trans ((eh561.2.1 c (Ne.symm (xk_nc hc rfl))).trans ((eh556.2.1 c (Ne.symm (xk_nc hc rfl))).trans ((eh551.2.1 c (Ne.symm (xk_nc hc rfl))).trans ((eh546.2.1 c (Ne.symm (xk_nc hc rfl))).trans ((eh538.2.1 c (Ne.symm (xk_nc hc rfl))).trans ((eh533.2.1 c (Ne.symm (xk_nc hc rfl))).trans ((eh527.2.1 c hne).trans ((eh523.2.1 c hne).trans ((eh519.2.1 c hne).trans ((eh515.2.1 c hne).trans (eh511.2.1 c hne))))))))))))))
                          have A578 := ((eh569.2.1 144 (by decide)).trans ((eh566.2.1 144 (by decide)).trans ((eh561.2.1 144 (by decide)).trans ((eh556.2.1 144 (by decide)).trans eh551.1))))
                          have g3 := xra_mk A578 (xrp_set (xra_ld tc A549) s551)
                          have A579 := ((eh569.2.1 145 (by decide)).trans ((eh566.2.1 145 (by decide)).trans ((eh561.2.1 145 (by decide)).trans eh556.1)))
                          have g4 := xra_mk A579 (xrp_set (xra_ld td A554) s556)
                          have g5 : xfi hh570 115 34 (v532 : Int32).toInt := xfi_mk eh569.1 rfl rfl
                          exact kk v572 hh570 (by omega) K571 ⟨((xl_of A573 rfl).trans (xl_of eh569.1 rfl).symm), (xWW_fr I.2.1 (K571.2.1 (64, 0) (by decide +kernel)) (K571.2.1 (121, 0) (by decide +kernel))), (xSG_fr I.2.2.1 (fun l hl => K571.2.1 l (xk_el (by decide +kernel) hl))), (by rw [(K571.2.1 (13, 0) (by decide +kernel)), (K571.2.1 (122, 0) (by decide +kernel))]; exact I.2.2.2.1), (by rw [(K571.2.1 (16, 0) (by decide +kernel)), (K571.2.1 (122, 0) (by decide +kernel))]; exact I.2.2.2.2.1), (by rw [(K571.2.1 (19, 0) (by decide +kernel)), (K571.2.1 (122, 0) (by decide +kernel))]; exact I.2.2.2.2.2.1), (by rw [(K571.2.1 (22, 0) (by decide +kernel)), (K571.2.1 (122, 0) (by decide +kernel))]; exact I.2.2.2.2.2.2.1), (by rw [(K571.2.1 (25, 0) (by decide +kernel)), (K571.2.1 (122, 0) (by decide +kernel))]; exact I.2.2.2.2.2.2.2.1), (by rw [(K571.2.1 (28, 0) (by decide +kernel)), (K571.2.1 (122, 0) (by decide +kernel))]; exact I.2.2.2.2.2.2.2.2.1), (by rw [(K571.2.1 (6, 0) (by decide +kernel)), (K571.2.1 (123, 0) (by decide +kernel))]; exact I.2.2.2.2.2.2.2.2.2.1), (by rw [(K571.2.1 (9, 0) (by decide +kernel)), (K571.2.1 (124, 0) (by decide +kernel))]; exact I.2.2.2.2.2.2.2.2.2.2.1), (by rw [(K571.2.1 (7, 0) (by decide +kernel)), (K571.2.1 (6, 0) (by decide +kernel))]; exact I.2.2.2.2.2.2.2.2.2.2.2.1), (by rw [(K571.2.1 (10, 0) (by decide +kernel)), (K571.2.1 (9, 0) (by decide +kernel))]; exact I.2.2.2.2.2.2.2.2.2.2.2.2.1), ((K571.2.1 (5, 0) (by decide +kernel)).trans I.2.2.2.2.2.2.2.2.2.2.2.2.2.1), ((K571.2.1 (8, 0) (by decide +kernel)).trans I.2.2.2.2.2.2.2.2.2.2.2.2.2.2.1), (xGR_fr I.2.2.2.2.2.2.2.2.2.2.2.2.2.2.2.1 K571.2.1 (by decide +kernel) (by decide +kernel)), (xGR_fr I.2.2.2.2.2.2.2.2.2.2.2.2.2.2.2.2.1 K571.2.1 (by decide +kernel) (by decide +kernel)), ((K571.2.1 (1, 5) (by decide +kernel)).trans (I.2.2.2.2.2.2.2.2.2.2.2.2.2.2.2.2.2.1.trans (K571.2.1 (115, 23) (by decide +kernel)).symm)), (xGR_fr I.2.2.2.2.2.2.2.2.2.2.2.2.2.2.2.2.2.2.1 K571.2.1 (by decide +kernel) (by decide +kernel)), (xGR_fr I.2.2.2.2.2.2.2.2.2.2.2.2.2.2.2.2.2.2.2.1 K571.2.1 (by decide +kernel) (by decide +kernel)), (xGR_fr I.2.2.2.2.2.2.2.2.2.2.2.2.2.2.2.2.2.2.2.2.1 K571.2.1 (by decide +kernel) (by decide +kernel)), (xGR_fr I.2.2.2.2.2.2.2.2.2.2.2.2.2.2.2.2.2.2.2.2.2.1 K571.2.1 (by decide +kernel) (by decide +kernel)), (by rw [(K571.2.1 (63, 2) (by decide +kernel)), (K571.2.1 (139, 0) (by decide +kernel)), (K571.2.1 (1, 5) (by decide +kernel))]; exact I.2.2.2.2.2.2.2.2.2.2.2.2.2.2.2.2.2.2.2.2.2.2.1), ((xl_of A573 rfl).trans (xl_of eh569.1 rfl).symm), (xGR_set (Lo := [some 95, some 96, some 97, some 98, some 99, some 100, some 101, some 102, some 103, some 104, some 105, some 106, some 107, some 108, some 109, some 110, some 111, some 112, some 113, some 114]) I.2.2.2.2.2.2.2.2.2.2.2.2.2.2.2.2.2.2.2.2.2.2.2.2.1 (by decide) rfl ept498 (by omega) (by show _ < ((20 : Nat) : Int); omega) A352 (by rw [hy352]; decide) A574 rfl A575 s546 (fun c hc hne => ((eh569.2.1 c (Ne.symm (xk_nc hc rfl))).trans ((eh566.2.1 c (Ne.symm (xk_nc hc rfl))).trans ((eh561.2.1 c (Ne.symm (xk_nc hc rfl))).trans ((eh556.2.1 c (Ne.symm (xk_nc hc rfl))).trans ((eh551.2.1 c (Ne.symm (xk_nc hc rfl))).trans ((eh546.2.1 c (Ne.symm (xk_nc hc rfl))).trans ((eh538.2.1 c (Ne.symm (xk_nc hc rfl))).trans ((eh533.2.1 c (Ne.symm (xk_nc hc rfl))).trans ((eh527.2.1 c hne).trans ((eh523.2.1 c hne).trans ((eh519.2.1 c hne).trans ((eh515.2.1 c hne).trans (eh511.2.1 c hne))))))))))))))), (xGR_set (Lo := [some 95, some 96, some 97, some 98, some 99, some 100, some 101, some 102, some 103, some 104, some 105, some 106, some 107, some 108, some 109, some 110, some 111, some 112, some 113, some 114]) I.2.2.2.2.2.2.2.2.2.2.2.2.2.2.2.2.2.2.2.2.2.2.2.2.2.1 (by decide) rfl ept498 (by omega) (by show _ < ((20 : Nat) : Int); omega) A353 (by rw [hy353]; decide) A574 rfl A576 s561 (fun c hc hne => ((eh569.2.1 c (Ne.symm (xk_nc hc rfl))).trans ((eh566.2.1 c (Ne.symm (xk_nc hc rfl))).trans ((eh561.2.1 c (Ne.symm (xk_nc hc rfl))).trans ((eh556.2.1 c (Ne.symm (xk_nc hc rfl))).trans ((eh551.2.1 c (Ne.symm (xk_nc hc rfl))).trans ((eh546.2.1 c (Ne.symm (xk_nc hc rfl))).trans ((eh538.2.1 c (Ne.symm (xk_nc hc rfl))).trans ((eh533.2.1 c (Ne.symm (xk_nc hc rfl))).trans ((eh527.2.1 c hne).trans ((eh523.2.1 c hne).trans ((eh519.2.1 c hne).trans ((eh515.2.1 c hne).trans (eh511.2.1 c hne))))))))))))))), (xGR_set (Lo := [some 95, some 96, some 97, some 98, some 99, some 100, some 101, some 102, some 103, some 104, some 105, some 106, some 107, some 108, some 109, some 110, some 111, some 112, some 113, some 114]) I.2.2.2.2.2.2.2.2.2.2.2.2.2.2.2.2.2.2.2.2.2.2.2.2.2.2.1 (by decide) rfl ept498 (by omega) (by show _ < ((20 : Nat) : Int); omega) A354 (by rw [hy354]; decide) A574 rfl A577 s566 (fun c hc hne => ((eh569.2.1 c (Ne.symm (xk_nc hc rfl))).trans ((eh566.2.1 c (Ne.symm (xk_nc hc rfl))).trans ((eh561.2.1 c (Ne.symm (xk_nc hc rfl))).trans ((eh556.2.1 c (Ne.symm (xk_nc hc rfl))).trans ((eh551.2.1 c (Ne.symm (xk_nc hc rfl))).trans ((eh546.2.1 c (Ne.symm (xk_nc hc rfl))).trans ((eh538.2.1 c (Ne.symm (xk_nc hc rfl))).trans ((eh533.2.1 c (Ne.symm (xk_nc hc rfl))).trans ((eh527.2.1 c hne).trans ((eh523.2.1 c hne).trans ((eh519.2.1 c hne).trans ((eh515.2.1 c hne).trans (eh511.2.1 c hne))))))))))))))), (xGR_same I.2.2.2.2.2.2.2.2.2.2.2.2.2.2.2.2.2.2.2.2.2.2.2.2.2.2.2.1 (p := pt498) (fun c hc hne => ((eh569.2.1 c (Ne.symm (xk_nc hc rfl))).trans ((eh566.2.1 c (Ne.symm (xk_nc hc rfl))).trans ((eh561.2.1 c (Ne.symm (xk_nc hc rfl))).trans ((eh556.2.1 c (Ne.symm (xk_nc hc rfl))).trans ((eh551.2.1 c (Ne.symm (xk_nc hc rfl))).trans ((eh546.2.1 c (Ne.symm (xk_nc hc rfl))).trans ((eh538.2.1 c (Ne.symm (xk_nc hc rfl))).trans ((eh533.2.1 c (Ne.symm (xk_nc hc rfl))).trans ((eh527.2.1 c hne).trans ((eh523.2.1 c hne).trans ((eh519.2.1 c hne).trans ((eh515.2.1 c hne).trans (eh511.2.1 c hne)))))))))))))) A505 A574 rfl ((eh569.2.1 148 (by decide)).trans ((eh566.2.1 148 (by decide)).trans ((eh561.2.1 148 (by decide)).trans ((eh556.2.1 148 (by decide)).trans ((eh551.2.1 148 (by decide)).trans ((eh546.2.1 148 (by decide)).trans ((eh538.2.1 148 (by decide)).trans ((eh533.2.1 148 (by decide)).trans ((eh527.2.1 148 (xk_nc mpt498 rfl)).trans ((eh523.2.1 148 (xk_nc mpt498 rfl)).trans ((eh519.2.1 148 (xk_nc mpt498 rfl)).trans ((eh515.2.1 148 (xk_nc mpt498 rfl)).trans (eh511.2.1 148 (xk_nc mpt498 rfl))))))))))))))), ⟨_, _, _, _, _, g1, g2, g3, g4, g5, xts_add (n := n9) (N := Int32.toNatClampNeg u1) (by omega) tf (by omega) (by omega)⟩, ((K571.2.1 (63, 3) (by decide +kernel)).trans I.2.2.2.2.2.2.2.2.2.2.2.2.2.2.2.2.2.2.2.2.2.2.2.2.2.2.2.2.2)⟩
                      · refine xi_cmf (pc' := 101) kc_163_98 rfl (xc_lt_f (X := u1.toInt) (Y := 20) rfl (by decide) (by omega)) ?_
                        refine xi_aload_n (pc' := 102) (x := 0) kc_163_101 rfl rfl ?_
                        refine xi_bipush (pc' := 104) (v := (-6)) kc_163_102 rfl rfl ?_
                        refine xi_virtual (mj := 90) (as := [.int (-6)]) (st1 := []) (lv0 := [(0, .ref 0), (1, .int (-6))]) kc_163_104 rfl rfl rfl rfl rfl A3 (Nat.le_of_ble_eq_true rfl) (hJ _ _ _ _ (by decide)) (xm_le ml_90 rfl) rfl ?_
                        refine xi_iload_n (pc' := 1) (x := (-6)) kc_90_0 rfl rfl ?_
                        refine xi_ineg (pc' := 2) (v := 6) kc_90_1 rfl rfl ?_
                        refine xi_istore_n (pc' := 3) (lv' := [(2, .int 6), (0, .ref 0), (1, .int (-6))]) kc_90_2 rfl rfl (xm_lt ml_90 rfl) ?_
                        refine xi_iload_n (pc' := 4) (x := 6) kc_90_3 rfl rfl ?_
                        refine xi_iff (pc' := 7) kc_90_4 rfl rfl ?_
                        refine xi_iload_n (pc' := 8) (x := 6) kc_90_7 rfl rfl ?_
                        refine xi_aload_n (pc' := 9) (x := 0) kc_90_8 rfl rfl ?_
                        refine xi_getfield (pc' := 12) (v := .ref 94) kc_90_9 rfl rfl rfl A3 rfl ?_
                        obtain ⟨y580, A580, hy580, ry580⟩ := xk_arr K.1 xD_94
                        refine xi_arraylength (pc' := 13) (n := 7) (v := 7) kc_90_12 rfl (xl_lenI (by decide) (by decide) A580 hy580) rfl ?_
                        refine xi_cmf (pc' := 16) kc_90_13 rfl rfl ?_
                        refine xi_aload_n (pc' := 17) (x := 0) kc_90_16 rfl rfl ?_
                        refine xi_getfield (pc' := 20) (v := .ref 94) kc_90_17 rfl rfl rfl A3 rfl ?_
                        refine xi_iload_n (pc' := 21) (x := 6) kc_90_20 rfl rfl ?_
                        refine xi_dup2 (pc' := 22) kc_90_21 rfl ⟨rfl, rfl⟩ ?_
                        obtain ⟨v581, ev581, bv581, dv581⟩ := xj_get hy580 ry580 (i := 6) (by decide) (by decide)
                        refine xi_iaload (pc' := 23) (v := v581) kc_90_22 rfl A580 (by decide) rfl (xi_in (by decide) (by rw [hy580]; decide)) ev581 ?_
                        refine xi_iconst (pc' := 24) (v := 1) kc_90_23 rfl rfl ?_
                        obtain ⟨v582, ev582⟩ : ∃ q : Int32, (v581 : Int32) + 1 = q := ⟨_, rfl⟩
                        have rv582 := xc_rng v582
                        refine xi_iadd (pc' := 25) (v := v582) kc_90_24 rfl ev582 ?_
                        obtain ⟨y583, s583, hy583, ry583⟩ := xj_set (v := v582) hy580 ry580 6 (by first | omega | decide) (by first | omega | decide)
                        refine xi_iastore (pc' := 26) (x' := y583) kc_90_25 rfl A580 rfl (xi_in (by decide) (by rw [hy580]; decide)) s583 (fun hh583 eh583 => ?_)
                        have K584 := xk_pa K (xk_wa (by decide +kernel)) xD_94 hy583 ry583 eh583
                        have KR585 := xk_pa KR (xk_wa (by decide +kernel)) xD_94 hy583 ry583 eh583
                        refine xi_iload_n (pc' := 27) (x := (-6)) kc_90_26 rfl rfl ?_
                        refine xi_ireturn kc_90_27 mr_90 rfl ?_
                        show xw J ov 99 163 (107, [(0, .ref 0), (1, .int a19), (2, .int a21), (3, .int a23), (4, .int a25), (5, .int a27)], [.int (-6)], hh583) _
                        refine xi_ireturn kc_163_107 mr_163 rfl ?_
                        show xw J ov 100 195 (1056, [(4, .int x4), (3, .ref 167), (2, .ref 115), (1, .ref 0), (0, .ref 1000000)], [.int (-6)], hh583) _
                        refine xi_pop (pc' := 1057) kc_195_1056 rfl rfl ?_
                        refine xi_aload_n (pc' := 1058) (x := 115) kc_195_1057 rfl rfl ?_
                        refine xi_aload_n (pc' := 1059) (x := 1000000) kc_195_1058 rfl rfl ?_
                        refine xi_iload (pc' := 1061) (x := x4) kc_195_1059 rfl rfl ?_
                        refine xi_iconst (pc' := 1062) (v := 1) kc_195_1061 rfl rfl ?_
                        refine xi_iadd (pc' := 1063) (v := v18) kc_195_1062 rfl ev18 ?_
                        refine xi_ialoadO (pc' := 1064) (v := a19) kc_195_1063 rfl (by decide) hov0 (xi_in (by omega) (by omega)) ea19 ?_
                        refine xi_aload_n (pc' := 1065) (x := 1000000) kc_195_1064 rfl rfl ?_
                        refine xi_iload (pc' := 1067) (x := x4) kc_195_1065 rfl rfl ?_
                        refine xi_iconst (pc' := 1068) (v := 2) kc_195_1067 rfl rfl ?_
                        refine xi_iadd (pc' := 1069) (v := v20) kc_195_1068 rfl ev20 ?_
                        refine xi_ialoadO (pc' := 1070) (v := a21) kc_195_1069 rfl (by decide) hov0 (xi_in (by omega) (by omega)) ea21 ?_
                        refine xi_aload_n (pc' := 1071) (x := 1000000) kc_195_1070 rfl rfl ?_
                        refine xi_iload (pc' := 1073) (x := x4) kc_195_1071 rfl rfl ?_
                        refine xi_iconst (pc' := 1074) (v := 3) kc_195_1073 rfl rfl ?_
                        refine xi_iadd (pc' := 1075) (v := v22) kc_195_1074 rfl ev22 ?_
                        refine xi_ialoadO (pc' := 1076) (v := a23) kc_195_1075 rfl (by decide) hov0 (xi_in (by omega) (by omega)) ea23 ?_
                        refine xi_aload_n (pc' := 1077) (x := 1000000) kc_195_1076 rfl rfl ?_
                        refine xi_iload (pc' := 1079) (x := x4) kc_195_1077 rfl rfl ?_
                        refine xi_iconst (pc' := 1080) (v := 4) kc_195_1079 rfl rfl ?_
                        refine xi_iadd (pc' := 1081) (v := v24) kc_195_1080 rfl ev24 ?_
                        refine xi_ialoadO (pc' := 1082) (v := a25) kc_195_1081 rfl (by decide) hov0 (xi_in (by omega) (by omega)) ea25 ?_
                        refine xi_aload_n (pc' := 1083) (x := 1000000) kc_195_1082 rfl rfl ?_
                        refine xi_iload (pc' := 1085) (x := x4) kc_195_1083 rfl rfl ?_
                        refine xi_iconst (pc' := 1086) (v := 5) kc_195_1085 rfl rfl ?_
                        refine xi_iadd (pc' := 1087) (v := v26) kc_195_1086 rfl ev26 ?_
                        refine xi_ialoadO (pc' := 1088) (v := a27) kc_195_1087 rfl (by decide) hov0 (xi_in (by omega) (by omega)) ea27 ?_
                        have A586 := ((eh583.2.1 115 (by decide)).trans A17)
                        refine xi_virtual (mj := 61) (as := [.int a19, .int a21, .int a23, .int a25, .int a27]) (st1 := []) (lv0 := [(0, .ref 115), (1, .int a19), (2, .int a21), (3, .int a23), (4, .int a25), (5, .int a27)]) kc_195_1088 rfl rfl rfl rfl rfl A586 (Nat.le_of_ble_eq_true rfl) (hJ _ _ _ _ (by decide)) (xm_le ml_61 rfl) rfl ?_
                        refine xi_aload_n (pc' := 1) (x := 115) kc_61_0 rfl rfl ?_
                        refine xi_iconst (pc' := 2) (v := 0) kc_61_1 rfl rfl ?_
                        refine xi_putfield (pc' := 5) (fs' := [.int 0, .int u2, .ref 116, .ref 117, .ref 118, .ref 119, .ref 120, .ref 121, .ref 122, .ref 123, .ref 124, .ref 125, .ref 126, .ref 127, .ref 128, .ref 129, .int u6, .ref 130, .int u7, .ref 131, .ref 132, .ref 133, .ref 134, .int u8, .ref 135, .ref 136, .ref 137, .ref 138, .ref 139, .ref 140, .ref 141, .ref 142, .int u9, .int u10, .int u1, .ref 143, .ref 144, .ref 145, .ref 146, .ref 147, .ref 148, .int u12, .ref 149, .ref 150, .ref 151, .int u13, .ref 152, .ref 153, .ref 154, .ref 155, .ref 156, .ref 157, .ref 158, .ref 159, .int u14, .ref 160, .int u15, .ref 161, .ref 162, .ref 163, .ref 164, .int u16, .ref 165, .ref 166]) kc_61_2 rfl rfl rfl A586 rfl rfl rfl (Nat.le_of_ble_eq_true rfl) rfl (fun hh588 eh587 => ?_)
                        have K589 := xk_pf (k := 0) (v := 0) K584 (xk_wf (by decide +kernel)) xD_115 A586 rfl (by first | omega | decide) (by first | omega | decide) eh587 rfl
                        have KR590 := xk_pf (k := 0) (v := 0) KR585 (xk_wf (by decide +kernel)) xD_115 A586 rfl (by first | omega | decide) (by first | omega | decide) eh587 rfl
                        refine xi_iload_n (pc' := 6) (x := a19) kc_61_5 rfl rfl ?_
                        refine xi_static (mj := 10) (as := [.int a19]) (st1 := []) (lv0 := [(0, .int a19)]) kc_61_6 rfl rfl (Nat.le_of_ble_eq_true rfl) rfl rfl (Nat.le_of_ble_eq_true rfl) (hJ _ _ _ _ (by decide)) (xm_le ml_10 rfl) rfl ?_
                        refine xi_iload_n (pc' := 1) (x := a19) kc_10_0 rfl rfl ?_
                        refine xi_iconst (pc' := 2) (v := 0) kc_10_1 rfl rfl ?_
                        refine xi_iconst (pc' := 3) (v := 5) kc_10_2 rfl rfl ?_
                        refine xi_static (mj := 11) (as := [.int a19, .int 0, .int 5]) (st1 := []) (lv0 := [(0, .int a19), (1, .int 0), (2, .int 5)]) kc_10_3 rfl rfl (Nat.le_of_ble_eq_true rfl) rfl rfl (Nat.le_of_ble_eq_true rfl) (hJ _ _ _ _ (by decide)) (xm_le ml_11 rfl) rfl ?_
                        refine xi_iload_n (pc' := 1) (x := a19) kc_11_0 rfl rfl ?_
                        refine xi_iload_n (pc' := 2) (x := 0) kc_11_1 rfl rfl ?_
                        refine xi_cmf (pc' := 5) kc_11_2 rfl (xc_lt_f (X := a19.toInt) (Y := 0) rfl (by decide) (by omega)) ?_
                        refine xi_iload_n (pc' := 6) (x := a19) kc_11_5 rfl rfl ?_
                        refine xi_iload_n (pc' := 7) (x := 5) kc_11_6 rfl rfl ?_
                        refine xi_cmf (pc' := 10) kc_11_7 rfl (xc_gt_f (X := a19.toInt) (Y := 5) rfl (by decide) (by omega)) ?_
                        refine xi_iconst (pc' := 11) (v := 1) kc_11_10 rfl rfl ?_
                        refine xi_goto (pc' := 15) kc_11_11 rfl ?_
                        refine xi_ireturn kc_11_15 mr_11 rfl ?_
                        show xw J ov 98 10 (6, [(0, .int a19)], [.int 1], hh588) _
                        refine xi_ireturn kc_10_6 mr_10 rfl ?_
                        show xw J ov 99 61 (9, [(0, .ref 115), (1, .int a19), (2, .int a21), (3, .int a23), (4, .int a25), (5, .int a27)], [.int 1], hh588) _
                        refine xi_ift (pc' := 18) kc_61_9 rfl rfl ?_
                        refine xi_iload_n (pc' := 19) (x := a21) kc_61_18 rfl rfl ?_
                        refine xi_iconst (pc' := 20) (v := 0) kc_61_19 rfl rfl ?_
                        refine xi_iconst (pc' := 21) (v := 1) kc_61_20 rfl rfl ?_
                        refine xi_static (mj := 11) (as := [.int a21, .int 0, .int 1]) (st1 := []) (lv0 := [(0, .int a21), (1, .int 0), (2, .int 1)]) kc_61_21 rfl rfl (Nat.le_of_ble_eq_true rfl) rfl rfl (Nat.le_of_ble_eq_true rfl) (hJ _ _ _ _ (by decide)) (xm_le ml_11 rfl) rfl ?_
                        refine xi_iload_n (pc' := 1) (x := a21) kc_11_0 rfl rfl ?_
                        refine xi_iload_n (pc' := 2) (x := 0) kc_11_1 rfl rfl ?_
                        refine xi_cmf (pc' := 5) kc_11_2 rfl (xc_lt_f (X := a21.toInt) (Y := 0) rfl (by decide) (by omega)) ?_
                        refine xi_iload_n (pc' := 6) (x := a21) kc_11_5 rfl rfl ?_
                        refine xi_iload_n (pc' := 7) (x := 1) kc_11_6 rfl rfl ?_
                        refine xi_cmf (pc' := 10) kc_11_7 rfl (xc_gt_f (X := a21.toInt) (Y := 1) rfl (by decide) (by omega)) ?_
                        refine xi_iconst (pc' := 11) (v := 1) kc_11_10 rfl rfl ?_
                        refine xi_goto (pc' := 15) kc_11_11 rfl ?_
                        refine xi_ireturn kc_11_15 mr_11 rfl ?_
                        show xw J ov 99 61 (24, [(0, .ref 115), (1, .int a19), (2, .int a21), (3, .int a23), (4, .int a25), (5, .int a27)], [.int 1], hh588) _
                        refine xi_ift (pc' := 34) kc_61_24 rfl rfl ?_
                        refine xi_iconst (pc' := 35) (v := 0) kc_61_34 rfl rfl ?_
                        refine xi_istore (pc' := 37) (lv' := [(6, .int 0), (0, .ref 115), (1, .int a19), (2, .int a21), (3, .int a23), (4, .int a25), (5, .int a27)]) kc_61_35 rfl rfl (xm_lt ml_61 rfl) ?_
                        refine xw_lv (b := [(0, .ref 115), (1, .int a19), (2, .int a21), (3, .int a23), (4, .int a25), (5, .int a27), (6, .int 0)]) (lvS_cons (lvS_cons (lvS_cons (lvS_cons (lvS_cons (lvS_cons (lvS_cons (lvS_nil (show ([6, 0, 1, 2, 3, 4, 5] : List Nat).Nodup by decide)) rfl) rfl) rfl) rfl) rfl) rfl) rfl) ?_
                        have zc0 : (0 : Int32).toInt = 0 := by decide
                        have A591 := ((eh587.2.1 143 (by decide)).trans ((eh583.2.1 143 (by decide)).trans A352))
                        have A592 := ((eh587.2.1 146 (by decide)).trans ((eh583.2.1 146 (by decide)).trans A353))
                        have A593 := ((eh587.2.1 147 (by decide)).trans ((eh583.2.1 147 (by decide)).trans A354))
                        refine tr_lp hJ hov1 hov2 (d := 97) K589.1 (xra_mk A591 (xrp_of hy352)) (xra_mk A592 (xrp_of hy353)) (xra_mk A593 (xrp_of hy354)) (xfi_mk eh587.1 rfl rfl) (by omega) (by omega) (by omega) (fun hx hh594 K595 => ?_) (fun hx lv9 hS => ?_) 21 0 (by omega) xov_0 (by omega)
                        · have KR596 := xk_tr KR590 K595 (by decide +kernel)
                          have K597 := xk_tr K589 K595 (xsb_ok _ _ (by decide +kernel))
                          show xw J ov 100 195 (1091, [(4, .int x4), (3, .ref 167), (2, .ref 115), (1, .ref 0), (0, .ref 1000000)], [.int (-3)], hh594) _
                          refine xi_pop (pc' := 1092) kc_195_1091 rfl rfl ?_
                          refine xi_goto (pc' := 1501) kc_195_1092 rfl ?_
                          obtain ⟨v598, ev598⟩ : ∃ q : Int32, x4 + 6 = q := ⟨_, rfl⟩
                          have zv598 : v598.toInt = (x4.toInt + 6) := by rw [← ev598]; exact (xz_add (X := x4.toInt) (Y := 6) rfl (by decide) (by omega) (by omega)).trans (by omega)
                          refine xi_iinc (pc' := 1504) (x := x4) (v := v598) (lv' := [(4, .int v598), (3, .ref 167), (2, .ref 115), (1, .ref 0), (0, .ref 1000000)]) kc_195_1501 rfl rfl ev598 rfl (xm_lt ml_195 rfl) ?_
                          refine xi_goto (pc' := 23) kc_195_1504 rfl ?_
                          exact kk v598 hh594 (by omega) K597 (xI_kept I KR596.2.1)
                        · refine xw_lv hS ?_
                          show xw J ov 99 61 (94, [(0, .ref 115), (1, .int a19), (2, .int a21), (3, .int a23), (4, .int a25), (5, .int a27)], [], hh588) _
                          refine xi_iload_n (pc' := 95) (x := a23) kc_61_94 rfl rfl ?_
                          refine xi_iff (pc' := 98) kc_61_95 rfl (xc_lt_f (X := a23.toInt) (Y := 0) rfl (by decide) (by omega)) ?_
                          refine xi_iload (pc' := 100) (x := a25) kc_61_98 rfl rfl ?_
                          refine xi_aload_n (pc' := 101) (x := 115) kc_61_100 rfl rfl ?_
                          refine xi_getfield (pc' := 104) (v := .int u2) kc_61_101 rfl rfl rfl eh587.1 rfl ?_
                          refine xi_cmf (pc' := 107) kc_61_104 rfl (xc_lt_f (X := a25.toInt) (Y := u2.toInt) rfl rfl (by omega)) ?_
                          refine xi_iload (pc' := 109) (x := a27) kc_61_107 rfl rfl ?_
                          refine xi_iload (pc' := 111) (x := a25) kc_61_109 rfl rfl ?_
                          refine xi_cmt (pc' := 121) kc_61_111 rfl (xc_gt_t (X := a27.toInt) (Y := a25.toInt) rfl rfl (by omega)) ?_
                          refine xi_iload (pc' := 123) (x := a27) kc_61_121 rfl rfl ?_
                          refine xi_sipush (pc' := 126) (v := 600) kc_61_123 rfl rfl ?_
                          refine xi_cmf (pc' := 129) kc_61_126 rfl (xc_gt_f (X := a27.toInt) (Y := 600) rfl (by decide) (by omega)) ?_
                          refine xi_iload_n (pc' := 130) (x := a23) kc_61_129 rfl rfl ?_
                          refine xi_bipush (pc' := 132) (v := 50) kc_61_130 rfl rfl ?_
                          refine xi_cmf (pc' := 135) kc_61_132 rfl (xc_gt_f (X := a23.toInt) (Y := 50) rfl (by decide) (by omega)) ?_
                          refine xi_aload_n (pc' := 136) (x := 115) kc_61_135 rfl rfl ?_
                          refine xi_getfield (pc' := 139) (v := .int u1) kc_61_136 rfl rfl rfl eh587.1 rfl ?_
                          refine xi_bipush (pc' := 141) (v := 20) kc_61_139 rfl rfl ?_
                          refine xi_cmf (pc' := 144) kc_61_141 rfl (xc_ne_f (X := u1.toInt) (Y := 20) rfl (by decide) (by omega)) ?_
                          refine xi_aload_n (pc' := 145) (x := 115) kc_61_144 rfl rfl ?_
                          refine xi_bipush (pc' := 147) (v := (-6)) kc_61_145 rfl rfl ?_
                          refine xi_virtual (mj := 12) (as := [.int (-6)]) (st1 := []) (lv0 := [(0, .ref 115), (1, .int (-6))]) kc_61_147 rfl rfl rfl rfl rfl eh587.1 (Nat.le_of_ble_eq_true rfl) (hJ _ _ _ _ (by decide)) (xm_le ml_12 rfl) rfl ?_
                          refine xi_aload_n (pc' := 1) (x := 115) kc_12_0 rfl rfl ?_
                          refine xi_getfield (pc' := 4) (v := .ref 140) kc_12_1 rfl rfl rfl eh587.1 rfl ?_
                          refine xi_iload_n (pc' := 5) (x := (-6)) kc_12_4 rfl rfl ?_
                          refine xi_ineg (pc' := 6) (v := 6) kc_12_5 rfl rfl ?_
                          refine xi_dup2 (pc' := 7) kc_12_6 rfl ⟨rfl, rfl⟩ ?_
                          obtain ⟨y599, A599, hy599, ry599⟩ := xk_arr K.1 xD_140
                          obtain ⟨v600, ev600, bv600, dv600⟩ := xj_get hy599 ry599 (i := 6) (by decide) (by decide)
                          have A601 := ((eh587.2.1 140 (by decide)).trans ((eh583.2.1 140 (by decide)).trans A599))
                          refine xi_iaload (pc' := 8) (v := v600) kc_12_7 rfl A601 (by decide) rfl (xi_in (by decide) (by rw [hy599]; decide)) ev600 ?_
                          refine xi_iconst (pc' := 9) (v := 1) kc_12_8 rfl rfl ?_
                          obtain ⟨v602, ev602⟩ : ∃ q : Int32, (v600 : Int32) + 1 = q := ⟨_, rfl⟩
                          have rv602 := xc_rng v602
                          refine xi_iadd (pc' := 10) (v := v602) kc_12_9 rfl ev602 ?_
                          obtain ⟨y603, s603, hy603, ry603⟩ := xj_set (v := v602) hy599 ry599 6 (by first | omega | decide) (by first | omega | decide)
                          refine xi_iastore (pc' := 11) (x' := y603) kc_12_10 rfl A601 rfl (xi_in (by decide) (by rw [hy599]; decide)) s603 (fun hh603 eh603 => ?_)
                          have K604 := xk_pa K589 (xk_wa (by decide +kernel)) xD_140 hy603 ry603 eh603
                          have KR605 := xk_pa KR590 (xk_wa (by decide +kernel)) xD_140 hy603 ry603 eh603
                          refine xi_iload_n (pc' := 12) (x := (-6)) kc_12_11 rfl rfl ?_
                          refine xi_ireturn kc_12_12 mr_12 rfl ?_
                          show xw J ov 99 61 (150, [(0, .ref 115), (1, .int a19), (2, .int a21), (3, .int a23), (4, .int a25), (5, .int a27)], [.int (-6)], hh603) _
                          refine xi_ireturn kc_61_150 mr_61 rfl ?_
                          show xw J ov 100 195 (1091, [(4, .int x4), (3, .ref 167), (2, .ref 115), (1, .ref 0), (0, .ref 1000000)], [.int (-6)], hh603) _
                          refine xi_pop (pc' := 1092) kc_195_1091 rfl rfl ?_
                          refine xi_goto (pc' := 1501) kc_195_1092 rfl ?_
                          obtain ⟨v606, ev606⟩ : ∃ q : Int32, x4 + 6 = q := ⟨_, rfl⟩
                          have zv606 : v606.toInt = (x4.toInt + 6) := by rw [← ev606]; exact (xz_add (X := x4.toInt) (Y := 6) rfl (by decide) (by omega) (by omega)).trans (by omega)
                          refine xi_iinc (pc' := 1504) (x := x4) (v := v606) (lv' := [(4, .int v606), (3, .ref 167), (2, .ref 115), (1, .ref 0), (0, .ref 1000000)]) kc_195_1501 rfl rfl ev606 rfl (xm_lt ml_195 rfl) ?_
                          refine xi_goto (pc' := 23) kc_195_1504 rfl ?_
                          exact kk v606 hh603 (by omega) K604 (xI_kept I KR605.2.1)
                · refine xi_cmf (pc' := 68) kc_163_65 rfl (xc_gt_f (X := a27.toInt) (Y := a25.toInt) rfl rfl (by omega)) ?_
                  refine xi_aload_n (pc' := 69) (x := 0) kc_163_68 rfl rfl ?_
                  refine xi_bipush (pc' := 71) (v := (-4)) kc_163_69 rfl rfl ?_
                  refine xi_virtual (mj := 90) (as := [.int (-4)]) (st1 := []) (lv0 := [(0, .ref 0), (1, .int (-4))]) kc_163_71 rfl rfl rfl rfl rfl A3 (Nat.le_of_ble_eq_true rfl) (hJ _ _ _ _ (by decide)) (xm_le ml_90 rfl) rfl ?_
                  refine xi_iload_n (pc' := 1) (x := (-4)) kc_90_0 rfl rfl ?_
                  refine xi_ineg (pc' := 2) (v := 4) kc_90_1 rfl rfl ?_
                  refine xi_istore_n (pc' := 3) (lv' := [(2, .int 4), (0, .ref 0), (1, .int (-4))]) kc_90_2 rfl rfl (xm_lt ml_90 rfl) ?_
                  refine xi_iload_n (pc' := 4) (x := 4) kc_90_3 rfl rfl ?_
                  refine xi_iff (pc' := 7) kc_90_4 rfl rfl ?_
                  refine xi_iload_n (pc' := 8) (x := 4) kc_90_7 rfl rfl ?_
                  refine xi_aload_n (pc' := 9) (x := 0) kc_90_8 rfl rfl ?_
                  refine xi_getfield (pc' := 12) (v := .ref 94) kc_90_9 rfl rfl rfl A3 rfl ?_
                  obtain ⟨y607, A607, hy607, ry607⟩ := xk_arr K.1 xD_94
                  refine xi_arraylength (pc' := 13) (n := 7) (v := 7) kc_90_12 rfl (xl_lenI (by decide) (by decide) A607 hy607) rfl ?_
                  refine xi_cmf (pc' := 16) kc_90_13 rfl rfl ?_
                  refine xi_aload_n (pc' := 17) (x := 0) kc_90_16 rfl rfl ?_
                  refine xi_getfield (pc' := 20) (v := .ref 94) kc_90_17 rfl rfl rfl A3 rfl ?_
                  refine xi_iload_n (pc' := 21) (x := 4) kc_90_20 rfl rfl ?_
                  refine xi_dup2 (pc' := 22) kc_90_21 rfl ⟨rfl, rfl⟩ ?_
                  obtain ⟨v608, ev608, bv608, dv608⟩ := xj_get hy607 ry607 (i := 4) (by decide) (by decide)
                  refine xi_iaload (pc' := 23) (v := v608) kc_90_22 rfl A607 (by decide) rfl (xi_in (by decide) (by rw [hy607]; decide)) ev608 ?_
                  refine xi_iconst (pc' := 24) (v := 1) kc_90_23 rfl rfl ?_
                  obtain ⟨v609, ev609⟩ : ∃ q : Int32, (v608 : Int32) + 1 = q := ⟨_, rfl⟩
                  have rv609 := xc_rng v609
                  refine xi_iadd (pc' := 25) (v := v609) kc_90_24 rfl ev609 ?_
                  obtain ⟨y610, s610, hy610, ry610⟩ := xj_set (v := v609) hy607 ry607 4 (by first | omega | decide) (by first | omega | decide)
                  refine xi_iastore (pc' := 26) (x' := y610) kc_90_25 rfl A607 rfl (xi_in (by decide) (by rw [hy607]; decide)) s610 (fun hh610 eh610 => ?_)
                  have K611 := xk_pa K (xk_wa (by decide +kernel)) xD_94 hy610 ry610 eh610
                  have KR612 := xk_pa KR (xk_wa (by decide +kernel)) xD_94 hy610 ry610 eh610
                  refine xi_iload_n (pc' := 27) (x := (-4)) kc_90_26 rfl rfl ?_
                  refine xi_ireturn kc_90_27 mr_90 rfl ?_
                  show xw J ov 99 163 (74, [(0, .ref 0), (1, .int a19), (2, .int a21), (3, .int a23), (4, .int a25), (5, .int a27)], [.int (-4)], hh610) _
                  refine xi_ireturn kc_163_74 mr_163 rfl ?_
                  show xw J ov 100 195 (1056, [(4, .int x4), (3, .ref 167), (2, .ref 115), (1, .ref 0), (0, .ref 1000000)], [.int (-4)], hh610) _
                  refine xi_pop (pc' := 1057) kc_195_1056 rfl rfl ?_
                  refine xi_aload_n (pc' := 1058) (x := 115) kc_195_1057 rfl rfl ?_
                  refine xi_aload_n (pc' := 1059) (x := 1000000) kc_195_1058 rfl rfl ?_
                  refine xi_iload (pc' := 1061) (x := x4) kc_195_1059 rfl rfl ?_
                  refine xi_iconst (pc' := 1062) (v := 1) kc_195_1061 rfl rfl ?_
                  refine xi_iadd (pc' := 1063) (v := v18) kc_195_1062 rfl ev18 ?_
                  refine xi_ialoadO (pc' := 1064) (v := a19) kc_195_1063 rfl (by decide) hov0 (xi_in (by omega) (by omega)) ea19 ?_
                  refine xi_aload_n (pc' := 1065) (x := 1000000) kc_195_1064 rfl rfl ?_
                  refine xi_iload (pc' := 1067) (x := x4) kc_195_1065 rfl rfl ?_
                  refine xi_iconst (pc' := 1068) (v := 2) kc_195_1067 rfl rfl ?_
                  refine xi_iadd (pc' := 1069) (v := v20) kc_195_1068 rfl ev20 ?_
                  refine xi_ialoadO (pc' := 1070) (v := a21) kc_195_1069 rfl (by decide) hov0 (xi_in (by omega) (by omega)) ea21 ?_
                  refine xi_aload_n (pc' := 1071) (x := 1000000) kc_195_1070 rfl rfl ?_
                  refine xi_iload (pc' := 1073) (x := x4) kc_195_1071 rfl rfl ?_
                  refine xi_iconst (pc' := 1074) (v := 3) kc_195_1073 rfl rfl ?_
                  refine xi_iadd (pc' := 1075) (v := v22) kc_195_1074 rfl ev22 ?_
                  refine xi_ialoadO (pc' := 1076) (v := a23) kc_195_1075 rfl (by decide) hov0 (xi_in (by omega) (by omega)) ea23 ?_
                  refine xi_aload_n (pc' := 1077) (x := 1000000) kc_195_1076 rfl rfl ?_
                  refine xi_iload (pc' := 1079) (x := x4) kc_195_1077 rfl rfl ?_
                  refine xi_iconst (pc' := 1080) (v := 4) kc_195_1079 rfl rfl ?_
                  refine xi_iadd (pc' := 1081) (v := v24) kc_195_1080 rfl ev24 ?_
                  refine xi_ialoadO (pc' := 1082) (v := a25) kc_195_1081 rfl (by decide) hov0 (xi_in (by omega) (by omega)) ea25 ?_
                  refine xi_aload_n (pc' := 1083) (x := 1000000) kc_195_1082 rfl rfl ?_
                  refine xi_iload (pc' := 1085) (x := x4) kc_195_1083 rfl rfl ?_
                  refine xi_iconst (pc' := 1086) (v := 5) kc_195_1085 rfl rfl ?_
                  refine xi_iadd (pc' := 1087) (v := v26) kc_195_1086 rfl ev26 ?_
                  refine xi_ialoadO (pc' := 1088) (v := a27) kc_195_1087 rfl (by decide) hov0 (xi_in (by omega) (by omega)) ea27 ?_
                  have A613 := ((eh610.2.1 115 (by decide)).trans A17)
                  refine xi_virtual (mj := 61) (as := [.int a19, .int a21, .int a23, .int a25, .int a27]) (st1 := []) (lv0 := [(0, .ref 115), (1, .int a19), (2, .int a21), (3, .int a23), (4, .int a25), (5, .int a27)]) kc_195_1088 rfl rfl rfl rfl rfl A613 (Nat.le_of_ble_eq_true rfl) (hJ _ _ _ _ (by decide)) (xm_le ml_61 rfl) rfl ?_
                  refine xi_aload_n (pc' := 1) (x := 115) kc_61_0 rfl rfl ?_
                  refine xi_iconst (pc' := 2) (v := 0) kc_61_1 rfl rfl ?_
                  refine xi_putfield (pc' := 5) (fs' := [.int 0, .int u2, .ref 116, .ref 117, .ref 118, .ref 119, .ref 120, .ref 121, .ref 122, .ref 123, .ref 124, .ref 125, .ref 126, .ref 127, .ref 128, .ref 129, .int u6, .ref 130, .int u7, .ref 131, .ref 132, .ref 133, .ref 134, .int u8, .ref 135, .ref 136, .ref 137, .ref 138, .ref 139, .ref 140, .ref 141, .ref 142, .int u9, .int u10, .int u1, .ref 143, .ref 144, .ref 145, .ref 146, .ref 147, .ref 148, .int u12, .ref 149, .ref 150, .ref 151, .int u13, .ref 152, .ref 153, .ref 154, .ref 155, .ref 156, .ref 157, .ref 158, .ref 159, .int u14, .ref 160, .int u15, .ref 161, .ref 162, .ref 163, .ref 164, .int u16, .ref 165, .ref 166]) kc_61_2 rfl rfl rfl A613 rfl rfl rfl (Nat.le_of_ble_eq_true rfl) rfl (fun hh615 eh614 => ?_)
                  have K616 := xk_pf (k := 0) (v := 0) K611 (xk_wf (by decide +kernel)) xD_115 A613 rfl (by first | omega | decide) (by first | omega | decide) eh614 rfl
                  have KR617 := xk_pf (k := 0) (v := 0) KR612 (xk_wf (by decide +kernel)) xD_115 A613 rfl (by first | omega | decide) (by first | omega | decide) eh614 rfl
                  refine xi_iload_n (pc' := 6) (x := a19) kc_61_5 rfl rfl ?_
                  refine xi_static (mj := 10) (as := [.int a19]) (st1 := []) (lv0 := [(0, .int a19)]) kc_61_6 rfl rfl (Nat.le_of_ble_eq_true rfl) rfl rfl (Nat.le_of_ble_eq_true rfl) (hJ _ _ _ _ (by decide)) (xm_le ml_10 rfl) rfl ?_
                  refine xi_iload_n (pc' := 1) (x := a19) kc_10_0 rfl rfl ?_
                  refine xi_iconst (pc' := 2) (v := 0) kc_10_1 rfl rfl ?_
                  refine xi_iconst (pc' := 3) (v := 5) kc_10_2 rfl rfl ?_
                  refine xi_static (mj := 11) (as := [.int a19, .int 0, .int 5]) (st1 := []) (lv0 := [(0, .int a19), (1, .int 0), (2, .int 5)]) kc_10_3 rfl rfl (Nat.le_of_ble_eq_true rfl) rfl rfl (Nat.le_of_ble_eq_true rfl) (hJ _ _ _ _ (by decide)) (xm_le ml_11 rfl) rfl ?_
                  refine xi_iload_n (pc' := 1) (x := a19) kc_11_0 rfl rfl ?_
                  refine xi_iload_n (pc' := 2) (x := 0) kc_11_1 rfl rfl ?_
                  refine xi_cmf (pc' := 5) kc_11_2 rfl (xc_lt_f (X := a19.toInt) (Y := 0) rfl (by decide) (by omega)) ?_
                  refine xi_iload_n (pc' := 6) (x := a19) kc_11_5 rfl rfl ?_
                  refine xi_iload_n (pc' := 7) (x := 5) kc_11_6 rfl rfl ?_
                  refine xi_cmf (pc' := 10) kc_11_7 rfl (xc_gt_f (X := a19.toInt) (Y := 5) rfl (by decide) (by omega)) ?_
                  refine xi_iconst (pc' := 11) (v := 1) kc_11_10 rfl rfl ?_
                  refine xi_goto (pc' := 15) kc_11_11 rfl ?_
                  refine xi_ireturn kc_11_15 mr_11 rfl ?_
                  show xw J ov 98 10 (6, [(0, .int a19)], [.int 1], hh615) _
                  refine xi_ireturn kc_10_6 mr_10 rfl ?_
                  show xw J ov 99 61 (9, [(0, .ref 115), (1, .int a19), (2, .int a21), (3, .int a23), (4, .int a25), (5, .int a27)], [.int 1], hh615) _
                  refine xi_ift (pc' := 18) kc_61_9 rfl rfl ?_
                  refine xi_iload_n (pc' := 19) (x := a21) kc_61_18 rfl rfl ?_
                  refine xi_iconst (pc' := 20) (v := 0) kc_61_19 rfl rfl ?_
                  refine xi_iconst (pc' := 21) (v := 1) kc_61_20 rfl rfl ?_
                  refine xi_static (mj := 11) (as := [.int a21, .int 0, .int 1]) (st1 := []) (lv0 := [(0, .int a21), (1, .int 0), (2, .int 1)]) kc_61_21 rfl rfl (Nat.le_of_ble_eq_true rfl) rfl rfl (Nat.le_of_ble_eq_true rfl) (hJ _ _ _ _ (by decide)) (xm_le ml_11 rfl) rfl ?_
                  refine xi_iload_n (pc' := 1) (x := a21) kc_11_0 rfl rfl ?_
                  refine xi_iload_n (pc' := 2) (x := 0) kc_11_1 rfl rfl ?_
                  refine xi_cmf (pc' := 5) kc_11_2 rfl (xc_lt_f (X := a21.toInt) (Y := 0) rfl (by decide) (by omega)) ?_
                  refine xi_iload_n (pc' := 6) (x := a21) kc_11_5 rfl rfl ?_
                  refine xi_iload_n (pc' := 7) (x := 1) kc_11_6 rfl rfl ?_
                  refine xi_cmf (pc' := 10) kc_11_7 rfl (xc_gt_f (X := a21.toInt) (Y := 1) rfl (by decide) (by omega)) ?_
                  refine xi_iconst (pc' := 11) (v := 1) kc_11_10 rfl rfl ?_
                  refine xi_goto (pc' := 15) kc_11_11 rfl ?_
                  refine xi_ireturn kc_11_15 mr_11 rfl ?_
                  show xw J ov 99 61 (24, [(0, .ref 115), (1, .int a19), (2, .int a21), (3, .int a23), (4, .int a25), (5, .int a27)], [.int 1], hh615) _
                  refine xi_ift (pc' := 34) kc_61_24 rfl rfl ?_
                  refine xi_iconst (pc' := 35) (v := 0) kc_61_34 rfl rfl ?_
                  refine xi_istore (pc' := 37) (lv' := [(6, .int 0), (0, .ref 115), (1, .int a19), (2, .int a21), (3, .int a23), (4, .int a25), (5, .int a27)]) kc_61_35 rfl rfl (xm_lt ml_61 rfl) ?_
                  refine xw_lv (b := [(0, .ref 115), (1, .int a19), (2, .int a21), (3, .int a23), (4, .int a25), (5, .int a27), (6, .int 0)]) (lvS_cons (lvS_cons (lvS_cons (lvS_cons (lvS_cons (lvS_cons (lvS_cons (lvS_nil (show ([6, 0, 1, 2, 3, 4, 5] : List Nat).Nodup by decide)) rfl) rfl) rfl) rfl) rfl) rfl) rfl) ?_
                  have zc0 : (0 : Int32).toInt = 0 := by decide
                  have A618 := ((eh614.2.1 143 (by decide)).trans ((eh610.2.1 143 (by decide)).trans A352))
                  have A619 := ((eh614.2.1 146 (by decide)).trans ((eh610.2.1 146 (by decide)).trans A353))
                  have A620 := ((eh614.2.1 147 (by decide)).trans ((eh610.2.1 147 (by decide)).trans A354))
                  refine tr_lp hJ hov1 hov2 (d := 97) K616.1 (xra_mk A618 (xrp_of hy352)) (xra_mk A619 (xrp_of hy353)) (xra_mk A620 (xrp_of hy354)) (xfi_mk eh614.1 rfl rfl) (by omega) (by omega) (by omega) (fun hx hh621 K622 => ?_) (fun hx lv9 hS => ?_) 21 0 (by omega) xov_0 (by omega)
                  · have KR623 := xk_tr KR617 K622 (by decide +kernel)
                    have K624 := xk_tr K616 K622 (xsb_ok _ _ (by decide +kernel))
                    show xw J ov 100 195 (1091, [(4, .int x4), (3, .ref 167), (2, .ref 115), (1, .ref 0), (0, .ref 1000000)], [.int (-3)], hh621) _
                    refine xi_pop (pc' := 1092) kc_195_1091 rfl rfl ?_
                    refine xi_goto (pc' := 1501) kc_195_1092 rfl ?_
                    obtain ⟨v625, ev625⟩ : ∃ q : Int32, x4 + 6 = q := ⟨_, rfl⟩
                    have zv625 : v625.toInt = (x4.toInt + 6) := by rw [← ev625]; exact (xz_add (X := x4.toInt) (Y := 6) rfl (by decide) (by omega) (by omega)).trans (by omega)
                    refine xi_iinc (pc' := 1504) (x := x4) (v := v625) (lv' := [(4, .int v625), (3, .ref 167), (2, .ref 115), (1, .ref 0), (0, .ref 1000000)]) kc_195_1501 rfl rfl ev625 rfl (xm_lt ml_195 rfl) ?_
                    refine xi_goto (pc' := 23) kc_195_1504 rfl ?_
                    exact kk v625 hh621 (by omega) K624 (xI_kept I KR623.2.1)
                  · refine xw_lv hS ?_
                    show xw J ov 99 61 (94, [(0, .ref 115), (1, .int a19), (2, .int a21), (3, .int a23), (4, .int a25), (5, .int a27)], [], hh615) _
                    refine xi_iload_n (pc' := 95) (x := a23) kc_61_94 rfl rfl ?_
                    refine xi_iff (pc' := 98) kc_61_95 rfl (xc_lt_f (X := a23.toInt) (Y := 0) rfl (by decide) (by omega)) ?_
                    refine xi_iload (pc' := 100) (x := a25) kc_61_98 rfl rfl ?_
                    refine xi_aload_n (pc' := 101) (x := 115) kc_61_100 rfl rfl ?_
                    refine xi_getfield (pc' := 104) (v := .int u2) kc_61_101 rfl rfl rfl eh614.1 rfl ?_
                    refine xi_cmf (pc' := 107) kc_61_104 rfl (xc_lt_f (X := a25.toInt) (Y := u2.toInt) rfl rfl (by omega)) ?_
                    refine xi_iload (pc' := 109) (x := a27) kc_61_107 rfl rfl ?_
                    refine xi_iload (pc' := 111) (x := a25) kc_61_109 rfl rfl ?_
                    refine xi_cmf (pc' := 114) kc_61_111 rfl (xc_gt_f (X := a27.toInt) (Y := a25.toInt) rfl rfl (by omega)) ?_
                    refine xi_aload_n (pc' := 115) (x := 115) kc_61_114 rfl rfl ?_
                    refine xi_bipush (pc' := 117) (v := (-4)) kc_61_115 rfl rfl ?_
                    refine xi_virtual (mj := 12) (as := [.int (-4)]) (st1 := []) (lv0 := [(0, .ref 115), (1, .int (-4))]) kc_61_117 rfl rfl rfl rfl rfl eh614.1 (Nat.le_of_ble_eq_true rfl) (hJ _ _ _ _ (by decide)) (xm_le ml_12 rfl) rfl ?_
                    refine xi_aload_n (pc' := 1) (x := 115) kc_12_0 rfl rfl ?_
                    refine xi_getfield (pc' := 4) (v := .ref 140) kc_12_1 rfl rfl rfl eh614.1 rfl ?_
                    refine xi_iload_n (pc' := 5) (x := (-4)) kc_12_4 rfl rfl ?_
                    refine xi_ineg (pc' := 6) (v := 4) kc_12_5 rfl rfl ?_
                    refine xi_dup2 (pc' := 7) kc_12_6 rfl ⟨rfl, rfl⟩ ?_
                    obtain ⟨y626, A626, hy626, ry626⟩ := xk_arr K.1 xD_140
                    obtain ⟨v627, ev627, bv627, dv627⟩ := xj_get hy626 ry626 (i := 4) (by decide) (by decide)
                    have A628 := ((eh614.2.1 140 (by decide)).trans ((eh610.2.1 140 (by decide)).trans A626))
                    refine xi_iaload (pc' := 8) (v := v627) kc_12_7 rfl A628 (by decide) rfl (xi_in (by decide) (by rw [hy626]; decide)) ev627 ?_
                    refine xi_iconst (pc' := 9) (v := 1) kc_12_8 rfl rfl ?_
                    obtain ⟨v629, ev629⟩ : ∃ q : Int32, (v627 : Int32) + 1 = q := ⟨_, rfl⟩
                    have rv629 := xc_rng v629
                    refine xi_iadd (pc' := 10) (v := v629) kc_12_9 rfl ev629 ?_
                    obtain ⟨y630, s630, hy630, ry630⟩ := xj_set (v := v629) hy626 ry626 4 (by first | omega | decide) (by first | omega | decide)
                    refine xi_iastore (pc' := 11) (x' := y630) kc_12_10 rfl A628 rfl (xi_in (by decide) (by rw [hy626]; decide)) s630 (fun hh630 eh630 => ?_)
                    have K631 := xk_pa K616 (xk_wa (by decide +kernel)) xD_140 hy630 ry630 eh630
                    have KR632 := xk_pa KR617 (xk_wa (by decide +kernel)) xD_140 hy630 ry630 eh630
                    refine xi_iload_n (pc' := 12) (x := (-4)) kc_12_11 rfl rfl ?_
                    refine xi_ireturn kc_12_12 mr_12 rfl ?_
                    show xw J ov 99 61 (120, [(0, .ref 115), (1, .int a19), (2, .int a21), (3, .int a23), (4, .int a25), (5, .int a27)], [.int (-4)], hh630) _
                    refine xi_ireturn kc_61_120 mr_61 rfl ?_
                    show xw J ov 100 195 (1091, [(4, .int x4), (3, .ref 167), (2, .ref 115), (1, .ref 0), (0, .ref 1000000)], [.int (-4)], hh630) _
                    refine xi_pop (pc' := 1092) kc_195_1091 rfl rfl ?_
                    refine xi_goto (pc' := 1501) kc_195_1092 rfl ?_
                    obtain ⟨v633, ev633⟩ : ∃ q : Int32, x4 + 6 = q := ⟨_, rfl⟩
                    have zv633 : v633.toInt = (x4.toInt + 6) := by rw [← ev633]; exact (xz_add (X := x4.toInt) (Y := 6) rfl (by decide) (by omega) (by omega)).trans (by omega)
                    refine xi_iinc (pc' := 1504) (x := x4) (v := v633) (lv' := [(4, .int v633), (3, .ref 167), (2, .ref 115), (1, .ref 0), (0, .ref 1000000)]) kc_195_1501 rfl rfl ev633 rfl (xm_lt ml_195 rfl) ?_
                    refine xi_goto (pc' := 23) kc_195_1504 rfl ?_
                    exact kk v633 hh630 (by omega) K631 (xI_kept I KR632.2.1)
        · refine xi_cmf (pc' := 22) kc_163_19 rfl (xc_eq_f (X := a21.toInt) (Y := 1) rfl (by decide) (by omega)) ?_
          refine xi_aload_n (pc' := 23) (x := 0) kc_163_22 rfl rfl ?_
          refine xi_bipush (pc' := 25) (v := (-2)) kc_163_23 rfl rfl ?_
          refine xi_virtual (mj := 90) (as := [.int (-2)]) (st1 := []) (lv0 := [(0, .ref 0), (1, .int (-2))]) kc_163_25 rfl rfl rfl rfl rfl A3 (Nat.le_of_ble_eq_true rfl) (hJ _ _ _ _ (by decide)) (xm_le ml_90 rfl) rfl ?_
          refine xi_iload_n (pc' := 1) (x := (-2)) kc_90_0 rfl rfl ?_
          refine xi_ineg (pc' := 2) (v := 2) kc_90_1 rfl rfl ?_
          refine xi_istore_n (pc' := 3) (lv' := [(2, .int 2), (0, .ref 0), (1, .int (-2))]) kc_90_2 rfl rfl (xm_lt ml_90 rfl) ?_
          refine xi_iload_n (pc' := 4) (x := 2) kc_90_3 rfl rfl ?_
          refine xi_iff (pc' := 7) kc_90_4 rfl rfl ?_
          refine xi_iload_n (pc' := 8) (x := 2) kc_90_7 rfl rfl ?_
          refine xi_aload_n (pc' := 9) (x := 0) kc_90_8 rfl rfl ?_
          refine xi_getfield (pc' := 12) (v := .ref 94) kc_90_9 rfl rfl rfl A3 rfl ?_
          obtain ⟨y634, A634, hy634, ry634⟩ := xk_arr K.1 xD_94
          refine xi_arraylength (pc' := 13) (n := 7) (v := 7) kc_90_12 rfl (xl_lenI (by decide) (by decide) A634 hy634) rfl ?_
          refine xi_cmf (pc' := 16) kc_90_13 rfl rfl ?_
          refine xi_aload_n (pc' := 17) (x := 0) kc_90_16 rfl rfl ?_
          refine xi_getfield (pc' := 20) (v := .ref 94) kc_90_17 rfl rfl rfl A3 rfl ?_
          refine xi_iload_n (pc' := 21) (x := 2) kc_90_20 rfl rfl ?_
          refine xi_dup2 (pc' := 22) kc_90_21 rfl ⟨rfl, rfl⟩ ?_
          obtain ⟨v635, ev635, bv635, dv635⟩ := xj_get hy634 ry634 (i := 2) (by decide) (by decide)
          refine xi_iaload (pc' := 23) (v := v635) kc_90_22 rfl A634 (by decide) rfl (xi_in (by decide) (by rw [hy634]; decide)) ev635 ?_
          refine xi_iconst (pc' := 24) (v := 1) kc_90_23 rfl rfl ?_
          obtain ⟨v636, ev636⟩ : ∃ q : Int32, (v635 : Int32) + 1 = q := ⟨_, rfl⟩
          have rv636 := xc_rng v636
          refine xi_iadd (pc' := 25) (v := v636) kc_90_24 rfl ev636 ?_
          obtain ⟨y637, s637, hy637, ry637⟩ := xj_set (v := v636) hy634 ry634 2 (by first | omega | decide) (by first | omega | decide)
          refine xi_iastore (pc' := 26) (x' := y637) kc_90_25 rfl A634 rfl (xi_in (by decide) (by rw [hy634]; decide)) s637 (fun hh637 eh637 => ?_)
          have K638 := xk_pa K (xk_wa (by decide +kernel)) xD_94 hy637 ry637 eh637
          have KR639 := xk_pa KR (xk_wa (by decide +kernel)) xD_94 hy637 ry637 eh637
          refine xi_iload_n (pc' := 27) (x := (-2)) kc_90_26 rfl rfl ?_
          refine xi_ireturn kc_90_27 mr_90 rfl ?_
          show xw J ov 99 163 (28, [(0, .ref 0), (1, .int a19), (2, .int a21), (3, .int a23), (4, .int a25), (5, .int a27)], [.int (-2)], hh637) _
          refine xi_ireturn kc_163_28 mr_163 rfl ?_
          show xw J ov 100 195 (1056, [(4, .int x4), (3, .ref 167), (2, .ref 115), (1, .ref 0), (0, .ref 1000000)], [.int (-2)], hh637) _
          refine xi_pop (pc' := 1057) kc_195_1056 rfl rfl ?_
          refine xi_aload_n (pc' := 1058) (x := 115) kc_195_1057 rfl rfl ?_
          refine xi_aload_n (pc' := 1059) (x := 1000000) kc_195_1058 rfl rfl ?_
          refine xi_iload (pc' := 1061) (x := x4) kc_195_1059 rfl rfl ?_
          refine xi_iconst (pc' := 1062) (v := 1) kc_195_1061 rfl rfl ?_
          refine xi_iadd (pc' := 1063) (v := v18) kc_195_1062 rfl ev18 ?_
          refine xi_ialoadO (pc' := 1064) (v := a19) kc_195_1063 rfl (by decide) hov0 (xi_in (by omega) (by omega)) ea19 ?_
          refine xi_aload_n (pc' := 1065) (x := 1000000) kc_195_1064 rfl rfl ?_
          refine xi_iload (pc' := 1067) (x := x4) kc_195_1065 rfl rfl ?_
          refine xi_iconst (pc' := 1068) (v := 2) kc_195_1067 rfl rfl ?_
          refine xi_iadd (pc' := 1069) (v := v20) kc_195_1068 rfl ev20 ?_
          refine xi_ialoadO (pc' := 1070) (v := a21) kc_195_1069 rfl (by decide) hov0 (xi_in (by omega) (by omega)) ea21 ?_
          refine xi_aload_n (pc' := 1071) (x := 1000000) kc_195_1070 rfl rfl ?_
          refine xi_iload (pc' := 1073) (x := x4) kc_195_1071 rfl rfl ?_
          refine xi_iconst (pc' := 1074) (v := 3) kc_195_1073 rfl rfl ?_
          refine xi_iadd (pc' := 1075) (v := v22) kc_195_1074 rfl ev22 ?_
          refine xi_ialoadO (pc' := 1076) (v := a23) kc_195_1075 rfl (by decide) hov0 (xi_in (by omega) (by omega)) ea23 ?_
          refine xi_aload_n (pc' := 1077) (x := 1000000) kc_195_1076 rfl rfl ?_
          refine xi_iload (pc' := 1079) (x := x4) kc_195_1077 rfl rfl ?_
          refine xi_iconst (pc' := 1080) (v := 4) kc_195_1079 rfl rfl ?_
          refine xi_iadd (pc' := 1081) (v := v24) kc_195_1080 rfl ev24 ?_
          refine xi_ialoadO (pc' := 1082) (v := a25) kc_195_1081 rfl (by decide) hov0 (xi_in (by omega) (by omega)) ea25 ?_
          refine xi_aload_n (pc' := 1083) (x := 1000000) kc_195_1082 rfl rfl ?_
          refine xi_iload (pc' := 1085) (x := x4) kc_195_1083 rfl rfl ?_
          refine xi_iconst (pc' := 1086) (v := 5) kc_195_1085 rfl rfl ?_
          refine xi_iadd (pc' := 1087) (v := v26) kc_195_1086 rfl ev26 ?_
          refine xi_ialoadO (pc' := 1088) (v := a27) kc_195_1087 rfl (by decide) hov0 (xi_in (by omega) (by omega)) ea27 ?_
          have A640 := ((eh637.2.1 115 (by decide)).trans A17)
          refine xi_virtual (mj := 61) (as := [.int a19, .int a21, .int a23, .int a25, .int a27]) (st1 := []) (lv0 := [(0, .ref 115), (1, .int a19), (2, .int a21), (3, .int a23), (4, .int a25), (5, .int a27)]) kc_195_1088 rfl rfl rfl rfl rfl A640 (Nat.le_of_ble_eq_true rfl) (hJ _ _ _ _ (by decide)) (xm_le ml_61 rfl) rfl ?_
          refine xi_aload_n (pc' := 1) (x := 115) kc_61_0 rfl rfl ?_
          refine xi_iconst (pc' := 2) (v := 0) kc_61_1 rfl rfl ?_
          refine xi_putfield (pc' := 5) (fs' := [.int 0, .int u2, .ref 116, .ref 117, .ref 118, .ref 119, .ref 120, .ref 121, .ref 122, .ref 123, .ref 124, .ref 125, .ref 126, .ref 127, .ref 128, .ref 129, .int u6, .ref 130, .int u7, .ref 131, .ref 132, .ref 133, .ref 134, .int u8, .ref 135, .ref 136, .ref 137, .ref 138, .ref 139, .ref 140, .ref 141, .ref 142, .int u9, .int u10, .int u1, .ref 143, .ref 144, .ref 145, .ref 146, .ref 147, .ref 148, .int u12, .ref 149, .ref 150, .ref 151, .int u13, .ref 152, .ref 153, .ref 154, .ref 155, .ref 156, .ref 157, .ref 158, .ref 159, .int u14, .ref 160, .int u15, .ref 161, .ref 162, .ref 163, .ref 164, .int u16, .ref 165, .ref 166]) kc_61_2 rfl rfl rfl A640 rfl rfl rfl (Nat.le_of_ble_eq_true rfl) rfl (fun hh642 eh641 => ?_)
          have K643 := xk_pf (k := 0) (v := 0) K638 (xk_wf (by decide +kernel)) xD_115 A640 rfl (by first | omega | decide) (by first | omega | decide) eh641 rfl
          have KR644 := xk_pf (k := 0) (v := 0) KR639 (xk_wf (by decide +kernel)) xD_115 A640 rfl (by first | omega | decide) (by first | omega | decide) eh641 rfl
          refine xi_iload_n (pc' := 6) (x := a19) kc_61_5 rfl rfl ?_
          refine xi_static (mj := 10) (as := [.int a19]) (st1 := []) (lv0 := [(0, .int a19)]) kc_61_6 rfl rfl (Nat.le_of_ble_eq_true rfl) rfl rfl (Nat.le_of_ble_eq_true rfl) (hJ _ _ _ _ (by decide)) (xm_le ml_10 rfl) rfl ?_
          refine xi_iload_n (pc' := 1) (x := a19) kc_10_0 rfl rfl ?_
          refine xi_iconst (pc' := 2) (v := 0) kc_10_1 rfl rfl ?_
          refine xi_iconst (pc' := 3) (v := 5) kc_10_2 rfl rfl ?_
          refine xi_static (mj := 11) (as := [.int a19, .int 0, .int 5]) (st1 := []) (lv0 := [(0, .int a19), (1, .int 0), (2, .int 5)]) kc_10_3 rfl rfl (Nat.le_of_ble_eq_true rfl) rfl rfl (Nat.le_of_ble_eq_true rfl) (hJ _ _ _ _ (by decide)) (xm_le ml_11 rfl) rfl ?_
          refine xi_iload_n (pc' := 1) (x := a19) kc_11_0 rfl rfl ?_
          refine xi_iload_n (pc' := 2) (x := 0) kc_11_1 rfl rfl ?_
          refine xi_cmf (pc' := 5) kc_11_2 rfl (xc_lt_f (X := a19.toInt) (Y := 0) rfl (by decide) (by omega)) ?_
          refine xi_iload_n (pc' := 6) (x := a19) kc_11_5 rfl rfl ?_
          refine xi_iload_n (pc' := 7) (x := 5) kc_11_6 rfl rfl ?_
          refine xi_cmf (pc' := 10) kc_11_7 rfl (xc_gt_f (X := a19.toInt) (Y := 5) rfl (by decide) (by omega)) ?_
          refine xi_iconst (pc' := 11) (v := 1) kc_11_10 rfl rfl ?_
          refine xi_goto (pc' := 15) kc_11_11 rfl ?_
          refine xi_ireturn kc_11_15 mr_11 rfl ?_
          show xw J ov 98 10 (6, [(0, .int a19)], [.int 1], hh642) _
          refine xi_ireturn kc_10_6 mr_10 rfl ?_
          show xw J ov 99 61 (9, [(0, .ref 115), (1, .int a19), (2, .int a21), (3, .int a23), (4, .int a25), (5, .int a27)], [.int 1], hh642) _
          refine xi_ift (pc' := 18) kc_61_9 rfl rfl ?_
          refine xi_iload_n (pc' := 19) (x := a21) kc_61_18 rfl rfl ?_
          refine xi_iconst (pc' := 20) (v := 0) kc_61_19 rfl rfl ?_
          refine xi_iconst (pc' := 21) (v := 1) kc_61_20 rfl rfl ?_
          refine xi_static (mj := 11) (as := [.int a21, .int 0, .int 1]) (st1 := []) (lv0 := [(0, .int a21), (1, .int 0), (2, .int 1)]) kc_61_21 rfl rfl (Nat.le_of_ble_eq_true rfl) rfl rfl (Nat.le_of_ble_eq_true rfl) (hJ _ _ _ _ (by decide)) (xm_le ml_11 rfl) rfl ?_
          refine xi_iload_n (pc' := 1) (x := a21) kc_11_0 rfl rfl ?_
          refine xi_iload_n (pc' := 2) (x := 0) kc_11_1 rfl rfl ?_
          by_cases c645 : a21.toInt < 0
          · refine xi_cmt (pc' := 14) kc_11_2 rfl (xc_lt_t (X := a21.toInt) (Y := 0) rfl (by decide) (by omega)) ?_
            refine xi_iconst (pc' := 15) (v := 0) kc_11_14 rfl rfl ?_
            refine xi_ireturn kc_11_15 mr_11 rfl ?_
            show xw J ov 99 61 (24, [(0, .ref 115), (1, .int a19), (2, .int a21), (3, .int a23), (4, .int a25), (5, .int a27)], [.int 0], hh642) _
            refine xi_iff (pc' := 27) kc_61_24 rfl rfl ?_
            refine xi_aload_n (pc' := 28) (x := 115) kc_61_27 rfl rfl ?_
            refine xi_bipush (pc' := 30) (v := (-2)) kc_61_28 rfl rfl ?_
            refine xi_virtual (mj := 12) (as := [.int (-2)]) (st1 := []) (lv0 := [(0, .ref 115), (1, .int (-2))]) kc_61_30 rfl rfl rfl rfl rfl eh641.1 (Nat.le_of_ble_eq_true rfl) (hJ _ _ _ _ (by decide)) (xm_le ml_12 rfl) rfl ?_
            refine xi_aload_n (pc' := 1) (x := 115) kc_12_0 rfl rfl ?_
            refine xi_getfield (pc' := 4) (v := .ref 140) kc_12_1 rfl rfl rfl eh641.1 rfl ?_
            refine xi_iload_n (pc' := 5) (x := (-2)) kc_12_4 rfl rfl ?_
            refine xi_ineg (pc' := 6) (v := 2) kc_12_5 rfl rfl ?_
            refine xi_dup2 (pc' := 7) kc_12_6 rfl ⟨rfl, rfl⟩ ?_
            obtain ⟨y646, A646, hy646, ry646⟩ := xk_arr K.1 xD_140
            obtain ⟨v647, ev647, bv647, dv647⟩ := xj_get hy646 ry646 (i := 2) (by decide) (by decide)
            have A648 := ((eh641.2.1 140 (by decide)).trans ((eh637.2.1 140 (by decide)).trans A646))
            refine xi_iaload (pc' := 8) (v := v647) kc_12_7 rfl A648 (by decide) rfl (xi_in (by decide) (by rw [hy646]; decide)) ev647 ?_
            refine xi_iconst (pc' := 9) (v := 1) kc_12_8 rfl rfl ?_
            obtain ⟨v649, ev649⟩ : ∃ q : Int32, (v647 : Int32) + 1 = q := ⟨_, rfl⟩
            have rv649 := xc_rng v649
            refine xi_iadd (pc' := 10) (v := v649) kc_12_9 rfl ev649 ?_
            obtain ⟨y650, s650, hy650, ry650⟩ := xj_set (v := v649) hy646 ry646 2 (by first | omega | decide) (by first | omega | decide)
            refine xi_iastore (pc' := 11) (x' := y650) kc_12_10 rfl A648 rfl (xi_in (by decide) (by rw [hy646]; decide)) s650 (fun hh650 eh650 => ?_)
            have K651 := xk_pa K643 (xk_wa (by decide +kernel)) xD_140 hy650 ry650 eh650
            have KR652 := xk_pa KR644 (xk_wa (by decide +kernel)) xD_140 hy650 ry650 eh650
            refine xi_iload_n (pc' := 12) (x := (-2)) kc_12_11 rfl rfl ?_
            refine xi_ireturn kc_12_12 mr_12 rfl ?_
            show xw J ov 99 61 (33, [(0, .ref 115), (1, .int a19), (2, .int a21), (3, .int a23), (4, .int a25), (5, .int a27)], [.int (-2)], hh650) _
            refine xi_ireturn kc_61_33 mr_61 rfl ?_
            show xw J ov 100 195 (1091, [(4, .int x4), (3, .ref 167), (2, .ref 115), (1, .ref 0), (0, .ref 1000000)], [.int (-2)], hh650) _
            refine xi_pop (pc' := 1092) kc_195_1091 rfl rfl ?_
            refine xi_goto (pc' := 1501) kc_195_1092 rfl ?_
            obtain ⟨v653, ev653⟩ : ∃ q : Int32, x4 + 6 = q := ⟨_, rfl⟩
            have zv653 : v653.toInt = (x4.toInt + 6) := by rw [← ev653]; exact (xz_add (X := x4.toInt) (Y := 6) rfl (by decide) (by omega) (by omega)).trans (by omega)
            refine xi_iinc (pc' := 1504) (x := x4) (v := v653) (lv' := [(4, .int v653), (3, .ref 167), (2, .ref 115), (1, .ref 0), (0, .ref 1000000)]) kc_195_1501 rfl rfl ev653 rfl (xm_lt ml_195 rfl) ?_
            refine xi_goto (pc' := 23) kc_195_1504 rfl ?_
            exact kk v653 hh650 (by omega) K651 (xI_kept I KR652.2.1)
          · refine xi_cmf (pc' := 5) kc_11_2 rfl (xc_lt_f (X := a21.toInt) (Y := 0) rfl (by decide) (by omega)) ?_
            refine xi_iload_n (pc' := 6) (x := a21) kc_11_5 rfl rfl ?_
            refine xi_iload_n (pc' := 7) (x := 1) kc_11_6 rfl rfl ?_
            refine xi_cmt (pc' := 14) kc_11_7 rfl (xc_gt_t (X := a21.toInt) (Y := 1) rfl (by decide) (by omega)) ?_
            refine xi_iconst (pc' := 15) (v := 0) kc_11_14 rfl rfl ?_
            refine xi_ireturn kc_11_15 mr_11 rfl ?_
            show xw J ov 99 61 (24, [(0, .ref 115), (1, .int a19), (2, .int a21), (3, .int a23), (4, .int a25), (5, .int a27)], [.int 0], hh642) _
            refine xi_iff (pc' := 27) kc_61_24 rfl rfl ?_
            refine xi_aload_n (pc' := 28) (x := 115) kc_61_27 rfl rfl ?_
            refine xi_bipush (pc' := 30) (v := (-2)) kc_61_28 rfl rfl ?_
            refine xi_virtual (mj := 12) (as := [.int (-2)]) (st1 := []) (lv0 := [(0, .ref 115), (1, .int (-2))]) kc_61_30 rfl rfl rfl rfl rfl eh641.1 (Nat.le_of_ble_eq_true rfl) (hJ _ _ _ _ (by decide)) (xm_le ml_12 rfl) rfl ?_
            refine xi_aload_n (pc' := 1) (x := 115) kc_12_0 rfl rfl ?_
            refine xi_getfield (pc' := 4) (v := .ref 140) kc_12_1 rfl rfl rfl eh641.1 rfl ?_
            refine xi_iload_n (pc' := 5) (x := (-2)) kc_12_4 rfl rfl ?_
            refine xi_ineg (pc' := 6) (v := 2) kc_12_5 rfl rfl ?_
            refine xi_dup2 (pc' := 7) kc_12_6 rfl ⟨rfl, rfl⟩ ?_
            obtain ⟨y654, A654, hy654, ry654⟩ := xk_arr K.1 xD_140
            obtain ⟨v655, ev655, bv655, dv655⟩ := xj_get hy654 ry654 (i := 2) (by decide) (by decide)
            have A656 := ((eh641.2.1 140 (by decide)).trans ((eh637.2.1 140 (by decide)).trans A654))
            refine xi_iaload (pc' := 8) (v := v655) kc_12_7 rfl A656 (by decide) rfl (xi_in (by decide) (by rw [hy654]; decide)) ev655 ?_
            refine xi_iconst (pc' := 9) (v := 1) kc_12_8 rfl rfl ?_
            obtain ⟨v657, ev657⟩ : ∃ q : Int32, (v655 : Int32) + 1 = q := ⟨_, rfl⟩
            have rv657 := xc_rng v657
            refine xi_iadd (pc' := 10) (v := v657) kc_12_9 rfl ev657 ?_
            obtain ⟨y658, s658, hy658, ry658⟩ := xj_set (v := v657) hy654 ry654 2 (by first | omega | decide) (by first | omega | decide)
            refine xi_iastore (pc' := 11) (x' := y658) kc_12_10 rfl A656 rfl (xi_in (by decide) (by rw [hy654]; decide)) s658 (fun hh658 eh658 => ?_)
            have K659 := xk_pa K643 (xk_wa (by decide +kernel)) xD_140 hy658 ry658 eh658
            have KR660 := xk_pa KR644 (xk_wa (by decide +kernel)) xD_140 hy658 ry658 eh658
            refine xi_iload_n (pc' := 12) (x := (-2)) kc_12_11 rfl rfl ?_
            refine xi_ireturn kc_12_12 mr_12 rfl ?_
            show xw J ov 99 61 (33, [(0, .ref 115), (1, .int a19), (2, .int a21), (3, .int a23), (4, .int a25), (5, .int a27)], [.int (-2)], hh658) _
            refine xi_ireturn kc_61_33 mr_61 rfl ?_
            show xw J ov 100 195 (1091, [(4, .int x4), (3, .ref 167), (2, .ref 115), (1, .ref 0), (0, .ref 1000000)], [.int (-2)], hh658) _
            refine xi_pop (pc' := 1092) kc_195_1091 rfl rfl ?_
            refine xi_goto (pc' := 1501) kc_195_1092 rfl ?_
            obtain ⟨v661, ev661⟩ : ∃ q : Int32, x4 + 6 = q := ⟨_, rfl⟩
            have zv661 : v661.toInt = (x4.toInt + 6) := by rw [← ev661]; exact (xz_add (X := x4.toInt) (Y := 6) rfl (by decide) (by omega) (by omega)).trans (by omega)
            refine xi_iinc (pc' := 1504) (x := x4) (v := v661) (lv' := [(4, .int v661), (3, .ref 167), (2, .ref 115), (1, .ref 0), (0, .ref 1000000)]) kc_195_1501 rfl rfl ev661 rfl (xm_lt ml_195 rfl) ?_
            refine xi_goto (pc' := 23) kc_195_1504 rfl ?_
            exact kk v661 hh658 (by omega) K659 (xI_kept I KR660.2.1)
