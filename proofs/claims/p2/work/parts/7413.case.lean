set_option maxHeartbeats 8000000 in
theorem lc_12 {J : xe_J} {ov : List (List Int32)} (hJ : ∀ d mj as h, mj ≠ xe_loff → J d mj as h = none) (hov1 : ov[1]? = some [10, 0, 0, 0, 0, 0]) (hov2 : ov[2]? = some [99, 30, 50, 50, 1, 99999]) {xs : List Int32} (hov0 : ov[0]? = some xs) {Q : Option Value → xe_H → Prop} {h : xe_H} {x4 : Int32} (hi0 : 0 ≤ x4.toInt) (hi1 : x4.toInt + 6 ≤ xs.length) (hi2 : x4.toInt ≤ 3066) (T : xt h) (I : xI h) (kk : ∀ (i : Int32) (h' : xe_H), i.toInt = x4.toInt + 6 → xk xP_35 h h' → xI h' → xw J ov 100 195 (23, [(4, .int i), (3, .ref 167), (2, .ref 115), (1, .ref 0), (0, .ref 1000000)], [], h') Q) : xw J ov 100 195 (712, [(4, .int x4), (3, .ref 167), (2, .ref 115), (1, .ref 0), (0, .ref 1000000)], [], h) Q := by
  have K : xk xP_35 h h := xk_re T
  have KR : xk xP_27 h h := xk_re T
  obtain ⟨u1, u2, bu1, bu2, A3⟩ := xq_1 K.1
  obtain ⟨u4, u5, u6, u7, u8, u9, u10, u11, u12, u13, u14, u15, u16, bu4, bu5, bu6, bu7, bu8, bu9, bu10, bu11, bu12, bu13, bu14, bu15, bu16, A17⟩ := xq_115 K.1
  have ee17 : u1 = u8 := xl_eqf I.2.2.2.2.2.2.2.2.2.2.2.2.2.2.2.2.2.1 A3 A17 rfl rfl
  subst ee17
  obtain ⟨u18, u19, bu18, bu19, A20⟩ := xq_63 K.1
  obtain ⟨y21, A21, hy21, ry21⟩ := xk_arr K.1 xD_139
  have H22 := xB_of I.2.2.2.2.2.2.2.2.2.2.2.2.2.2.2.2.2.2.2.2.2.2.1 A20 A21 A3 rfl rfl
  refine xi_aload_n (pc' := 713) (x := 0) kc_195_712 rfl rfl ?_
  refine xi_aload_n (pc' := 714) (x := 1000000) kc_195_713 rfl rfl ?_
  refine xi_iload (pc' := 716) (x := x4) kc_195_714 rfl rfl ?_
  refine xi_iconst (pc' := 717) (v := 1) kc_195_716 rfl rfl ?_
  obtain ⟨v22, ev22⟩ : ∃ q : Int32, x4 + 1 = q := ⟨_, rfl⟩
  have zv22 : v22.toInt = (x4.toInt + 1) := by rw [← ev22]; exact (xz_add (X := x4.toInt) (Y := 1) rfl (by decide) (by omega) (by omega)).trans (by omega)
  refine xi_iadd (pc' := 718) (v := v22) kc_195_717 rfl ev22 ?_
  obtain ⟨a23, ea23⟩ : ∃ q : Int32, xs.getD (Int32.toNatClampNeg v22) 0 = q := ⟨_, rfl⟩
  have ra23 := xc_rng a23
  refine xi_ialoadO (pc' := 719) (v := a23) kc_195_718 rfl (by decide) hov0 (xi_in (by omega) (by omega)) ea23 ?_
  refine xi_aload_n (pc' := 720) (x := 1000000) kc_195_719 rfl rfl ?_
  refine xi_iload (pc' := 722) (x := x4) kc_195_720 rfl rfl ?_
  refine xi_iconst (pc' := 723) (v := 2) kc_195_722 rfl rfl ?_
  obtain ⟨v24, ev24⟩ : ∃ q : Int32, x4 + 2 = q := ⟨_, rfl⟩
  have zv24 : v24.toInt = (x4.toInt + 2) := by rw [← ev24]; exact (xz_add (X := x4.toInt) (Y := 2) rfl (by decide) (by omega) (by omega)).trans (by omega)
  refine xi_iadd (pc' := 724) (v := v24) kc_195_723 rfl ev24 ?_
  obtain ⟨a25, ea25⟩ : ∃ q : Int32, xs.getD (Int32.toNatClampNeg v24) 0 = q := ⟨_, rfl⟩
  have ra25 := xc_rng a25
  refine xi_ialoadO (pc' := 725) (v := a25) kc_195_724 rfl (by decide) hov0 (xi_in (by omega) (by omega)) ea25 ?_
  by_cases c26 : a25.toInt = 0
  · refine xi_ift (pc' := 732) kc_195_725 rfl (xc_eq_t (X := a25.toInt) (Y := 0) rfl (by decide) (by omega)) ?_
    refine xi_iconst (pc' := 733) (v := 0) kc_195_732 rfl rfl ?_
    obtain ⟨u27, u28, bu27, bu28, A29⟩ := xq_0 K.1
    refine xi_virtual (mj := 120) (as := [.int a23, .int 0]) (st1 := []) (lv0 := [(0, .ref 0), (1, .int a23), (2, .int 0)]) kc_195_733 rfl rfl rfl rfl rfl A29 (Nat.le_of_ble_eq_true rfl) (hJ _ _ _ _ (by decide)) (xm_le ml_120 rfl) rfl ?_
    refine xi_iload_n (pc' := 1) (x := a23) kc_120_0 rfl rfl ?_
    by_cases c30 : a23.toInt < 0
    · refine xi_ift (pc' := 15) kc_120_1 rfl (xc_lt_t (X := a23.toInt) (Y := 0) rfl (by decide) (by omega)) ?_
      refine xi_aload_n (pc' := 16) (x := 0) kc_120_15 rfl rfl ?_
      refine xi_iconst (pc' := 17) (v := (-1)) kc_120_16 rfl rfl ?_
      refine xi_virtual (mj := 90) (as := [.int (-1)]) (st1 := []) (lv0 := [(0, .ref 0), (1, .int (-1))]) kc_120_17 rfl rfl rfl rfl rfl A29 (Nat.le_of_ble_eq_true rfl) (hJ _ _ _ _ (by decide)) (xm_le ml_90 rfl) rfl ?_
      refine xi_iload_n (pc' := 1) (x := (-1)) kc_90_0 rfl rfl ?_
      refine xi_ineg (pc' := 2) (v := 1) kc_90_1 rfl rfl ?_
      refine xi_istore_n (pc' := 3) (lv' := [(2, .int 1), (0, .ref 0), (1, .int (-1))]) kc_90_2 rfl rfl (xm_lt ml_90 rfl) ?_
      refine xi_iload_n (pc' := 4) (x := 1) kc_90_3 rfl rfl ?_
      refine xi_iff (pc' := 7) kc_90_4 rfl rfl ?_
      refine xi_iload_n (pc' := 8) (x := 1) kc_90_7 rfl rfl ?_
      refine xi_aload_n (pc' := 9) (x := 0) kc_90_8 rfl rfl ?_
      refine xi_getfield (pc' := 12) (v := .ref 94) kc_90_9 rfl rfl rfl A29 rfl ?_
      obtain ⟨y31, A31, hy31, ry31⟩ := xk_arr K.1 xD_94
      refine xi_arraylength (pc' := 13) (n := 7) (v := 7) kc_90_12 rfl (xl_lenI (by decide) (by decide) A31 hy31) rfl ?_
      refine xi_cmf (pc' := 16) kc_90_13 rfl rfl ?_
      refine xi_aload_n (pc' := 17) (x := 0) kc_90_16 rfl rfl ?_
      refine xi_getfield (pc' := 20) (v := .ref 94) kc_90_17 rfl rfl rfl A29 rfl ?_
      refine xi_iload_n (pc' := 21) (x := 1) kc_90_20 rfl rfl ?_
      refine xi_dup2 (pc' := 22) kc_90_21 rfl ⟨rfl, rfl⟩ ?_
      obtain ⟨v32, ev32, bv32, dv32⟩ := xj_get hy31 ry31 (i := 1) (by decide) (by decide)
      refine xi_iaload (pc' := 23) (v := v32) kc_90_22 rfl A31 (by decide) rfl (xi_in (by decide) (by rw [hy31]; decide)) ev32 ?_
      refine xi_iconst (pc' := 24) (v := 1) kc_90_23 rfl rfl ?_
      obtain ⟨v33, ev33⟩ : ∃ q : Int32, (v32 : Int32) + 1 = q := ⟨_, rfl⟩
      have rv33 := xc_rng v33
      refine xi_iadd (pc' := 25) (v := v33) kc_90_24 rfl ev33 ?_
      obtain ⟨y34, s34, hy34, ry34⟩ := xj_set (v := v33) hy31 ry31 1 (by first | omega | decide) (by first | omega | decide)
      refine xi_iastore (pc' := 26) (x' := y34) kc_90_25 rfl A31 rfl (xi_in (by decide) (by rw [hy31]; decide)) s34 (fun hh34 eh34 => ?_)
      have K35 := xk_pa K (xk_wa (by decide +kernel)) xD_94 hy34 ry34 eh34
      have KR36 := xk_pa KR (xk_wa (by decide +kernel)) xD_94 hy34 ry34 eh34
      refine xi_iload_n (pc' := 27) (x := (-1)) kc_90_26 rfl rfl ?_
      refine xi_ireturn kc_90_27 mr_90 rfl ?_
      show xw J ov 99 120 (20, [(0, .ref 0), (1, .int a23), (2, .int 0)], [.int (-1)], hh34) _
      refine xi_ireturn kc_120_20 mr_120 rfl ?_
      show xw J ov 100 195 (736, [(4, .int x4), (3, .ref 167), (2, .ref 115), (1, .ref 0), (0, .ref 1000000)], [.int (-1)], hh34) _
      refine xi_pop (pc' := 737) kc_195_736 rfl rfl ?_
      refine xi_aload_n (pc' := 738) (x := 115) kc_195_737 rfl rfl ?_
      refine xi_aload_n (pc' := 739) (x := 1000000) kc_195_738 rfl rfl ?_
      refine xi_iload (pc' := 741) (x := x4) kc_195_739 rfl rfl ?_
      refine xi_iconst (pc' := 742) (v := 1) kc_195_741 rfl rfl ?_
      refine xi_iadd (pc' := 743) (v := v22) kc_195_742 rfl ev22 ?_
      refine xi_ialoadO (pc' := 744) (v := a23) kc_195_743 rfl (by decide) hov0 (xi_in (by omega) (by omega)) ea23 ?_
      refine xi_aload_n (pc' := 745) (x := 1000000) kc_195_744 rfl rfl ?_
      refine xi_iload (pc' := 747) (x := x4) kc_195_745 rfl rfl ?_
      refine xi_iconst (pc' := 748) (v := 2) kc_195_747 rfl rfl ?_
      refine xi_iadd (pc' := 749) (v := v24) kc_195_748 rfl ev24 ?_
      refine xi_ialoadO (pc' := 750) (v := a25) kc_195_749 rfl (by decide) hov0 (xi_in (by omega) (by omega)) ea25 ?_
      refine xi_ift (pc' := 757) kc_195_750 rfl (xc_eq_t (X := a25.toInt) (Y := 0) rfl (by decide) (by omega)) ?_
      refine xi_iconst (pc' := 758) (v := 0) kc_195_757 rfl rfl ?_
      have A37 := ((eh34.2.1 115 (by decide)).trans A17)
      refine xi_virtual (mj := 33) (as := [.int a23, .int 0]) (st1 := []) (lv0 := [(0, .ref 115), (1, .int a23), (2, .int 0)]) kc_195_758 rfl rfl rfl rfl rfl A37 (Nat.le_of_ble_eq_true rfl) (hJ _ _ _ _ (by decide)) (xm_le ml_33 rfl) rfl ?_
      refine xi_aload_n (pc' := 1) (x := 115) kc_33_0 rfl rfl ?_
      refine xi_iconst (pc' := 2) (v := 0) kc_33_1 rfl rfl ?_
      refine xi_putfield (pc' := 5) (fs' := [.int 0, .int u5, .ref 116, .ref 117, .ref 118, .ref 119, .ref 120, .ref 121, .ref 122, .ref 123, .ref 124, .ref 125, .ref 126, .ref 127, .ref 128, .ref 129, .int u6, .ref 130, .int u7, .ref 131, .ref 132, .ref 133, .ref 134, .int u1, .ref 135, .ref 136, .ref 137, .ref 138, .ref 139, .ref 140, .ref 141, .ref 142, .int u9, .int u10, .int u11, .ref 143, .ref 144, .ref 145, .ref 146, .ref 147, .ref 148, .int u12, .ref 149, .ref 150, .ref 151, .int u13, .ref 152, .ref 153, .ref 154, .ref 155, .ref 156, .ref 157, .ref 158, .ref 159, .int u14, .ref 160, .int u15, .ref 161, .ref 162, .ref 163, .ref 164, .int u16, .ref 165, .ref 166]) kc_33_2 rfl rfl rfl A37 rfl rfl rfl (Nat.le_of_ble_eq_true rfl) rfl (fun hh39 eh38 => ?_)
      have K40 := xk_pf (k := 0) (v := 0) K35 (xk_wf (by decide +kernel)) xD_115 A37 rfl (by first | omega | decide) (by first | omega | decide) eh38 rfl
      have KR41 := xk_pf (k := 0) (v := 0) KR36 (xk_wf (by decide +kernel)) xD_115 A37 rfl (by first | omega | decide) (by first | omega | decide) eh38 rfl
      refine xi_iload_n (pc' := 6) (x := a23) kc_33_5 rfl rfl ?_
      refine xi_iconst (pc' := 7) (v := 0) kc_33_6 rfl rfl ?_
      refine xi_aload_n (pc' := 8) (x := 115) kc_33_7 rfl rfl ?_
      refine xi_getfield (pc' := 11) (v := .int u1) kc_33_8 rfl rfl rfl eh38.1 rfl ?_
      refine xi_iconst (pc' := 12) (v := 1) kc_33_11 rfl rfl ?_
      obtain ⟨v42, ev42⟩ : ∃ q : Int32, u1 - 1 = q := ⟨_, rfl⟩
      have zv42 : v42.toInt = (u1.toInt + (-1)) := by rw [← ev42]; exact (xz_sub (X := u1.toInt) (Y := 1) rfl (by decide) (by omega) (by omega)).trans (by omega)
      refine xi_isub (pc' := 13) (v := v42) kc_33_12 rfl ev42 ?_
      refine xi_static (mj := 11) (as := [.int a23, .int 0, .int v42]) (st1 := []) (lv0 := [(0, .int a23), (1, .int 0), (2, .int v42)]) kc_33_13 rfl rfl (Nat.le_of_ble_eq_true rfl) rfl rfl (Nat.le_of_ble_eq_true rfl) (hJ _ _ _ _ (by decide)) (xm_le ml_11 rfl) rfl ?_
      refine xi_iload_n (pc' := 1) (x := a23) kc_11_0 rfl rfl ?_
      refine xi_iload_n (pc' := 2) (x := 0) kc_11_1 rfl rfl ?_
      refine xi_cmt (pc' := 14) kc_11_2 rfl (xc_lt_t (X := a23.toInt) (Y := 0) rfl (by decide) (by omega)) ?_
      refine xi_iconst (pc' := 15) (v := 0) kc_11_14 rfl rfl ?_
      refine xi_ireturn kc_11_15 mr_11 rfl ?_
      show xw J ov 99 33 (16, [(0, .ref 115), (1, .int a23), (2, .int 0)], [.int 0], hh39) _
      refine xi_iff (pc' := 19) kc_33_16 rfl rfl ?_
      refine xi_aload_n (pc' := 20) (x := 115) kc_33_19 rfl rfl ?_
      refine xi_iconst (pc' := 21) (v := (-1)) kc_33_20 rfl rfl ?_
      refine xi_virtual (mj := 12) (as := [.int (-1)]) (st1 := []) (lv0 := [(0, .ref 115), (1, .int (-1))]) kc_33_21 rfl rfl rfl rfl rfl eh38.1 (Nat.le_of_ble_eq_true rfl) (hJ _ _ _ _ (by decide)) (xm_le ml_12 rfl) rfl ?_
      refine xi_aload_n (pc' := 1) (x := 115) kc_12_0 rfl rfl ?_
      refine xi_getfield (pc' := 4) (v := .ref 140) kc_12_1 rfl rfl rfl eh38.1 rfl ?_
      refine xi_iload_n (pc' := 5) (x := (-1)) kc_12_4 rfl rfl ?_
      refine xi_ineg (pc' := 6) (v := 1) kc_12_5 rfl rfl ?_
      refine xi_dup2 (pc' := 7) kc_12_6 rfl ⟨rfl, rfl⟩ ?_
      obtain ⟨y43, A43, hy43, ry43⟩ := xk_arr K.1 xD_140
      obtain ⟨v44, ev44, bv44, dv44⟩ := xj_get hy43 ry43 (i := 1) (by decide) (by decide)
      have A45 := ((eh38.2.1 140 (by decide)).trans ((eh34.2.1 140 (by decide)).trans A43))
      refine xi_iaload (pc' := 8) (v := v44) kc_12_7 rfl A45 (by decide) rfl (xi_in (by decide) (by rw [hy43]; decide)) ev44 ?_
      refine xi_iconst (pc' := 9) (v := 1) kc_12_8 rfl rfl ?_
      obtain ⟨v46, ev46⟩ : ∃ q : Int32, (v44 : Int32) + 1 = q := ⟨_, rfl⟩
      have rv46 := xc_rng v46
      refine xi_iadd (pc' := 10) (v := v46) kc_12_9 rfl ev46 ?_
      obtain ⟨y47, s47, hy47, ry47⟩ := xj_set (v := v46) hy43 ry43 1 (by first | omega | decide) (by first | omega | decide)
      refine xi_iastore (pc' := 11) (x' := y47) kc_12_10 rfl A45 rfl (xi_in (by decide) (by rw [hy43]; decide)) s47 (fun hh47 eh47 => ?_)
      have K48 := xk_pa K40 (xk_wa (by decide +kernel)) xD_140 hy47 ry47 eh47
      have KR49 := xk_pa KR41 (xk_wa (by decide +kernel)) xD_140 hy47 ry47 eh47
      refine xi_iload_n (pc' := 12) (x := (-1)) kc_12_11 rfl rfl ?_
      refine xi_ireturn kc_12_12 mr_12 rfl ?_
      show xw J ov 99 33 (24, [(0, .ref 115), (1, .int a23), (2, .int 0)], [.int (-1)], hh47) _
      refine xi_ireturn kc_33_24 mr_33 rfl ?_
      show xw J ov 100 195 (761, [(4, .int x4), (3, .ref 167), (2, .ref 115), (1, .ref 0), (0, .ref 1000000)], [.int (-1)], hh47) _
      refine xi_pop (pc' := 762) kc_195_761 rfl rfl ?_
      refine xi_goto (pc' := 1501) kc_195_762 rfl ?_
      obtain ⟨v50, ev50⟩ : ∃ q : Int32, x4 + 6 = q := ⟨_, rfl⟩
      have zv50 : v50.toInt = (x4.toInt + 6) := by rw [← ev50]; exact (xz_add (X := x4.toInt) (Y := 6) rfl (by decide) (by omega) (by omega)).trans (by omega)
      refine xi_iinc (pc' := 1504) (x := x4) (v := v50) (lv' := [(4, .int v50), (3, .ref 167), (2, .ref 115), (1, .ref 0), (0, .ref 1000000)]) kc_195_1501 rfl rfl ev50 rfl (xm_lt ml_195 rfl) ?_
      refine xi_goto (pc' := 23) kc_195_1504 rfl ?_
      exact kk v50 hh47 (by omega) K48 (xI_kept I KR49.2.1)
    · refine xi_iff (pc' := 4) kc_120_1 rfl (xc_lt_f (X := a23.toInt) (Y := 0) rfl (by decide) (by omega)) ?_
      refine xi_iload_n (pc' := 5) (x := a23) kc_120_4 rfl rfl ?_
      refine xi_aload_n (pc' := 6) (x := 0) kc_120_5 rfl rfl ?_
      refine xi_getfield (pc' := 9) (v := .ref 1) kc_120_6 rfl rfl rfl A29 rfl ?_
      refine xi_getfield (pc' := 12) (v := .int u1) kc_120_9 rfl rfl rfl A3 rfl ?_
      by_cases c51 : a23.toInt < u1.toInt
      · refine xi_cmt (pc' := 21) kc_120_12 rfl (xc_lt_t (X := a23.toInt) (Y := u1.toInt) rfl rfl (by omega)) ?_
        refine xi_iconst (pc' := 22) (v := 1) kc_120_21 rfl rfl ?_
        refine xi_iload_n (pc' := 23) (x := a23) kc_120_22 rfl rfl ?_
        obtain ⟨v52, ev52⟩ : ∃ q : Int32, (1 : Int32) <<< (a23 &&& 31) = q := ⟨_, rfl⟩
        have rv52 := xc_rng v52
        refine xi_ishl (pc' := 24) (v := v52) kc_120_23 rfl ev52 ?_
        refine xi_istore_n (pc' := 25) (lv' := [(3, .int v52), (0, .ref 0), (1, .int a23), (2, .int 0)]) kc_120_24 rfl rfl (xm_lt ml_120 rfl) ?_
        refine xi_aload_n (pc' := 26) (x := 0) kc_120_25 rfl rfl ?_
        refine xi_getfield (pc' := 29) (v := .ref 63) kc_120_26 rfl rfl rfl A29 rfl ?_
        refine xi_getfield (pc' := 32) (v := .int u18) kc_120_29 rfl rfl rfl A20 rfl ?_
        refine xi_iload_n (pc' := 33) (x := v52) kc_120_32 rfl rfl ?_
        obtain ⟨v53, ev53⟩ : ∃ q : Int32, (u18 : Int32) &&& v52 = q := ⟨_, rfl⟩
        have rv53 := xc_rng v53
        refine xi_iand (pc' := 34) (v := v53) kc_120_33 rfl ev53 ?_
        by_cases c54 : v53.toInt = 0
        · refine xi_ift (pc' := 41) kc_120_34 rfl (xc_eq_t (X := v53.toInt) (Y := 0) rfl (by decide) (by omega)) ?_
          refine xi_iconst (pc' := 42) (v := 0) kc_120_41 rfl rfl ?_
          refine xi_istore (pc' := 44) (lv' := [(4, .int 0), (3, .int v52), (0, .ref 0), (1, .int a23), (2, .int 0)]) kc_120_42 rfl rfl (xm_lt ml_120 rfl) ?_
          refine xi_iload (pc' := 46) (x := 0) kc_120_44 rfl rfl ?_
          refine xi_iload_n (pc' := 47) (x := 0) kc_120_46 rfl rfl ?_
          refine xi_cmf (pc' := 50) kc_120_47 rfl rfl ?_
          refine xi_iconst (pc' := 51) (v := 0) kc_120_50 rfl rfl ?_
          refine xi_ireturn kc_120_51 mr_120 rfl ?_
          show xw J ov 100 195 (736, [(4, .int x4), (3, .ref 167), (2, .ref 115), (1, .ref 0), (0, .ref 1000000)], [.int 0], h) _
          refine xi_pop (pc' := 737) kc_195_736 rfl rfl ?_
          refine xi_aload_n (pc' := 738) (x := 115) kc_195_737 rfl rfl ?_
          refine xi_aload_n (pc' := 739) (x := 1000000) kc_195_738 rfl rfl ?_
          refine xi_iload (pc' := 741) (x := x4) kc_195_739 rfl rfl ?_
          refine xi_iconst (pc' := 742) (v := 1) kc_195_741 rfl rfl ?_
          refine xi_iadd (pc' := 743) (v := v22) kc_195_742 rfl ev22 ?_
          refine xi_ialoadO (pc' := 744) (v := a23) kc_195_743 rfl (by decide) hov0 (xi_in (by omega) (by omega)) ea23 ?_
          refine xi_aload_n (pc' := 745) (x := 1000000) kc_195_744 rfl rfl ?_
          refine xi_iload (pc' := 747) (x := x4) kc_195_745 rfl rfl ?_
          refine xi_iconst (pc' := 748) (v := 2) kc_195_747 rfl rfl ?_
          refine xi_iadd (pc' := 749) (v := v24) kc_195_748 rfl ev24 ?_
          refine xi_ialoadO (pc' := 750) (v := a25) kc_195_749 rfl (by decide) hov0 (xi_in (by omega) (by omega)) ea25 ?_
          refine xi_ift (pc' := 757) kc_195_750 rfl (xc_eq_t (X := a25.toInt) (Y := 0) rfl (by decide) (by omega)) ?_
          refine xi_iconst (pc' := 758) (v := 0) kc_195_757 rfl rfl ?_
          refine xi_virtual (mj := 33) (as := [.int a23, .int 0]) (st1 := []) (lv0 := [(0, .ref 115), (1, .int a23), (2, .int 0)]) kc_195_758 rfl rfl rfl rfl rfl A17 (Nat.le_of_ble_eq_true rfl) (hJ _ _ _ _ (by decide)) (xm_le ml_33 rfl) rfl ?_
          refine xi_aload_n (pc' := 1) (x := 115) kc_33_0 rfl rfl ?_
          refine xi_iconst (pc' := 2) (v := 0) kc_33_1 rfl rfl ?_
          refine xi_putfield (pc' := 5) (fs' := [.int 0, .int u5, .ref 116, .ref 117, .ref 118, .ref 119, .ref 120, .ref 121, .ref 122, .ref 123, .ref 124, .ref 125, .ref 126, .ref 127, .ref 128, .ref 129, .int u6, .ref 130, .int u7, .ref 131, .ref 132, .ref 133, .ref 134, .int u1, .ref 135, .ref 136, .ref 137, .ref 138, .ref 139, .ref 140, .ref 141, .ref 142, .int u9, .int u10, .int u11, .ref 143, .ref 144, .ref 145, .ref 146, .ref 147, .ref 148, .int u12, .ref 149, .ref 150, .ref 151, .int u13, .ref 152, .ref 153, .ref 154, .ref 155, .ref 156, .ref 157, .ref 158, .ref 159, .int u14, .ref 160, .int u15, .ref 161, .ref 162, .ref 163, .ref 164, .int u16, .ref 165, .ref 166]) kc_33_2 rfl rfl rfl A17 rfl rfl rfl (Nat.le_of_ble_eq_true rfl) rfl (fun hh56 eh55 => ?_)
          have K57 := xk_pf (k := 0) (v := 0) K (xk_wf (by decide +kernel)) xD_115 A17 rfl (by first | omega | decide) (by first | omega | decide) eh55 rfl
          have KR58 := xk_pf (k := 0) (v := 0) KR (xk_wf (by decide +kernel)) xD_115 A17 rfl (by first | omega | decide) (by first | omega | decide) eh55 rfl
          refine xi_iload_n (pc' := 6) (x := a23) kc_33_5 rfl rfl ?_
          refine xi_iconst (pc' := 7) (v := 0) kc_33_6 rfl rfl ?_
          refine xi_aload_n (pc' := 8) (x := 115) kc_33_7 rfl rfl ?_
          refine xi_getfield (pc' := 11) (v := .int u1) kc_33_8 rfl rfl rfl eh55.1 rfl ?_
          refine xi_iconst (pc' := 12) (v := 1) kc_33_11 rfl rfl ?_
          obtain ⟨v59, ev59⟩ : ∃ q : Int32, u1 - 1 = q := ⟨_, rfl⟩
          have zv59 : v59.toInt = (u1.toInt + (-1)) := by rw [← ev59]; exact (xz_sub (X := u1.toInt) (Y := 1) rfl (by decide) (by omega) (by omega)).trans (by omega)
          refine xi_isub (pc' := 13) (v := v59) kc_33_12 rfl ev59 ?_
          refine xi_static (mj := 11) (as := [.int a23, .int 0, .int v59]) (st1 := []) (lv0 := [(0, .int a23), (1, .int 0), (2, .int v59)]) kc_33_13 rfl rfl (Nat.le_of_ble_eq_true rfl) rfl rfl (Nat.le_of_ble_eq_true rfl) (hJ _ _ _ _ (by decide)) (xm_le ml_11 rfl) rfl ?_
          refine xi_iload_n (pc' := 1) (x := a23) kc_11_0 rfl rfl ?_
          refine xi_iload_n (pc' := 2) (x := 0) kc_11_1 rfl rfl ?_
          refine xi_cmf (pc' := 5) kc_11_2 rfl (xc_lt_f (X := a23.toInt) (Y := 0) rfl (by decide) (by omega)) ?_
          refine xi_iload_n (pc' := 6) (x := a23) kc_11_5 rfl rfl ?_
          refine xi_iload_n (pc' := 7) (x := v59) kc_11_6 rfl rfl ?_
          refine xi_cmf (pc' := 10) kc_11_7 rfl (xc_gt_f (X := a23.toInt) (Y := (u1.toInt + (-1))) rfl zv59 (by omega)) ?_
          refine xi_iconst (pc' := 11) (v := 1) kc_11_10 rfl rfl ?_
          refine xi_goto (pc' := 15) kc_11_11 rfl ?_
          refine xi_ireturn kc_11_15 mr_11 rfl ?_
          show xw J ov 99 33 (16, [(0, .ref 115), (1, .int a23), (2, .int 0)], [.int 1], hh56) _
          refine xi_ift (pc' := 25) kc_33_16 rfl rfl ?_
          refine xi_aload_n (pc' := 26) (x := 115) kc_33_25 rfl rfl ?_
          refine xi_getfield (pc' := 29) (v := .ref 139) kc_33_26 rfl rfl rfl eh55.1 rfl ?_
          refine xi_iload_n (pc' := 30) (x := a23) kc_33_29 rfl rfl ?_
          obtain ⟨v60, ev60, bv60, dv60⟩ := xj_get hy21 ry21 (i := a23) (by omega) (by omega)
          have HBv60 := xB_ld H22 (by omega) (by omega) ev52 ev53 ev60
          have A61 := ((eh55.2.1 139 (by decide)).trans A21)
          refine xi_baload (pc' := 31) (v := v60) kc_33_30 rfl A61 rfl (xi_in (by omega) (by rw [hy21]; omega)) ev60 ?_
          refine xi_istore_n (pc' := 32) (lv' := [(3, .int v60), (0, .ref 115), (1, .int a23), (2, .int 0)]) kc_33_31 rfl rfl (xm_lt ml_33 rfl) ?_
          refine xi_aload_n (pc' := 33) (x := 115) kc_33_32 rfl rfl ?_
          refine xi_getfield (pc' := 36) (v := .ref 139) kc_33_33 rfl rfl rfl eh55.1 rfl ?_
          refine xi_iload_n (pc' := 37) (x := a23) kc_33_36 rfl rfl ?_
          refine xi_iload_n (pc' := 38) (x := 0) kc_33_37 rfl rfl ?_
          obtain ⟨y62, s62, hy62, ry62⟩ := xj_set (v := 0) hy21 ry21 a23 (by first | omega | decide) (by first | omega | decide)
          refine xi_bastore (pc' := 39) (x' := y62) kc_33_38 rfl A61 rfl (xi_in (by omega) (by rw [hy21]; omega)) s62 (fun hh62 eh62 => ?_)
          have K63 := xk_pa K57 (xk_wa (by decide +kernel)) xD_139 hy62 ry62 eh62
          refine xi_iload_n (pc' := 40) (x := v60) kc_33_39 rfl rfl ?_
          refine xi_iload_n (pc' := 41) (x := 0) kc_33_40 rfl rfl ?_
          by_cases c64 : v60.toInt = 0
          · refine xi_cmf (pc' := 44) kc_33_41 rfl (xc_ne_f (X := v60.toInt) (Y := 0) rfl (by decide) (by omega)) ?_
            refine xi_iconst (pc' := 45) (v := 0) kc_33_44 rfl rfl ?_
            refine xi_goto (pc' := 49) kc_33_45 rfl ?_
            refine xi_ireturn kc_33_49 mr_33 rfl ?_
            show xw J ov 100 195 (761, [(4, .int x4), (3, .ref 167), (2, .ref 115), (1, .ref 0), (0, .ref 1000000)], [.int 0], hh62) _
            refine xi_pop (pc' := 762) kc_195_761 rfl rfl ?_
            refine xi_goto (pc' := 1501) kc_195_762 rfl ?_
            obtain ⟨v65, ev65⟩ : ∃ q : Int32, x4 + 6 = q := ⟨_, rfl⟩
            have zv65 : v65.toInt = (x4.toInt + 6) := by rw [← ev65]; exact (xz_add (X := x4.toInt) (Y := 6) rfl (by decide) (by omega) (by omega)).trans (by omega)
            refine xi_iinc (pc' := 1504) (x := x4) (v := v65) (lv' := [(4, .int v65), (3, .ref 167), (2, .ref 115), (1, .ref 0), (0, .ref 1000000)]) kc_195_1501 rfl rfl ev65 rfl (xm_lt ml_195 rfl) ?_
            refine xi_goto (pc' := 23) kc_195_1504 rfl ?_
            have A66 := ((eh62.2.1 1 (by decide)).trans ((eh55.2.1 1 (by decide)).trans A3))
            have A67 := ((eh62.2.1 115 (by decide)).trans eh55.1)
            have zc0 : (0 : Int32).toInt = 0 := by decide
            have zc1 : (1 : Int32).toInt = 1 := by decide
            have A68 := ((eh62.2.1 63 (by decide)).trans ((eh55.2.1 63 (by decide)).trans A20))
            exact kk v65 hh62 (by omega) K63 ⟨((K63.2.1 (0, 9) (by decide +kernel)).trans (I.1.trans (K63.2.1 (115, 1) (by decide +kernel)).symm)), (xWW_fr I.2.1 (K63.2.1 (64, 0) (by decide +kernel)) (K63.2.1 (121, 0) (by decide +kernel))), (xSG_fr I.2.2.1 (fun l hl => K63.2.1 l (xk_el (by decide +kernel) hl))), (by rw [(K63.2.1 (13, 0) (by decide +kernel)), (K63.2.1 (122, 0) (by decide +kernel))]; exact I.2.2.2.1), (by rw [(K63.2.1 (16, 0) (by decide +kernel)), (K63.2.1 (122, 0) (by decide +kernel))]; exact I.2.2.2.2.1), (by rw [(K63.2.1 (19, 0) (by decide +kernel)), (K63.2.1 (122, 0) (by decide +kernel))]; exact I.2.2.2.2.2.1), (by rw [(K63.2.1 (22, 0) (by decide +kernel)), (K63.2.1 (122, 0) (by decide +kernel))]; exact I.2.2.2.2.2.2.1), (by rw [(K63.2.1 (25, 0) (by decide +kernel)), (K63.2.1 (122, 0) (by decide +kernel))]; exact I.2.2.2.2.2.2.2.1), (by rw [(K63.2.1 (28, 0) (by decide +kernel)), (K63.2.1 (122, 0) (by decide +kernel))]; exact I.2.2.2.2.2.2.2.2.1), (by rw [(K63.2.1 (6, 0) (by decide +kernel)), (K63.2.1 (123, 0) (by decide +kernel))]; exact I.2.2.2.2.2.2.2.2.2.1), (by rw [(K63.2.1 (9, 0) (by decide +kernel)), (K63.2.1 (124, 0) (by decide +kernel))]; exact I.2.2.2.2.2.2.2.2.2.2.1), (by rw [(K63.2.1 (7, 0) (by decide +kernel)), (K63.2.1 (6, 0) (by decide +kernel))]; exact I.2.2.2.2.2.2.2.2.2.2.2.1), (by rw [(K63.2.1 (10, 0) (by decide +kernel)), (K63.2.1 (9, 0) (by decide +kernel))]; exact I.2.2.2.2.2.2.2.2.2.2.2.2.1), ((K63.2.1 (5, 0) (by decide +kernel)).trans I.2.2.2.2.2.2.2.2.2.2.2.2.2.1), ((K63.2.1 (8, 0) (by decide +kernel)).trans I.2.2.2.2.2.2.2.2.2.2.2.2.2.2.1), (xGR_fr I.2.2.2.2.2.2.2.2.2.2.2.2.2.2.2.1 K63.2.1 (by decide +kernel) (by decide +kernel)), (xGR_fr I.2.2.2.2.2.2.2.2.2.2.2.2.2.2.2.2.1 K63.2.1 (by decide +kernel) (by decide +kernel)), ((xl_of A66 rfl).trans (xl_of A67 rfl).symm), (xGR_fr I.2.2.2.2.2.2.2.2.2.2.2.2.2.2.2.2.2.2.1 K63.2.1 (by decide +kernel) (by decide +kernel)), (xGR_fr I.2.2.2.2.2.2.2.2.2.2.2.2.2.2.2.2.2.2.2.1 K63.2.1 (by decide +kernel) (by decide +kernel)), (xGR_fr I.2.2.2.2.2.2.2.2.2.2.2.2.2.2.2.2.2.2.2.2.1 K63.2.1 (by decide +kernel) (by decide +kernel)), (xGR_fr I.2.2.2.2.2.2.2.2.2.2.2.2.2.2.2.2.2.2.2.2.2.1 K63.2.1 (by decide +kernel) (by decide +kernel)), (xB_mk A68 eh62.1 A66 rfl rfl (xB_same (on := 0) H22 (by first | omega | decide) (by first | omega | decide) hy21 ev52 ev53 s62 (by omega))), ((K63.2.1 (0, 8) (by decide +kernel)).trans (I.2.2.2.2.2.2.2.2.2.2.2.2.2.2.2.2.2.2.2.2.2.2.2.1.trans (K63.2.1 (115, 34) (by decide +kernel)).symm)), (xGR_fr I.2.2.2.2.2.2.2.2.2.2.2.2.2.2.2.2.2.2.2.2.2.2.2.2.1 K63.2.1 (by decide +kernel) (by decide +kernel)), (xGR_fr I.2.2.2.2.2.2.2.2.2.2.2.2.2.2.2.2.2.2.2.2.2.2.2.2.2.1 K63.2.1 (by decide +kernel) (by decide +kernel)), (xGR_fr I.2.2.2.2.2.2.2.2.2.2.2.2.2.2.2.2.2.2.2.2.2.2.2.2.2.2.1 K63.2.1 (by decide +kernel) (by decide +kernel)), (xGR_fr I.2.2.2.2.2.2.2.2.2.2.2.2.2.2.2.2.2.2.2.2.2.2.2.2.2.2.2.1 K63.2.1 (by decide +kernel) (by decide +kernel)), (xts_fr I.2.2.2.2.2.2.2.2.2.2.2.2.2.2.2.2.2.2.2.2.2.2.2.2.2.2.2.2.1 (fun l hl => K63.2.1 l (xk_el (by decide +kernel) hl))), ((K63.2.1 (63, 3) (by decide +kernel)).trans I.2.2.2.2.2.2.2.2.2.2.2.2.2.2.2.2.2.2.2.2.2.2.2.2.2.2.2.2.2)⟩
          · refine xi_cmt (pc' := 48) kc_33_41 rfl (xc_ne_t (X := v60.toInt) (Y := 0) rfl (by decide) (by omega)) ?_
            refine xi_iconst (pc' := 49) (v := 1) kc_33_48 rfl rfl ?_
            refine xi_ireturn kc_33_49 mr_33 rfl ?_
            show xw J ov 100 195 (761, [(4, .int x4), (3, .ref 167), (2, .ref 115), (1, .ref 0), (0, .ref 1000000)], [.int 1], hh62) _
            refine xi_pop (pc' := 762) kc_195_761 rfl rfl ?_
            refine xi_goto (pc' := 1501) kc_195_762 rfl ?_
            obtain ⟨v69, ev69⟩ : ∃ q : Int32, x4 + 6 = q := ⟨_, rfl⟩
            have zv69 : v69.toInt = (x4.toInt + 6) := by rw [← ev69]; exact (xz_add (X := x4.toInt) (Y := 6) rfl (by decide) (by omega) (by omega)).trans (by omega)
            refine xi_iinc (pc' := 1504) (x := x4) (v := v69) (lv' := [(4, .int v69), (3, .ref 167), (2, .ref 115), (1, .ref 0), (0, .ref 1000000)]) kc_195_1501 rfl rfl ev69 rfl (xm_lt ml_195 rfl) ?_
            refine xi_goto (pc' := 23) kc_195_1504 rfl ?_
            have A70 := ((eh62.2.1 1 (by decide)).trans ((eh55.2.1 1 (by decide)).trans A3))
            have A71 := ((eh62.2.1 115 (by decide)).trans eh55.1)
            have zc0 : (0 : Int32).toInt = 0 := by decide
            have zc1 : (1 : Int32).toInt = 1 := by decide
            have A72 := ((eh62.2.1 63 (by decide)).trans ((eh55.2.1 63 (by decide)).trans A20))
            exact kk v69 hh62 (by omega) K63 ⟨((K63.2.1 (0, 9) (by decide +kernel)).trans (I.1.trans (K63.2.1 (115, 1) (by decide +kernel)).symm)), (xWW_fr I.2.1 (K63.2.1 (64, 0) (by decide +kernel)) (K63.2.1 (121, 0) (by decide +kernel))), (xSG_fr I.2.2.1 (fun l hl => K63.2.1 l (xk_el (by decide +kernel) hl))), (by rw [(K63.2.1 (13, 0) (by decide +kernel)), (K63.2.1 (122, 0) (by decide +kernel))]; exact I.2.2.2.1), (by rw [(K63.2.1 (16, 0) (by decide +kernel)), (K63.2.1 (122, 0) (by decide +kernel))]; exact I.2.2.2.2.1), (by rw [(K63.2.1 (19, 0) (by decide +kernel)), (K63.2.1 (122, 0) (by decide +kernel))]; exact I.2.2.2.2.2.1), (by rw [(K63.2.1 (22, 0) (by decide +kernel)), (K63.2.1 (122, 0) (by decide +kernel))]; exact I.2.2.2.2.2.2.1), (by rw [(K63.2.1 (25, 0) (by decide +kernel)), (K63.2.1 (122, 0) (by decide +kernel))]; exact I.2.2.2.2.2.2.2.1), (by rw [(K63.2.1 (28, 0) (by decide +kernel)), (K63.2.1 (122, 0) (by decide +kernel))]; exact I.2.2.2.2.2.2.2.2.1), (by rw [(K63.2.1 (6, 0) (by decide +kernel)), (K63.2.1 (123, 0) (by decide +kernel))]; exact I.2.2.2.2.2.2.2.2.2.1), (by rw [(K63.2.1 (9, 0) (by decide +kernel)), (K63.2.1 (124, 0) (by decide +kernel))]; exact I.2.2.2.2.2.2.2.2.2.2.1), (by rw [(K63.2.1 (7, 0) (by decide +kernel)), (K63.2.1 (6, 0) (by decide +kernel))]; exact I.2.2.2.2.2.2.2.2.2.2.2.1), (by rw [(K63.2.1 (10, 0) (by decide +kernel)), (K63.2.1 (9, 0) (by decide +kernel))]; exact I.2.2.2.2.2.2.2.2.2.2.2.2.1), ((K63.2.1 (5, 0) (by decide +kernel)).trans I.2.2.2.2.2.2.2.2.2.2.2.2.2.1), ((K63.2.1 (8, 0) (by decide +kernel)).trans I.2.2.2.2.2.2.2.2.2.2.2.2.2.2.1), (xGR_fr I.2.2.2.2.2.2.2.2.2.2.2.2.2.2.2.1 K63.2.1 (by decide +kernel) (by decide +kernel)), (xGR_fr I.2.2.2.2.2.2.2.2.2.2.2.2.2.2.2.2.1 K63.2.1 (by decide +kernel) (by decide +kernel)), ((xl_of A70 rfl).trans (xl_of A71 rfl).symm), (xGR_fr I.2.2.2.2.2.2.2.2.2.2.2.2.2.2.2.2.2.2.1 K63.2.1 (by decide +kernel) (by decide +kernel)), (xGR_fr I.2.2.2.2.2.2.2.2.2.2.2.2.2.2.2.2.2.2.2.1 K63.2.1 (by decide +kernel) (by decide +kernel)), (xGR_fr I.2.2.2.2.2.2.2.2.2.2.2.2.2.2.2.2.2.2.2.2.1 K63.2.1 (by decide +kernel) (by decide +kernel)), (xGR_fr I.2.2.2.2.2.2.2.2.2.2.2.2.2.2.2.2.2.2.2.2.2.1 K63.2.1 (by decide +kernel) (by decide +kernel)), (xB_mk A72 eh62.1 A70 rfl rfl (xB_same (on := 0) H22 (by first | omega | decide) (by first | omega | decide) hy21 ev52 ev53 s62 (by omega))), ((K63.2.1 (0, 8) (by decide +kernel)).trans (I.2.2.2.2.2.2.2.2.2.2.2.2.2.2.2.2.2.2.2.2.2.2.2.1.trans (K63.2.1 (115, 34) (by decide +kernel)).symm)), (xGR_fr I.2.2.2.2.2.2.2.2.2.2.2.2.2.2.2.2.2.2.2.2.2.2.2.2.1 K63.2.1 (by decide +kernel) (by decide +kernel)), (xGR_fr I.2.2.2.2.2.2.2.2.2.2.2.2.2.2.2.2.2.2.2.2.2.2.2.2.2.1 K63.2.1 (by decide +kernel) (by decide +kernel)), (xGR_fr I.2.2.2.2.2.2.2.2.2.2.2.2.2.2.2.2.2.2.2.2.2.2.2.2.2.2.1 K63.2.1 (by decide +kernel) (by decide +kernel)), (xGR_fr I.2.2.2.2.2.2.2.2.2.2.2.2.2.2.2.2.2.2.2.2.2.2.2.2.2.2.2.1 K63.2.1 (by decide +kernel) (by decide +kernel)), (xts_fr I.2.2.2.2.2.2.2.2.2.2.2.2.2.2.2.2.2.2.2.2.2.2.2.2.2.2.2.2.1 (fun l hl => K63.2.1 l (xk_el (by decide +kernel) hl))), ((K63.2.1 (63, 3) (by decide +kernel)).trans I.2.2.2.2.2.2.2.2.2.2.2.2.2.2.2.2.2.2.2.2.2.2.2.2.2.2.2.2.2)⟩
        · refine xi_iff (pc' := 37) kc_120_34 rfl (xc_eq_f (X := v53.toInt) (Y := 0) rfl (by decide) (by omega)) ?_
          refine xi_iconst (pc' := 38) (v := 1) kc_120_37 rfl rfl ?_
          refine xi_goto (pc' := 42) kc_120_38 rfl ?_
          refine xi_istore (pc' := 44) (lv' := [(4, .int 1), (3, .int v52), (0, .ref 0), (1, .int a23), (2, .int 0)]) kc_120_42 rfl rfl (xm_lt ml_120 rfl) ?_
          refine xi_iload (pc' := 46) (x := 1) kc_120_44 rfl rfl ?_
          refine xi_iload_n (pc' := 47) (x := 0) kc_120_46 rfl rfl ?_
          refine xi_cmt (pc' := 52) kc_120_47 rfl rfl ?_
          refine xi_aload_n (pc' := 53) (x := 0) kc_120_52 rfl rfl ?_
          refine xi_getfield (pc' := 56) (v := .ref 63) kc_120_53 rfl rfl rfl A29 rfl ?_
          refine xi_dup (pc' := 57) kc_120_56 rfl rfl ?_
          refine xi_getfield (pc' := 60) (v := .int u18) kc_120_57 rfl rfl rfl A20 rfl ?_
          refine xi_iload_n (pc' := 61) (x := v52) kc_120_60 rfl rfl ?_
          obtain ⟨v73, ev73⟩ : ∃ q : Int32, (u18 : Int32) ^^^ v52 = q := ⟨_, rfl⟩
          have rv73 := xc_rng v73
          refine xi_ixor (pc' := 62) (v := v73) kc_120_61 rfl ev73 ?_
          refine xi_putfield (pc' := 65) (fs' := [.ref 64, .ref 65, .int v73, .int u19]) kc_120_62 rfl rfl rfl A20 rfl rfl rfl (Nat.le_of_ble_eq_true rfl) rfl (fun hh75 eh74 => ?_)
          have K76 := xk_pf (k := 2) (v := v73) K (xk_wf (by decide +kernel)) xD_63 A20 rfl (by first | omega | decide) (by first | omega | decide) eh74 rfl
          refine xi_iconst (pc' := 66) (v := 1) kc_120_65 rfl rfl ?_
          refine xi_ireturn kc_120_66 mr_120 rfl ?_
          show xw J ov 100 195 (736, [(4, .int x4), (3, .ref 167), (2, .ref 115), (1, .ref 0), (0, .ref 1000000)], [.int 1], hh75) _
          refine xi_pop (pc' := 737) kc_195_736 rfl rfl ?_
          refine xi_aload_n (pc' := 738) (x := 115) kc_195_737 rfl rfl ?_
          refine xi_aload_n (pc' := 739) (x := 1000000) kc_195_738 rfl rfl ?_
          refine xi_iload (pc' := 741) (x := x4) kc_195_739 rfl rfl ?_
          refine xi_iconst (pc' := 742) (v := 1) kc_195_741 rfl rfl ?_
          refine xi_iadd (pc' := 743) (v := v22) kc_195_742 rfl ev22 ?_
          refine xi_ialoadO (pc' := 744) (v := a23) kc_195_743 rfl (by decide) hov0 (xi_in (by omega) (by omega)) ea23 ?_
          refine xi_aload_n (pc' := 745) (x := 1000000) kc_195_744 rfl rfl ?_
          refine xi_iload (pc' := 747) (x := x4) kc_195_745 rfl rfl ?_
          refine xi_iconst (pc' := 748) (v := 2) kc_195_747 rfl rfl ?_
          refine xi_iadd (pc' := 749) (v := v24) kc_195_748 rfl ev24 ?_
          refine xi_ialoadO (pc' := 750) (v := a25) kc_195_749 rfl (by decide) hov0 (xi_in (by omega) (by omega)) ea25 ?_
          refine xi_ift (pc' := 757) kc_195_750 rfl (xc_eq_t (X := a25.toInt) (Y := 0) rfl (by decide) (by omega)) ?_
          refine xi_iconst (pc' := 758) (v := 0) kc_195_757 rfl rfl ?_
          have A77 := ((eh74.2.1 115 (by decide)).trans A17)
          refine xi_virtual (mj := 33) (as := [.int a23, .int 0]) (st1 := []) (lv0 := [(0, .ref 115), (1, .int a23), (2, .int 0)]) kc_195_758 rfl rfl rfl rfl rfl A77 (Nat.le_of_ble_eq_true rfl) (hJ _ _ _ _ (by decide)) (xm_le ml_33 rfl) rfl ?_
          refine xi_aload_n (pc' := 1) (x := 115) kc_33_0 rfl rfl ?_
          refine xi_iconst (pc' := 2) (v := 0) kc_33_1 rfl rfl ?_
          refine xi_putfield (pc' := 5) (fs' := [.int 0, .int u5, .ref 116, .ref 117, .ref 118, .ref 119, .ref 120, .ref 121, .ref 122, .ref 123, .ref 124, .ref 125, .ref 126, .ref 127, .ref 128, .ref 129, .int u6, .ref 130, .int u7, .ref 131, .ref 132, .ref 133, .ref 134, .int u1, .ref 135, .ref 136, .ref 137, .ref 138, .ref 139, .ref 140, .ref 141, .ref 142, .int u9, .int u10, .int u11, .ref 143, .ref 144, .ref 145, .ref 146, .ref 147, .ref 148, .int u12, .ref 149, .ref 150, .ref 151, .int u13, .ref 152, .ref 153, .ref 154, .ref 155, .ref 156, .ref 157, .ref 158, .ref 159, .int u14, .ref 160, .int u15, .ref 161, .ref 162, .ref 163, .ref 164, .int u16, .ref 165, .ref 166]) kc_33_2 rfl rfl rfl A77 rfl rfl rfl (Nat.le_of_ble_eq_true rfl) rfl (fun hh79 eh78 => ?_)
          have K80 := xk_pf (k := 0) (v := 0) K76 (xk_wf (by decide +kernel)) xD_115 A77 rfl (by first | omega | decide) (by first | omega | decide) eh78 rfl
          refine xi_iload_n (pc' := 6) (x := a23) kc_33_5 rfl rfl ?_
          refine xi_iconst (pc' := 7) (v := 0) kc_33_6 rfl rfl ?_
          refine xi_aload_n (pc' := 8) (x := 115) kc_33_7 rfl rfl ?_
          refine xi_getfield (pc' := 11) (v := .int u1) kc_33_8 rfl rfl rfl eh78.1 rfl ?_
          refine xi_iconst (pc' := 12) (v := 1) kc_33_11 rfl rfl ?_
          obtain ⟨v81, ev81⟩ : ∃ q : Int32, u1 - 1 = q := ⟨_, rfl⟩
          have zv81 : v81.toInt = (u1.toInt + (-1)) := by rw [← ev81]; exact (xz_sub (X := u1.toInt) (Y := 1) rfl (by decide) (by omega) (by omega)).trans (by omega)
          refine xi_isub (pc' := 13) (v := v81) kc_33_12 rfl ev81 ?_
          refine xi_static (mj := 11) (as := [.int a23, .int 0, .int v81]) (st1 := []) (lv0 := [(0, .int a23), (1, .int 0), (2, .int v81)]) kc_33_13 rfl rfl (Nat.le_of_ble_eq_true rfl) rfl rfl (Nat.le_of_ble_eq_true rfl) (hJ _ _ _ _ (by decide)) (xm_le ml_11 rfl) rfl ?_
          refine xi_iload_n (pc' := 1) (x := a23) kc_11_0 rfl rfl ?_
          refine xi_iload_n (pc' := 2) (x := 0) kc_11_1 rfl rfl ?_
          refine xi_cmf (pc' := 5) kc_11_2 rfl (xc_lt_f (X := a23.toInt) (Y := 0) rfl (by decide) (by omega)) ?_
          refine xi_iload_n (pc' := 6) (x := a23) kc_11_5 rfl rfl ?_
          refine xi_iload_n (pc' := 7) (x := v81) kc_11_6 rfl rfl ?_
          refine xi_cmf (pc' := 10) kc_11_7 rfl (xc_gt_f (X := a23.toInt) (Y := (u1.toInt + (-1))) rfl zv81 (by omega)) ?_
          refine xi_iconst (pc' := 11) (v := 1) kc_11_10 rfl rfl ?_
          refine xi_goto (pc' := 15) kc_11_11 rfl ?_
          refine xi_ireturn kc_11_15 mr_11 rfl ?_
          show xw J ov 99 33 (16, [(0, .ref 115), (1, .int a23), (2, .int 0)], [.int 1], hh79) _
          refine xi_ift (pc' := 25) kc_33_16 rfl rfl ?_
          refine xi_aload_n (pc' := 26) (x := 115) kc_33_25 rfl rfl ?_
          refine xi_getfield (pc' := 29) (v := .ref 139) kc_33_26 rfl rfl rfl eh78.1 rfl ?_
          refine xi_iload_n (pc' := 30) (x := a23) kc_33_29 rfl rfl ?_
          obtain ⟨v82, ev82, bv82, dv82⟩ := xj_get hy21 ry21 (i := a23) (by omega) (by omega)
          have HBv82 := xB_ld H22 (by omega) (by omega) ev52 ev53 ev82
          have A83 := ((eh78.2.1 139 (by decide)).trans ((eh74.2.1 139 (by decide)).trans A21))
          refine xi_baload (pc' := 31) (v := v82) kc_33_30 rfl A83 rfl (xi_in (by omega) (by rw [hy21]; omega)) ev82 ?_
          refine xi_istore_n (pc' := 32) (lv' := [(3, .int v82), (0, .ref 115), (1, .int a23), (2, .int 0)]) kc_33_31 rfl rfl (xm_lt ml_33 rfl) ?_
          refine xi_aload_n (pc' := 33) (x := 115) kc_33_32 rfl rfl ?_
          refine xi_getfield (pc' := 36) (v := .ref 139) kc_33_33 rfl rfl rfl eh78.1 rfl ?_
          refine xi_iload_n (pc' := 37) (x := a23) kc_33_36 rfl rfl ?_
          refine xi_iload_n (pc' := 38) (x := 0) kc_33_37 rfl rfl ?_
          obtain ⟨y84, s84, hy84, ry84⟩ := xj_set (v := 0) hy21 ry21 a23 (by first | omega | decide) (by first | omega | decide)
          refine xi_bastore (pc' := 39) (x' := y84) kc_33_38 rfl A83 rfl (xi_in (by omega) (by rw [hy21]; omega)) s84 (fun hh84 eh84 => ?_)
          have K85 := xk_pa K80 (xk_wa (by decide +kernel)) xD_139 hy84 ry84 eh84
          refine xi_iload_n (pc' := 40) (x := v82) kc_33_39 rfl rfl ?_
          refine xi_iload_n (pc' := 41) (x := 0) kc_33_40 rfl rfl ?_
          by_cases c86 : v82.toInt = 0
          · refine xi_cmf (pc' := 44) kc_33_41 rfl (xc_ne_f (X := v82.toInt) (Y := 0) rfl (by decide) (by omega)) ?_
            refine xi_iconst (pc' := 45) (v := 0) kc_33_44 rfl rfl ?_
            refine xi_goto (pc' := 49) kc_33_45 rfl ?_
            refine xi_ireturn kc_33_49 mr_33 rfl ?_
            show xw J ov 100 195 (761, [(4, .int x4), (3, .ref 167), (2, .ref 115), (1, .ref 0), (0, .ref 1000000)], [.int 0], hh84) _
            refine xi_pop (pc' := 762) kc_195_761 rfl rfl ?_
            refine xi_goto (pc' := 1501) kc_195_762 rfl ?_
            obtain ⟨v87, ev87⟩ : ∃ q : Int32, x4 + 6 = q := ⟨_, rfl⟩
            have zv87 : v87.toInt = (x4.toInt + 6) := by rw [← ev87]; exact (xz_add (X := x4.toInt) (Y := 6) rfl (by decide) (by omega) (by omega)).trans (by omega)
            refine xi_iinc (pc' := 1504) (x := x4) (v := v87) (lv' := [(4, .int v87), (3, .ref 167), (2, .ref 115), (1, .ref 0), (0, .ref 1000000)]) kc_195_1501 rfl rfl ev87 rfl (xm_lt ml_195 rfl) ?_
            refine xi_goto (pc' := 23) kc_195_1504 rfl ?_
            have A88 := ((eh84.2.1 1 (by decide)).trans ((eh78.2.1 1 (by decide)).trans ((eh74.2.1 1 (by decide)).trans A3)))
            have A89 := ((eh84.2.1 115 (by decide)).trans eh78.1)
            have zc0 : (0 : Int32).toInt = 0 := by decide
            have zc1 : (1 : Int32).toInt = 1 := by decide
            have A90 := ((eh84.2.1 63 (by decide)).trans ((eh78.2.1 63 (by decide)).trans eh74.1))
            exact kk v87 hh84 (by omega) K85 ⟨((K85.2.1 (0, 9) (by decide +kernel)).trans (I.1.trans (K85.2.1 (115, 1) (by decide +kernel)).symm)), (xWW_fr I.2.1 (K85.2.1 (64, 0) (by decide +kernel)) (K85.2.1 (121, 0) (by decide +kernel))), (xSG_fr I.2.2.1 (fun l hl => K85.2.1 l (xk_el (by decide +kernel) hl))), (by rw [(K85.2.1 (13, 0) (by decide +kernel)), (K85.2.1 (122, 0) (by decide +kernel))]; exact I.2.2.2.1), (by rw [(K85.2.1 (16, 0) (by decide +kernel)), (K85.2.1 (122, 0) (by decide +kernel))]; exact I.2.2.2.2.1), (by rw [(K85.2.1 (19, 0) (by decide +kernel)), (K85.2.1 (122, 0) (by decide +kernel))]; exact I.2.2.2.2.2.1), (by rw [(K85.2.1 (22, 0) (by decide +kernel)), (K85.2.1 (122, 0) (by decide +kernel))]; exact I.2.2.2.2.2.2.1), (by rw [(K85.2.1 (25, 0) (by decide +kernel)), (K85.2.1 (122, 0) (by decide +kernel))]; exact I.2.2.2.2.2.2.2.1), (by rw [(K85.2.1 (28, 0) (by decide +kernel)), (K85.2.1 (122, 0) (by decide +kernel))]; exact I.2.2.2.2.2.2.2.2.1), (by rw [(K85.2.1 (6, 0) (by decide +kernel)), (K85.2.1 (123, 0) (by decide +kernel))]; exact I.2.2.2.2.2.2.2.2.2.1), (by rw [(K85.2.1 (9, 0) (by decide +kernel)), (K85.2.1 (124, 0) (by decide +kernel))]; exact I.2.2.2.2.2.2.2.2.2.2.1), (by rw [(K85.2.1 (7, 0) (by decide +kernel)), (K85.2.1 (6, 0) (by decide +kernel))]; exact I.2.2.2.2.2.2.2.2.2.2.2.1), (by rw [(K85.2.1 (10, 0) (by decide +kernel)), (K85.2.1 (9, 0) (by decide +kernel))]; exact I.2.2.2.2.2.2.2.2.2.2.2.2.1), ((K85.2.1 (5, 0) (by decide +kernel)).trans I.2.2.2.2.2.2.2.2.2.2.2.2.2.1), ((K85.2.1 (8, 0) (by decide +kernel)).trans I.2.2.2.2.2.2.2.2.2.2.2.2.2.2.1), (xGR_fr I.2.2.2.2.2.2.2.2.2.2.2.2.2.2.2.1 K85.2.1 (by decide +kernel) (by decide +kernel)), (xGR_fr I.2.2.2.2.2.2.2.2.2.2.2.2.2.2.2.2.1 K85.2.1 (by decide +kernel) (by decide +kernel)), ((xl_of A88 rfl).trans (xl_of A89 rfl).symm), (xGR_fr I.2.2.2.2.2.2.2.2.2.2.2.2.2.2.2.2.2.2.1 K85.2.1 (by decide +kernel) (by decide +kernel)), (xGR_fr I.2.2.2.2.2.2.2.2.2.2.2.2.2.2.2.2.2.2.2.1 K85.2.1 (by decide +kernel) (by decide +kernel)), (xGR_fr I.2.2.2.2.2.2.2.2.2.2.2.2.2.2.2.2.2.2.2.2.1 K85.2.1 (by decide +kernel) (by decide +kernel)), (xGR_fr I.2.2.2.2.2.2.2.2.2.2.2.2.2.2.2.2.2.2.2.2.2.1 K85.2.1 (by decide +kernel) (by decide +kernel)), (xB_mk A90 eh84.1 A88 rfl rfl (xB_flip (on := 0) H22 (by first | omega | decide) (by first | omega | decide) (by omega) hy21 ev52 ev53 ev73 s84 (by omega))), ((K85.2.1 (0, 8) (by decide +kernel)).trans (I.2.2.2.2.2.2.2.2.2.2.2.2.2.2.2.2.2.2.2.2.2.2.2.1.trans (K85.2.1 (115, 34) (by decide +kernel)).symm)), (xGR_fr I.2.2.2.2.2.2.2.2.2.2.2.2.2.2.2.2.2.2.2.2.2.2.2.2.1 K85.2.1 (by decide +kernel) (by decide +kernel)), (xGR_fr I.2.2.2.2.2.2.2.2.2.2.2.2.2.2.2.2.2.2.2.2.2.2.2.2.2.1 K85.2.1 (by decide +kernel) (by decide +kernel)), (xGR_fr I.2.2.2.2.2.2.2.2.2.2.2.2.2.2.2.2.2.2.2.2.2.2.2.2.2.2.1 K85.2.1 (by decide +kernel) (by decide +kernel)), (xGR_fr I.2.2.2.2.2.2.2.2.2.2.2.2.2.2.2.2.2.2.2.2.2.2.2.2.2.2.2.1 K85.2.1 (by decide +kernel) (by decide +kernel)), (xts_fr I.2.2.2.2.2.2.2.2.2.2.2.2.2.2.2.2.2.2.2.2.2.2.2.2.2.2.2.2.1 (fun l hl => K85.2.1 l (xk_el (by decide +kernel) hl))), ((K85.2.1 (63, 3) (by decide +kernel)).trans I.2.2.2.2.2.2.2.2.2.2.2.2.2.2.2.2.2.2.2.2.2.2.2.2.2.2.2.2.2)⟩
          · refine xi_cmt (pc' := 48) kc_33_41 rfl (xc_ne_t (X := v82.toInt) (Y := 0) rfl (by decide) (by omega)) ?_
            refine xi_iconst (pc' := 49) (v := 1) kc_33_48 rfl rfl ?_
            refine xi_ireturn kc_33_49 mr_33 rfl ?_
            show xw J ov 100 195 (761, [(4, .int x4), (3, .ref 167), (2, .ref 115), (1, .ref 0), (0, .ref 1000000)], [.int 1], hh84) _
            refine xi_pop (pc' := 762) kc_195_761 rfl rfl ?_
            refine xi_goto (pc' := 1501) kc_195_762 rfl ?_
            obtain ⟨v91, ev91⟩ : ∃ q : Int32, x4 + 6 = q := ⟨_, rfl⟩
            have zv91 : v91.toInt = (x4.toInt + 6) := by rw [← ev91]; exact (xz_add (X := x4.toInt) (Y := 6) rfl (by decide) (by omega) (by omega)).trans (by omega)
            refine xi_iinc (pc' := 1504) (x := x4) (v := v91) (lv' := [(4, .int v91), (3, .ref 167), (2, .ref 115), (1, .ref 0), (0, .ref 1000000)]) kc_195_1501 rfl rfl ev91 rfl (xm_lt ml_195 rfl) ?_
            refine xi_goto (pc' := 23) kc_195_1504 rfl ?_
            have A92 := ((eh84.2.1 1 (by decide)).trans ((eh78.2.1 1 (by decide)).trans ((eh74.2.1 1 (by decide)).trans A3)))
            have A93 := ((eh84.2.1 115 (by decide)).trans eh78.1)
            have zc0 : (0 : Int32).toInt = 0 := by decide
            have zc1 : (1 : Int32).toInt = 1 := by decide
            have A94 := ((eh84.2.1 63 (by decide)).trans ((eh78.2.1 63 (by decide)).trans eh74.1))
            exact kk v91 hh84 (by omega) K85 ⟨((K85.2.1 (0, 9) (by decide +kernel)).trans (I.1.trans (K85.2.1 (115, 1) (by decide +kernel)).symm)), (xWW_fr I.2.1 (K85.2.1 (64, 0) (by decide +kernel)) (K85.2.1 (121, 0) (by decide +kernel))), (xSG_fr I.2.2.1 (fun l hl => K85.2.1 l (xk_el (by decide +kernel) hl))), (by rw [(K85.2.1 (13, 0) (by decide +kernel)), (K85.2.1 (122, 0) (by decide +kernel))]; exact I.2.2.2.1), (by rw [(K85.2.1 (16, 0) (by decide +kernel)), (K85.2.1 (122, 0) (by decide +kernel))]; exact I.2.2.2.2.1), (by rw [(K85.2.1 (19, 0) (by decide +kernel)), (K85.2.1 (122, 0) (by decide +kernel))]; exact I.2.2.2.2.2.1), (by rw [(K85.2.1 (22, 0) (by decide +kernel)), (K85.2.1 (122, 0) (by decide +kernel))]; exact I.2.2.2.2.2.2.1), (by rw [(K85.2.1 (25, 0) (by decide +kernel)), (K85.2.1 (122, 0) (by decide +kernel))]; exact I.2.2.2.2.2.2.2.1), (by rw [(K85.2.1 (28, 0) (by decide +kernel)), (K85.2.1 (122, 0) (by decide +kernel))]; exact I.2.2.2.2.2.2.2.2.1), (by rw [(K85.2.1 (6, 0) (by decide +kernel)), (K85.2.1 (123, 0) (by decide +kernel))]; exact I.2.2.2.2.2.2.2.2.2.1), (by rw [(K85.2.1 (9, 0) (by decide +kernel)), (K85.2.1 (124, 0) (by decide +kernel))]; exact I.2.2.2.2.2.2.2.2.2.2.1), (by rw [(K85.2.1 (7, 0) (by decide +kernel)), (K85.2.1 (6, 0) (by decide +kernel))]; exact I.2.2.2.2.2.2.2.2.2.2.2.1), (by rw [(K85.2.1 (10, 0) (by decide +kernel)), (K85.2.1 (9, 0) (by decide +kernel))]; exact I.2.2.2.2.2.2.2.2.2.2.2.2.1), ((K85.2.1 (5, 0) (by decide +kernel)).trans I.2.2.2.2.2.2.2.2.2.2.2.2.2.1), ((K85.2.1 (8, 0) (by decide +kernel)).trans I.2.2.2.2.2.2.2.2.2.2.2.2.2.2.1), (xGR_fr I.2.2.2.2.2.2.2.2.2.2.2.2.2.2.2.1 K85.2.1 (by decide +kernel) (by decide +kernel)), (xGR_fr I.2.2.2.2.2.2.2.2.2.2.2.2.2.2.2.2.1 K85.2.1 (by decide +kernel) (by decide +kernel)), ((xl_of A92 rfl).trans (xl_of A93 rfl).symm), (xGR_fr I.2.2.2.2.2.2.2.2.2.2.2.2.2.2.2.2.2.2.1 K85.2.1 (by decide +kernel) (by decide +kernel)), (xGR_fr I.2.2.2.2.2.2.2.2.2.2.2.2.2.2.2.2.2.2.2.1 K85.2.1 (by decide +kernel) (by decide +kernel)), (xGR_fr I.2.2.2.2.2.2.2.2.2.2.2.2.2.2.2.2.2.2.2.2.1 K85.2.1 (by decide +kernel) (by decide +kernel)), (xGR_fr I.2.2.2.2.2.2.2.2.2.2.2.2.2.2.2.2.2.2.2.2.2.1 K85.2.1 (by decide +kernel) (by decide +kernel)), (xB_mk A94 eh84.1 A92 rfl rfl (xB_flip (on := 0) H22 (by first | omega | decide) (by first | omega | decide) (by omega) hy21 ev52 ev53 ev73 s84 (by omega))), ((K85.2.1 (0, 8) (by decide +kernel)).trans (I.2.2.2.2.2.2.2.2.2.2.2.2.2.2.2.2.2.2.2.2.2.2.2.1.trans (K85.2.1 (115, 34) (by decide +kernel)).symm)), (xGR_fr I.2.2.2.2.2.2.2.2.2.2.2.2.2.2.2.2.2.2.2.2.2.2.2.2.1 K85.2.1 (by decide +kernel) (by decide +kernel)), (xGR_fr I.2.2.2.2.2.2.2.2.2.2.2.2.2.2.2.2.2.2.2.2.2.2.2.2.2.1 K85.2.1 (by decide +kernel) (by decide +kernel)), (xGR_fr I.2.2.2.2.2.2.2.2.2.2.2.2.2.2.2.2.2.2.2.2.2.2.2.2.2.2.1 K85.2.1 (by decide +kernel) (by decide +kernel)), (xGR_fr I.2.2.2.2.2.2.2.2.2.2.2.2.2.2.2.2.2.2.2.2.2.2.2.2.2.2.2.1 K85.2.1 (by decide +kernel) (by decide +kernel)), (xts_fr I.2.2.2.2.2.2.2.2.2.2.2.2.2.2.2.2.2.2.2.2.2.2.2.2.2.2.2.2.1 (fun l hl => K85.2.1 l (xk_el (by decide +kernel) hl))), ((K85.2.1 (63, 3) (by decide +kernel)).trans I.2.2.2.2.2.2.2.2.2.2.2.2.2.2.2.2.2.2.2.2.2.2.2.2.2.2.2.2.2)⟩
      · refine xi_cmf (pc' := 15) kc_120_12 rfl (xc_lt_f (X := a23.toInt) (Y := u1.toInt) rfl rfl (by omega)) ?_
        refine xi_aload_n (pc' := 16) (x := 0) kc_120_15 rfl rfl ?_
        refine xi_iconst (pc' := 17) (v := (-1)) kc_120_16 rfl rfl ?_
        refine xi_virtual (mj := 90) (as := [.int (-1)]) (st1 := []) (lv0 := [(0, .ref 0), (1, .int (-1))]) kc_120_17 rfl rfl rfl rfl rfl A29 (Nat.le_of_ble_eq_true rfl) (hJ _ _ _ _ (by decide)) (xm_le ml_90 rfl) rfl ?_
        refine xi_iload_n (pc' := 1) (x := (-1)) kc_90_0 rfl rfl ?_
        refine xi_ineg (pc' := 2) (v := 1) kc_90_1 rfl rfl ?_
        refine xi_istore_n (pc' := 3) (lv' := [(2, .int 1), (0, .ref 0), (1, .int (-1))]) kc_90_2 rfl rfl (xm_lt ml_90 rfl) ?_
        refine xi_iload_n (pc' := 4) (x := 1) kc_90_3 rfl rfl ?_
        refine xi_iff (pc' := 7) kc_90_4 rfl rfl ?_
        refine xi_iload_n (pc' := 8) (x := 1) kc_90_7 rfl rfl ?_
        refine xi_aload_n (pc' := 9) (x := 0) kc_90_8 rfl rfl ?_
        refine xi_getfield (pc' := 12) (v := .ref 94) kc_90_9 rfl rfl rfl A29 rfl ?_
        obtain ⟨y95, A95, hy95, ry95⟩ := xk_arr K.1 xD_94
        refine xi_arraylength (pc' := 13) (n := 7) (v := 7) kc_90_12 rfl (xl_lenI (by decide) (by decide) A95 hy95) rfl ?_
        refine xi_cmf (pc' := 16) kc_90_13 rfl rfl ?_
        refine xi_aload_n (pc' := 17) (x := 0) kc_90_16 rfl rfl ?_
        refine xi_getfield (pc' := 20) (v := .ref 94) kc_90_17 rfl rfl rfl A29 rfl ?_
        refine xi_iload_n (pc' := 21) (x := 1) kc_90_20 rfl rfl ?_
        refine xi_dup2 (pc' := 22) kc_90_21 rfl ⟨rfl, rfl⟩ ?_
        obtain ⟨v96, ev96, bv96, dv96⟩ := xj_get hy95 ry95 (i := 1) (by decide) (by decide)
        refine xi_iaload (pc' := 23) (v := v96) kc_90_22 rfl A95 (by decide) rfl (xi_in (by decide) (by rw [hy95]; decide)) ev96 ?_
        refine xi_iconst (pc' := 24) (v := 1) kc_90_23 rfl rfl ?_
        obtain ⟨v97, ev97⟩ : ∃ q : Int32, (v96 : Int32) + 1 = q := ⟨_, rfl⟩
        have rv97 := xc_rng v97
        refine xi_iadd (pc' := 25) (v := v97) kc_90_24 rfl ev97 ?_
        obtain ⟨y98, s98, hy98, ry98⟩ := xj_set (v := v97) hy95 ry95 1 (by first | omega | decide) (by first | omega | decide)
        refine xi_iastore (pc' := 26) (x' := y98) kc_90_25 rfl A95 rfl (xi_in (by decide) (by rw [hy95]; decide)) s98 (fun hh98 eh98 => ?_)
        have K99 := xk_pa K (xk_wa (by decide +kernel)) xD_94 hy98 ry98 eh98
        have KR100 := xk_pa KR (xk_wa (by decide +kernel)) xD_94 hy98 ry98 eh98
        refine xi_iload_n (pc' := 27) (x := (-1)) kc_90_26 rfl rfl ?_
        refine xi_ireturn kc_90_27 mr_90 rfl ?_
        show xw J ov 99 120 (20, [(0, .ref 0), (1, .int a23), (2, .int 0)], [.int (-1)], hh98) _
        refine xi_ireturn kc_120_20 mr_120 rfl ?_
        show xw J ov 100 195 (736, [(4, .int x4), (3, .ref 167), (2, .ref 115), (1, .ref 0), (0, .ref 1000000)], [.int (-1)], hh98) _
        refine xi_pop (pc' := 737) kc_195_736 rfl rfl ?_
        refine xi_aload_n (pc' := 738) (x := 115) kc_195_737 rfl rfl ?_
        refine xi_aload_n (pc' := 739) (x := 1000000) kc_195_738 rfl rfl ?_
        refine xi_iload (pc' := 741) (x := x4) kc_195_739 rfl rfl ?_
        refine xi_iconst (pc' := 742) (v := 1) kc_195_741 rfl rfl ?_
        refine xi_iadd (pc' := 743) (v := v22) kc_195_742 rfl ev22 ?_
        refine xi_ialoadO (pc' := 744) (v := a23) kc_195_743 rfl (by decide) hov0 (xi_in (by omega) (by omega)) ea23 ?_
        refine xi_aload_n (pc' := 745) (x := 1000000) kc_195_744 rfl rfl ?_
        refine xi_iload (pc' := 747) (x := x4) kc_195_745 rfl rfl ?_
        refine xi_iconst (pc' := 748) (v := 2) kc_195_747 rfl rfl ?_
        refine xi_iadd (pc' := 749) (v := v24) kc_195_748 rfl ev24 ?_
        refine xi_ialoadO (pc' := 750) (v := a25) kc_195_749 rfl (by decide) hov0 (xi_in (by omega) (by omega)) ea25 ?_
        refine xi_ift (pc' := 757) kc_195_750 rfl (xc_eq_t (X := a25.toInt) (Y := 0) rfl (by decide) (by omega)) ?_
        refine xi_iconst (pc' := 758) (v := 0) kc_195_757 rfl rfl ?_
        have A101 := ((eh98.2.1 115 (by decide)).trans A17)
        refine xi_virtual (mj := 33) (as := [.int a23, .int 0]) (st1 := []) (lv0 := [(0, .ref 115), (1, .int a23), (2, .int 0)]) kc_195_758 rfl rfl rfl rfl rfl A101 (Nat.le_of_ble_eq_true rfl) (hJ _ _ _ _ (by decide)) (xm_le ml_33 rfl) rfl ?_
        refine xi_aload_n (pc' := 1) (x := 115) kc_33_0 rfl rfl ?_
        refine xi_iconst (pc' := 2) (v := 0) kc_33_1 rfl rfl ?_
        refine xi_putfield (pc' := 5) (fs' := [.int 0, .int u5, .ref 116, .ref 117, .ref 118, .ref 119, .ref 120, .ref 121, .ref 122, .ref 123, .ref 124, .ref 125, .ref 126, .ref 127, .ref 128, .ref 129, .int u6, .ref 130, .int u7, .ref 131, .ref 132, .ref 133, .ref 134, .int u1, .ref 135, .ref 136, .ref 137, .ref 138, .ref 139, .ref 140, .ref 141, .ref 142, .int u9, .int u10, .int u11, .ref 143, .ref 144, .ref 145, .ref 146, .ref 147, .ref 148, .int u12, .ref 149, .ref 150, .ref 151, .int u13, .ref 152, .ref 153, .ref 154, .ref 155, .ref 156, .ref 157, .ref 158, .ref 159, .int u14, .ref 160, .int u15, .ref 161, .ref 162, .ref 163, .ref 164, .int u16, .ref 165, .ref 166]) kc_33_2 rfl rfl rfl A101 rfl rfl rfl (Nat.le_of_ble_eq_true rfl) rfl (fun hh103 eh102 => ?_)
        have K104 := xk_pf (k := 0) (v := 0) K99 (xk_wf (by decide +kernel)) xD_115 A101 rfl (by first | omega | decide) (by first | omega | decide) eh102 rfl
        have KR105 := xk_pf (k := 0) (v := 0) KR100 (xk_wf (by decide +kernel)) xD_115 A101 rfl (by first | omega | decide) (by first | omega | decide) eh102 rfl
        refine xi_iload_n (pc' := 6) (x := a23) kc_33_5 rfl rfl ?_
        refine xi_iconst (pc' := 7) (v := 0) kc_33_6 rfl rfl ?_
        refine xi_aload_n (pc' := 8) (x := 115) kc_33_7 rfl rfl ?_
        refine xi_getfield (pc' := 11) (v := .int u1) kc_33_8 rfl rfl rfl eh102.1 rfl ?_
        refine xi_iconst (pc' := 12) (v := 1) kc_33_11 rfl rfl ?_
        obtain ⟨v106, ev106⟩ : ∃ q : Int32, u1 - 1 = q := ⟨_, rfl⟩
        have zv106 : v106.toInt = (u1.toInt + (-1)) := by rw [← ev106]; exact (xz_sub (X := u1.toInt) (Y := 1) rfl (by decide) (by omega) (by omega)).trans (by omega)
        refine xi_isub (pc' := 13) (v := v106) kc_33_12 rfl ev106 ?_
        refine xi_static (mj := 11) (as := [.int a23, .int 0, .int v106]) (st1 := []) (lv0 := [(0, .int a23), (1, .int 0), (2, .int v106)]) kc_33_13 rfl rfl (Nat.le_of_ble_eq_true rfl) rfl rfl (Nat.le_of_ble_eq_true rfl) (hJ _ _ _ _ (by decide)) (xm_le ml_11 rfl) rfl ?_
        refine xi_iload_n (pc' := 1) (x := a23) kc_11_0 rfl rfl ?_
        refine xi_iload_n (pc' := 2) (x := 0) kc_11_1 rfl rfl ?_
        refine xi_cmf (pc' := 5) kc_11_2 rfl (xc_lt_f (X := a23.toInt) (Y := 0) rfl (by decide) (by omega)) ?_
        refine xi_iload_n (pc' := 6) (x := a23) kc_11_5 rfl rfl ?_
        refine xi_iload_n (pc' := 7) (x := v106) kc_11_6 rfl rfl ?_
        refine xi_cmt (pc' := 14) kc_11_7 rfl (xc_gt_t (X := a23.toInt) (Y := (u1.toInt + (-1))) rfl zv106 (by omega)) ?_
        refine xi_iconst (pc' := 15) (v := 0) kc_11_14 rfl rfl ?_
        refine xi_ireturn kc_11_15 mr_11 rfl ?_
        show xw J ov 99 33 (16, [(0, .ref 115), (1, .int a23), (2, .int 0)], [.int 0], hh103) _
        refine xi_iff (pc' := 19) kc_33_16 rfl rfl ?_
        refine xi_aload_n (pc' := 20) (x := 115) kc_33_19 rfl rfl ?_
        refine xi_iconst (pc' := 21) (v := (-1)) kc_33_20 rfl rfl ?_
        refine xi_virtual (mj := 12) (as := [.int (-1)]) (st1 := []) (lv0 := [(0, .ref 115), (1, .int (-1))]) kc_33_21 rfl rfl rfl rfl rfl eh102.1 (Nat.le_of_ble_eq_true rfl) (hJ _ _ _ _ (by decide)) (xm_le ml_12 rfl) rfl ?_
        refine xi_aload_n (pc' := 1) (x := 115) kc_12_0 rfl rfl ?_
        refine xi_getfield (pc' := 4) (v := .ref 140) kc_12_1 rfl rfl rfl eh102.1 rfl ?_
        refine xi_iload_n (pc' := 5) (x := (-1)) kc_12_4 rfl rfl ?_
        refine xi_ineg (pc' := 6) (v := 1) kc_12_5 rfl rfl ?_
        refine xi_dup2 (pc' := 7) kc_12_6 rfl ⟨rfl, rfl⟩ ?_
        obtain ⟨y107, A107, hy107, ry107⟩ := xk_arr K.1 xD_140
        obtain ⟨v108, ev108, bv108, dv108⟩ := xj_get hy107 ry107 (i := 1) (by decide) (by decide)
        have A109 := ((eh102.2.1 140 (by decide)).trans ((eh98.2.1 140 (by decide)).trans A107))
        refine xi_iaload (pc' := 8) (v := v108) kc_12_7 rfl A109 (by decide) rfl (xi_in (by decide) (by rw [hy107]; decide)) ev108 ?_
        refine xi_iconst (pc' := 9) (v := 1) kc_12_8 rfl rfl ?_
        obtain ⟨v110, ev110⟩ : ∃ q : Int32, (v108 : Int32) + 1 = q := ⟨_, rfl⟩
        have rv110 := xc_rng v110
        refine xi_iadd (pc' := 10) (v := v110) kc_12_9 rfl ev110 ?_
        obtain ⟨y111, s111, hy111, ry111⟩ := xj_set (v := v110) hy107 ry107 1 (by first | omega | decide) (by first | omega | decide)
        refine xi_iastore (pc' := 11) (x' := y111) kc_12_10 rfl A109 rfl (xi_in (by decide) (by rw [hy107]; decide)) s111 (fun hh111 eh111 => ?_)
        have K112 := xk_pa K104 (xk_wa (by decide +kernel)) xD_140 hy111 ry111 eh111
        have KR113 := xk_pa KR105 (xk_wa (by decide +kernel)) xD_140 hy111 ry111 eh111
        refine xi_iload_n (pc' := 12) (x := (-1)) kc_12_11 rfl rfl ?_
        refine xi_ireturn kc_12_12 mr_12 rfl ?_
        show xw J ov 99 33 (24, [(0, .ref 115), (1, .int a23), (2, .int 0)], [.int (-1)], hh111) _
        refine xi_ireturn kc_33_24 mr_33 rfl ?_
        show xw J ov 100 195 (761, [(4, .int x4), (3, .ref 167), (2, .ref 115), (1, .ref 0), (0, .ref 1000000)], [.int (-1)], hh111) _
        refine xi_pop (pc' := 762) kc_195_761 rfl rfl ?_
        refine xi_goto (pc' := 1501) kc_195_762 rfl ?_
        obtain ⟨v114, ev114⟩ : ∃ q : Int32, x4 + 6 = q := ⟨_, rfl⟩
        have zv114 : v114.toInt = (x4.toInt + 6) := by rw [← ev114]; exact (xz_add (X := x4.toInt) (Y := 6) rfl (by decide) (by omega) (by omega)).trans (by omega)
        refine xi_iinc (pc' := 1504) (x := x4) (v := v114) (lv' := [(4, .int v114), (3, .ref 167), (2, .ref 115), (1, .ref 0), (0, .ref 1000000)]) kc_195_1501 rfl rfl ev114 rfl (xm_lt ml_195 rfl) ?_
        refine xi_goto (pc' := 23) kc_195_1504 rfl ?_
        exact kk v114 hh111 (by omega) K112 (xI_kept I KR113.2.1)
  · refine xi_iff (pc' := 728) kc_195_725 rfl (xc_eq_f (X := a25.toInt) (Y := 0) rfl (by decide) (by omega)) ?_
    refine xi_iconst (pc' := 729) (v := 1) kc_195_728 rfl rfl ?_
    refine xi_goto (pc' := 733) kc_195_729 rfl ?_
    obtain ⟨u115, u116, bu115, bu116, A117⟩ := xq_0 K.1
    refine xi_virtual (mj := 120) (as := [.int a23, .int 1]) (st1 := []) (lv0 := [(0, .ref 0), (1, .int a23), (2, .int 1)]) kc_195_733 rfl rfl rfl rfl rfl A117 (Nat.le_of_ble_eq_true rfl) (hJ _ _ _ _ (by decide)) (xm_le ml_120 rfl) rfl ?_
    refine xi_iload_n (pc' := 1) (x := a23) kc_120_0 rfl rfl ?_
    by_cases c118 : a23.toInt < 0
    · refine xi_ift (pc' := 15) kc_120_1 rfl (xc_lt_t (X := a23.toInt) (Y := 0) rfl (by decide) (by omega)) ?_
      refine xi_aload_n (pc' := 16) (x := 0) kc_120_15 rfl rfl ?_
      refine xi_iconst (pc' := 17) (v := (-1)) kc_120_16 rfl rfl ?_
      refine xi_virtual (mj := 90) (as := [.int (-1)]) (st1 := []) (lv0 := [(0, .ref 0), (1, .int (-1))]) kc_120_17 rfl rfl rfl rfl rfl A117 (Nat.le_of_ble_eq_true rfl) (hJ _ _ _ _ (by decide)) (xm_le ml_90 rfl) rfl ?_
      refine xi_iload_n (pc' := 1) (x := (-1)) kc_90_0 rfl rfl ?_
      refine xi_ineg (pc' := 2) (v := 1) kc_90_1 rfl rfl ?_
      refine xi_istore_n (pc' := 3) (lv' := [(2, .int 1), (0, .ref 0), (1, .int (-1))]) kc_90_2 rfl rfl (xm_lt ml_90 rfl) ?_
      refine xi_iload_n (pc' := 4) (x := 1) kc_90_3 rfl rfl ?_
      refine xi_iff (pc' := 7) kc_90_4 rfl rfl ?_
      refine xi_iload_n (pc' := 8) (x := 1) kc_90_7 rfl rfl ?_
      refine xi_aload_n (pc' := 9) (x := 0) kc_90_8 rfl rfl ?_
      refine xi_getfield (pc' := 12) (v := .ref 94) kc_90_9 rfl rfl rfl A117 rfl ?_
      obtain ⟨y119, A119, hy119, ry119⟩ := xk_arr K.1 xD_94
      refine xi_arraylength (pc' := 13) (n := 7) (v := 7) kc_90_12 rfl (xl_lenI (by decide) (by decide) A119 hy119) rfl ?_
      refine xi_cmf (pc' := 16) kc_90_13 rfl rfl ?_
      refine xi_aload_n (pc' := 17) (x := 0) kc_90_16 rfl rfl ?_
      refine xi_getfield (pc' := 20) (v := .ref 94) kc_90_17 rfl rfl rfl A117 rfl ?_
      refine xi_iload_n (pc' := 21) (x := 1) kc_90_20 rfl rfl ?_
      refine xi_dup2 (pc' := 22) kc_90_21 rfl ⟨rfl, rfl⟩ ?_
      obtain ⟨v120, ev120, bv120, dv120⟩ := xj_get hy119 ry119 (i := 1) (by decide) (by decide)
      refine xi_iaload (pc' := 23) (v := v120) kc_90_22 rfl A119 (by decide) rfl (xi_in (by decide) (by rw [hy119]; decide)) ev120 ?_
      refine xi_iconst (pc' := 24) (v := 1) kc_90_23 rfl rfl ?_
      obtain ⟨v121, ev121⟩ : ∃ q : Int32, (v120 : Int32) + 1 = q := ⟨_, rfl⟩
      have rv121 := xc_rng v121
      refine xi_iadd (pc' := 25) (v := v121) kc_90_24 rfl ev121 ?_
      obtain ⟨y122, s122, hy122, ry122⟩ := xj_set (v := v121) hy119 ry119 1 (by first | omega | decide) (by first | omega | decide)
      refine xi_iastore (pc' := 26) (x' := y122) kc_90_25 rfl A119 rfl (xi_in (by decide) (by rw [hy119]; decide)) s122 (fun hh122 eh122 => ?_)
      have K123 := xk_pa K (xk_wa (by decide +kernel)) xD_94 hy122 ry122 eh122
      have KR124 := xk_pa KR (xk_wa (by decide +kernel)) xD_94 hy122 ry122 eh122
      refine xi_iload_n (pc' := 27) (x := (-1)) kc_90_26 rfl rfl ?_
      refine xi_ireturn kc_90_27 mr_90 rfl ?_
      show xw J ov 99 120 (20, [(0, .ref 0), (1, .int a23), (2, .int 1)], [.int (-1)], hh122) _
      refine xi_ireturn kc_120_20 mr_120 rfl ?_
      show xw J ov 100 195 (736, [(4, .int x4), (3, .ref 167), (2, .ref 115), (1, .ref 0), (0, .ref 1000000)], [.int (-1)], hh122) _
      refine xi_pop (pc' := 737) kc_195_736 rfl rfl ?_
      refine xi_aload_n (pc' := 738) (x := 115) kc_195_737 rfl rfl ?_
      refine xi_aload_n (pc' := 739) (x := 1000000) kc_195_738 rfl rfl ?_
      refine xi_iload (pc' := 741) (x := x4) kc_195_739 rfl rfl ?_
      refine xi_iconst (pc' := 742) (v := 1) kc_195_741 rfl rfl ?_
      refine xi_iadd (pc' := 743) (v := v22) kc_195_742 rfl ev22 ?_
      refine xi_ialoadO (pc' := 744) (v := a23) kc_195_743 rfl (by decide) hov0 (xi_in (by omega) (by omega)) ea23 ?_
      refine xi_aload_n (pc' := 745) (x := 1000000) kc_195_744 rfl rfl ?_
      refine xi_iload (pc' := 747) (x := x4) kc_195_745 rfl rfl ?_
      refine xi_iconst (pc' := 748) (v := 2) kc_195_747 rfl rfl ?_
      refine xi_iadd (pc' := 749) (v := v24) kc_195_748 rfl ev24 ?_
      refine xi_ialoadO (pc' := 750) (v := a25) kc_195_749 rfl (by decide) hov0 (xi_in (by omega) (by omega)) ea25 ?_
      refine xi_iff (pc' := 753) kc_195_750 rfl (xc_eq_f (X := a25.toInt) (Y := 0) rfl (by decide) (by omega)) ?_
      refine xi_iconst (pc' := 754) (v := 1) kc_195_753 rfl rfl ?_
      refine xi_goto (pc' := 758) kc_195_754 rfl ?_
      have A125 := ((eh122.2.1 115 (by decide)).trans A17)
      refine xi_virtual (mj := 33) (as := [.int a23, .int 1]) (st1 := []) (lv0 := [(0, .ref 115), (1, .int a23), (2, .int 1)]) kc_195_758 rfl rfl rfl rfl rfl A125 (Nat.le_of_ble_eq_true rfl) (hJ _ _ _ _ (by decide)) (xm_le ml_33 rfl) rfl ?_
      refine xi_aload_n (pc' := 1) (x := 115) kc_33_0 rfl rfl ?_
      refine xi_iconst (pc' := 2) (v := 0) kc_33_1 rfl rfl ?_
      refine xi_putfield (pc' := 5) (fs' := [.int 0, .int u5, .ref 116, .ref 117, .ref 118, .ref 119, .ref 120, .ref 121, .ref 122, .ref 123, .ref 124, .ref 125, .ref 126, .ref 127, .ref 128, .ref 129, .int u6, .ref 130, .int u7, .ref 131, .ref 132, .ref 133, .ref 134, .int u1, .ref 135, .ref 136, .ref 137, .ref 138, .ref 139, .ref 140, .ref 141, .ref 142, .int u9, .int u10, .int u11, .ref 143, .ref 144, .ref 145, .ref 146, .ref 147, .ref 148, .int u12, .ref 149, .ref 150, .ref 151, .int u13, .ref 152, .ref 153, .ref 154, .ref 155, .ref 156, .ref 157, .ref 158, .ref 159, .int u14, .ref 160, .int u15, .ref 161, .ref 162, .ref 163, .ref 164, .int u16, .ref 165, .ref 166]) kc_33_2 rfl rfl rfl A125 rfl rfl rfl (Nat.le_of_ble_eq_true rfl) rfl (fun hh127 eh126 => ?_)
      have K128 := xk_pf (k := 0) (v := 0) K123 (xk_wf (by decide +kernel)) xD_115 A125 rfl (by first | omega | decide) (by first | omega | decide) eh126 rfl
      have KR129 := xk_pf (k := 0) (v := 0) KR124 (xk_wf (by decide +kernel)) xD_115 A125 rfl (by first | omega | decide) (by first | omega | decide) eh126 rfl
      refine xi_iload_n (pc' := 6) (x := a23) kc_33_5 rfl rfl ?_
      refine xi_iconst (pc' := 7) (v := 0) kc_33_6 rfl rfl ?_
      refine xi_aload_n (pc' := 8) (x := 115) kc_33_7 rfl rfl ?_
      refine xi_getfield (pc' := 11) (v := .int u1) kc_33_8 rfl rfl rfl eh126.1 rfl ?_
      refine xi_iconst (pc' := 12) (v := 1) kc_33_11 rfl rfl ?_
      obtain ⟨v130, ev130⟩ : ∃ q : Int32, u1 - 1 = q := ⟨_, rfl⟩
      have zv130 : v130.toInt = (u1.toInt + (-1)) := by rw [← ev130]; exact (xz_sub (X := u1.toInt) (Y := 1) rfl (by decide) (by omega) (by omega)).trans (by omega)
      refine xi_isub (pc' := 13) (v := v130) kc_33_12 rfl ev130 ?_
      refine xi_static (mj := 11) (as := [.int a23, .int 0, .int v130]) (st1 := []) (lv0 := [(0, .int a23), (1, .int 0), (2, .int v130)]) kc_33_13 rfl rfl (Nat.le_of_ble_eq_true rfl) rfl rfl (Nat.le_of_ble_eq_true rfl) (hJ _ _ _ _ (by decide)) (xm_le ml_11 rfl) rfl ?_
      refine xi_iload_n (pc' := 1) (x := a23) kc_11_0 rfl rfl ?_
      refine xi_iload_n (pc' := 2) (x := 0) kc_11_1 rfl rfl ?_
      refine xi_cmt (pc' := 14) kc_11_2 rfl (xc_lt_t (X := a23.toInt) (Y := 0) rfl (by decide) (by omega)) ?_
      refine xi_iconst (pc' := 15) (v := 0) kc_11_14 rfl rfl ?_
      refine xi_ireturn kc_11_15 mr_11 rfl ?_
      show xw J ov 99 33 (16, [(0, .ref 115), (1, .int a23), (2, .int 1)], [.int 0], hh127) _
      refine xi_iff (pc' := 19) kc_33_16 rfl rfl ?_
      refine xi_aload_n (pc' := 20) (x := 115) kc_33_19 rfl rfl ?_
      refine xi_iconst (pc' := 21) (v := (-1)) kc_33_20 rfl rfl ?_
      refine xi_virtual (mj := 12) (as := [.int (-1)]) (st1 := []) (lv0 := [(0, .ref 115), (1, .int (-1))]) kc_33_21 rfl rfl rfl rfl rfl eh126.1 (Nat.le_of_ble_eq_true rfl) (hJ _ _ _ _ (by decide)) (xm_le ml_12 rfl) rfl ?_
      refine xi_aload_n (pc' := 1) (x := 115) kc_12_0 rfl rfl ?_
      refine xi_getfield (pc' := 4) (v := .ref 140) kc_12_1 rfl rfl rfl eh126.1 rfl ?_
      refine xi_iload_n (pc' := 5) (x := (-1)) kc_12_4 rfl rfl ?_
      refine xi_ineg (pc' := 6) (v := 1) kc_12_5 rfl rfl ?_
      refine xi_dup2 (pc' := 7) kc_12_6 rfl ⟨rfl, rfl⟩ ?_
      obtain ⟨y131, A131, hy131, ry131⟩ := xk_arr K.1 xD_140
      obtain ⟨v132, ev132, bv132, dv132⟩ := xj_get hy131 ry131 (i := 1) (by decide) (by decide)
      have A133 := ((eh126.2.1 140 (by decide)).trans ((eh122.2.1 140 (by decide)).trans A131))
      refine xi_iaload (pc' := 8) (v := v132) kc_12_7 rfl A133 (by decide) rfl (xi_in (by decide) (by rw [hy131]; decide)) ev132 ?_
      refine xi_iconst (pc' := 9) (v := 1) kc_12_8 rfl rfl ?_
      obtain ⟨v134, ev134⟩ : ∃ q : Int32, (v132 : Int32) + 1 = q := ⟨_, rfl⟩
      have rv134 := xc_rng v134
      refine xi_iadd (pc' := 10) (v := v134) kc_12_9 rfl ev134 ?_
      obtain ⟨y135, s135, hy135, ry135⟩ := xj_set (v := v134) hy131 ry131 1 (by first | omega | decide) (by first | omega | decide)
      refine xi_iastore (pc' := 11) (x' := y135) kc_12_10 rfl A133 rfl (xi_in (by decide) (by rw [hy131]; decide)) s135 (fun hh135 eh135 => ?_)
      have K136 := xk_pa K128 (xk_wa (by decide +kernel)) xD_140 hy135 ry135 eh135
      have KR137 := xk_pa KR129 (xk_wa (by decide +kernel)) xD_140 hy135 ry135 eh135
      refine xi_iload_n (pc' := 12) (x := (-1)) kc_12_11 rfl rfl ?_
      refine xi_ireturn kc_12_12 mr_12 rfl ?_
      show xw J ov 99 33 (24, [(0, .ref 115), (1, .int a23), (2, .int 1)], [.int (-1)], hh135) _
      refine xi_ireturn kc_33_24 mr_33 rfl ?_
      show xw J ov 100 195 (761, [(4, .int x4), (3, .ref 167), (2, .ref 115), (1, .ref 0), (0, .ref 1000000)], [.int (-1)], hh135) _
      refine xi_pop (pc' := 762) kc_195_761 rfl rfl ?_
      refine xi_goto (pc' := 1501) kc_195_762 rfl ?_
      obtain ⟨v138, ev138⟩ : ∃ q : Int32, x4 + 6 = q := ⟨_, rfl⟩
      have zv138 : v138.toInt = (x4.toInt + 6) := by rw [← ev138]; exact (xz_add (X := x4.toInt) (Y := 6) rfl (by decide) (by omega) (by omega)).trans (by omega)
      refine xi_iinc (pc' := 1504) (x := x4) (v := v138) (lv' := [(4, .int v138), (3, .ref 167), (2, .ref 115), (1, .ref 0), (0, .ref 1000000)]) kc_195_1501 rfl rfl ev138 rfl (xm_lt ml_195 rfl) ?_
      refine xi_goto (pc' := 23) kc_195_1504 rfl ?_
      exact kk v138 hh135 (by omega) K136 (xI_kept I KR137.2.1)
    · refine xi_iff (pc' := 4) kc_120_1 rfl (xc_lt_f (X := a23.toInt) (Y := 0) rfl (by decide) (by omega)) ?_
      refine xi_iload_n (pc' := 5) (x := a23) kc_120_4 rfl rfl ?_
      refine xi_aload_n (pc' := 6) (x := 0) kc_120_5 rfl rfl ?_
      refine xi_getfield (pc' := 9) (v := .ref 1) kc_120_6 rfl rfl rfl A117 rfl ?_
      refine xi_getfield (pc' := 12) (v := .int u1) kc_120_9 rfl rfl rfl A3 rfl ?_
      by_cases c139 : a23.toInt < u1.toInt
      · refine xi_cmt (pc' := 21) kc_120_12 rfl (xc_lt_t (X := a23.toInt) (Y := u1.toInt) rfl rfl (by omega)) ?_
        refine xi_iconst (pc' := 22) (v := 1) kc_120_21 rfl rfl ?_
        refine xi_iload_n (pc' := 23) (x := a23) kc_120_22 rfl rfl ?_
        obtain ⟨v140, ev140⟩ : ∃ q : Int32, (1 : Int32) <<< (a23 &&& 31) = q := ⟨_, rfl⟩
        have rv140 := xc_rng v140
        refine xi_ishl (pc' := 24) (v := v140) kc_120_23 rfl ev140 ?_
        refine xi_istore_n (pc' := 25) (lv' := [(3, .int v140), (0, .ref 0), (1, .int a23), (2, .int 1)]) kc_120_24 rfl rfl (xm_lt ml_120 rfl) ?_
        refine xi_aload_n (pc' := 26) (x := 0) kc_120_25 rfl rfl ?_
        refine xi_getfield (pc' := 29) (v := .ref 63) kc_120_26 rfl rfl rfl A117 rfl ?_
        refine xi_getfield (pc' := 32) (v := .int u18) kc_120_29 rfl rfl rfl A20 rfl ?_
        refine xi_iload_n (pc' := 33) (x := v140) kc_120_32 rfl rfl ?_
        obtain ⟨v141, ev141⟩ : ∃ q : Int32, (u18 : Int32) &&& v140 = q := ⟨_, rfl⟩
        have rv141 := xc_rng v141
        refine xi_iand (pc' := 34) (v := v141) kc_120_33 rfl ev141 ?_
        by_cases c142 : v141.toInt = 0
        · refine xi_ift (pc' := 41) kc_120_34 rfl (xc_eq_t (X := v141.toInt) (Y := 0) rfl (by decide) (by omega)) ?_
          refine xi_iconst (pc' := 42) (v := 0) kc_120_41 rfl rfl ?_
          refine xi_istore (pc' := 44) (lv' := [(4, .int 0), (3, .int v140), (0, .ref 0), (1, .int a23), (2, .int 1)]) kc_120_42 rfl rfl (xm_lt ml_120 rfl) ?_
          refine xi_iload (pc' := 46) (x := 0) kc_120_44 rfl rfl ?_
          refine xi_iload_n (pc' := 47) (x := 1) kc_120_46 rfl rfl ?_
          refine xi_cmt (pc' := 52) kc_120_47 rfl rfl ?_
          refine xi_aload_n (pc' := 53) (x := 0) kc_120_52 rfl rfl ?_
          refine xi_getfield (pc' := 56) (v := .ref 63) kc_120_53 rfl rfl rfl A117 rfl ?_
          refine xi_dup (pc' := 57) kc_120_56 rfl rfl ?_
          refine xi_getfield (pc' := 60) (v := .int u18) kc_120_57 rfl rfl rfl A20 rfl ?_
          refine xi_iload_n (pc' := 61) (x := v140) kc_120_60 rfl rfl ?_
          obtain ⟨v143, ev143⟩ : ∃ q : Int32, (u18 : Int32) ^^^ v140 = q := ⟨_, rfl⟩
          have rv143 := xc_rng v143
          refine xi_ixor (pc' := 62) (v := v143) kc_120_61 rfl ev143 ?_
          refine xi_putfield (pc' := 65) (fs' := [.ref 64, .ref 65, .int v143, .int u19]) kc_120_62 rfl rfl rfl A20 rfl rfl rfl (Nat.le_of_ble_eq_true rfl) rfl (fun hh145 eh144 => ?_)
          have K146 := xk_pf (k := 2) (v := v143) K (xk_wf (by decide +kernel)) xD_63 A20 rfl (by first | omega | decide) (by first | omega | decide) eh144 rfl
          refine xi_iconst (pc' := 66) (v := 1) kc_120_65 rfl rfl ?_
          refine xi_ireturn kc_120_66 mr_120 rfl ?_
          show xw J ov 100 195 (736, [(4, .int x4), (3, .ref 167), (2, .ref 115), (1, .ref 0), (0, .ref 1000000)], [.int 1], hh145) _
          refine xi_pop (pc' := 737) kc_195_736 rfl rfl ?_
          refine xi_aload_n (pc' := 738) (x := 115) kc_195_737 rfl rfl ?_
          refine xi_aload_n (pc' := 739) (x := 1000000) kc_195_738 rfl rfl ?_
          refine xi_iload (pc' := 741) (x := x4) kc_195_739 rfl rfl ?_
          refine xi_iconst (pc' := 742) (v := 1) kc_195_741 rfl rfl ?_
          refine xi_iadd (pc' := 743) (v := v22) kc_195_742 rfl ev22 ?_
          refine xi_ialoadO (pc' := 744) (v := a23) kc_195_743 rfl (by decide) hov0 (xi_in (by omega) (by omega)) ea23 ?_
          refine xi_aload_n (pc' := 745) (x := 1000000) kc_195_744 rfl rfl ?_
          refine xi_iload (pc' := 747) (x := x4) kc_195_745 rfl rfl ?_
          refine xi_iconst (pc' := 748) (v := 2) kc_195_747 rfl rfl ?_
          refine xi_iadd (pc' := 749) (v := v24) kc_195_748 rfl ev24 ?_
          refine xi_ialoadO (pc' := 750) (v := a25) kc_195_749 rfl (by decide) hov0 (xi_in (by omega) (by omega)) ea25 ?_
          refine xi_iff (pc' := 753) kc_195_750 rfl (xc_eq_f (X := a25.toInt) (Y := 0) rfl (by decide) (by omega)) ?_
          refine xi_iconst (pc' := 754) (v := 1) kc_195_753 rfl rfl ?_
          refine xi_goto (pc' := 758) kc_195_754 rfl ?_
          have A147 := ((eh144.2.1 115 (by decide)).trans A17)
          refine xi_virtual (mj := 33) (as := [.int a23, .int 1]) (st1 := []) (lv0 := [(0, .ref 115), (1, .int a23), (2, .int 1)]) kc_195_758 rfl rfl rfl rfl rfl A147 (Nat.le_of_ble_eq_true rfl) (hJ _ _ _ _ (by decide)) (xm_le ml_33 rfl) rfl ?_
          refine xi_aload_n (pc' := 1) (x := 115) kc_33_0 rfl rfl ?_
          refine xi_iconst (pc' := 2) (v := 0) kc_33_1 rfl rfl ?_
          refine xi_putfield (pc' := 5) (fs' := [.int 0, .int u5, .ref 116, .ref 117, .ref 118, .ref 119, .ref 120, .ref 121, .ref 122, .ref 123, .ref 124, .ref 125, .ref 126, .ref 127, .ref 128, .ref 129, .int u6, .ref 130, .int u7, .ref 131, .ref 132, .ref 133, .ref 134, .int u1, .ref 135, .ref 136, .ref 137, .ref 138, .ref 139, .ref 140, .ref 141, .ref 142, .int u9, .int u10, .int u11, .ref 143, .ref 144, .ref 145, .ref 146, .ref 147, .ref 148, .int u12, .ref 149, .ref 150, .ref 151, .int u13, .ref 152, .ref 153, .ref 154, .ref 155, .ref 156, .ref 157, .ref 158, .ref 159, .int u14, .ref 160, .int u15, .ref 161, .ref 162, .ref 163, .ref 164, .int u16, .ref 165, .ref 166]) kc_33_2 rfl rfl rfl A147 rfl rfl rfl (Nat.le_of_ble_eq_true rfl) rfl (fun hh149 eh148 => ?_)
          have K150 := xk_pf (k := 0) (v := 0) K146 (xk_wf (by decide +kernel)) xD_115 A147 rfl (by first | omega | decide) (by first | omega | decide) eh148 rfl
          refine xi_iload_n (pc' := 6) (x := a23) kc_33_5 rfl rfl ?_
          refine xi_iconst (pc' := 7) (v := 0) kc_33_6 rfl rfl ?_
          refine xi_aload_n (pc' := 8) (x := 115) kc_33_7 rfl rfl ?_
          refine xi_getfield (pc' := 11) (v := .int u1) kc_33_8 rfl rfl rfl eh148.1 rfl ?_
          refine xi_iconst (pc' := 12) (v := 1) kc_33_11 rfl rfl ?_
          obtain ⟨v151, ev151⟩ : ∃ q : Int32, u1 - 1 = q := ⟨_, rfl⟩
          have zv151 : v151.toInt = (u1.toInt + (-1)) := by rw [← ev151]; exact (xz_sub (X := u1.toInt) (Y := 1) rfl (by decide) (by omega) (by omega)).trans (by omega)
          refine xi_isub (pc' := 13) (v := v151) kc_33_12 rfl ev151 ?_
          refine xi_static (mj := 11) (as := [.int a23, .int 0, .int v151]) (st1 := []) (lv0 := [(0, .int a23), (1, .int 0), (2, .int v151)]) kc_33_13 rfl rfl (Nat.le_of_ble_eq_true rfl) rfl rfl (Nat.le_of_ble_eq_true rfl) (hJ _ _ _ _ (by decide)) (xm_le ml_11 rfl) rfl ?_
          refine xi_iload_n (pc' := 1) (x := a23) kc_11_0 rfl rfl ?_
          refine xi_iload_n (pc' := 2) (x := 0) kc_11_1 rfl rfl ?_
          refine xi_cmf (pc' := 5) kc_11_2 rfl (xc_lt_f (X := a23.toInt) (Y := 0) rfl (by decide) (by omega)) ?_
          refine xi_iload_n (pc' := 6) (x := a23) kc_11_5 rfl rfl ?_
          refine xi_iload_n (pc' := 7) (x := v151) kc_11_6 rfl rfl ?_
          refine xi_cmf (pc' := 10) kc_11_7 rfl (xc_gt_f (X := a23.toInt) (Y := (u1.toInt + (-1))) rfl zv151 (by omega)) ?_
          refine xi_iconst (pc' := 11) (v := 1) kc_11_10 rfl rfl ?_
          refine xi_goto (pc' := 15) kc_11_11 rfl ?_
          refine xi_ireturn kc_11_15 mr_11 rfl ?_
          show xw J ov 99 33 (16, [(0, .ref 115), (1, .int a23), (2, .int 1)], [.int 1], hh149) _
          refine xi_ift (pc' := 25) kc_33_16 rfl rfl ?_
          refine xi_aload_n (pc' := 26) (x := 115) kc_33_25 rfl rfl ?_
          refine xi_getfield (pc' := 29) (v := .ref 139) kc_33_26 rfl rfl rfl eh148.1 rfl ?_
          refine xi_iload_n (pc' := 30) (x := a23) kc_33_29 rfl rfl ?_
          obtain ⟨v152, ev152, bv152, dv152⟩ := xj_get hy21 ry21 (i := a23) (by omega) (by omega)
          have HBv152 := xB_ld H22 (by omega) (by omega) ev140 ev141 ev152
          have A153 := ((eh148.2.1 139 (by decide)).trans ((eh144.2.1 139 (by decide)).trans A21))
          refine xi_baload (pc' := 31) (v := v152) kc_33_30 rfl A153 rfl (xi_in (by omega) (by rw [hy21]; omega)) ev152 ?_
          refine xi_istore_n (pc' := 32) (lv' := [(3, .int v152), (0, .ref 115), (1, .int a23), (2, .int 1)]) kc_33_31 rfl rfl (xm_lt ml_33 rfl) ?_
          refine xi_aload_n (pc' := 33) (x := 115) kc_33_32 rfl rfl ?_
          refine xi_getfield (pc' := 36) (v := .ref 139) kc_33_33 rfl rfl rfl eh148.1 rfl ?_
          refine xi_iload_n (pc' := 37) (x := a23) kc_33_36 rfl rfl ?_
          refine xi_iload_n (pc' := 38) (x := 1) kc_33_37 rfl rfl ?_
          obtain ⟨y154, s154, hy154, ry154⟩ := xj_set (v := 1) hy21 ry21 a23 (by first | omega | decide) (by first | omega | decide)
          refine xi_bastore (pc' := 39) (x' := y154) kc_33_38 rfl A153 rfl (xi_in (by omega) (by rw [hy21]; omega)) s154 (fun hh154 eh154 => ?_)
          have K155 := xk_pa K150 (xk_wa (by decide +kernel)) xD_139 hy154 ry154 eh154
          refine xi_iload_n (pc' := 40) (x := v152) kc_33_39 rfl rfl ?_
          refine xi_iload_n (pc' := 41) (x := 1) kc_33_40 rfl rfl ?_
          by_cases c156 : v152.toInt = 1
          · refine xi_cmf (pc' := 44) kc_33_41 rfl (xc_ne_f (X := v152.toInt) (Y := 1) rfl (by decide) (by omega)) ?_
            refine xi_iconst (pc' := 45) (v := 0) kc_33_44 rfl rfl ?_
            refine xi_goto (pc' := 49) kc_33_45 rfl ?_
            refine xi_ireturn kc_33_49 mr_33 rfl ?_
            show xw J ov 100 195 (761, [(4, .int x4), (3, .ref 167), (2, .ref 115), (1, .ref 0), (0, .ref 1000000)], [.int 0], hh154) _
            refine xi_pop (pc' := 762) kc_195_761 rfl rfl ?_
            refine xi_goto (pc' := 1501) kc_195_762 rfl ?_
            obtain ⟨v157, ev157⟩ : ∃ q : Int32, x4 + 6 = q := ⟨_, rfl⟩
            have zv157 : v157.toInt = (x4.toInt + 6) := by rw [← ev157]; exact (xz_add (X := x4.toInt) (Y := 6) rfl (by decide) (by omega) (by omega)).trans (by omega)
            refine xi_iinc (pc' := 1504) (x := x4) (v := v157) (lv' := [(4, .int v157), (3, .ref 167), (2, .ref 115), (1, .ref 0), (0, .ref 1000000)]) kc_195_1501 rfl rfl ev157 rfl (xm_lt ml_195 rfl) ?_
            refine xi_goto (pc' := 23) kc_195_1504 rfl ?_
            have A158 := ((eh154.2.1 1 (by decide)).trans ((eh148.2.1 1 (by decide)).trans ((eh144.2.1 1 (by decide)).trans A3)))
            have A159 := ((eh154.2.1 115 (by decide)).trans eh148.1)
            have zc0 : (0 : Int32).toInt = 0 := by decide
            have zc1 : (1 : Int32).toInt = 1 := by decide
            have A160 := ((eh154.2.1 63 (by decide)).trans ((eh148.2.1 63 (by decide)).trans eh144.1))
            exact kk v157 hh154 (by omega) K155 ⟨((K155.2.1 (0, 9) (by decide +kernel)).trans (I.1.trans (K155.2.1 (115, 1) (by decide +kernel)).symm)), (xWW_fr I.2.1 (K155.2.1 (64, 0) (by decide +kernel)) (K155.2.1 (121, 0) (by decide +kernel))), (xSG_fr I.2.2.1 (fun l hl => K155.2.1 l (xk_el (by decide +kernel) hl))), (by rw [(K155.2.1 (13, 0) (by decide +kernel)), (K155.2.1 (122, 0) (by decide +kernel))]; exact I.2.2.2.1), (by rw [(K155.2.1 (16, 0) (by decide +kernel)), (K155.2.1 (122, 0) (by decide +kernel))]; exact I.2.2.2.2.1), (by rw [(K155.2.1 (19, 0) (by decide +kernel)), (K155.2.1 (122, 0) (by decide +kernel))]; exact I.2.2.2.2.2.1), (by rw [(K155.2.1 (22, 0) (by decide +kernel)), (K155.2.1 (122, 0) (by decide +kernel))]; exact I.2.2.2.2.2.2.1), (by rw [(K155.2.1 (25, 0) (by decide +kernel)), (K155.2.1 (122, 0) (by decide +kernel))]; exact I.2.2.2.2.2.2.2.1), (by rw [(K155.2.1 (28, 0) (by decide +kernel)), (K155.2.1 (122, 0) (by decide +kernel))]; exact I.2.2.2.2.2.2.2.2.1), (by rw [(K155.2.1 (6, 0) (by decide +kernel)), (K155.2.1 (123, 0) (by decide +kernel))]; exact I.2.2.2.2.2.2.2.2.2.1), (by rw [(K155.2.1 (9, 0) (by decide +kernel)), (K155.2.1 (124, 0) (by decide +kernel))]; exact I.2.2.2.2.2.2.2.2.2.2.1), (by rw [(K155.2.1 (7, 0) (by decide +kernel)), (K155.2.1 (6, 0) (by decide +kernel))]; exact I.2.2.2.2.2.2.2.2.2.2.2.1), (by rw [(K155.2.1 (10, 0) (by decide +kernel)), (K155.2.1 (9, 0) (by decide +kernel))]; exact I.2.2.2.2.2.2.2.2.2.2.2.2.1), ((K155.2.1 (5, 0) (by decide +kernel)).trans I.2.2.2.2.2.2.2.2.2.2.2.2.2.1), ((K155.2.1 (8, 0) (by decide +kernel)).trans I.2.2.2.2.2.2.2.2.2.2.2.2.2.2.1), (xGR_fr I.2.2.2.2.2.2.2.2.2.2.2.2.2.2.2.1 K155.2.1 (by decide +kernel) (by decide +kernel)), (xGR_fr I.2.2.2.2.2.2.2.2.2.2.2.2.2.2.2.2.1 K155.2.1 (by decide +kernel) (by decide +kernel)), ((xl_of A158 rfl).trans (xl_of A159 rfl).symm), (xGR_fr I.2.2.2.2.2.2.2.2.2.2.2.2.2.2.2.2.2.2.1 K155.2.1 (by decide +kernel) (by decide +kernel)), (xGR_fr I.2.2.2.2.2.2.2.2.2.2.2.2.2.2.2.2.2.2.2.1 K155.2.1 (by decide +kernel) (by decide +kernel)), (xGR_fr I.2.2.2.2.2.2.2.2.2.2.2.2.2.2.2.2.2.2.2.2.1 K155.2.1 (by decide +kernel) (by decide +kernel)), (xGR_fr I.2.2.2.2.2.2.2.2.2.2.2.2.2.2.2.2.2.2.2.2.2.1 K155.2.1 (by decide +kernel) (by decide +kernel)), (xB_mk A160 eh154.1 A158 rfl rfl (xB_flip (on := 1) H22 (by first | omega | decide) (by first | omega | decide) (by omega) hy21 ev140 ev141 ev143 s154 (by omega))), ((K155.2.1 (0, 8) (by decide +kernel)).trans (I.2.2.2.2.2.2.2.2.2.2.2.2.2.2.2.2.2.2.2.2.2.2.2.1.trans (K155.2.1 (115, 34) (by decide +kernel)).symm)), (xGR_fr I.2.2.2.2.2.2.2.2.2.2.2.2.2.2.2.2.2.2.2.2.2.2.2.2.1 K155.2.1 (by decide +kernel) (by decide +kernel)), (xGR_fr I.2.2.2.2.2.2.2.2.2.2.2.2.2.2.2.2.2.2.2.2.2.2.2.2.2.1 K155.2.1 (by decide +kernel) (by decide +kernel)), (xGR_fr I.2.2.2.2.2.2.2.2.2.2.2.2.2.2.2.2.2.2.2.2.2.2.2.2.2.2.1 K155.2.1 (by decide +kernel) (by decide +kernel)), (xGR_fr I.2.2.2.2.2.2.2.2.2.2.2.2.2.2.2.2.2.2.2.2.2.2.2.2.2.2.2.1 K155.2.1 (by decide +kernel) (by decide +kernel)), (xts_fr I.2.2.2.2.2.2.2.2.2.2.2.2.2.2.2.2.2.2.2.2.2.2.2.2.2.2.2.2.1 (fun l hl => K155.2.1 l (xk_el (by decide +kernel) hl))), ((K155.2.1 (63, 3) (by decide +kernel)).trans I.2.2.2.2.2.2.2.2.2.2.2.2.2.2.2.2.2.2.2.2.2.2.2.2.2.2.2.2.2)⟩
          · refine xi_cmt (pc' := 48) kc_33_41 rfl (xc_ne_t (X := v152.toInt) (Y := 1) rfl (by decide) (by omega)) ?_
            refine xi_iconst (pc' := 49) (v := 1) kc_33_48 rfl rfl ?_
            refine xi_ireturn kc_33_49 mr_33 rfl ?_
            show xw J ov 100 195 (761, [(4, .int x4), (3, .ref 167), (2, .ref 115), (1, .ref 0), (0, .ref 1000000)], [.int 1], hh154) _
            refine xi_pop (pc' := 762) kc_195_761 rfl rfl ?_
            refine xi_goto (pc' := 1501) kc_195_762 rfl ?_
            obtain ⟨v161, ev161⟩ : ∃ q : Int32, x4 + 6 = q := ⟨_, rfl⟩
            have zv161 : v161.toInt = (x4.toInt + 6) := by rw [← ev161]; exact (xz_add (X := x4.toInt) (Y := 6) rfl (by decide) (by omega) (by omega)).trans (by omega)
            refine xi_iinc (pc' := 1504) (x := x4) (v := v161) (lv' := [(4, .int v161), (3, .ref 167), (2, .ref 115), (1, .ref 0), (0, .ref 1000000)]) kc_195_1501 rfl rfl ev161 rfl (xm_lt ml_195 rfl) ?_
            refine xi_goto (pc' := 23) kc_195_1504 rfl ?_
            have A162 := ((eh154.2.1 1 (by decide)).trans ((eh148.2.1 1 (by decide)).trans ((eh144.2.1 1 (by decide)).trans A3)))
            have A163 := ((eh154.2.1 115 (by decide)).trans eh148.1)
            have zc0 : (0 : Int32).toInt = 0 := by decide
            have zc1 : (1 : Int32).toInt = 1 := by decide
            have A164 := ((eh154.2.1 63 (by decide)).trans ((eh148.2.1 63 (by decide)).trans eh144.1))
            exact kk v161 hh154 (by omega) K155 ⟨((K155.2.1 (0, 9) (by decide +kernel)).trans (I.1.trans (K155.2.1 (115, 1) (by decide +kernel)).symm)), (xWW_fr I.2.1 (K155.2.1 (64, 0) (by decide +kernel)) (K155.2.1 (121, 0) (by decide +kernel))), (xSG_fr I.2.2.1 (fun l hl => K155.2.1 l (xk_el (by decide +kernel) hl))), (by rw [(K155.2.1 (13, 0) (by decide +kernel)), (K155.2.1 (122, 0) (by decide +kernel))]; exact I.2.2.2.1), (by rw [(K155.2.1 (16, 0) (by decide +kernel)), (K155.2.1 (122, 0) (by decide +kernel))]; exact I.2.2.2.2.1), (by rw [(K155.2.1 (19, 0) (by decide +kernel)), (K155.2.1 (122, 0) (by decide +kernel))]; exact I.2.2.2.2.2.1), (by rw [(K155.2.1 (22, 0) (by decide +kernel)), (K155.2.1 (122, 0) (by decide +kernel))]; exact I.2.2.2.2.2.2.1), (by rw [(K155.2.1 (25, 0) (by decide +kernel)), (K155.2.1 (122, 0) (by decide +kernel))]; exact I.2.2.2.2.2.2.2.1), (by rw [(K155.2.1 (28, 0) (by decide +kernel)), (K155.2.1 (122, 0) (by decide +kernel))]; exact I.2.2.2.2.2.2.2.2.1), (by rw [(K155.2.1 (6, 0) (by decide +kernel)), (K155.2.1 (123, 0) (by decide +kernel))]; exact I.2.2.2.2.2.2.2.2.2.1), (by rw [(K155.2.1 (9, 0) (by decide +kernel)), (K155.2.1 (124, 0) (by decide +kernel))]; exact I.2.2.2.2.2.2.2.2.2.2.1), (by rw [(K155.2.1 (7, 0) (by decide +kernel)), (K155.2.1 (6, 0) (by decide +kernel))]; exact I.2.2.2.2.2.2.2.2.2.2.2.1), (by rw [(K155.2.1 (10, 0) (by decide +kernel)), (K155.2.1 (9, 0) (by decide +kernel))]; exact I.2.2.2.2.2.2.2.2.2.2.2.2.1), ((K155.2.1 (5, 0) (by decide +kernel)).trans I.2.2.2.2.2.2.2.2.2.2.2.2.2.1), ((K155.2.1 (8, 0) (by decide +kernel)).trans I.2.2.2.2.2.2.2.2.2.2.2.2.2.2.1), (xGR_fr I.2.2.2.2.2.2.2.2.2.2.2.2.2.2.2.1 K155.2.1 (by decide +kernel) (by decide +kernel)), (xGR_fr I.2.2.2.2.2.2.2.2.2.2.2.2.2.2.2.2.1 K155.2.1 (by decide +kernel) (by decide +kernel)), ((xl_of A162 rfl).trans (xl_of A163 rfl).symm), (xGR_fr I.2.2.2.2.2.2.2.2.2.2.2.2.2.2.2.2.2.2.1 K155.2.1 (by decide +kernel) (by decide +kernel)), (xGR_fr I.2.2.2.2.2.2.2.2.2.2.2.2.2.2.2.2.2.2.2.1 K155.2.1 (by decide +kernel) (by decide +kernel)), (xGR_fr I.2.2.2.2.2.2.2.2.2.2.2.2.2.2.2.2.2.2.2.2.1 K155.2.1 (by decide +kernel) (by decide +kernel)), (xGR_fr I.2.2.2.2.2.2.2.2.2.2.2.2.2.2.2.2.2.2.2.2.2.1 K155.2.1 (by decide +kernel) (by decide +kernel)), (xB_mk A164 eh154.1 A162 rfl rfl (xB_flip (on := 1) H22 (by first | omega | decide) (by first | omega | decide) (by omega) hy21 ev140 ev141 ev143 s154 (by omega))), ((K155.2.1 (0, 8) (by decide +kernel)).trans (I.2.2.2.2.2.2.2.2.2.2.2.2.2.2.2.2.2.2.2.2.2.2.2.1.trans (K155.2.1 (115, 34) (by decide +kernel)).symm)), (xGR_fr I.2.2.2.2.2.2.2.2.2.2.2.2.2.2.2.2.2.2.2.2.2.2.2.2.1 K155.2.1 (by decide +kernel) (by decide +kernel)), (xGR_fr I.2.2.2.2.2.2.2.2.2.2.2.2.2.2.2.2.2.2.2.2.2.2.2.2.2.1 K155.2.1 (by decide +kernel) (by decide +kernel)), (xGR_fr I.2.2.2.2.2.2.2.2.2.2.2.2.2.2.2.2.2.2.2.2.2.2.2.2.2.2.1 K155.2.1 (by decide +kernel) (by decide +kernel)), (xGR_fr I.2.2.2.2.2.2.2.2.2.2.2.2.2.2.2.2.2.2.2.2.2.2.2.2.2.2.2.1 K155.2.1 (by decide +kernel) (by decide +kernel)), (xts_fr I.2.2.2.2.2.2.2.2.2.2.2.2.2.2.2.2.2.2.2.2.2.2.2.2.2.2.2.2.1 (fun l hl => K155.2.1 l (xk_el (by decide +kernel) hl))), ((K155.2.1 (63, 3) (by decide +kernel)).trans I.2.2.2.2.2.2.2.2.2.2.2.2.2.2.2.2.2.2.2.2.2.2.2.2.2.2.2.2.2)⟩
        · refine xi_iff (pc' := 37) kc_120_34 rfl (xc_eq_f (X := v141.toInt) (Y := 0) rfl (by decide) (by omega)) ?_
          refine xi_iconst (pc' := 38) (v := 1) kc_120_37 rfl rfl ?_
          refine xi_goto (pc' := 42) kc_120_38 rfl ?_
          refine xi_istore (pc' := 44) (lv' := [(4, .int 1), (3, .int v140), (0, .ref 0), (1, .int a23), (2, .int 1)]) kc_120_42 rfl rfl (xm_lt ml_120 rfl) ?_
          refine xi_iload (pc' := 46) (x := 1) kc_120_44 rfl rfl ?_
          refine xi_iload_n (pc' := 47) (x := 1) kc_120_46 rfl rfl ?_
          refine xi_cmf (pc' := 50) kc_120_47 rfl rfl ?_
          refine xi_iconst (pc' := 51) (v := 0) kc_120_50 rfl rfl ?_
          refine xi_ireturn kc_120_51 mr_120 rfl ?_
          show xw J ov 100 195 (736, [(4, .int x4), (3, .ref 167), (2, .ref 115), (1, .ref 0), (0, .ref 1000000)], [.int 0], h) _
          refine xi_pop (pc' := 737) kc_195_736 rfl rfl ?_
          refine xi_aload_n (pc' := 738) (x := 115) kc_195_737 rfl rfl ?_
          refine xi_aload_n (pc' := 739) (x := 1000000) kc_195_738 rfl rfl ?_
          refine xi_iload (pc' := 741) (x := x4) kc_195_739 rfl rfl ?_
          refine xi_iconst (pc' := 742) (v := 1) kc_195_741 rfl rfl ?_
          refine xi_iadd (pc' := 743) (v := v22) kc_195_742 rfl ev22 ?_
          refine xi_ialoadO (pc' := 744) (v := a23) kc_195_743 rfl (by decide) hov0 (xi_in (by omega) (by omega)) ea23 ?_
          refine xi_aload_n (pc' := 745) (x := 1000000) kc_195_744 rfl rfl ?_
          refine xi_iload (pc' := 747) (x := x4) kc_195_745 rfl rfl ?_
          refine xi_iconst (pc' := 748) (v := 2) kc_195_747 rfl rfl ?_
          refine xi_iadd (pc' := 749) (v := v24) kc_195_748 rfl ev24 ?_
          refine xi_ialoadO (pc' := 750) (v := a25) kc_195_749 rfl (by decide) hov0 (xi_in (by omega) (by omega)) ea25 ?_
          refine xi_iff (pc' := 753) kc_195_750 rfl (xc_eq_f (X := a25.toInt) (Y := 0) rfl (by decide) (by omega)) ?_
          refine xi_iconst (pc' := 754) (v := 1) kc_195_753 rfl rfl ?_
          refine xi_goto (pc' := 758) kc_195_754 rfl ?_
          refine xi_virtual (mj := 33) (as := [.int a23, .int 1]) (st1 := []) (lv0 := [(0, .ref 115), (1, .int a23), (2, .int 1)]) kc_195_758 rfl rfl rfl rfl rfl A17 (Nat.le_of_ble_eq_true rfl) (hJ _ _ _ _ (by decide)) (xm_le ml_33 rfl) rfl ?_
          refine xi_aload_n (pc' := 1) (x := 115) kc_33_0 rfl rfl ?_
          refine xi_iconst (pc' := 2) (v := 0) kc_33_1 rfl rfl ?_
          refine xi_putfield (pc' := 5) (fs' := [.int 0, .int u5, .ref 116, .ref 117, .ref 118, .ref 119, .ref 120, .ref 121, .ref 122, .ref 123, .ref 124, .ref 125, .ref 126, .ref 127, .ref 128, .ref 129, .int u6, .ref 130, .int u7, .ref 131, .ref 132, .ref 133, .ref 134, .int u1, .ref 135, .ref 136, .ref 137, .ref 138, .ref 139, .ref 140, .ref 141, .ref 142, .int u9, .int u10, .int u11, .ref 143, .ref 144, .ref 145, .ref 146, .ref 147, .ref 148, .int u12, .ref 149, .ref 150, .ref 151, .int u13, .ref 152, .ref 153, .ref 154, .ref 155, .ref 156, .ref 157, .ref 158, .ref 159, .int u14, .ref 160, .int u15, .ref 161, .ref 162, .ref 163, .ref 164, .int u16, .ref 165, .ref 166]) kc_33_2 rfl rfl rfl A17 rfl rfl rfl (Nat.le_of_ble_eq_true rfl) rfl (fun hh166 eh165 => ?_)
          have K167 := xk_pf (k := 0) (v := 0) K (xk_wf (by decide +kernel)) xD_115 A17 rfl (by first | omega | decide) (by first | omega | decide) eh165 rfl
          have KR168 := xk_pf (k := 0) (v := 0) KR (xk_wf (by decide +kernel)) xD_115 A17 rfl (by first | omega | decide) (by first | omega | decide) eh165 rfl
          refine xi_iload_n (pc' := 6) (x := a23) kc_33_5 rfl rfl ?_
          refine xi_iconst (pc' := 7) (v := 0) kc_33_6 rfl rfl ?_
          refine xi_aload_n (pc' := 8) (x := 115) kc_33_7 rfl rfl ?_
          refine xi_getfield (pc' := 11) (v := .int u1) kc_33_8 rfl rfl rfl eh165.1 rfl ?_
          refine xi_iconst (pc' := 12) (v := 1) kc_33_11 rfl rfl ?_
          obtain ⟨v169, ev169⟩ : ∃ q : Int32, u1 - 1 = q := ⟨_, rfl⟩
          have zv169 : v169.toInt = (u1.toInt + (-1)) := by rw [← ev169]; exact (xz_sub (X := u1.toInt) (Y := 1) rfl (by decide) (by omega) (by omega)).trans (by omega)
          refine xi_isub (pc' := 13) (v := v169) kc_33_12 rfl ev169 ?_
          refine xi_static (mj := 11) (as := [.int a23, .int 0, .int v169]) (st1 := []) (lv0 := [(0, .int a23), (1, .int 0), (2, .int v169)]) kc_33_13 rfl rfl (Nat.le_of_ble_eq_true rfl) rfl rfl (Nat.le_of_ble_eq_true rfl) (hJ _ _ _ _ (by decide)) (xm_le ml_11 rfl) rfl ?_
          refine xi_iload_n (pc' := 1) (x := a23) kc_11_0 rfl rfl ?_
          refine xi_iload_n (pc' := 2) (x := 0) kc_11_1 rfl rfl ?_
          refine xi_cmf (pc' := 5) kc_11_2 rfl (xc_lt_f (X := a23.toInt) (Y := 0) rfl (by decide) (by omega)) ?_
          refine xi_iload_n (pc' := 6) (x := a23) kc_11_5 rfl rfl ?_
          refine xi_iload_n (pc' := 7) (x := v169) kc_11_6 rfl rfl ?_
          refine xi_cmf (pc' := 10) kc_11_7 rfl (xc_gt_f (X := a23.toInt) (Y := (u1.toInt + (-1))) rfl zv169 (by omega)) ?_
          refine xi_iconst (pc' := 11) (v := 1) kc_11_10 rfl rfl ?_
          refine xi_goto (pc' := 15) kc_11_11 rfl ?_
          refine xi_ireturn kc_11_15 mr_11 rfl ?_
          show xw J ov 99 33 (16, [(0, .ref 115), (1, .int a23), (2, .int 1)], [.int 1], hh166) _
          refine xi_ift (pc' := 25) kc_33_16 rfl rfl ?_
          refine xi_aload_n (pc' := 26) (x := 115) kc_33_25 rfl rfl ?_
          refine xi_getfield (pc' := 29) (v := .ref 139) kc_33_26 rfl rfl rfl eh165.1 rfl ?_
          refine xi_iload_n (pc' := 30) (x := a23) kc_33_29 rfl rfl ?_
          obtain ⟨v170, ev170, bv170, dv170⟩ := xj_get hy21 ry21 (i := a23) (by omega) (by omega)
          have HBv170 := xB_ld H22 (by omega) (by omega) ev140 ev141 ev170
          have A171 := ((eh165.2.1 139 (by decide)).trans A21)
          refine xi_baload (pc' := 31) (v := v170) kc_33_30 rfl A171 rfl (xi_in (by omega) (by rw [hy21]; omega)) ev170 ?_
          refine xi_istore_n (pc' := 32) (lv' := [(3, .int v170), (0, .ref 115), (1, .int a23), (2, .int 1)]) kc_33_31 rfl rfl (xm_lt ml_33 rfl) ?_
          refine xi_aload_n (pc' := 33) (x := 115) kc_33_32 rfl rfl ?_
          refine xi_getfield (pc' := 36) (v := .ref 139) kc_33_33 rfl rfl rfl eh165.1 rfl ?_
          refine xi_iload_n (pc' := 37) (x := a23) kc_33_36 rfl rfl ?_
          refine xi_iload_n (pc' := 38) (x := 1) kc_33_37 rfl rfl ?_
          obtain ⟨y172, s172, hy172, ry172⟩ := xj_set (v := 1) hy21 ry21 a23 (by first | omega | decide) (by first | omega | decide)
          refine xi_bastore (pc' := 39) (x' := y172) kc_33_38 rfl A171 rfl (xi_in (by omega) (by rw [hy21]; omega)) s172 (fun hh172 eh172 => ?_)
          have K173 := xk_pa K167 (xk_wa (by decide +kernel)) xD_139 hy172 ry172 eh172
          refine xi_iload_n (pc' := 40) (x := v170) kc_33_39 rfl rfl ?_
          refine xi_iload_n (pc' := 41) (x := 1) kc_33_40 rfl rfl ?_
          by_cases c174 : v170.toInt = 1
          · refine xi_cmf (pc' := 44) kc_33_41 rfl (xc_ne_f (X := v170.toInt) (Y := 1) rfl (by decide) (by omega)) ?_
            refine xi_iconst (pc' := 45) (v := 0) kc_33_44 rfl rfl ?_
            refine xi_goto (pc' := 49) kc_33_45 rfl ?_
            refine xi_ireturn kc_33_49 mr_33 rfl ?_
            show xw J ov 100 195 (761, [(4, .int x4), (3, .ref 167), (2, .ref 115), (1, .ref 0), (0, .ref 1000000)], [.int 0], hh172) _
            refine xi_pop (pc' := 762) kc_195_761 rfl rfl ?_
            refine xi_goto (pc' := 1501) kc_195_762 rfl ?_
            obtain ⟨v175, ev175⟩ : ∃ q : Int32, x4 + 6 = q := ⟨_, rfl⟩
            have zv175 : v175.toInt = (x4.toInt + 6) := by rw [← ev175]; exact (xz_add (X := x4.toInt) (Y := 6) rfl (by decide) (by omega) (by omega)).trans (by omega)
            refine xi_iinc (pc' := 1504) (x := x4) (v := v175) (lv' := [(4, .int v175), (3, .ref 167), (2, .ref 115), (1, .ref 0), (0, .ref 1000000)]) kc_195_1501 rfl rfl ev175 rfl (xm_lt ml_195 rfl) ?_
            refine xi_goto (pc' := 23) kc_195_1504 rfl ?_
            have A176 := ((eh172.2.1 1 (by decide)).trans ((eh165.2.1 1 (by decide)).trans A3))
            have A177 := ((eh172.2.1 115 (by decide)).trans eh165.1)
            have zc0 : (0 : Int32).toInt = 0 := by decide
            have zc1 : (1 : Int32).toInt = 1 := by decide
            have A178 := ((eh172.2.1 63 (by decide)).trans ((eh165.2.1 63 (by decide)).trans A20))
            exact kk v175 hh172 (by omega) K173 ⟨((K173.2.1 (0, 9) (by decide +kernel)).trans (I.1.trans (K173.2.1 (115, 1) (by decide +kernel)).symm)), (xWW_fr I.2.1 (K173.2.1 (64, 0) (by decide +kernel)) (K173.2.1 (121, 0) (by decide +kernel))), (xSG_fr I.2.2.1 (fun l hl => K173.2.1 l (xk_el (by decide +kernel) hl))), (by rw [(K173.2.1 (13, 0) (by decide +kernel)), (K173.2.1 (122, 0) (by decide +kernel))]; exact I.2.2.2.1), (by rw [(K173.2.1 (16, 0) (by decide +kernel)), (K173.2.1 (122, 0) (by decide +kernel))]; exact I.2.2.2.2.1), (by rw [(K173.2.1 (19, 0) (by decide +kernel)), (K173.2.1 (122, 0) (by decide +kernel))]; exact I.2.2.2.2.2.1), (by rw [(K173.2.1 (22, 0) (by decide +kernel)), (K173.2.1 (122, 0) (by decide +kernel))]; exact I.2.2.2.2.2.2.1), (by rw [(K173.2.1 (25, 0) (by decide +kernel)), (K173.2.1 (122, 0) (by decide +kernel))]; exact I.2.2.2.2.2.2.2.1), (by rw [(K173.2.1 (28, 0) (by decide +kernel)), (K173.2.1 (122, 0) (by decide +kernel))]; exact I.2.2.2.2.2.2.2.2.1), (by rw [(K173.2.1 (6, 0) (by decide +kernel)), (K173.2.1 (123, 0) (by decide +kernel))]; exact I.2.2.2.2.2.2.2.2.2.1), (by rw [(K173.2.1 (9, 0) (by decide +kernel)), (K173.2.1 (124, 0) (by decide +kernel))]; exact I.2.2.2.2.2.2.2.2.2.2.1), (by rw [(K173.2.1 (7, 0) (by decide +kernel)), (K173.2.1 (6, 0) (by decide +kernel))]; exact I.2.2.2.2.2.2.2.2.2.2.2.1), (by rw [(K173.2.1 (10, 0) (by decide +kernel)), (K173.2.1 (9, 0) (by decide +kernel))]; exact I.2.2.2.2.2.2.2.2.2.2.2.2.1), ((K173.2.1 (5, 0) (by decide +kernel)).trans I.2.2.2.2.2.2.2.2.2.2.2.2.2.1), ((K173.2.1 (8, 0) (by decide +kernel)).trans I.2.2.2.2.2.2.2.2.2.2.2.2.2.2.1), (xGR_fr I.2.2.2.2.2.2.2.2.2.2.2.2.2.2.2.1 K173.2.1 (by decide +kernel) (by decide +kernel)), (xGR_fr I.2.2.2.2.2.2.2.2.2.2.2.2.2.2.2.2.1 K173.2.1 (by decide +kernel) (by decide +kernel)), ((xl_of A176 rfl).trans (xl_of A177 rfl).symm), (xGR_fr I.2.2.2.2.2.2.2.2.2.2.2.2.2.2.2.2.2.2.1 K173.2.1 (by decide +kernel) (by decide +kernel)), (xGR_fr I.2.2.2.2.2.2.2.2.2.2.2.2.2.2.2.2.2.2.2.1 K173.2.1 (by decide +kernel) (by decide +kernel)), (xGR_fr I.2.2.2.2.2.2.2.2.2.2.2.2.2.2.2.2.2.2.2.2.1 K173.2.1 (by decide +kernel) (by decide +kernel)), (xGR_fr I.2.2.2.2.2.2.2.2.2.2.2.2.2.2.2.2.2.2.2.2.2.1 K173.2.1 (by decide +kernel) (by decide +kernel)), (xB_mk A178 eh172.1 A176 rfl rfl (xB_same (on := 1) H22 (by first | omega | decide) (by first | omega | decide) hy21 ev140 ev141 s172 (by omega))), ((K173.2.1 (0, 8) (by decide +kernel)).trans (I.2.2.2.2.2.2.2.2.2.2.2.2.2.2.2.2.2.2.2.2.2.2.2.1.trans (K173.2.1 (115, 34) (by decide +kernel)).symm)), (xGR_fr I.2.2.2.2.2.2.2.2.2.2.2.2.2.2.2.2.2.2.2.2.2.2.2.2.1 K173.2.1 (by decide +kernel) (by decide +kernel)), (xGR_fr I.2.2.2.2.2.2.2.2.2.2.2.2.2.2.2.2.2.2.2.2.2.2.2.2.2.1 K173.2.1 (by decide +kernel) (by decide +kernel)), (xGR_fr I.2.2.2.2.2.2.2.2.2.2.2.2.2.2.2.2.2.2.2.2.2.2.2.2.2.2.1 K173.2.1 (by decide +kernel) (by decide +kernel)), (xGR_fr I.2.2.2.2.2.2.2.2.2.2.2.2.2.2.2.2.2.2.2.2.2.2.2.2.2.2.2.1 K173.2.1 (by decide +kernel) (by decide +kernel)), (xts_fr I.2.2.2.2.2.2.2.2.2.2.2.2.2.2.2.2.2.2.2.2.2.2.2.2.2.2.2.2.1 (fun l hl => K173.2.1 l (xk_el (by decide +kernel) hl))), ((K173.2.1 (63, 3) (by decide +kernel)).trans I.2.2.2.2.2.2.2.2.2.2.2.2.2.2.2.2.2.2.2.2.2.2.2.2.2.2.2.2.2)⟩
          · refine xi_cmt (pc' := 48) kc_33_41 rfl (xc_ne_t (X := v170.toInt) (Y := 1) rfl (by decide) (by omega)) ?_
            refine xi_iconst (pc' := 49) (v := 1) kc_33_48 rfl rfl ?_
            refine xi_ireturn kc_33_49 mr_33 rfl ?_
            show xw J ov 100 195 (761, [(4, .int x4), (3, .ref 167), (2, .ref 115), (1, .ref 0), (0, .ref 1000000)], [.int 1], hh172) _
            refine xi_pop (pc' := 762) kc_195_761 rfl rfl ?_
            refine xi_goto (pc' := 1501) kc_195_762 rfl ?_
            obtain ⟨v179, ev179⟩ : ∃ q : Int32, x4 + 6 = q := ⟨_, rfl⟩
            have zv179 : v179.toInt = (x4.toInt + 6) := by rw [← ev179]; exact (xz_add (X := x4.toInt) (Y := 6) rfl (by decide) (by omega) (by omega)).trans (by omega)
            refine xi_iinc (pc' := 1504) (x := x4) (v := v179) (lv' := [(4, .int v179), (3, .ref 167), (2, .ref 115), (1, .ref 0), (0, .ref 1000000)]) kc_195_1501 rfl rfl ev179 rfl (xm_lt ml_195 rfl) ?_
            refine xi_goto (pc' := 23) kc_195_1504 rfl ?_
            have A180 := ((eh172.2.1 1 (by decide)).trans ((eh165.2.1 1 (by decide)).trans A3))
            have A181 := ((eh172.2.1 115 (by decide)).trans eh165.1)
            have zc0 : (0 : Int32).toInt = 0 := by decide
            have zc1 : (1 : Int32).toInt = 1 := by decide
            have A182 := ((eh172.2.1 63 (by decide)).trans ((eh165.2.1 63 (by decide)).trans A20))
            exact kk v179 hh172 (by omega) K173 ⟨((K173.2.1 (0, 9) (by decide +kernel)).trans (I.1.trans (K173.2.1 (115, 1) (by decide +kernel)).symm)), (xWW_fr I.2.1 (K173.2.1 (64, 0) (by decide +kernel)) (K173.2.1 (121, 0) (by decide +kernel))), (xSG_fr I.2.2.1 (fun l hl => K173.2.1 l (xk_el (by decide +kernel) hl))), (by rw [(K173.2.1 (13, 0) (by decide +kernel)), (K173.2.1 (122, 0) (by decide +kernel))]; exact I.2.2.2.1), (by rw [(K173.2.1 (16, 0) (by decide +kernel)), (K173.2.1 (122, 0) (by decide +kernel))]; exact I.2.2.2.2.1), (by rw [(K173.2.1 (19, 0) (by decide +kernel)), (K173.2.1 (122, 0) (by decide +kernel))]; exact I.2.2.2.2.2.1), (by rw [(K173.2.1 (22, 0) (by decide +kernel)), (K173.2.1 (122, 0) (by decide +kernel))]; exact I.2.2.2.2.2.2.1), (by rw [(K173.2.1 (25, 0) (by decide +kernel)), (K173.2.1 (122, 0) (by decide +kernel))]; exact I.2.2.2.2.2.2.2.1), (by rw [(K173.2.1 (28, 0) (by decide +kernel)), (K173.2.1 (122, 0) (by decide +kernel))]; exact I.2.2.2.2.2.2.2.2.1), (by rw [(K173.2.1 (6, 0) (by decide +kernel)), (K173.2.1 (123, 0) (by decide +kernel))]; exact I.2.2.2.2.2.2.2.2.2.1), (by rw [(K173.2.1 (9, 0) (by decide +kernel)), (K173.2.1 (124, 0) (by decide +kernel))]; exact I.2.2.2.2.2.2.2.2.2.2.1), (by rw [(K173.2.1 (7, 0) (by decide +kernel)), (K173.2.1 (6, 0) (by decide +kernel))]; exact I.2.2.2.2.2.2.2.2.2.2.2.1), (by rw [(K173.2.1 (10, 0) (by decide +kernel)), (K173.2.1 (9, 0) (by decide +kernel))]; exact I.2.2.2.2.2.2.2.2.2.2.2.2.1), ((K173.2.1 (5, 0) (by decide +kernel)).trans I.2.2.2.2.2.2.2.2.2.2.2.2.2.1), ((K173.2.1 (8, 0) (by decide +kernel)).trans I.2.2.2.2.2.2.2.2.2.2.2.2.2.2.1), (xGR_fr I.2.2.2.2.2.2.2.2.2.2.2.2.2.2.2.1 K173.2.1 (by decide +kernel) (by decide +kernel)), (xGR_fr I.2.2.2.2.2.2.2.2.2.2.2.2.2.2.2.2.1 K173.2.1 (by decide +kernel) (by decide +kernel)), ((xl_of A180 rfl).trans (xl_of A181 rfl).symm), (xGR_fr I.2.2.2.2.2.2.2.2.2.2.2.2.2.2.2.2.2.2.1 K173.2.1 (by decide +kernel) (by decide +kernel)), (xGR_fr I.2.2.2.2.2.2.2.2.2.2.2.2.2.2.2.2.2.2.2.1 K173.2.1 (by decide +kernel) (by decide +kernel)), (xGR_fr I.2.2.2.2.2.2.2.2.2.2.2.2.2.2.2.2.2.2.2.2.1 K173.2.1 (by decide +kernel) (by decide +kernel)), (xGR_fr I.2.2.2.2.2.2.2.2.2.2.2.2.2.2.2.2.2.2.2.2.2.1 K173.2.1 (by decide +kernel) (by decide +kernel)), (xB_mk A182 eh172.1 A180 rfl rfl (xB_same (on := 1) H22 (by first | omega | decide) (by first | omega | decide) hy21 ev140 ev141 s172 (by omega))), ((K173.2.1 (0, 8) (by decide +kernel)).trans (I.2.2.2.2.2.2.2.2.2.2.2.2.2.2.2.2.2.2.2.2.2.2.2.1.trans (K173.2.1 (115, 34) (by decide +kernel)).symm)), (xGR_fr I.2.2.2.2.2.2.2.2.2.2.2.2.2.2.2.2.2.2.2.2.2.2.2.2.1 K173.2.1 (by decide +kernel) (by decide +kernel)), (xGR_fr I.2.2.2.2.2.2.2.2.2.2.2.2.2.2.2.2.2.2.2.2.2.2.2.2.2.1 K173.2.1 (by decide +kernel) (by decide +kernel)), (xGR_fr I.2.2.2.2.2.2.2.2.2.2.2.2.2.2.2.2.2.2.2.2.2.2.2.2.2.2.1 K173.2.1 (by decide +kernel) (by decide +kernel)), (xGR_fr I.2.2.2.2.2.2.2.2.2.2.2.2.2.2.2.2.2.2.2.2.2.2.2.2.2.2.2.1 K173.2.1 (by decide +kernel) (by decide +kernel)), (xts_fr I.2.2.2.2.2.2.2.2.2.2.2.2.2.2.2.2.2.2.2.2.2.2.2.2.2.2.2.2.1 (fun l hl => K173.2.1 l (xk_el (by decide +kernel) hl))), ((K173.2.1 (63, 3) (by decide +kernel)).trans I.2.2.2.2.2.2.2.2.2.2.2.2.2.2.2.2.2.2.2.2.2.2.2.2.2.2.2.2.2)⟩
      · refine xi_cmf (pc' := 15) kc_120_12 rfl (xc_lt_f (X := a23.toInt) (Y := u1.toInt) rfl rfl (by omega)) ?_
        refine xi_aload_n (pc' := 16) (x := 0) kc_120_15 rfl rfl ?_
        refine xi_iconst (pc' := 17) (v := (-1)) kc_120_16 rfl rfl ?_
        refine xi_virtual (mj := 90) (as := [.int (-1)]) (st1 := []) (lv0 := [(0, .ref 0), (1, .int (-1))]) kc_120_17 rfl rfl rfl rfl rfl A117 (Nat.le_of_ble_eq_true rfl) (hJ _ _ _ _ (by decide)) (xm_le ml_90 rfl) rfl ?_
        refine xi_iload_n (pc' := 1) (x := (-1)) kc_90_0 rfl rfl ?_
        refine xi_ineg (pc' := 2) (v := 1) kc_90_1 rfl rfl ?_
        refine xi_istore_n (pc' := 3) (lv' := [(2, .int 1), (0, .ref 0), (1, .int (-1))]) kc_90_2 rfl rfl (xm_lt ml_90 rfl) ?_
        refine xi_iload_n (pc' := 4) (x := 1) kc_90_3 rfl rfl ?_
        refine xi_iff (pc' := 7) kc_90_4 rfl rfl ?_
        refine xi_iload_n (pc' := 8) (x := 1) kc_90_7 rfl rfl ?_
        refine xi_aload_n (pc' := 9) (x := 0) kc_90_8 rfl rfl ?_
        refine xi_getfield (pc' := 12) (v := .ref 94) kc_90_9 rfl rfl rfl A117 rfl ?_
        obtain ⟨y183, A183, hy183, ry183⟩ := xk_arr K.1 xD_94
        refine xi_arraylength (pc' := 13) (n := 7) (v := 7) kc_90_12 rfl (xl_lenI (by decide) (by decide) A183 hy183) rfl ?_
        refine xi_cmf (pc' := 16) kc_90_13 rfl rfl ?_
        refine xi_aload_n (pc' := 17) (x := 0) kc_90_16 rfl rfl ?_
        refine xi_getfield (pc' := 20) (v := .ref 94) kc_90_17 rfl rfl rfl A117 rfl ?_
        refine xi_iload_n (pc' := 21) (x := 1) kc_90_20 rfl rfl ?_
        refine xi_dup2 (pc' := 22) kc_90_21 rfl ⟨rfl, rfl⟩ ?_
        obtain ⟨v184, ev184, bv184, dv184⟩ := xj_get hy183 ry183 (i := 1) (by decide) (by decide)
        refine xi_iaload (pc' := 23) (v := v184) kc_90_22 rfl A183 (by decide) rfl (xi_in (by decide) (by rw [hy183]; decide)) ev184 ?_
        refine xi_iconst (pc' := 24) (v := 1) kc_90_23 rfl rfl ?_
        obtain ⟨v185, ev185⟩ : ∃ q : Int32, (v184 : Int32) + 1 = q := ⟨_, rfl⟩
        have rv185 := xc_rng v185
        refine xi_iadd (pc' := 25) (v := v185) kc_90_24 rfl ev185 ?_
        obtain ⟨y186, s186, hy186, ry186⟩ := xj_set (v := v185) hy183 ry183 1 (by first | omega | decide) (by first | omega | decide)
        refine xi_iastore (pc' := 26) (x' := y186) kc_90_25 rfl A183 rfl (xi_in (by decide) (by rw [hy183]; decide)) s186 (fun hh186 eh186 => ?_)
        have K187 := xk_pa K (xk_wa (by decide +kernel)) xD_94 hy186 ry186 eh186
        have KR188 := xk_pa KR (xk_wa (by decide +kernel)) xD_94 hy186 ry186 eh186
        refine xi_iload_n (pc' := 27) (x := (-1)) kc_90_26 rfl rfl ?_
        refine xi_ireturn kc_90_27 mr_90 rfl ?_
        show xw J ov 99 120 (20, [(0, .ref 0), (1, .int a23), (2, .int 1)], [.int (-1)], hh186) _
        refine xi_ireturn kc_120_20 mr_120 rfl ?_
        show xw J ov 100 195 (736, [(4, .int x4), (3, .ref 167), (2, .ref 115), (1, .ref 0), (0, .ref 1000000)], [.int (-1)], hh186) _
        refine xi_pop (pc' := 737) kc_195_736 rfl rfl ?_
        refine xi_aload_n (pc' := 738) (x := 115) kc_195_737 rfl rfl ?_
        refine xi_aload_n (pc' := 739) (x := 1000000) kc_195_738 rfl rfl ?_
        refine xi_iload (pc' := 741) (x := x4) kc_195_739 rfl rfl ?_
        refine xi_iconst (pc' := 742) (v := 1) kc_195_741 rfl rfl ?_
        refine xi_iadd (pc' := 743) (v := v22) kc_195_742 rfl ev22 ?_
        refine xi_ialoadO (pc' := 744) (v := a23) kc_195_743 rfl (by decide) hov0 (xi_in (by omega) (by omega)) ea23 ?_
        refine xi_aload_n (pc' := 745) (x := 1000000) kc_195_744 rfl rfl ?_
        refine xi_iload (pc' := 747) (x := x4) kc_195_745 rfl rfl ?_
        refine xi_iconst (pc' := 748) (v := 2) kc_195_747 rfl rfl ?_
        refine xi_iadd (pc' := 749) (v := v24) kc_195_748 rfl ev24 ?_
        refine xi_ialoadO (pc' := 750) (v := a25) kc_195_749 rfl (by decide) hov0 (xi_in (by omega) (by omega)) ea25 ?_
        refine xi_iff (pc' := 753) kc_195_750 rfl (xc_eq_f (X := a25.toInt) (Y := 0) rfl (by decide) (by omega)) ?_
        refine xi_iconst (pc' := 754) (v := 1) kc_195_753 rfl rfl ?_
        refine xi_goto (pc' := 758) kc_195_754 rfl ?_
        have A189 := ((eh186.2.1 115 (by decide)).trans A17)
        refine xi_virtual (mj := 33) (as := [.int a23, .int 1]) (st1 := []) (lv0 := [(0, .ref 115), (1, .int a23), (2, .int 1)]) kc_195_758 rfl rfl rfl rfl rfl A189 (Nat.le_of_ble_eq_true rfl) (hJ _ _ _ _ (by decide)) (xm_le ml_33 rfl) rfl ?_
        refine xi_aload_n (pc' := 1) (x := 115) kc_33_0 rfl rfl ?_
        refine xi_iconst (pc' := 2) (v := 0) kc_33_1 rfl rfl ?_
        refine xi_putfield (pc' := 5) (fs' := [.int 0, .int u5, .ref 116, .ref 117, .ref 118, .ref 119, .ref 120, .ref 121, .ref 122, .ref 123, .ref 124, .ref 125, .ref 126, .ref 127, .ref 128, .ref 129, .int u6, .ref 130, .int u7, .ref 131, .ref 132, .ref 133, .ref 134, .int u1, .ref 135, .ref 136, .ref 137, .ref 138, .ref 139, .ref 140, .ref 141, .ref 142, .int u9, .int u10, .int u11, .ref 143, .ref 144, .ref 145, .ref 146, .ref 147, .ref 148, .int u12, .ref 149, .ref 150, .ref 151, .int u13, .ref 152, .ref 153, .ref 154, .ref 155, .ref 156, .ref 157, .ref 158, .ref 159, .int u14, .ref 160, .int u15, .ref 161, .ref 162, .ref 163, .ref 164, .int u16, .ref 165, .ref 166]) kc_33_2 rfl rfl rfl A189 rfl rfl rfl (Nat.le_of_ble_eq_true rfl) rfl (fun hh191 eh190 => ?_)
        have K192 := xk_pf (k := 0) (v := 0) K187 (xk_wf (by decide +kernel)) xD_115 A189 rfl (by first | omega | decide) (by first | omega | decide) eh190 rfl
        have KR193 := xk_pf (k := 0) (v := 0) KR188 (xk_wf (by decide +kernel)) xD_115 A189 rfl (by first | omega | decide) (by first | omega | decide) eh190 rfl
        refine xi_iload_n (pc' := 6) (x := a23) kc_33_5 rfl rfl ?_
        refine xi_iconst (pc' := 7) (v := 0) kc_33_6 rfl rfl ?_
        refine xi_aload_n (pc' := 8) (x := 115) kc_33_7 rfl rfl ?_
        refine xi_getfield (pc' := 11) (v := .int u1) kc_33_8 rfl rfl rfl eh190.1 rfl ?_
        refine xi_iconst (pc' := 12) (v := 1) kc_33_11 rfl rfl ?_
        obtain ⟨v194, ev194⟩ : ∃ q : Int32, u1 - 1 = q := ⟨_, rfl⟩
        have zv194 : v194.toInt = (u1.toInt + (-1)) := by rw [← ev194]; exact (xz_sub (X := u1.toInt) (Y := 1) rfl (by decide) (by omega) (by omega)).trans (by omega)
        refine xi_isub (pc' := 13) (v := v194) kc_33_12 rfl ev194 ?_
        refine xi_static (mj := 11) (as := [.int a23, .int 0, .int v194]) (st1 := []) (lv0 := [(0, .int a23), (1, .int 0), (2, .int v194)]) kc_33_13 rfl rfl (Nat.le_of_ble_eq_true rfl) rfl rfl (Nat.le_of_ble_eq_true rfl) (hJ _ _ _ _ (by decide)) (xm_le ml_11 rfl) rfl ?_
        refine xi_iload_n (pc' := 1) (x := a23) kc_11_0 rfl rfl ?_
        refine xi_iload_n (pc' := 2) (x := 0) kc_11_1 rfl rfl ?_
        refine xi_cmf (pc' := 5) kc_11_2 rfl (xc_lt_f (X := a23.toInt) (Y := 0) rfl (by decide) (by omega)) ?_
        refine xi_iload_n (pc' := 6) (x := a23) kc_11_5 rfl rfl ?_
        refine xi_iload_n (pc' := 7) (x := v194) kc_11_6 rfl rfl ?_
        refine xi_cmt (pc' := 14) kc_11_7 rfl (xc_gt_t (X := a23.toInt) (Y := (u1.toInt + (-1))) rfl zv194 (by omega)) ?_
        refine xi_iconst (pc' := 15) (v := 0) kc_11_14 rfl rfl ?_
        refine xi_ireturn kc_11_15 mr_11 rfl ?_
        show xw J ov 99 33 (16, [(0, .ref 115), (1, .int a23), (2, .int 1)], [.int 0], hh191) _
        refine xi_iff (pc' := 19) kc_33_16 rfl rfl ?_
        refine xi_aload_n (pc' := 20) (x := 115) kc_33_19 rfl rfl ?_
        refine xi_iconst (pc' := 21) (v := (-1)) kc_33_20 rfl rfl ?_
        refine xi_virtual (mj := 12) (as := [.int (-1)]) (st1 := []) (lv0 := [(0, .ref 115), (1, .int (-1))]) kc_33_21 rfl rfl rfl rfl rfl eh190.1 (Nat.le_of_ble_eq_true rfl) (hJ _ _ _ _ (by decide)) (xm_le ml_12 rfl) rfl ?_
        refine xi_aload_n (pc' := 1) (x := 115) kc_12_0 rfl rfl ?_
        refine xi_getfield (pc' := 4) (v := .ref 140) kc_12_1 rfl rfl rfl eh190.1 rfl ?_
        refine xi_iload_n (pc' := 5) (x := (-1)) kc_12_4 rfl rfl ?_
        refine xi_ineg (pc' := 6) (v := 1) kc_12_5 rfl rfl ?_
        refine xi_dup2 (pc' := 7) kc_12_6 rfl ⟨rfl, rfl⟩ ?_
        obtain ⟨y195, A195, hy195, ry195⟩ := xk_arr K.1 xD_140
        obtain ⟨v196, ev196, bv196, dv196⟩ := xj_get hy195 ry195 (i := 1) (by decide) (by decide)
        have A197 := ((eh190.2.1 140 (by decide)).trans ((eh186.2.1 140 (by decide)).trans A195))
        refine xi_iaload (pc' := 8) (v := v196) kc_12_7 rfl A197 (by decide) rfl (xi_in (by decide) (by rw [hy195]; decide)) ev196 ?_
        refine xi_iconst (pc' := 9) (v := 1) kc_12_8 rfl rfl ?_
        obtain ⟨v198, ev198⟩ : ∃ q : Int32, (v196 : Int32) + 1 = q := ⟨_, rfl⟩
        have rv198 := xc_rng v198
        refine xi_iadd (pc' := 10) (v := v198) kc_12_9 rfl ev198 ?_
        obtain ⟨y199, s199, hy199, ry199⟩ := xj_set (v := v198) hy195 ry195 1 (by first | omega | decide) (by first | omega | decide)
        refine xi_iastore (pc' := 11) (x' := y199) kc_12_10 rfl A197 rfl (xi_in (by decide) (by rw [hy195]; decide)) s199 (fun hh199 eh199 => ?_)
        have K200 := xk_pa K192 (xk_wa (by decide +kernel)) xD_140 hy199 ry199 eh199
        have KR201 := xk_pa KR193 (xk_wa (by decide +kernel)) xD_140 hy199 ry199 eh199
        refine xi_iload_n (pc' := 12) (x := (-1)) kc_12_11 rfl rfl ?_
        refine xi_ireturn kc_12_12 mr_12 rfl ?_
        show xw J ov 99 33 (24, [(0, .ref 115), (1, .int a23), (2, .int 1)], [.int (-1)], hh199) _
        refine xi_ireturn kc_33_24 mr_33 rfl ?_
        show xw J ov 100 195 (761, [(4, .int x4), (3, .ref 167), (2, .ref 115), (1, .ref 0), (0, .ref 1000000)], [.int (-1)], hh199) _
        refine xi_pop (pc' := 762) kc_195_761 rfl rfl ?_
        refine xi_goto (pc' := 1501) kc_195_762 rfl ?_
        obtain ⟨v202, ev202⟩ : ∃ q : Int32, x4 + 6 = q := ⟨_, rfl⟩
        have zv202 : v202.toInt = (x4.toInt + 6) := by rw [← ev202]; exact (xz_add (X := x4.toInt) (Y := 6) rfl (by decide) (by omega) (by omega)).trans (by omega)
        refine xi_iinc (pc' := 1504) (x := x4) (v := v202) (lv' := [(4, .int v202), (3, .ref 167), (2, .ref 115), (1, .ref 0), (0, .ref 1000000)]) kc_195_1501 rfl rfl ev202 rfl (xm_lt ml_195 rfl) ?_
        refine xi_goto (pc' := 23) kc_195_1504 rfl ?_
        exact kk v202 hh199 (by omega) K200 (xI_kept I KR201.2.1)
