set_option maxHeartbeats 8000000 in
theorem lc_11 {J : xe_J} {ov : List (List Int32)} (hJ : ∀ d mj as h, mj ≠ xe_loff → J d mj as h = none) (hov1 : ov[1]? = some [10, 0, 0, 0, 0, 0]) (hov2 : ov[2]? = some [99, 30, 50, 50, 1, 99999]) {xs : List Int32} (hov0 : ov[0]? = some xs) {Q : Option Value → xe_H → Prop} {h : xe_H} {x4 : Int32} (hi0 : 0 ≤ x4.toInt) (hi1 : x4.toInt + 6 ≤ xs.length) (hi2 : x4.toInt ≤ 3066) (T : xt h) (I : xI h) (kk : ∀ (i : Int32) (h' : xe_H), i.toInt = x4.toInt + 6 → xk xP_34 h h' → xI h' → xw J ov 100 195 (23, [(4, .int i), (3, .ref 167), (2, .ref 115), (1, .ref 0), (0, .ref 1000000)], [], h') Q) : xw J ov 100 195 (651, [(4, .int x4), (3, .ref 167), (2, .ref 115), (1, .ref 0), (0, .ref 1000000)], [], h) Q := by
  have K : xk xP_34 h h := xk_re T
  have KR : xk xP_27 h h := xk_re T
  obtain ⟨u1, u2, bu1, bu2, A3⟩ := xq_1 K.1
  obtain ⟨u4, u5, u6, u7, u8, u9, u10, u11, u12, u13, u14, u15, u16, bu4, bu5, bu6, bu7, bu8, bu9, bu10, bu11, bu12, bu13, bu14, bu15, bu16, A17⟩ := xq_115 K.1
  have ee17 : u1 = u8 := xl_eqf I.2.2.2.2.2.2.2.2.2.2.2.2.2.2.2.2.2.1 A3 A17 rfl rfl
  subst ee17
  obtain ⟨u18, u19, bu18, bu19, A20⟩ := xq_63 K.1
  obtain ⟨y21, A21, hy21, ry21⟩ := xk_arr K.1 xD_139
  have H22 := xB_of I.2.2.2.2.2.2.2.2.2.2.2.2.2.2.2.2.2.2.2.2.2.2.1 A20 A21 A3 rfl rfl
  refine xi_aload_n (pc' := 652) (x := 0) kc_195_651 rfl rfl ?_
  refine xi_aload_n (pc' := 653) (x := 1000000) kc_195_652 rfl rfl ?_
  refine xi_iload (pc' := 655) (x := x4) kc_195_653 rfl rfl ?_
  refine xi_iconst (pc' := 656) (v := 1) kc_195_655 rfl rfl ?_
  obtain ⟨v22, ev22⟩ : ∃ q : Int32, x4 + 1 = q := ⟨_, rfl⟩
  have zv22 : v22.toInt = (x4.toInt + 1) := by rw [← ev22]; exact (xz_add (X := x4.toInt) (Y := 1) rfl (by decide) (by omega) (by omega)).trans (by omega)
  refine xi_iadd (pc' := 657) (v := v22) kc_195_656 rfl ev22 ?_
  obtain ⟨a23, ea23⟩ : ∃ q : Int32, xs.getD (Int32.toNatClampNeg v22) 0 = q := ⟨_, rfl⟩
  have ra23 := xc_rng a23
  refine xi_ialoadO (pc' := 658) (v := a23) kc_195_657 rfl (by decide) hov0 (xi_in (by omega) (by omega)) ea23 ?_
  refine xi_aload_n (pc' := 659) (x := 1000000) kc_195_658 rfl rfl ?_
  refine xi_iload (pc' := 661) (x := x4) kc_195_659 rfl rfl ?_
  refine xi_iconst (pc' := 662) (v := 2) kc_195_661 rfl rfl ?_
  obtain ⟨v24, ev24⟩ : ∃ q : Int32, x4 + 2 = q := ⟨_, rfl⟩
  have zv24 : v24.toInt = (x4.toInt + 2) := by rw [← ev24]; exact (xz_add (X := x4.toInt) (Y := 2) rfl (by decide) (by omega) (by omega)).trans (by omega)
  refine xi_iadd (pc' := 663) (v := v24) kc_195_662 rfl ev24 ?_
  obtain ⟨a25, ea25⟩ : ∃ q : Int32, xs.getD (Int32.toNatClampNeg v24) 0 = q := ⟨_, rfl⟩
  have ra25 := xc_rng a25
  refine xi_ialoadO (pc' := 664) (v := a25) kc_195_663 rfl (by decide) hov0 (xi_in (by omega) (by omega)) ea25 ?_
  refine xi_aload_n (pc' := 665) (x := 1000000) kc_195_664 rfl rfl ?_
  refine xi_iload (pc' := 667) (x := x4) kc_195_665 rfl rfl ?_
  refine xi_iconst (pc' := 668) (v := 3) kc_195_667 rfl rfl ?_
  obtain ⟨v26, ev26⟩ : ∃ q : Int32, x4 + 3 = q := ⟨_, rfl⟩
  have zv26 : v26.toInt = (x4.toInt + 3) := by rw [← ev26]; exact (xz_add (X := x4.toInt) (Y := 3) rfl (by decide) (by omega) (by omega)).trans (by omega)
  refine xi_iadd (pc' := 669) (v := v26) kc_195_668 rfl ev26 ?_
  obtain ⟨a27, ea27⟩ : ∃ q : Int32, xs.getD (Int32.toNatClampNeg v26) 0 = q := ⟨_, rfl⟩
  have ra27 := xc_rng a27
  refine xi_ialoadO (pc' := 670) (v := a27) kc_195_669 rfl (by decide) hov0 (xi_in (by omega) (by omega)) ea27 ?_
  refine xi_aload_n (pc' := 671) (x := 1000000) kc_195_670 rfl rfl ?_
  refine xi_iload (pc' := 673) (x := x4) kc_195_671 rfl rfl ?_
  refine xi_iconst (pc' := 674) (v := 4) kc_195_673 rfl rfl ?_
  obtain ⟨v28, ev28⟩ : ∃ q : Int32, x4 + 4 = q := ⟨_, rfl⟩
  have zv28 : v28.toInt = (x4.toInt + 4) := by rw [← ev28]; exact (xz_add (X := x4.toInt) (Y := 4) rfl (by decide) (by omega) (by omega)).trans (by omega)
  refine xi_iadd (pc' := 675) (v := v28) kc_195_674 rfl ev28 ?_
  obtain ⟨a29, ea29⟩ : ∃ q : Int32, xs.getD (Int32.toNatClampNeg v28) 0 = q := ⟨_, rfl⟩
  have ra29 := xc_rng a29
  refine xi_ialoadO (pc' := 676) (v := a29) kc_195_675 rfl (by decide) hov0 (xi_in (by omega) (by omega)) ea29 ?_
  obtain ⟨u30, u31, bu30, bu31, A32⟩ := xq_0 K.1
  refine xi_virtual (mj := 116) (as := [.int a23, .int a25, .int a27, .int a29]) (st1 := []) (lv0 := [(0, .ref 0), (1, .int a23), (2, .int a25), (3, .int a27), (4, .int a29)]) kc_195_676 rfl rfl rfl rfl rfl A32 (Nat.le_of_ble_eq_true rfl) (hJ _ _ _ _ (by decide)) (xm_le ml_116 rfl) rfl ?_
  refine xi_iload_n (pc' := 1) (x := a23) kc_116_0 rfl rfl ?_
  refine xi_static (mj := 117) (as := [.int a23]) (st1 := []) (lv0 := [(0, .int a23)]) kc_116_1 rfl rfl (Nat.le_of_ble_eq_true rfl) rfl rfl (Nat.le_of_ble_eq_true rfl) (hJ _ _ _ _ (by decide)) (xm_le ml_117 rfl) rfl ?_
  refine xi_iload_n (pc' := 1) (x := a23) kc_117_0 rfl rfl ?_
  by_cases c33 : a23.toInt < 0
  · refine xi_ift (pc' := 13) kc_117_1 rfl (xc_lt_t (X := a23.toInt) (Y := 0) rfl (by decide) (by omega)) ?_
    refine xi_iconst (pc' := 14) (v := 0) kc_117_13 rfl rfl ?_
    refine xi_ireturn kc_117_14 mr_117 rfl ?_
    show xw J ov 99 116 (4, [(0, .ref 0), (1, .int a23), (2, .int a25), (3, .int a27), (4, .int a29)], [.int 0], h) _
    refine xi_iff (pc' := 7) kc_116_4 rfl rfl ?_
    refine xi_aload_n (pc' := 8) (x := 0) kc_116_7 rfl rfl ?_
    refine xi_bipush (pc' := 10) (v := (-2)) kc_116_8 rfl rfl ?_
    refine xi_virtual (mj := 90) (as := [.int (-2)]) (st1 := []) (lv0 := [(0, .ref 0), (1, .int (-2))]) kc_116_10 rfl rfl rfl rfl rfl A32 (Nat.le_of_ble_eq_true rfl) (hJ _ _ _ _ (by decide)) (xm_le ml_90 rfl) rfl ?_
    refine xi_iload_n (pc' := 1) (x := (-2)) kc_90_0 rfl rfl ?_
    refine xi_ineg (pc' := 2) (v := 2) kc_90_1 rfl rfl ?_
    refine xi_istore_n (pc' := 3) (lv' := [(2, .int 2), (0, .ref 0), (1, .int (-2))]) kc_90_2 rfl rfl (xm_lt ml_90 rfl) ?_
    refine xi_iload_n (pc' := 4) (x := 2) kc_90_3 rfl rfl ?_
    refine xi_iff (pc' := 7) kc_90_4 rfl rfl ?_
    refine xi_iload_n (pc' := 8) (x := 2) kc_90_7 rfl rfl ?_
    refine xi_aload_n (pc' := 9) (x := 0) kc_90_8 rfl rfl ?_
    refine xi_getfield (pc' := 12) (v := .ref 94) kc_90_9 rfl rfl rfl A32 rfl ?_
    obtain ⟨y34, A34, hy34, ry34⟩ := xk_arr K.1 xD_94
    refine xi_arraylength (pc' := 13) (n := 7) (v := 7) kc_90_12 rfl (xl_lenI (by decide) (by decide) A34 hy34) rfl ?_
    refine xi_cmf (pc' := 16) kc_90_13 rfl rfl ?_
    refine xi_aload_n (pc' := 17) (x := 0) kc_90_16 rfl rfl ?_
    refine xi_getfield (pc' := 20) (v := .ref 94) kc_90_17 rfl rfl rfl A32 rfl ?_
    refine xi_iload_n (pc' := 21) (x := 2) kc_90_20 rfl rfl ?_
    refine xi_dup2 (pc' := 22) kc_90_21 rfl ⟨rfl, rfl⟩ ?_
    obtain ⟨v35, ev35, bv35, dv35⟩ := xj_get hy34 ry34 (i := 2) (by decide) (by decide)
    refine xi_iaload (pc' := 23) (v := v35) kc_90_22 rfl A34 (by decide) rfl (xi_in (by decide) (by rw [hy34]; decide)) ev35 ?_
    refine xi_iconst (pc' := 24) (v := 1) kc_90_23 rfl rfl ?_
    obtain ⟨v36, ev36⟩ : ∃ q : Int32, (v35 : Int32) + 1 = q := ⟨_, rfl⟩
    have rv36 := xc_rng v36
    refine xi_iadd (pc' := 25) (v := v36) kc_90_24 rfl ev36 ?_
    obtain ⟨y37, s37, hy37, ry37⟩ := xj_set (v := v36) hy34 ry34 2 (by first | omega | decide) (by first | omega | decide)
    refine xi_iastore (pc' := 26) (x' := y37) kc_90_25 rfl A34 rfl (xi_in (by decide) (by rw [hy34]; decide)) s37 (fun hh37 eh37 => ?_)
    have K38 := xk_pa K (xk_wa (by decide +kernel)) xD_94 hy37 ry37 eh37
    have KR39 := xk_pa KR (xk_wa (by decide +kernel)) xD_94 hy37 ry37 eh37
    refine xi_iload_n (pc' := 27) (x := (-2)) kc_90_26 rfl rfl ?_
    refine xi_ireturn kc_90_27 mr_90 rfl ?_
    show xw J ov 99 116 (13, [(0, .ref 0), (1, .int a23), (2, .int a25), (3, .int a27), (4, .int a29)], [.int (-2)], hh37) _
    refine xi_ireturn kc_116_13 mr_116 rfl ?_
    show xw J ov 100 195 (679, [(4, .int x4), (3, .ref 167), (2, .ref 115), (1, .ref 0), (0, .ref 1000000)], [.int (-2)], hh37) _
    refine xi_pop (pc' := 680) kc_195_679 rfl rfl ?_
    refine xi_aload_n (pc' := 681) (x := 115) kc_195_680 rfl rfl ?_
    refine xi_aload_n (pc' := 682) (x := 1000000) kc_195_681 rfl rfl ?_
    refine xi_iload (pc' := 684) (x := x4) kc_195_682 rfl rfl ?_
    refine xi_iconst (pc' := 685) (v := 1) kc_195_684 rfl rfl ?_
    refine xi_iadd (pc' := 686) (v := v22) kc_195_685 rfl ev22 ?_
    refine xi_ialoadO (pc' := 687) (v := a23) kc_195_686 rfl (by decide) hov0 (xi_in (by omega) (by omega)) ea23 ?_
    refine xi_aload_n (pc' := 688) (x := 1000000) kc_195_687 rfl rfl ?_
    refine xi_iload (pc' := 690) (x := x4) kc_195_688 rfl rfl ?_
    refine xi_iconst (pc' := 691) (v := 2) kc_195_690 rfl rfl ?_
    refine xi_iadd (pc' := 692) (v := v24) kc_195_691 rfl ev24 ?_
    refine xi_ialoadO (pc' := 693) (v := a25) kc_195_692 rfl (by decide) hov0 (xi_in (by omega) (by omega)) ea25 ?_
    refine xi_aload_n (pc' := 694) (x := 1000000) kc_195_693 rfl rfl ?_
    refine xi_iload (pc' := 696) (x := x4) kc_195_694 rfl rfl ?_
    refine xi_iconst (pc' := 697) (v := 3) kc_195_696 rfl rfl ?_
    refine xi_iadd (pc' := 698) (v := v26) kc_195_697 rfl ev26 ?_
    refine xi_ialoadO (pc' := 699) (v := a27) kc_195_698 rfl (by decide) hov0 (xi_in (by omega) (by omega)) ea27 ?_
    refine xi_aload_n (pc' := 700) (x := 1000000) kc_195_699 rfl rfl ?_
    refine xi_iload (pc' := 702) (x := x4) kc_195_700 rfl rfl ?_
    refine xi_iconst (pc' := 703) (v := 4) kc_195_702 rfl rfl ?_
    refine xi_iadd (pc' := 704) (v := v28) kc_195_703 rfl ev28 ?_
    refine xi_ialoadO (pc' := 705) (v := a29) kc_195_704 rfl (by decide) hov0 (xi_in (by omega) (by omega)) ea29 ?_
    have A40 := ((eh37.2.1 115 (by decide)).trans A17)
    refine xi_virtual (mj := 32) (as := [.int a23, .int a25, .int a27, .int a29]) (st1 := []) (lv0 := [(0, .ref 115), (1, .int a23), (2, .int a25), (3, .int a27), (4, .int a29)]) kc_195_705 rfl rfl rfl rfl rfl A40 (Nat.le_of_ble_eq_true rfl) (hJ _ _ _ _ (by decide)) (xm_le ml_32 rfl) rfl ?_
    refine xi_aload_n (pc' := 1) (x := 115) kc_32_0 rfl rfl ?_
    refine xi_iconst (pc' := 2) (v := 0) kc_32_1 rfl rfl ?_
    refine xi_putfield (pc' := 5) (fs' := [.int 0, .int u5, .ref 116, .ref 117, .ref 118, .ref 119, .ref 120, .ref 121, .ref 122, .ref 123, .ref 124, .ref 125, .ref 126, .ref 127, .ref 128, .ref 129, .int u6, .ref 130, .int u7, .ref 131, .ref 132, .ref 133, .ref 134, .int u1, .ref 135, .ref 136, .ref 137, .ref 138, .ref 139, .ref 140, .ref 141, .ref 142, .int u9, .int u10, .int u11, .ref 143, .ref 144, .ref 145, .ref 146, .ref 147, .ref 148, .int u12, .ref 149, .ref 150, .ref 151, .int u13, .ref 152, .ref 153, .ref 154, .ref 155, .ref 156, .ref 157, .ref 158, .ref 159, .int u14, .ref 160, .int u15, .ref 161, .ref 162, .ref 163, .ref 164, .int u16, .ref 165, .ref 166]) kc_32_2 rfl rfl rfl A40 rfl rfl rfl (Nat.le_of_ble_eq_true rfl) rfl (fun hh42 eh41 => ?_)
    have K43 := xk_pf (k := 0) (v := 0) K38 (xk_wf (by decide +kernel)) xD_115 A40 rfl (by first | omega | decide) (by first | omega | decide) eh41 rfl
    have KR44 := xk_pf (k := 0) (v := 0) KR39 (xk_wf (by decide +kernel)) xD_115 A40 rfl (by first | omega | decide) (by first | omega | decide) eh41 rfl
    refine xi_iload_n (pc' := 6) (x := a23) kc_32_5 rfl rfl ?_
    refine xi_iconst (pc' := 7) (v := 0) kc_32_6 rfl rfl ?_
    refine xi_iconst (pc' := 8) (v := 3) kc_32_7 rfl rfl ?_
    refine xi_static (mj := 11) (as := [.int a23, .int 0, .int 3]) (st1 := []) (lv0 := [(0, .int a23), (1, .int 0), (2, .int 3)]) kc_32_8 rfl rfl (Nat.le_of_ble_eq_true rfl) rfl rfl (Nat.le_of_ble_eq_true rfl) (hJ _ _ _ _ (by decide)) (xm_le ml_11 rfl) rfl ?_
    refine xi_iload_n (pc' := 1) (x := a23) kc_11_0 rfl rfl ?_
    refine xi_iload_n (pc' := 2) (x := 0) kc_11_1 rfl rfl ?_
    refine xi_cmt (pc' := 14) kc_11_2 rfl (xc_lt_t (X := a23.toInt) (Y := 0) rfl (by decide) (by omega)) ?_
    refine xi_iconst (pc' := 15) (v := 0) kc_11_14 rfl rfl ?_
    refine xi_ireturn kc_11_15 mr_11 rfl ?_
    show xw J ov 99 32 (11, [(0, .ref 115), (1, .int a23), (2, .int a25), (3, .int a27), (4, .int a29)], [.int 0], hh42) _
    refine xi_iff (pc' := 14) kc_32_11 rfl rfl ?_
    refine xi_aload_n (pc' := 15) (x := 115) kc_32_14 rfl rfl ?_
    refine xi_bipush (pc' := 17) (v := (-2)) kc_32_15 rfl rfl ?_
    refine xi_virtual (mj := 12) (as := [.int (-2)]) (st1 := []) (lv0 := [(0, .ref 115), (1, .int (-2))]) kc_32_17 rfl rfl rfl rfl rfl eh41.1 (Nat.le_of_ble_eq_true rfl) (hJ _ _ _ _ (by decide)) (xm_le ml_12 rfl) rfl ?_
    refine xi_aload_n (pc' := 1) (x := 115) kc_12_0 rfl rfl ?_
    refine xi_getfield (pc' := 4) (v := .ref 140) kc_12_1 rfl rfl rfl eh41.1 rfl ?_
    refine xi_iload_n (pc' := 5) (x := (-2)) kc_12_4 rfl rfl ?_
    refine xi_ineg (pc' := 6) (v := 2) kc_12_5 rfl rfl ?_
    refine xi_dup2 (pc' := 7) kc_12_6 rfl ⟨rfl, rfl⟩ ?_
    obtain ⟨y45, A45, hy45, ry45⟩ := xk_arr K.1 xD_140
    obtain ⟨v46, ev46, bv46, dv46⟩ := xj_get hy45 ry45 (i := 2) (by decide) (by decide)
    have A47 := ((eh41.2.1 140 (by decide)).trans ((eh37.2.1 140 (by decide)).trans A45))
    refine xi_iaload (pc' := 8) (v := v46) kc_12_7 rfl A47 (by decide) rfl (xi_in (by decide) (by rw [hy45]; decide)) ev46 ?_
    refine xi_iconst (pc' := 9) (v := 1) kc_12_8 rfl rfl ?_
    obtain ⟨v48, ev48⟩ : ∃ q : Int32, (v46 : Int32) + 1 = q := ⟨_, rfl⟩
    have rv48 := xc_rng v48
    refine xi_iadd (pc' := 10) (v := v48) kc_12_9 rfl ev48 ?_
    obtain ⟨y49, s49, hy49, ry49⟩ := xj_set (v := v48) hy45 ry45 2 (by first | omega | decide) (by first | omega | decide)
    refine xi_iastore (pc' := 11) (x' := y49) kc_12_10 rfl A47 rfl (xi_in (by decide) (by rw [hy45]; decide)) s49 (fun hh49 eh49 => ?_)
    have K50 := xk_pa K43 (xk_wa (by decide +kernel)) xD_140 hy49 ry49 eh49
    have KR51 := xk_pa KR44 (xk_wa (by decide +kernel)) xD_140 hy49 ry49 eh49
    refine xi_iload_n (pc' := 12) (x := (-2)) kc_12_11 rfl rfl ?_
    refine xi_ireturn kc_12_12 mr_12 rfl ?_
    show xw J ov 99 32 (20, [(0, .ref 115), (1, .int a23), (2, .int a25), (3, .int a27), (4, .int a29)], [.int (-2)], hh49) _
    refine xi_ireturn kc_32_20 mr_32 rfl ?_
    show xw J ov 100 195 (708, [(4, .int x4), (3, .ref 167), (2, .ref 115), (1, .ref 0), (0, .ref 1000000)], [.int (-2)], hh49) _
    refine xi_pop (pc' := 709) kc_195_708 rfl rfl ?_
    refine xi_goto (pc' := 1501) kc_195_709 rfl ?_
    obtain ⟨v52, ev52⟩ : ∃ q : Int32, x4 + 6 = q := ⟨_, rfl⟩
    have zv52 : v52.toInt = (x4.toInt + 6) := by rw [← ev52]; exact (xz_add (X := x4.toInt) (Y := 6) rfl (by decide) (by omega) (by omega)).trans (by omega)
    refine xi_iinc (pc' := 1504) (x := x4) (v := v52) (lv' := [(4, .int v52), (3, .ref 167), (2, .ref 115), (1, .ref 0), (0, .ref 1000000)]) kc_195_1501 rfl rfl ev52 rfl (xm_lt ml_195 rfl) ?_
    refine xi_goto (pc' := 23) kc_195_1504 rfl ?_
    exact kk v52 hh49 (by omega) K50 (xI_kept I KR51.2.1)
  · refine xi_iff (pc' := 4) kc_117_1 rfl (xc_lt_f (X := a23.toInt) (Y := 0) rfl (by decide) (by omega)) ?_
    refine xi_iload_n (pc' := 5) (x := a23) kc_117_4 rfl rfl ?_
    refine xi_iconst (pc' := 6) (v := 4) kc_117_5 rfl rfl ?_
    by_cases c53 : 4 ≤ a23.toInt
    · refine xi_cmt (pc' := 13) kc_117_6 rfl (xc_ge_t (X := a23.toInt) (Y := 4) rfl (by decide) (by omega)) ?_
      refine xi_iconst (pc' := 14) (v := 0) kc_117_13 rfl rfl ?_
      refine xi_ireturn kc_117_14 mr_117 rfl ?_
      show xw J ov 99 116 (4, [(0, .ref 0), (1, .int a23), (2, .int a25), (3, .int a27), (4, .int a29)], [.int 0], h) _
      refine xi_iff (pc' := 7) kc_116_4 rfl rfl ?_
      refine xi_aload_n (pc' := 8) (x := 0) kc_116_7 rfl rfl ?_
      refine xi_bipush (pc' := 10) (v := (-2)) kc_116_8 rfl rfl ?_
      refine xi_virtual (mj := 90) (as := [.int (-2)]) (st1 := []) (lv0 := [(0, .ref 0), (1, .int (-2))]) kc_116_10 rfl rfl rfl rfl rfl A32 (Nat.le_of_ble_eq_true rfl) (hJ _ _ _ _ (by decide)) (xm_le ml_90 rfl) rfl ?_
      refine xi_iload_n (pc' := 1) (x := (-2)) kc_90_0 rfl rfl ?_
      refine xi_ineg (pc' := 2) (v := 2) kc_90_1 rfl rfl ?_
      refine xi_istore_n (pc' := 3) (lv' := [(2, .int 2), (0, .ref 0), (1, .int (-2))]) kc_90_2 rfl rfl (xm_lt ml_90 rfl) ?_
      refine xi_iload_n (pc' := 4) (x := 2) kc_90_3 rfl rfl ?_
      refine xi_iff (pc' := 7) kc_90_4 rfl rfl ?_
      refine xi_iload_n (pc' := 8) (x := 2) kc_90_7 rfl rfl ?_
      refine xi_aload_n (pc' := 9) (x := 0) kc_90_8 rfl rfl ?_
      refine xi_getfield (pc' := 12) (v := .ref 94) kc_90_9 rfl rfl rfl A32 rfl ?_
      obtain ⟨y54, A54, hy54, ry54⟩ := xk_arr K.1 xD_94
      refine xi_arraylength (pc' := 13) (n := 7) (v := 7) kc_90_12 rfl (xl_lenI (by decide) (by decide) A54 hy54) rfl ?_
      refine xi_cmf (pc' := 16) kc_90_13 rfl rfl ?_
      refine xi_aload_n (pc' := 17) (x := 0) kc_90_16 rfl rfl ?_
      refine xi_getfield (pc' := 20) (v := .ref 94) kc_90_17 rfl rfl rfl A32 rfl ?_
      refine xi_iload_n (pc' := 21) (x := 2) kc_90_20 rfl rfl ?_
      refine xi_dup2 (pc' := 22) kc_90_21 rfl ⟨rfl, rfl⟩ ?_
      obtain ⟨v55, ev55, bv55, dv55⟩ := xj_get hy54 ry54 (i := 2) (by decide) (by decide)
      refine xi_iaload (pc' := 23) (v := v55) kc_90_22 rfl A54 (by decide) rfl (xi_in (by decide) (by rw [hy54]; decide)) ev55 ?_
      refine xi_iconst (pc' := 24) (v := 1) kc_90_23 rfl rfl ?_
      obtain ⟨v56, ev56⟩ : ∃ q : Int32, (v55 : Int32) + 1 = q := ⟨_, rfl⟩
      have rv56 := xc_rng v56
      refine xi_iadd (pc' := 25) (v := v56) kc_90_24 rfl ev56 ?_
      obtain ⟨y57, s57, hy57, ry57⟩ := xj_set (v := v56) hy54 ry54 2 (by first | omega | decide) (by first | omega | decide)
      refine xi_iastore (pc' := 26) (x' := y57) kc_90_25 rfl A54 rfl (xi_in (by decide) (by rw [hy54]; decide)) s57 (fun hh57 eh57 => ?_)
      have K58 := xk_pa K (xk_wa (by decide +kernel)) xD_94 hy57 ry57 eh57
      have KR59 := xk_pa KR (xk_wa (by decide +kernel)) xD_94 hy57 ry57 eh57
      refine xi_iload_n (pc' := 27) (x := (-2)) kc_90_26 rfl rfl ?_
      refine xi_ireturn kc_90_27 mr_90 rfl ?_
      show xw J ov 99 116 (13, [(0, .ref 0), (1, .int a23), (2, .int a25), (3, .int a27), (4, .int a29)], [.int (-2)], hh57) _
      refine xi_ireturn kc_116_13 mr_116 rfl ?_
      show xw J ov 100 195 (679, [(4, .int x4), (3, .ref 167), (2, .ref 115), (1, .ref 0), (0, .ref 1000000)], [.int (-2)], hh57) _
      refine xi_pop (pc' := 680) kc_195_679 rfl rfl ?_
      refine xi_aload_n (pc' := 681) (x := 115) kc_195_680 rfl rfl ?_
      refine xi_aload_n (pc' := 682) (x := 1000000) kc_195_681 rfl rfl ?_
      refine xi_iload (pc' := 684) (x := x4) kc_195_682 rfl rfl ?_
      refine xi_iconst (pc' := 685) (v := 1) kc_195_684 rfl rfl ?_
      refine xi_iadd (pc' := 686) (v := v22) kc_195_685 rfl ev22 ?_
      refine xi_ialoadO (pc' := 687) (v := a23) kc_195_686 rfl (by decide) hov0 (xi_in (by omega) (by omega)) ea23 ?_
      refine xi_aload_n (pc' := 688) (x := 1000000) kc_195_687 rfl rfl ?_
      refine xi_iload (pc' := 690) (x := x4) kc_195_688 rfl rfl ?_
      refine xi_iconst (pc' := 691) (v := 2) kc_195_690 rfl rfl ?_
      refine xi_iadd (pc' := 692) (v := v24) kc_195_691 rfl ev24 ?_
      refine xi_ialoadO (pc' := 693) (v := a25) kc_195_692 rfl (by decide) hov0 (xi_in (by omega) (by omega)) ea25 ?_
      refine xi_aload_n (pc' := 694) (x := 1000000) kc_195_693 rfl rfl ?_
      refine xi_iload (pc' := 696) (x := x4) kc_195_694 rfl rfl ?_
      refine xi_iconst (pc' := 697) (v := 3) kc_195_696 rfl rfl ?_
      refine xi_iadd (pc' := 698) (v := v26) kc_195_697 rfl ev26 ?_
      refine xi_ialoadO (pc' := 699) (v := a27) kc_195_698 rfl (by decide) hov0 (xi_in (by omega) (by omega)) ea27 ?_
      refine xi_aload_n (pc' := 700) (x := 1000000) kc_195_699 rfl rfl ?_
      refine xi_iload (pc' := 702) (x := x4) kc_195_700 rfl rfl ?_
      refine xi_iconst (pc' := 703) (v := 4) kc_195_702 rfl rfl ?_
      refine xi_iadd (pc' := 704) (v := v28) kc_195_703 rfl ev28 ?_
      refine xi_ialoadO (pc' := 705) (v := a29) kc_195_704 rfl (by decide) hov0 (xi_in (by omega) (by omega)) ea29 ?_
      have A60 := ((eh57.2.1 115 (by decide)).trans A17)
      refine xi_virtual (mj := 32) (as := [.int a23, .int a25, .int a27, .int a29]) (st1 := []) (lv0 := [(0, .ref 115), (1, .int a23), (2, .int a25), (3, .int a27), (4, .int a29)]) kc_195_705 rfl rfl rfl rfl rfl A60 (Nat.le_of_ble_eq_true rfl) (hJ _ _ _ _ (by decide)) (xm_le ml_32 rfl) rfl ?_
      refine xi_aload_n (pc' := 1) (x := 115) kc_32_0 rfl rfl ?_
      refine xi_iconst (pc' := 2) (v := 0) kc_32_1 rfl rfl ?_
      refine xi_putfield (pc' := 5) (fs' := [.int 0, .int u5, .ref 116, .ref 117, .ref 118, .ref 119, .ref 120, .ref 121, .ref 122, .ref 123, .ref 124, .ref 125, .ref 126, .ref 127, .ref 128, .ref 129, .int u6, .ref 130, .int u7, .ref 131, .ref 132, .ref 133, .ref 134, .int u1, .ref 135, .ref 136, .ref 137, .ref 138, .ref 139, .ref 140, .ref 141, .ref 142, .int u9, .int u10, .int u11, .ref 143, .ref 144, .ref 145, .ref 146, .ref 147, .ref 148, .int u12, .ref 149, .ref 150, .ref 151, .int u13, .ref 152, .ref 153, .ref 154, .ref 155, .ref 156, .ref 157, .ref 158, .ref 159, .int u14, .ref 160, .int u15, .ref 161, .ref 162, .ref 163, .ref 164, .int u16, .ref 165, .ref 166]) kc_32_2 rfl rfl rfl A60 rfl rfl rfl (Nat.le_of_ble_eq_true rfl) rfl (fun hh62 eh61 => ?_)
      have K63 := xk_pf (k := 0) (v := 0) K58 (xk_wf (by decide +kernel)) xD_115 A60 rfl (by first | omega | decide) (by first | omega | decide) eh61 rfl
      have KR64 := xk_pf (k := 0) (v := 0) KR59 (xk_wf (by decide +kernel)) xD_115 A60 rfl (by first | omega | decide) (by first | omega | decide) eh61 rfl
      refine xi_iload_n (pc' := 6) (x := a23) kc_32_5 rfl rfl ?_
      refine xi_iconst (pc' := 7) (v := 0) kc_32_6 rfl rfl ?_
      refine xi_iconst (pc' := 8) (v := 3) kc_32_7 rfl rfl ?_
      refine xi_static (mj := 11) (as := [.int a23, .int 0, .int 3]) (st1 := []) (lv0 := [(0, .int a23), (1, .int 0), (2, .int 3)]) kc_32_8 rfl rfl (Nat.le_of_ble_eq_true rfl) rfl rfl (Nat.le_of_ble_eq_true rfl) (hJ _ _ _ _ (by decide)) (xm_le ml_11 rfl) rfl ?_
      refine xi_iload_n (pc' := 1) (x := a23) kc_11_0 rfl rfl ?_
      refine xi_iload_n (pc' := 2) (x := 0) kc_11_1 rfl rfl ?_
      refine xi_cmf (pc' := 5) kc_11_2 rfl (xc_lt_f (X := a23.toInt) (Y := 0) rfl (by decide) (by omega)) ?_
      refine xi_iload_n (pc' := 6) (x := a23) kc_11_5 rfl rfl ?_
      refine xi_iload_n (pc' := 7) (x := 3) kc_11_6 rfl rfl ?_
      refine xi_cmt (pc' := 14) kc_11_7 rfl (xc_gt_t (X := a23.toInt) (Y := 3) rfl (by decide) (by omega)) ?_
      refine xi_iconst (pc' := 15) (v := 0) kc_11_14 rfl rfl ?_
      refine xi_ireturn kc_11_15 mr_11 rfl ?_
      show xw J ov 99 32 (11, [(0, .ref 115), (1, .int a23), (2, .int a25), (3, .int a27), (4, .int a29)], [.int 0], hh62) _
      refine xi_iff (pc' := 14) kc_32_11 rfl rfl ?_
      refine xi_aload_n (pc' := 15) (x := 115) kc_32_14 rfl rfl ?_
      refine xi_bipush (pc' := 17) (v := (-2)) kc_32_15 rfl rfl ?_
      refine xi_virtual (mj := 12) (as := [.int (-2)]) (st1 := []) (lv0 := [(0, .ref 115), (1, .int (-2))]) kc_32_17 rfl rfl rfl rfl rfl eh61.1 (Nat.le_of_ble_eq_true rfl) (hJ _ _ _ _ (by decide)) (xm_le ml_12 rfl) rfl ?_
      refine xi_aload_n (pc' := 1) (x := 115) kc_12_0 rfl rfl ?_
      refine xi_getfield (pc' := 4) (v := .ref 140) kc_12_1 rfl rfl rfl eh61.1 rfl ?_
      refine xi_iload_n (pc' := 5) (x := (-2)) kc_12_4 rfl rfl ?_
      refine xi_ineg (pc' := 6) (v := 2) kc_12_5 rfl rfl ?_
      refine xi_dup2 (pc' := 7) kc_12_6 rfl ⟨rfl, rfl⟩ ?_
      obtain ⟨y65, A65, hy65, ry65⟩ := xk_arr K.1 xD_140
      obtain ⟨v66, ev66, bv66, dv66⟩ := xj_get hy65 ry65 (i := 2) (by decide) (by decide)
      have A67 := ((eh61.2.1 140 (by decide)).trans ((eh57.2.1 140 (by decide)).trans A65))
      refine xi_iaload (pc' := 8) (v := v66) kc_12_7 rfl A67 (by decide) rfl (xi_in (by decide) (by rw [hy65]; decide)) ev66 ?_
      refine xi_iconst (pc' := 9) (v := 1) kc_12_8 rfl rfl ?_
      obtain ⟨v68, ev68⟩ : ∃ q : Int32, (v66 : Int32) + 1 = q := ⟨_, rfl⟩
      have rv68 := xc_rng v68
      refine xi_iadd (pc' := 10) (v := v68) kc_12_9 rfl ev68 ?_
      obtain ⟨y69, s69, hy69, ry69⟩ := xj_set (v := v68) hy65 ry65 2 (by first | omega | decide) (by first | omega | decide)
      refine xi_iastore (pc' := 11) (x' := y69) kc_12_10 rfl A67 rfl (xi_in (by decide) (by rw [hy65]; decide)) s69 (fun hh69 eh69 => ?_)
      have K70 := xk_pa K63 (xk_wa (by decide +kernel)) xD_140 hy69 ry69 eh69
      have KR71 := xk_pa KR64 (xk_wa (by decide +kernel)) xD_140 hy69 ry69 eh69
      refine xi_iload_n (pc' := 12) (x := (-2)) kc_12_11 rfl rfl ?_
      refine xi_ireturn kc_12_12 mr_12 rfl ?_
      show xw J ov 99 32 (20, [(0, .ref 115), (1, .int a23), (2, .int a25), (3, .int a27), (4, .int a29)], [.int (-2)], hh69) _
      refine xi_ireturn kc_32_20 mr_32 rfl ?_
      show xw J ov 100 195 (708, [(4, .int x4), (3, .ref 167), (2, .ref 115), (1, .ref 0), (0, .ref 1000000)], [.int (-2)], hh69) _
      refine xi_pop (pc' := 709) kc_195_708 rfl rfl ?_
      refine xi_goto (pc' := 1501) kc_195_709 rfl ?_
      obtain ⟨v72, ev72⟩ : ∃ q : Int32, x4 + 6 = q := ⟨_, rfl⟩
      have zv72 : v72.toInt = (x4.toInt + 6) := by rw [← ev72]; exact (xz_add (X := x4.toInt) (Y := 6) rfl (by decide) (by omega) (by omega)).trans (by omega)
      refine xi_iinc (pc' := 1504) (x := x4) (v := v72) (lv' := [(4, .int v72), (3, .ref 167), (2, .ref 115), (1, .ref 0), (0, .ref 1000000)]) kc_195_1501 rfl rfl ev72 rfl (xm_lt ml_195 rfl) ?_
      refine xi_goto (pc' := 23) kc_195_1504 rfl ?_
      exact kk v72 hh69 (by omega) K70 (xI_kept I KR71.2.1)
    · refine xi_cmf (pc' := 9) kc_117_6 rfl (xc_ge_f (X := a23.toInt) (Y := 4) rfl (by decide) (by omega)) ?_
      refine xi_iconst (pc' := 10) (v := 1) kc_117_9 rfl rfl ?_
      refine xi_goto (pc' := 14) kc_117_10 rfl ?_
      refine xi_ireturn kc_117_14 mr_117 rfl ?_
      show xw J ov 99 116 (4, [(0, .ref 0), (1, .int a23), (2, .int a25), (3, .int a27), (4, .int a29)], [.int 1], h) _
      refine xi_ift (pc' := 14) kc_116_4 rfl rfl ?_
      refine xi_aload_n (pc' := 15) (x := 0) kc_116_14 rfl rfl ?_
      refine xi_getfield (pc' := 18) (v := .ref 1) kc_116_15 rfl rfl rfl A32 rfl ?_
      refine xi_iload_n (pc' := 19) (x := a23) kc_116_18 rfl rfl ?_
      refine xi_iload_n (pc' := 20) (x := a25) kc_116_19 rfl rfl ?_
      refine xi_virtual (mj := 118) (as := [.int a23, .int a25]) (st1 := []) (lv0 := [(0, .ref 1), (1, .int a23), (2, .int a25)]) kc_116_20 rfl rfl rfl rfl rfl A3 (Nat.le_of_ble_eq_true rfl) (hJ _ _ _ _ (by decide)) (xm_le ml_118 rfl) rfl ?_
      refine xi_iload_n (pc' := 1) (x := a23) kc_118_0 rfl rfl ?_
      refine xi_iconst (pc' := 2) (v := 3) kc_118_1 rfl rfl ?_
      by_cases c73 : a23.toInt = 3
      · refine xi_cmf (pc' := 5) kc_118_2 rfl (xc_ne_f (X := a23.toInt) (Y := 3) rfl (by decide) (by omega)) ?_
        refine xi_iload_n (pc' := 6) (x := a25) kc_118_5 rfl rfl ?_
        refine xi_static (mj := 89) (as := [.int a25]) (st1 := []) (lv0 := [(0, .int a25)]) kc_118_6 rfl rfl (Nat.le_of_ble_eq_true rfl) rfl rfl (Nat.le_of_ble_eq_true rfl) (hJ _ _ _ _ (by decide)) (xm_le ml_89 rfl) rfl ?_
        refine xi_iload_n (pc' := 1) (x := a25) kc_89_0 rfl rfl ?_
        by_cases c74 : a25.toInt < 0
        · refine xi_ift (pc' := 14) kc_89_1 rfl (xc_lt_t (X := a25.toInt) (Y := 0) rfl (by decide) (by omega)) ?_
          refine xi_iconst (pc' := 15) (v := 0) kc_89_14 rfl rfl ?_
          refine xi_ireturn kc_89_15 mr_89 rfl ?_
          show xw J ov 98 118 (9, [(0, .ref 1), (1, .int a23), (2, .int a25)], [.int 0], h) _
          refine xi_ireturn kc_118_9 mr_118 rfl ?_
          show xw J ov 99 116 (23, [(0, .ref 0), (1, .int a23), (2, .int a25), (3, .int a27), (4, .int a29)], [.int 0], h) _
          refine xi_iff (pc' := 26) kc_116_23 rfl rfl ?_
          refine xi_aload_n (pc' := 27) (x := 0) kc_116_26 rfl rfl ?_
          refine xi_iconst (pc' := 28) (v := (-1)) kc_116_27 rfl rfl ?_
          refine xi_virtual (mj := 90) (as := [.int (-1)]) (st1 := []) (lv0 := [(0, .ref 0), (1, .int (-1))]) kc_116_28 rfl rfl rfl rfl rfl A32 (Nat.le_of_ble_eq_true rfl) (hJ _ _ _ _ (by decide)) (xm_le ml_90 rfl) rfl ?_
          refine xi_iload_n (pc' := 1) (x := (-1)) kc_90_0 rfl rfl ?_
          refine xi_ineg (pc' := 2) (v := 1) kc_90_1 rfl rfl ?_
          refine xi_istore_n (pc' := 3) (lv' := [(2, .int 1), (0, .ref 0), (1, .int (-1))]) kc_90_2 rfl rfl (xm_lt ml_90 rfl) ?_
          refine xi_iload_n (pc' := 4) (x := 1) kc_90_3 rfl rfl ?_
          refine xi_iff (pc' := 7) kc_90_4 rfl rfl ?_
          refine xi_iload_n (pc' := 8) (x := 1) kc_90_7 rfl rfl ?_
          refine xi_aload_n (pc' := 9) (x := 0) kc_90_8 rfl rfl ?_
          refine xi_getfield (pc' := 12) (v := .ref 94) kc_90_9 rfl rfl rfl A32 rfl ?_
          obtain ⟨y75, A75, hy75, ry75⟩ := xk_arr K.1 xD_94
          refine xi_arraylength (pc' := 13) (n := 7) (v := 7) kc_90_12 rfl (xl_lenI (by decide) (by decide) A75 hy75) rfl ?_
          refine xi_cmf (pc' := 16) kc_90_13 rfl rfl ?_
          refine xi_aload_n (pc' := 17) (x := 0) kc_90_16 rfl rfl ?_
          refine xi_getfield (pc' := 20) (v := .ref 94) kc_90_17 rfl rfl rfl A32 rfl ?_
          refine xi_iload_n (pc' := 21) (x := 1) kc_90_20 rfl rfl ?_
          refine xi_dup2 (pc' := 22) kc_90_21 rfl ⟨rfl, rfl⟩ ?_
          obtain ⟨v76, ev76, bv76, dv76⟩ := xj_get hy75 ry75 (i := 1) (by decide) (by decide)
          refine xi_iaload (pc' := 23) (v := v76) kc_90_22 rfl A75 (by decide) rfl (xi_in (by decide) (by rw [hy75]; decide)) ev76 ?_
          refine xi_iconst (pc' := 24) (v := 1) kc_90_23 rfl rfl ?_
          obtain ⟨v77, ev77⟩ : ∃ q : Int32, (v76 : Int32) + 1 = q := ⟨_, rfl⟩
          have rv77 := xc_rng v77
          refine xi_iadd (pc' := 25) (v := v77) kc_90_24 rfl ev77 ?_
          obtain ⟨y78, s78, hy78, ry78⟩ := xj_set (v := v77) hy75 ry75 1 (by first | omega | decide) (by first | omega | decide)
          refine xi_iastore (pc' := 26) (x' := y78) kc_90_25 rfl A75 rfl (xi_in (by decide) (by rw [hy75]; decide)) s78 (fun hh78 eh78 => ?_)
          have K79 := xk_pa K (xk_wa (by decide +kernel)) xD_94 hy78 ry78 eh78
          have KR80 := xk_pa KR (xk_wa (by decide +kernel)) xD_94 hy78 ry78 eh78
          refine xi_iload_n (pc' := 27) (x := (-1)) kc_90_26 rfl rfl ?_
          refine xi_ireturn kc_90_27 mr_90 rfl ?_
          show xw J ov 99 116 (31, [(0, .ref 0), (1, .int a23), (2, .int a25), (3, .int a27), (4, .int a29)], [.int (-1)], hh78) _
          refine xi_ireturn kc_116_31 mr_116 rfl ?_
          show xw J ov 100 195 (679, [(4, .int x4), (3, .ref 167), (2, .ref 115), (1, .ref 0), (0, .ref 1000000)], [.int (-1)], hh78) _
          refine xi_pop (pc' := 680) kc_195_679 rfl rfl ?_
          refine xi_aload_n (pc' := 681) (x := 115) kc_195_680 rfl rfl ?_
          refine xi_aload_n (pc' := 682) (x := 1000000) kc_195_681 rfl rfl ?_
          refine xi_iload (pc' := 684) (x := x4) kc_195_682 rfl rfl ?_
          refine xi_iconst (pc' := 685) (v := 1) kc_195_684 rfl rfl ?_
          refine xi_iadd (pc' := 686) (v := v22) kc_195_685 rfl ev22 ?_
          refine xi_ialoadO (pc' := 687) (v := a23) kc_195_686 rfl (by decide) hov0 (xi_in (by omega) (by omega)) ea23 ?_
          refine xi_aload_n (pc' := 688) (x := 1000000) kc_195_687 rfl rfl ?_
          refine xi_iload (pc' := 690) (x := x4) kc_195_688 rfl rfl ?_
          refine xi_iconst (pc' := 691) (v := 2) kc_195_690 rfl rfl ?_
          refine xi_iadd (pc' := 692) (v := v24) kc_195_691 rfl ev24 ?_
          refine xi_ialoadO (pc' := 693) (v := a25) kc_195_692 rfl (by decide) hov0 (xi_in (by omega) (by omega)) ea25 ?_
          refine xi_aload_n (pc' := 694) (x := 1000000) kc_195_693 rfl rfl ?_
          refine xi_iload (pc' := 696) (x := x4) kc_195_694 rfl rfl ?_
          refine xi_iconst (pc' := 697) (v := 3) kc_195_696 rfl rfl ?_
          refine xi_iadd (pc' := 698) (v := v26) kc_195_697 rfl ev26 ?_
          refine xi_ialoadO (pc' := 699) (v := a27) kc_195_698 rfl (by decide) hov0 (xi_in (by omega) (by omega)) ea27 ?_
          refine xi_aload_n (pc' := 700) (x := 1000000) kc_195_699 rfl rfl ?_
          refine xi_iload (pc' := 702) (x := x4) kc_195_700 rfl rfl ?_
          refine xi_iconst (pc' := 703) (v := 4) kc_195_702 rfl rfl ?_
          refine xi_iadd (pc' := 704) (v := v28) kc_195_703 rfl ev28 ?_
          refine xi_ialoadO (pc' := 705) (v := a29) kc_195_704 rfl (by decide) hov0 (xi_in (by omega) (by omega)) ea29 ?_
          have A81 := ((eh78.2.1 115 (by decide)).trans A17)
          refine xi_virtual (mj := 32) (as := [.int a23, .int a25, .int a27, .int a29]) (st1 := []) (lv0 := [(0, .ref 115), (1, .int a23), (2, .int a25), (3, .int a27), (4, .int a29)]) kc_195_705 rfl rfl rfl rfl rfl A81 (Nat.le_of_ble_eq_true rfl) (hJ _ _ _ _ (by decide)) (xm_le ml_32 rfl) rfl ?_
          refine xi_aload_n (pc' := 1) (x := 115) kc_32_0 rfl rfl ?_
          refine xi_iconst (pc' := 2) (v := 0) kc_32_1 rfl rfl ?_
          refine xi_putfield (pc' := 5) (fs' := [.int 0, .int u5, .ref 116, .ref 117, .ref 118, .ref 119, .ref 120, .ref 121, .ref 122, .ref 123, .ref 124, .ref 125, .ref 126, .ref 127, .ref 128, .ref 129, .int u6, .ref 130, .int u7, .ref 131, .ref 132, .ref 133, .ref 134, .int u1, .ref 135, .ref 136, .ref 137, .ref 138, .ref 139, .ref 140, .ref 141, .ref 142, .int u9, .int u10, .int u11, .ref 143, .ref 144, .ref 145, .ref 146, .ref 147, .ref 148, .int u12, .ref 149, .ref 150, .ref 151, .int u13, .ref 152, .ref 153, .ref 154, .ref 155, .ref 156, .ref 157, .ref 158, .ref 159, .int u14, .ref 160, .int u15, .ref 161, .ref 162, .ref 163, .ref 164, .int u16, .ref 165, .ref 166]) kc_32_2 rfl rfl rfl A81 rfl rfl rfl (Nat.le_of_ble_eq_true rfl) rfl (fun hh83 eh82 => ?_)
          have K84 := xk_pf (k := 0) (v := 0) K79 (xk_wf (by decide +kernel)) xD_115 A81 rfl (by first | omega | decide) (by first | omega | decide) eh82 rfl
          have KR85 := xk_pf (k := 0) (v := 0) KR80 (xk_wf (by decide +kernel)) xD_115 A81 rfl (by first | omega | decide) (by first | omega | decide) eh82 rfl
          refine xi_iload_n (pc' := 6) (x := a23) kc_32_5 rfl rfl ?_
          refine xi_iconst (pc' := 7) (v := 0) kc_32_6 rfl rfl ?_
          refine xi_iconst (pc' := 8) (v := 3) kc_32_7 rfl rfl ?_
          refine xi_static (mj := 11) (as := [.int a23, .int 0, .int 3]) (st1 := []) (lv0 := [(0, .int a23), (1, .int 0), (2, .int 3)]) kc_32_8 rfl rfl (Nat.le_of_ble_eq_true rfl) rfl rfl (Nat.le_of_ble_eq_true rfl) (hJ _ _ _ _ (by decide)) (xm_le ml_11 rfl) rfl ?_
          refine xi_iload_n (pc' := 1) (x := a23) kc_11_0 rfl rfl ?_
          refine xi_iload_n (pc' := 2) (x := 0) kc_11_1 rfl rfl ?_
          refine xi_cmf (pc' := 5) kc_11_2 rfl (xc_lt_f (X := a23.toInt) (Y := 0) rfl (by decide) (by omega)) ?_
          refine xi_iload_n (pc' := 6) (x := a23) kc_11_5 rfl rfl ?_
          refine xi_iload_n (pc' := 7) (x := 3) kc_11_6 rfl rfl ?_
          refine xi_cmf (pc' := 10) kc_11_7 rfl (xc_gt_f (X := a23.toInt) (Y := 3) rfl (by decide) (by omega)) ?_
          refine xi_iconst (pc' := 11) (v := 1) kc_11_10 rfl rfl ?_
          refine xi_goto (pc' := 15) kc_11_11 rfl ?_
          refine xi_ireturn kc_11_15 mr_11 rfl ?_
          show xw J ov 99 32 (11, [(0, .ref 115), (1, .int a23), (2, .int a25), (3, .int a27), (4, .int a29)], [.int 1], hh83) _
          refine xi_ift (pc' := 21) kc_32_11 rfl rfl ?_
          refine xi_iload_n (pc' := 22) (x := a23) kc_32_21 rfl rfl ?_
          refine xi_iconst (pc' := 23) (v := 3) kc_32_22 rfl rfl ?_
          refine xi_cmf (pc' := 26) kc_32_23 rfl (xc_ne_f (X := a23.toInt) (Y := 3) rfl (by decide) (by omega)) ?_
          refine xi_iload_n (pc' := 27) (x := a25) kc_32_26 rfl rfl ?_
          refine xi_static (mj := 10) (as := [.int a25]) (st1 := []) (lv0 := [(0, .int a25)]) kc_32_27 rfl rfl (Nat.le_of_ble_eq_true rfl) rfl rfl (Nat.le_of_ble_eq_true rfl) (hJ _ _ _ _ (by decide)) (xm_le ml_10 rfl) rfl ?_
          refine xi_iload_n (pc' := 1) (x := a25) kc_10_0 rfl rfl ?_
          refine xi_iconst (pc' := 2) (v := 0) kc_10_1 rfl rfl ?_
          refine xi_iconst (pc' := 3) (v := 5) kc_10_2 rfl rfl ?_
          refine xi_static (mj := 11) (as := [.int a25, .int 0, .int 5]) (st1 := []) (lv0 := [(0, .int a25), (1, .int 0), (2, .int 5)]) kc_10_3 rfl rfl (Nat.le_of_ble_eq_true rfl) rfl rfl (Nat.le_of_ble_eq_true rfl) (hJ _ _ _ _ (by decide)) (xm_le ml_11 rfl) rfl ?_
          refine xi_iload_n (pc' := 1) (x := a25) kc_11_0 rfl rfl ?_
          refine xi_iload_n (pc' := 2) (x := 0) kc_11_1 rfl rfl ?_
          refine xi_cmt (pc' := 14) kc_11_2 rfl (xc_lt_t (X := a25.toInt) (Y := 0) rfl (by decide) (by omega)) ?_
          refine xi_iconst (pc' := 15) (v := 0) kc_11_14 rfl rfl ?_
          refine xi_ireturn kc_11_15 mr_11 rfl ?_
          show xw J ov 98 10 (6, [(0, .int a25)], [.int 0], hh83) _
          refine xi_ireturn kc_10_6 mr_10 rfl ?_
          show xw J ov 99 32 (30, [(0, .ref 115), (1, .int a23), (2, .int a25), (3, .int a27), (4, .int a29)], [.int 0], hh83) _
          refine xi_iff (pc' := 33) kc_32_30 rfl rfl ?_
          refine xi_goto (pc' := 57) kc_32_33 rfl ?_
          refine xi_aload_n (pc' := 58) (x := 115) kc_32_57 rfl rfl ?_
          refine xi_iconst (pc' := 59) (v := (-1)) kc_32_58 rfl rfl ?_
          refine xi_virtual (mj := 12) (as := [.int (-1)]) (st1 := []) (lv0 := [(0, .ref 115), (1, .int (-1))]) kc_32_59 rfl rfl rfl rfl rfl eh82.1 (Nat.le_of_ble_eq_true rfl) (hJ _ _ _ _ (by decide)) (xm_le ml_12 rfl) rfl ?_
          refine xi_aload_n (pc' := 1) (x := 115) kc_12_0 rfl rfl ?_
          refine xi_getfield (pc' := 4) (v := .ref 140) kc_12_1 rfl rfl rfl eh82.1 rfl ?_
          refine xi_iload_n (pc' := 5) (x := (-1)) kc_12_4 rfl rfl ?_
          refine xi_ineg (pc' := 6) (v := 1) kc_12_5 rfl rfl ?_
          refine xi_dup2 (pc' := 7) kc_12_6 rfl ⟨rfl, rfl⟩ ?_
          obtain ⟨y86, A86, hy86, ry86⟩ := xk_arr K.1 xD_140
          obtain ⟨v87, ev87, bv87, dv87⟩ := xj_get hy86 ry86 (i := 1) (by decide) (by decide)
          have A88 := ((eh82.2.1 140 (by decide)).trans ((eh78.2.1 140 (by decide)).trans A86))
          refine xi_iaload (pc' := 8) (v := v87) kc_12_7 rfl A88 (by decide) rfl (xi_in (by decide) (by rw [hy86]; decide)) ev87 ?_
          refine xi_iconst (pc' := 9) (v := 1) kc_12_8 rfl rfl ?_
          obtain ⟨v89, ev89⟩ : ∃ q : Int32, (v87 : Int32) + 1 = q := ⟨_, rfl⟩
          have rv89 := xc_rng v89
          refine xi_iadd (pc' := 10) (v := v89) kc_12_9 rfl ev89 ?_
          obtain ⟨y90, s90, hy90, ry90⟩ := xj_set (v := v89) hy86 ry86 1 (by first | omega | decide) (by first | omega | decide)
          refine xi_iastore (pc' := 11) (x' := y90) kc_12_10 rfl A88 rfl (xi_in (by decide) (by rw [hy86]; decide)) s90 (fun hh90 eh90 => ?_)
          have K91 := xk_pa K84 (xk_wa (by decide +kernel)) xD_140 hy90 ry90 eh90
          have KR92 := xk_pa KR85 (xk_wa (by decide +kernel)) xD_140 hy90 ry90 eh90
          refine xi_iload_n (pc' := 12) (x := (-1)) kc_12_11 rfl rfl ?_
          refine xi_ireturn kc_12_12 mr_12 rfl ?_
          show xw J ov 99 32 (62, [(0, .ref 115), (1, .int a23), (2, .int a25), (3, .int a27), (4, .int a29)], [.int (-1)], hh90) _
          refine xi_ireturn kc_32_62 mr_32 rfl ?_
          show xw J ov 100 195 (708, [(4, .int x4), (3, .ref 167), (2, .ref 115), (1, .ref 0), (0, .ref 1000000)], [.int (-1)], hh90) _
          refine xi_pop (pc' := 709) kc_195_708 rfl rfl ?_
          refine xi_goto (pc' := 1501) kc_195_709 rfl ?_
          obtain ⟨v93, ev93⟩ : ∃ q : Int32, x4 + 6 = q := ⟨_, rfl⟩
          have zv93 : v93.toInt = (x4.toInt + 6) := by rw [← ev93]; exact (xz_add (X := x4.toInt) (Y := 6) rfl (by decide) (by omega) (by omega)).trans (by omega)
          refine xi_iinc (pc' := 1504) (x := x4) (v := v93) (lv' := [(4, .int v93), (3, .ref 167), (2, .ref 115), (1, .ref 0), (0, .ref 1000000)]) kc_195_1501 rfl rfl ev93 rfl (xm_lt ml_195 rfl) ?_
          refine xi_goto (pc' := 23) kc_195_1504 rfl ?_
          exact kk v93 hh90 (by omega) K91 (xI_kept I KR92.2.1)
        · refine xi_iff (pc' := 4) kc_89_1 rfl (xc_lt_f (X := a25.toInt) (Y := 0) rfl (by decide) (by omega)) ?_
          refine xi_iload_n (pc' := 5) (x := a25) kc_89_4 rfl rfl ?_
          refine xi_bipush (pc' := 7) (v := 6) kc_89_5 rfl rfl ?_
          by_cases c94 : 6 ≤ a25.toInt
          · refine xi_cmt (pc' := 14) kc_89_7 rfl (xc_ge_t (X := a25.toInt) (Y := 6) rfl (by decide) (by omega)) ?_
            refine xi_iconst (pc' := 15) (v := 0) kc_89_14 rfl rfl ?_
            refine xi_ireturn kc_89_15 mr_89 rfl ?_
            show xw J ov 98 118 (9, [(0, .ref 1), (1, .int a23), (2, .int a25)], [.int 0], h) _
            refine xi_ireturn kc_118_9 mr_118 rfl ?_
            show xw J ov 99 116 (23, [(0, .ref 0), (1, .int a23), (2, .int a25), (3, .int a27), (4, .int a29)], [.int 0], h) _
            refine xi_iff (pc' := 26) kc_116_23 rfl rfl ?_
            refine xi_aload_n (pc' := 27) (x := 0) kc_116_26 rfl rfl ?_
            refine xi_iconst (pc' := 28) (v := (-1)) kc_116_27 rfl rfl ?_
            refine xi_virtual (mj := 90) (as := [.int (-1)]) (st1 := []) (lv0 := [(0, .ref 0), (1, .int (-1))]) kc_116_28 rfl rfl rfl rfl rfl A32 (Nat.le_of_ble_eq_true rfl) (hJ _ _ _ _ (by decide)) (xm_le ml_90 rfl) rfl ?_
            refine xi_iload_n (pc' := 1) (x := (-1)) kc_90_0 rfl rfl ?_
            refine xi_ineg (pc' := 2) (v := 1) kc_90_1 rfl rfl ?_
            refine xi_istore_n (pc' := 3) (lv' := [(2, .int 1), (0, .ref 0), (1, .int (-1))]) kc_90_2 rfl rfl (xm_lt ml_90 rfl) ?_
            refine xi_iload_n (pc' := 4) (x := 1) kc_90_3 rfl rfl ?_
            refine xi_iff (pc' := 7) kc_90_4 rfl rfl ?_
            refine xi_iload_n (pc' := 8) (x := 1) kc_90_7 rfl rfl ?_
            refine xi_aload_n (pc' := 9) (x := 0) kc_90_8 rfl rfl ?_
            refine xi_getfield (pc' := 12) (v := .ref 94) kc_90_9 rfl rfl rfl A32 rfl ?_
            obtain ⟨y95, A95, hy95, ry95⟩ := xk_arr K.1 xD_94
            refine xi_arraylength (pc' := 13) (n := 7) (v := 7) kc_90_12 rfl (xl_lenI (by decide) (by decide) A95 hy95) rfl ?_
            refine xi_cmf (pc' := 16) kc_90_13 rfl rfl ?_
            refine xi_aload_n (pc' := 17) (x := 0) kc_90_16 rfl rfl ?_
            refine xi_getfield (pc' := 20) (v := .ref 94) kc_90_17 rfl rfl rfl A32 rfl ?_
            refine xi_iload_n (pc' := 21) (x := 1) kc_90_20 rfl rfl ?_
            refine xi_dup2 (pc' := 22) kc_90_21 rfl ⟨rfl, rfl⟩ ?_
            obtain ⟨v96, ev96, bv96, dv96⟩ := xj_get hy95 ry95 (i := 1) (by decide) (by decide)
            refine xi_iaload (pc' := 23) (v := v96) kc_90_22 rfl A95 (by decide) rfl (xi_in (by decide) (by rw [hy95]; decide)) ev96 ?_
            refine xi_iconst (pc' := 24) (v := 1) kc_90_23 rfl rfl ?_
            obtain ⟨v97, ev97⟩ : ∃ q : Int32, (v96 : Int32) + 1 = q := ⟨_, rfl⟩
            have rv97 := xc_rng v97
            refine xi_iadd (pc' := 25) (v := v97) kc_90_24 rfl ev97 ?_
            obtain ⟨y98, s98, hy98, ry98⟩ := xj_set (v := v97) hy95 ry95 1 (by first | omega | decide) (by first | omega | decide)
            refine xi_iastore (pc' := 26) (x' := y98) kc_90_25 rfl A95 rfl (xi_in (by decide) (by rw [hy95]; decide)) s98 (fun hh98 eh98 => ?_)
            have K99 := xk_pa K (xk_wa (by decide +kernel)) xD_94 hy98 ry98 eh98
            have KR100 := xk_pa KR (xk_wa (by decide +kernel)) xD_94 hy98 ry98 eh98
            refine xi_iload_n (pc' := 27) (x := (-1)) kc_90_26 rfl rfl ?_
            refine xi_ireturn kc_90_27 mr_90 rfl ?_
            show xw J ov 99 116 (31, [(0, .ref 0), (1, .int a23), (2, .int a25), (3, .int a27), (4, .int a29)], [.int (-1)], hh98) _
            refine xi_ireturn kc_116_31 mr_116 rfl ?_
            show xw J ov 100 195 (679, [(4, .int x4), (3, .ref 167), (2, .ref 115), (1, .ref 0), (0, .ref 1000000)], [.int (-1)], hh98) _
            refine xi_pop (pc' := 680) kc_195_679 rfl rfl ?_
            refine xi_aload_n (pc' := 681) (x := 115) kc_195_680 rfl rfl ?_
            refine xi_aload_n (pc' := 682) (x := 1000000) kc_195_681 rfl rfl ?_
            refine xi_iload (pc' := 684) (x := x4) kc_195_682 rfl rfl ?_
            refine xi_iconst (pc' := 685) (v := 1) kc_195_684 rfl rfl ?_
            refine xi_iadd (pc' := 686) (v := v22) kc_195_685 rfl ev22 ?_
            refine xi_ialoadO (pc' := 687) (v := a23) kc_195_686 rfl (by decide) hov0 (xi_in (by omega) (by omega)) ea23 ?_
            refine xi_aload_n (pc' := 688) (x := 1000000) kc_195_687 rfl rfl ?_
            refine xi_iload (pc' := 690) (x := x4) kc_195_688 rfl rfl ?_
            refine xi_iconst (pc' := 691) (v := 2) kc_195_690 rfl rfl ?_
            refine xi_iadd (pc' := 692) (v := v24) kc_195_691 rfl ev24 ?_
            refine xi_ialoadO (pc' := 693) (v := a25) kc_195_692 rfl (by decide) hov0 (xi_in (by omega) (by omega)) ea25 ?_
            refine xi_aload_n (pc' := 694) (x := 1000000) kc_195_693 rfl rfl ?_
            refine xi_iload (pc' := 696) (x := x4) kc_195_694 rfl rfl ?_
            refine xi_iconst (pc' := 697) (v := 3) kc_195_696 rfl rfl ?_
            refine xi_iadd (pc' := 698) (v := v26) kc_195_697 rfl ev26 ?_
            refine xi_ialoadO (pc' := 699) (v := a27) kc_195_698 rfl (by decide) hov0 (xi_in (by omega) (by omega)) ea27 ?_
            refine xi_aload_n (pc' := 700) (x := 1000000) kc_195_699 rfl rfl ?_
            refine xi_iload (pc' := 702) (x := x4) kc_195_700 rfl rfl ?_
            refine xi_iconst (pc' := 703) (v := 4) kc_195_702 rfl rfl ?_
            refine xi_iadd (pc' := 704) (v := v28) kc_195_703 rfl ev28 ?_
            refine xi_ialoadO (pc' := 705) (v := a29) kc_195_704 rfl (by decide) hov0 (xi_in (by omega) (by omega)) ea29 ?_
            have A101 := ((eh98.2.1 115 (by decide)).trans A17)
            refine xi_virtual (mj := 32) (as := [.int a23, .int a25, .int a27, .int a29]) (st1 := []) (lv0 := [(0, .ref 115), (1, .int a23), (2, .int a25), (3, .int a27), (4, .int a29)]) kc_195_705 rfl rfl rfl rfl rfl A101 (Nat.le_of_ble_eq_true rfl) (hJ _ _ _ _ (by decide)) (xm_le ml_32 rfl) rfl ?_
            refine xi_aload_n (pc' := 1) (x := 115) kc_32_0 rfl rfl ?_
            refine xi_iconst (pc' := 2) (v := 0) kc_32_1 rfl rfl ?_
            refine xi_putfield (pc' := 5) (fs' := [.int 0, .int u5, .ref 116, .ref 117, .ref 118, .ref 119, .ref 120, .ref 121, .ref 122, .ref 123, .ref 124, .ref 125, .ref 126, .ref 127, .ref 128, .ref 129, .int u6, .ref 130, .int u7, .ref 131, .ref 132, .ref 133, .ref 134, .int u1, .ref 135, .ref 136, .ref 137, .ref 138, .ref 139, .ref 140, .ref 141, .ref 142, .int u9, .int u10, .int u11, .ref 143, .ref 144, .ref 145, .ref 146, .ref 147, .ref 148, .int u12, .ref 149, .ref 150, .ref 151, .int u13, .ref 152, .ref 153, .ref 154, .ref 155, .ref 156, .ref 157, .ref 158, .ref 159, .int u14, .ref 160, .int u15, .ref 161, .ref 162, .ref 163, .ref 164, .int u16, .ref 165, .ref 166]) kc_32_2 rfl rfl rfl A101 rfl rfl rfl (Nat.le_of_ble_eq_true rfl) rfl (fun hh103 eh102 => ?_)
            have K104 := xk_pf (k := 0) (v := 0) K99 (xk_wf (by decide +kernel)) xD_115 A101 rfl (by first | omega | decide) (by first | omega | decide) eh102 rfl
            have KR105 := xk_pf (k := 0) (v := 0) KR100 (xk_wf (by decide +kernel)) xD_115 A101 rfl (by first | omega | decide) (by first | omega | decide) eh102 rfl
            refine xi_iload_n (pc' := 6) (x := a23) kc_32_5 rfl rfl ?_
            refine xi_iconst (pc' := 7) (v := 0) kc_32_6 rfl rfl ?_
            refine xi_iconst (pc' := 8) (v := 3) kc_32_7 rfl rfl ?_
            refine xi_static (mj := 11) (as := [.int a23, .int 0, .int 3]) (st1 := []) (lv0 := [(0, .int a23), (1, .int 0), (2, .int 3)]) kc_32_8 rfl rfl (Nat.le_of_ble_eq_true rfl) rfl rfl (Nat.le_of_ble_eq_true rfl) (hJ _ _ _ _ (by decide)) (xm_le ml_11 rfl) rfl ?_
            refine xi_iload_n (pc' := 1) (x := a23) kc_11_0 rfl rfl ?_
            refine xi_iload_n (pc' := 2) (x := 0) kc_11_1 rfl rfl ?_
            refine xi_cmf (pc' := 5) kc_11_2 rfl (xc_lt_f (X := a23.toInt) (Y := 0) rfl (by decide) (by omega)) ?_
            refine xi_iload_n (pc' := 6) (x := a23) kc_11_5 rfl rfl ?_
            refine xi_iload_n (pc' := 7) (x := 3) kc_11_6 rfl rfl ?_
            refine xi_cmf (pc' := 10) kc_11_7 rfl (xc_gt_f (X := a23.toInt) (Y := 3) rfl (by decide) (by omega)) ?_
            refine xi_iconst (pc' := 11) (v := 1) kc_11_10 rfl rfl ?_
            refine xi_goto (pc' := 15) kc_11_11 rfl ?_
            refine xi_ireturn kc_11_15 mr_11 rfl ?_
            show xw J ov 99 32 (11, [(0, .ref 115), (1, .int a23), (2, .int a25), (3, .int a27), (4, .int a29)], [.int 1], hh103) _
            refine xi_ift (pc' := 21) kc_32_11 rfl rfl ?_
            refine xi_iload_n (pc' := 22) (x := a23) kc_32_21 rfl rfl ?_
            refine xi_iconst (pc' := 23) (v := 3) kc_32_22 rfl rfl ?_
            refine xi_cmf (pc' := 26) kc_32_23 rfl (xc_ne_f (X := a23.toInt) (Y := 3) rfl (by decide) (by omega)) ?_
            refine xi_iload_n (pc' := 27) (x := a25) kc_32_26 rfl rfl ?_
            refine xi_static (mj := 10) (as := [.int a25]) (st1 := []) (lv0 := [(0, .int a25)]) kc_32_27 rfl rfl (Nat.le_of_ble_eq_true rfl) rfl rfl (Nat.le_of_ble_eq_true rfl) (hJ _ _ _ _ (by decide)) (xm_le ml_10 rfl) rfl ?_
            refine xi_iload_n (pc' := 1) (x := a25) kc_10_0 rfl rfl ?_
            refine xi_iconst (pc' := 2) (v := 0) kc_10_1 rfl rfl ?_
            refine xi_iconst (pc' := 3) (v := 5) kc_10_2 rfl rfl ?_
            refine xi_static (mj := 11) (as := [.int a25, .int 0, .int 5]) (st1 := []) (lv0 := [(0, .int a25), (1, .int 0), (2, .int 5)]) kc_10_3 rfl rfl (Nat.le_of_ble_eq_true rfl) rfl rfl (Nat.le_of_ble_eq_true rfl) (hJ _ _ _ _ (by decide)) (xm_le ml_11 rfl) rfl ?_
            refine xi_iload_n (pc' := 1) (x := a25) kc_11_0 rfl rfl ?_
            refine xi_iload_n (pc' := 2) (x := 0) kc_11_1 rfl rfl ?_
            refine xi_cmf (pc' := 5) kc_11_2 rfl (xc_lt_f (X := a25.toInt) (Y := 0) rfl (by decide) (by omega)) ?_
            refine xi_iload_n (pc' := 6) (x := a25) kc_11_5 rfl rfl ?_
            refine xi_iload_n (pc' := 7) (x := 5) kc_11_6 rfl rfl ?_
            refine xi_cmt (pc' := 14) kc_11_7 rfl (xc_gt_t (X := a25.toInt) (Y := 5) rfl (by decide) (by omega)) ?_
            refine xi_iconst (pc' := 15) (v := 0) kc_11_14 rfl rfl ?_
            refine xi_ireturn kc_11_15 mr_11 rfl ?_
            show xw J ov 98 10 (6, [(0, .int a25)], [.int 0], hh103) _
            refine xi_ireturn kc_10_6 mr_10 rfl ?_
            show xw J ov 99 32 (30, [(0, .ref 115), (1, .int a23), (2, .int a25), (3, .int a27), (4, .int a29)], [.int 0], hh103) _
            refine xi_iff (pc' := 33) kc_32_30 rfl rfl ?_
            refine xi_goto (pc' := 57) kc_32_33 rfl ?_
            refine xi_aload_n (pc' := 58) (x := 115) kc_32_57 rfl rfl ?_
            refine xi_iconst (pc' := 59) (v := (-1)) kc_32_58 rfl rfl ?_
            refine xi_virtual (mj := 12) (as := [.int (-1)]) (st1 := []) (lv0 := [(0, .ref 115), (1, .int (-1))]) kc_32_59 rfl rfl rfl rfl rfl eh102.1 (Nat.le_of_ble_eq_true rfl) (hJ _ _ _ _ (by decide)) (xm_le ml_12 rfl) rfl ?_
            refine xi_aload_n (pc' := 1) (x := 115) kc_12_0 rfl rfl ?_
            refine xi_getfield (pc' := 4) (v := .ref 140) kc_12_1 rfl rfl rfl eh102.1 rfl ?_
            refine xi_iload_n (pc' := 5) (x := (-1)) kc_12_4 rfl rfl ?_
            refine xi_ineg (pc' := 6) (v := 1) kc_12_5 rfl rfl ?_
            refine xi_dup2 (pc' := 7) kc_12_6 rfl ⟨rfl, rfl⟩ ?_
            obtain ⟨y106, A106, hy106, ry106⟩ := xk_arr K.1 xD_140
            obtain ⟨v107, ev107, bv107, dv107⟩ := xj_get hy106 ry106 (i := 1) (by decide) (by decide)
            have A108 := ((eh102.2.1 140 (by decide)).trans ((eh98.2.1 140 (by decide)).trans A106))
            refine xi_iaload (pc' := 8) (v := v107) kc_12_7 rfl A108 (by decide) rfl (xi_in (by decide) (by rw [hy106]; decide)) ev107 ?_
            refine xi_iconst (pc' := 9) (v := 1) kc_12_8 rfl rfl ?_
            obtain ⟨v109, ev109⟩ : ∃ q : Int32, (v107 : Int32) + 1 = q := ⟨_, rfl⟩
            have rv109 := xc_rng v109
            refine xi_iadd (pc' := 10) (v := v109) kc_12_9 rfl ev109 ?_
            obtain ⟨y110, s110, hy110, ry110⟩ := xj_set (v := v109) hy106 ry106 1 (by first | omega | decide) (by first | omega | decide)
            refine xi_iastore (pc' := 11) (x' := y110) kc_12_10 rfl A108 rfl (xi_in (by decide) (by rw [hy106]; decide)) s110 (fun hh110 eh110 => ?_)
            have K111 := xk_pa K104 (xk_wa (by decide +kernel)) xD_140 hy110 ry110 eh110
            have KR112 := xk_pa KR105 (xk_wa (by decide +kernel)) xD_140 hy110 ry110 eh110
            refine xi_iload_n (pc' := 12) (x := (-1)) kc_12_11 rfl rfl ?_
            refine xi_ireturn kc_12_12 mr_12 rfl ?_
            show xw J ov 99 32 (62, [(0, .ref 115), (1, .int a23), (2, .int a25), (3, .int a27), (4, .int a29)], [.int (-1)], hh110) _
            refine xi_ireturn kc_32_62 mr_32 rfl ?_
            show xw J ov 100 195 (708, [(4, .int x4), (3, .ref 167), (2, .ref 115), (1, .ref 0), (0, .ref 1000000)], [.int (-1)], hh110) _
            refine xi_pop (pc' := 709) kc_195_708 rfl rfl ?_
            refine xi_goto (pc' := 1501) kc_195_709 rfl ?_
            obtain ⟨v113, ev113⟩ : ∃ q : Int32, x4 + 6 = q := ⟨_, rfl⟩
            have zv113 : v113.toInt = (x4.toInt + 6) := by rw [← ev113]; exact (xz_add (X := x4.toInt) (Y := 6) rfl (by decide) (by omega) (by omega)).trans (by omega)
            refine xi_iinc (pc' := 1504) (x := x4) (v := v113) (lv' := [(4, .int v113), (3, .ref 167), (2, .ref 115), (1, .ref 0), (0, .ref 1000000)]) kc_195_1501 rfl rfl ev113 rfl (xm_lt ml_195 rfl) ?_
            refine xi_goto (pc' := 23) kc_195_1504 rfl ?_
            exact kk v113 hh110 (by omega) K111 (xI_kept I KR112.2.1)
          · refine xi_cmf (pc' := 10) kc_89_7 rfl (xc_ge_f (X := a25.toInt) (Y := 6) rfl (by decide) (by omega)) ?_
            refine xi_iconst (pc' := 11) (v := 1) kc_89_10 rfl rfl ?_
            refine xi_goto (pc' := 15) kc_89_11 rfl ?_
            refine xi_ireturn kc_89_15 mr_89 rfl ?_
            show xw J ov 98 118 (9, [(0, .ref 1), (1, .int a23), (2, .int a25)], [.int 1], h) _
            refine xi_ireturn kc_118_9 mr_118 rfl ?_
            show xw J ov 99 116 (23, [(0, .ref 0), (1, .int a23), (2, .int a25), (3, .int a27), (4, .int a29)], [.int 1], h) _
            refine xi_ift (pc' := 32) kc_116_23 rfl rfl ?_
            refine xi_iload_n (pc' := 33) (x := a27) kc_116_32 rfl rfl ?_
            refine xi_iconst (pc' := 34) (v := 1) kc_116_33 rfl rfl ?_
            by_cases c114 : a27.toInt < 1
            · refine xi_cmt (pc' := 42) kc_116_34 rfl (xc_lt_t (X := a27.toInt) (Y := 1) rfl (by decide) (by omega)) ?_
              refine xi_aload_n (pc' := 43) (x := 0) kc_116_42 rfl rfl ?_
              refine xi_bipush (pc' := 45) (v := (-4)) kc_116_43 rfl rfl ?_
              refine xi_virtual (mj := 90) (as := [.int (-4)]) (st1 := []) (lv0 := [(0, .ref 0), (1, .int (-4))]) kc_116_45 rfl rfl rfl rfl rfl A32 (Nat.le_of_ble_eq_true rfl) (hJ _ _ _ _ (by decide)) (xm_le ml_90 rfl) rfl ?_
              refine xi_iload_n (pc' := 1) (x := (-4)) kc_90_0 rfl rfl ?_
              refine xi_ineg (pc' := 2) (v := 4) kc_90_1 rfl rfl ?_
              refine xi_istore_n (pc' := 3) (lv' := [(2, .int 4), (0, .ref 0), (1, .int (-4))]) kc_90_2 rfl rfl (xm_lt ml_90 rfl) ?_
              refine xi_iload_n (pc' := 4) (x := 4) kc_90_3 rfl rfl ?_
              refine xi_iff (pc' := 7) kc_90_4 rfl rfl ?_
              refine xi_iload_n (pc' := 8) (x := 4) kc_90_7 rfl rfl ?_
              refine xi_aload_n (pc' := 9) (x := 0) kc_90_8 rfl rfl ?_
              refine xi_getfield (pc' := 12) (v := .ref 94) kc_90_9 rfl rfl rfl A32 rfl ?_
              obtain ⟨y115, A115, hy115, ry115⟩ := xk_arr K.1 xD_94
              refine xi_arraylength (pc' := 13) (n := 7) (v := 7) kc_90_12 rfl (xl_lenI (by decide) (by decide) A115 hy115) rfl ?_
              refine xi_cmf (pc' := 16) kc_90_13 rfl rfl ?_
              refine xi_aload_n (pc' := 17) (x := 0) kc_90_16 rfl rfl ?_
              refine xi_getfield (pc' := 20) (v := .ref 94) kc_90_17 rfl rfl rfl A32 rfl ?_
              refine xi_iload_n (pc' := 21) (x := 4) kc_90_20 rfl rfl ?_
              refine xi_dup2 (pc' := 22) kc_90_21 rfl ⟨rfl, rfl⟩ ?_
              obtain ⟨v116, ev116, bv116, dv116⟩ := xj_get hy115 ry115 (i := 4) (by decide) (by decide)
              refine xi_iaload (pc' := 23) (v := v116) kc_90_22 rfl A115 (by decide) rfl (xi_in (by decide) (by rw [hy115]; decide)) ev116 ?_
              refine xi_iconst (pc' := 24) (v := 1) kc_90_23 rfl rfl ?_
              obtain ⟨v117, ev117⟩ : ∃ q : Int32, (v116 : Int32) + 1 = q := ⟨_, rfl⟩
              have rv117 := xc_rng v117
              refine xi_iadd (pc' := 25) (v := v117) kc_90_24 rfl ev117 ?_
              obtain ⟨y118, s118, hy118, ry118⟩ := xj_set (v := v117) hy115 ry115 4 (by first | omega | decide) (by first | omega | decide)
              refine xi_iastore (pc' := 26) (x' := y118) kc_90_25 rfl A115 rfl (xi_in (by decide) (by rw [hy115]; decide)) s118 (fun hh118 eh118 => ?_)
              have K119 := xk_pa K (xk_wa (by decide +kernel)) xD_94 hy118 ry118 eh118
              have KR120 := xk_pa KR (xk_wa (by decide +kernel)) xD_94 hy118 ry118 eh118
              refine xi_iload_n (pc' := 27) (x := (-4)) kc_90_26 rfl rfl ?_
              refine xi_ireturn kc_90_27 mr_90 rfl ?_
              show xw J ov 99 116 (48, [(0, .ref 0), (1, .int a23), (2, .int a25), (3, .int a27), (4, .int a29)], [.int (-4)], hh118) _
              refine xi_ireturn kc_116_48 mr_116 rfl ?_
              show xw J ov 100 195 (679, [(4, .int x4), (3, .ref 167), (2, .ref 115), (1, .ref 0), (0, .ref 1000000)], [.int (-4)], hh118) _
              refine xi_pop (pc' := 680) kc_195_679 rfl rfl ?_
              refine xi_aload_n (pc' := 681) (x := 115) kc_195_680 rfl rfl ?_
              refine xi_aload_n (pc' := 682) (x := 1000000) kc_195_681 rfl rfl ?_
              refine xi_iload (pc' := 684) (x := x4) kc_195_682 rfl rfl ?_
              refine xi_iconst (pc' := 685) (v := 1) kc_195_684 rfl rfl ?_
              refine xi_iadd (pc' := 686) (v := v22) kc_195_685 rfl ev22 ?_
              refine xi_ialoadO (pc' := 687) (v := a23) kc_195_686 rfl (by decide) hov0 (xi_in (by omega) (by omega)) ea23 ?_
              refine xi_aload_n (pc' := 688) (x := 1000000) kc_195_687 rfl rfl ?_
              refine xi_iload (pc' := 690) (x := x4) kc_195_688 rfl rfl ?_
              refine xi_iconst (pc' := 691) (v := 2) kc_195_690 rfl rfl ?_
              refine xi_iadd (pc' := 692) (v := v24) kc_195_691 rfl ev24 ?_
              refine xi_ialoadO (pc' := 693) (v := a25) kc_195_692 rfl (by decide) hov0 (xi_in (by omega) (by omega)) ea25 ?_
              refine xi_aload_n (pc' := 694) (x := 1000000) kc_195_693 rfl rfl ?_
              refine xi_iload (pc' := 696) (x := x4) kc_195_694 rfl rfl ?_
              refine xi_iconst (pc' := 697) (v := 3) kc_195_696 rfl rfl ?_
              refine xi_iadd (pc' := 698) (v := v26) kc_195_697 rfl ev26 ?_
              refine xi_ialoadO (pc' := 699) (v := a27) kc_195_698 rfl (by decide) hov0 (xi_in (by omega) (by omega)) ea27 ?_
              refine xi_aload_n (pc' := 700) (x := 1000000) kc_195_699 rfl rfl ?_
              refine xi_iload (pc' := 702) (x := x4) kc_195_700 rfl rfl ?_
              refine xi_iconst (pc' := 703) (v := 4) kc_195_702 rfl rfl ?_
              refine xi_iadd (pc' := 704) (v := v28) kc_195_703 rfl ev28 ?_
              refine xi_ialoadO (pc' := 705) (v := a29) kc_195_704 rfl (by decide) hov0 (xi_in (by omega) (by omega)) ea29 ?_
              have A121 := ((eh118.2.1 115 (by decide)).trans A17)
              refine xi_virtual (mj := 32) (as := [.int a23, .int a25, .int a27, .int a29]) (st1 := []) (lv0 := [(0, .ref 115), (1, .int a23), (2, .int a25), (3, .int a27), (4, .int a29)]) kc_195_705 rfl rfl rfl rfl rfl A121 (Nat.le_of_ble_eq_true rfl) (hJ _ _ _ _ (by decide)) (xm_le ml_32 rfl) rfl ?_
              refine xi_aload_n (pc' := 1) (x := 115) kc_32_0 rfl rfl ?_
              refine xi_iconst (pc' := 2) (v := 0) kc_32_1 rfl rfl ?_
              refine xi_putfield (pc' := 5) (fs' := [.int 0, .int u5, .ref 116, .ref 117, .ref 118, .ref 119, .ref 120, .ref 121, .ref 122, .ref 123, .ref 124, .ref 125, .ref 126, .ref 127, .ref 128, .ref 129, .int u6, .ref 130, .int u7, .ref 131, .ref 132, .ref 133, .ref 134, .int u1, .ref 135, .ref 136, .ref 137, .ref 138, .ref 139, .ref 140, .ref 141, .ref 142, .int u9, .int u10, .int u11, .ref 143, .ref 144, .ref 145, .ref 146, .ref 147, .ref 148, .int u12, .ref 149, .ref 150, .ref 151, .int u13, .ref 152, .ref 153, .ref 154, .ref 155, .ref 156, .ref 157, .ref 158, .ref 159, .int u14, .ref 160, .int u15, .ref 161, .ref 162, .ref 163, .ref 164, .int u16, .ref 165, .ref 166]) kc_32_2 rfl rfl rfl A121 rfl rfl rfl (Nat.le_of_ble_eq_true rfl) rfl (fun hh123 eh122 => ?_)
              have K124 := xk_pf (k := 0) (v := 0) K119 (xk_wf (by decide +kernel)) xD_115 A121 rfl (by first | omega | decide) (by first | omega | decide) eh122 rfl
              have KR125 := xk_pf (k := 0) (v := 0) KR120 (xk_wf (by decide +kernel)) xD_115 A121 rfl (by first | omega | decide) (by first | omega | decide) eh122 rfl
              refine xi_iload_n (pc' := 6) (x := a23) kc_32_5 rfl rfl ?_
              refine xi_iconst (pc' := 7) (v := 0) kc_32_6 rfl rfl ?_
              refine xi_iconst (pc' := 8) (v := 3) kc_32_7 rfl rfl ?_
              refine xi_static (mj := 11) (as := [.int a23, .int 0, .int 3]) (st1 := []) (lv0 := [(0, .int a23), (1, .int 0), (2, .int 3)]) kc_32_8 rfl rfl (Nat.le_of_ble_eq_true rfl) rfl rfl (Nat.le_of_ble_eq_true rfl) (hJ _ _ _ _ (by decide)) (xm_le ml_11 rfl) rfl ?_
              refine xi_iload_n (pc' := 1) (x := a23) kc_11_0 rfl rfl ?_
              refine xi_iload_n (pc' := 2) (x := 0) kc_11_1 rfl rfl ?_
              refine xi_cmf (pc' := 5) kc_11_2 rfl (xc_lt_f (X := a23.toInt) (Y := 0) rfl (by decide) (by omega)) ?_
              refine xi_iload_n (pc' := 6) (x := a23) kc_11_5 rfl rfl ?_
              refine xi_iload_n (pc' := 7) (x := 3) kc_11_6 rfl rfl ?_
              refine xi_cmf (pc' := 10) kc_11_7 rfl (xc_gt_f (X := a23.toInt) (Y := 3) rfl (by decide) (by omega)) ?_
              refine xi_iconst (pc' := 11) (v := 1) kc_11_10 rfl rfl ?_
              refine xi_goto (pc' := 15) kc_11_11 rfl ?_
              refine xi_ireturn kc_11_15 mr_11 rfl ?_
              show xw J ov 99 32 (11, [(0, .ref 115), (1, .int a23), (2, .int a25), (3, .int a27), (4, .int a29)], [.int 1], hh123) _
              refine xi_ift (pc' := 21) kc_32_11 rfl rfl ?_
              refine xi_iload_n (pc' := 22) (x := a23) kc_32_21 rfl rfl ?_
              refine xi_iconst (pc' := 23) (v := 3) kc_32_22 rfl rfl ?_
              refine xi_cmf (pc' := 26) kc_32_23 rfl (xc_ne_f (X := a23.toInt) (Y := 3) rfl (by decide) (by omega)) ?_
              refine xi_iload_n (pc' := 27) (x := a25) kc_32_26 rfl rfl ?_
              refine xi_static (mj := 10) (as := [.int a25]) (st1 := []) (lv0 := [(0, .int a25)]) kc_32_27 rfl rfl (Nat.le_of_ble_eq_true rfl) rfl rfl (Nat.le_of_ble_eq_true rfl) (hJ _ _ _ _ (by decide)) (xm_le ml_10 rfl) rfl ?_
              refine xi_iload_n (pc' := 1) (x := a25) kc_10_0 rfl rfl ?_
              refine xi_iconst (pc' := 2) (v := 0) kc_10_1 rfl rfl ?_
              refine xi_iconst (pc' := 3) (v := 5) kc_10_2 rfl rfl ?_
              refine xi_static (mj := 11) (as := [.int a25, .int 0, .int 5]) (st1 := []) (lv0 := [(0, .int a25), (1, .int 0), (2, .int 5)]) kc_10_3 rfl rfl (Nat.le_of_ble_eq_true rfl) rfl rfl (Nat.le_of_ble_eq_true rfl) (hJ _ _ _ _ (by decide)) (xm_le ml_11 rfl) rfl ?_
              refine xi_iload_n (pc' := 1) (x := a25) kc_11_0 rfl rfl ?_
              refine xi_iload_n (pc' := 2) (x := 0) kc_11_1 rfl rfl ?_
              refine xi_cmf (pc' := 5) kc_11_2 rfl (xc_lt_f (X := a25.toInt) (Y := 0) rfl (by decide) (by omega)) ?_
              refine xi_iload_n (pc' := 6) (x := a25) kc_11_5 rfl rfl ?_
              refine xi_iload_n (pc' := 7) (x := 5) kc_11_6 rfl rfl ?_
              refine xi_cmf (pc' := 10) kc_11_7 rfl (xc_gt_f (X := a25.toInt) (Y := 5) rfl (by decide) (by omega)) ?_
              refine xi_iconst (pc' := 11) (v := 1) kc_11_10 rfl rfl ?_
              refine xi_goto (pc' := 15) kc_11_11 rfl ?_
              refine xi_ireturn kc_11_15 mr_11 rfl ?_
              show xw J ov 98 10 (6, [(0, .int a25)], [.int 1], hh123) _
              refine xi_ireturn kc_10_6 mr_10 rfl ?_
              show xw J ov 99 32 (30, [(0, .ref 115), (1, .int a23), (2, .int a25), (3, .int a27), (4, .int a29)], [.int 1], hh123) _
              refine xi_ift (pc' := 63) kc_32_30 rfl rfl ?_
              refine xi_iload_n (pc' := 64) (x := a27) kc_32_63 rfl rfl ?_
              refine xi_iconst (pc' := 65) (v := 1) kc_32_64 rfl rfl ?_
              refine xi_cmt (pc' := 73) kc_32_65 rfl (xc_lt_t (X := a27.toInt) (Y := 1) rfl (by decide) (by omega)) ?_
              refine xi_aload_n (pc' := 74) (x := 115) kc_32_73 rfl rfl ?_
              refine xi_bipush (pc' := 76) (v := (-4)) kc_32_74 rfl rfl ?_
              refine xi_virtual (mj := 12) (as := [.int (-4)]) (st1 := []) (lv0 := [(0, .ref 115), (1, .int (-4))]) kc_32_76 rfl rfl rfl rfl rfl eh122.1 (Nat.le_of_ble_eq_true rfl) (hJ _ _ _ _ (by decide)) (xm_le ml_12 rfl) rfl ?_
              refine xi_aload_n (pc' := 1) (x := 115) kc_12_0 rfl rfl ?_
              refine xi_getfield (pc' := 4) (v := .ref 140) kc_12_1 rfl rfl rfl eh122.1 rfl ?_
              refine xi_iload_n (pc' := 5) (x := (-4)) kc_12_4 rfl rfl ?_
              refine xi_ineg (pc' := 6) (v := 4) kc_12_5 rfl rfl ?_
              refine xi_dup2 (pc' := 7) kc_12_6 rfl ⟨rfl, rfl⟩ ?_
              obtain ⟨y126, A126, hy126, ry126⟩ := xk_arr K.1 xD_140
              obtain ⟨v127, ev127, bv127, dv127⟩ := xj_get hy126 ry126 (i := 4) (by decide) (by decide)
              have A128 := ((eh122.2.1 140 (by decide)).trans ((eh118.2.1 140 (by decide)).trans A126))
              refine xi_iaload (pc' := 8) (v := v127) kc_12_7 rfl A128 (by decide) rfl (xi_in (by decide) (by rw [hy126]; decide)) ev127 ?_
              refine xi_iconst (pc' := 9) (v := 1) kc_12_8 rfl rfl ?_
              obtain ⟨v129, ev129⟩ : ∃ q : Int32, (v127 : Int32) + 1 = q := ⟨_, rfl⟩
              have rv129 := xc_rng v129
              refine xi_iadd (pc' := 10) (v := v129) kc_12_9 rfl ev129 ?_
              obtain ⟨y130, s130, hy130, ry130⟩ := xj_set (v := v129) hy126 ry126 4 (by first | omega | decide) (by first | omega | decide)
              refine xi_iastore (pc' := 11) (x' := y130) kc_12_10 rfl A128 rfl (xi_in (by decide) (by rw [hy126]; decide)) s130 (fun hh130 eh130 => ?_)
              have K131 := xk_pa K124 (xk_wa (by decide +kernel)) xD_140 hy130 ry130 eh130
              have KR132 := xk_pa KR125 (xk_wa (by decide +kernel)) xD_140 hy130 ry130 eh130
              refine xi_iload_n (pc' := 12) (x := (-4)) kc_12_11 rfl rfl ?_
              refine xi_ireturn kc_12_12 mr_12 rfl ?_
              show xw J ov 99 32 (79, [(0, .ref 115), (1, .int a23), (2, .int a25), (3, .int a27), (4, .int a29)], [.int (-4)], hh130) _
              refine xi_ireturn kc_32_79 mr_32 rfl ?_
              show xw J ov 100 195 (708, [(4, .int x4), (3, .ref 167), (2, .ref 115), (1, .ref 0), (0, .ref 1000000)], [.int (-4)], hh130) _
              refine xi_pop (pc' := 709) kc_195_708 rfl rfl ?_
              refine xi_goto (pc' := 1501) kc_195_709 rfl ?_
              obtain ⟨v133, ev133⟩ : ∃ q : Int32, x4 + 6 = q := ⟨_, rfl⟩
              have zv133 : v133.toInt = (x4.toInt + 6) := by rw [← ev133]; exact (xz_add (X := x4.toInt) (Y := 6) rfl (by decide) (by omega) (by omega)).trans (by omega)
              refine xi_iinc (pc' := 1504) (x := x4) (v := v133) (lv' := [(4, .int v133), (3, .ref 167), (2, .ref 115), (1, .ref 0), (0, .ref 1000000)]) kc_195_1501 rfl rfl ev133 rfl (xm_lt ml_195 rfl) ?_
              refine xi_goto (pc' := 23) kc_195_1504 rfl ?_
              exact kk v133 hh130 (by omega) K131 (xI_kept I KR132.2.1)
            · refine xi_cmf (pc' := 37) kc_116_34 rfl (xc_lt_f (X := a27.toInt) (Y := 1) rfl (by decide) (by omega)) ?_
              refine xi_iload (pc' := 39) (x := a29) kc_116_37 rfl rfl ?_
              by_cases c134 : 0 ≤ a29.toInt
              · refine xi_ift (pc' := 49) kc_116_39 rfl (xc_ge_t (X := a29.toInt) (Y := 0) rfl (by decide) (by omega)) ?_
                refine xi_iload_n (pc' := 50) (x := a27) kc_116_49 rfl rfl ?_
                refine xi_bipush (pc' := 52) (v := 99) kc_116_50 rfl rfl ?_
                by_cases c135 : 99 < a27.toInt
                · refine xi_cmt (pc' := 75) kc_116_52 rfl (xc_gt_t (X := a27.toInt) (Y := 99) rfl (by decide) (by omega)) ?_
                  refine xi_aload_n (pc' := 76) (x := 0) kc_116_75 rfl rfl ?_
                  refine xi_bipush (pc' := 78) (v := (-6)) kc_116_76 rfl rfl ?_
                  refine xi_virtual (mj := 90) (as := [.int (-6)]) (st1 := []) (lv0 := [(0, .ref 0), (1, .int (-6))]) kc_116_78 rfl rfl rfl rfl rfl A32 (Nat.le_of_ble_eq_true rfl) (hJ _ _ _ _ (by decide)) (xm_le ml_90 rfl) rfl ?_
                  refine xi_iload_n (pc' := 1) (x := (-6)) kc_90_0 rfl rfl ?_
                  refine xi_ineg (pc' := 2) (v := 6) kc_90_1 rfl rfl ?_
                  refine xi_istore_n (pc' := 3) (lv' := [(2, .int 6), (0, .ref 0), (1, .int (-6))]) kc_90_2 rfl rfl (xm_lt ml_90 rfl) ?_
                  refine xi_iload_n (pc' := 4) (x := 6) kc_90_3 rfl rfl ?_
                  refine xi_iff (pc' := 7) kc_90_4 rfl rfl ?_
                  refine xi_iload_n (pc' := 8) (x := 6) kc_90_7 rfl rfl ?_
                  refine xi_aload_n (pc' := 9) (x := 0) kc_90_8 rfl rfl ?_
                  refine xi_getfield (pc' := 12) (v := .ref 94) kc_90_9 rfl rfl rfl A32 rfl ?_
                  obtain ⟨y136, A136, hy136, ry136⟩ := xk_arr K.1 xD_94
                  refine xi_arraylength (pc' := 13) (n := 7) (v := 7) kc_90_12 rfl (xl_lenI (by decide) (by decide) A136 hy136) rfl ?_
                  refine xi_cmf (pc' := 16) kc_90_13 rfl rfl ?_
                  refine xi_aload_n (pc' := 17) (x := 0) kc_90_16 rfl rfl ?_
                  refine xi_getfield (pc' := 20) (v := .ref 94) kc_90_17 rfl rfl rfl A32 rfl ?_
                  refine xi_iload_n (pc' := 21) (x := 6) kc_90_20 rfl rfl ?_
                  refine xi_dup2 (pc' := 22) kc_90_21 rfl ⟨rfl, rfl⟩ ?_
                  obtain ⟨v137, ev137, bv137, dv137⟩ := xj_get hy136 ry136 (i := 6) (by decide) (by decide)
                  refine xi_iaload (pc' := 23) (v := v137) kc_90_22 rfl A136 (by decide) rfl (xi_in (by decide) (by rw [hy136]; decide)) ev137 ?_
                  refine xi_iconst (pc' := 24) (v := 1) kc_90_23 rfl rfl ?_
                  obtain ⟨v138, ev138⟩ : ∃ q : Int32, (v137 : Int32) + 1 = q := ⟨_, rfl⟩
                  have rv138 := xc_rng v138
                  refine xi_iadd (pc' := 25) (v := v138) kc_90_24 rfl ev138 ?_
                  obtain ⟨y139, s139, hy139, ry139⟩ := xj_set (v := v138) hy136 ry136 6 (by first | omega | decide) (by first | omega | decide)
                  refine xi_iastore (pc' := 26) (x' := y139) kc_90_25 rfl A136 rfl (xi_in (by decide) (by rw [hy136]; decide)) s139 (fun hh139 eh139 => ?_)
                  have K140 := xk_pa K (xk_wa (by decide +kernel)) xD_94 hy139 ry139 eh139
                  have KR141 := xk_pa KR (xk_wa (by decide +kernel)) xD_94 hy139 ry139 eh139
                  refine xi_iload_n (pc' := 27) (x := (-6)) kc_90_26 rfl rfl ?_
                  refine xi_ireturn kc_90_27 mr_90 rfl ?_
                  show xw J ov 99 116 (81, [(0, .ref 0), (1, .int a23), (2, .int a25), (3, .int a27), (4, .int a29)], [.int (-6)], hh139) _
                  refine xi_ireturn kc_116_81 mr_116 rfl ?_
                  show xw J ov 100 195 (679, [(4, .int x4), (3, .ref 167), (2, .ref 115), (1, .ref 0), (0, .ref 1000000)], [.int (-6)], hh139) _
                  refine xi_pop (pc' := 680) kc_195_679 rfl rfl ?_
                  refine xi_aload_n (pc' := 681) (x := 115) kc_195_680 rfl rfl ?_
                  refine xi_aload_n (pc' := 682) (x := 1000000) kc_195_681 rfl rfl ?_
                  refine xi_iload (pc' := 684) (x := x4) kc_195_682 rfl rfl ?_
                  refine xi_iconst (pc' := 685) (v := 1) kc_195_684 rfl rfl ?_
                  refine xi_iadd (pc' := 686) (v := v22) kc_195_685 rfl ev22 ?_
                  refine xi_ialoadO (pc' := 687) (v := a23) kc_195_686 rfl (by decide) hov0 (xi_in (by omega) (by omega)) ea23 ?_
                  refine xi_aload_n (pc' := 688) (x := 1000000) kc_195_687 rfl rfl ?_
                  refine xi_iload (pc' := 690) (x := x4) kc_195_688 rfl rfl ?_
                  refine xi_iconst (pc' := 691) (v := 2) kc_195_690 rfl rfl ?_
                  refine xi_iadd (pc' := 692) (v := v24) kc_195_691 rfl ev24 ?_
                  refine xi_ialoadO (pc' := 693) (v := a25) kc_195_692 rfl (by decide) hov0 (xi_in (by omega) (by omega)) ea25 ?_
                  refine xi_aload_n (pc' := 694) (x := 1000000) kc_195_693 rfl rfl ?_
                  refine xi_iload (pc' := 696) (x := x4) kc_195_694 rfl rfl ?_
                  refine xi_iconst (pc' := 697) (v := 3) kc_195_696 rfl rfl ?_
                  refine xi_iadd (pc' := 698) (v := v26) kc_195_697 rfl ev26 ?_
                  refine xi_ialoadO (pc' := 699) (v := a27) kc_195_698 rfl (by decide) hov0 (xi_in (by omega) (by omega)) ea27 ?_
                  refine xi_aload_n (pc' := 700) (x := 1000000) kc_195_699 rfl rfl ?_
                  refine xi_iload (pc' := 702) (x := x4) kc_195_700 rfl rfl ?_
                  refine xi_iconst (pc' := 703) (v := 4) kc_195_702 rfl rfl ?_
                  refine xi_iadd (pc' := 704) (v := v28) kc_195_703 rfl ev28 ?_
                  refine xi_ialoadO (pc' := 705) (v := a29) kc_195_704 rfl (by decide) hov0 (xi_in (by omega) (by omega)) ea29 ?_
                  have A142 := ((eh139.2.1 115 (by decide)).trans A17)
                  refine xi_virtual (mj := 32) (as := [.int a23, .int a25, .int a27, .int a29]) (st1 := []) (lv0 := [(0, .ref 115), (1, .int a23), (2, .int a25), (3, .int a27), (4, .int a29)]) kc_195_705 rfl rfl rfl rfl rfl A142 (Nat.le_of_ble_eq_true rfl) (hJ _ _ _ _ (by decide)) (xm_le ml_32 rfl) rfl ?_
                  refine xi_aload_n (pc' := 1) (x := 115) kc_32_0 rfl rfl ?_
                  refine xi_iconst (pc' := 2) (v := 0) kc_32_1 rfl rfl ?_
                  refine xi_putfield (pc' := 5) (fs' := [.int 0, .int u5, .ref 116, .ref 117, .ref 118, .ref 119, .ref 120, .ref 121, .ref 122, .ref 123, .ref 124, .ref 125, .ref 126, .ref 127, .ref 128, .ref 129, .int u6, .ref 130, .int u7, .ref 131, .ref 132, .ref 133, .ref 134, .int u1, .ref 135, .ref 136, .ref 137, .ref 138, .ref 139, .ref 140, .ref 141, .ref 142, .int u9, .int u10, .int u11, .ref 143, .ref 144, .ref 145, .ref 146, .ref 147, .ref 148, .int u12, .ref 149, .ref 150, .ref 151, .int u13, .ref 152, .ref 153, .ref 154, .ref 155, .ref 156, .ref 157, .ref 158, .ref 159, .int u14, .ref 160, .int u15, .ref 161, .ref 162, .ref 163, .ref 164, .int u16, .ref 165, .ref 166]) kc_32_2 rfl rfl rfl A142 rfl rfl rfl (Nat.le_of_ble_eq_true rfl) rfl (fun hh144 eh143 => ?_)
                  have K145 := xk_pf (k := 0) (v := 0) K140 (xk_wf (by decide +kernel)) xD_115 A142 rfl (by first | omega | decide) (by first | omega | decide) eh143 rfl
                  have KR146 := xk_pf (k := 0) (v := 0) KR141 (xk_wf (by decide +kernel)) xD_115 A142 rfl (by first | omega | decide) (by first | omega | decide) eh143 rfl
                  refine xi_iload_n (pc' := 6) (x := a23) kc_32_5 rfl rfl ?_
                  refine xi_iconst (pc' := 7) (v := 0) kc_32_6 rfl rfl ?_
                  refine xi_iconst (pc' := 8) (v := 3) kc_32_7 rfl rfl ?_
                  refine xi_static (mj := 11) (as := [.int a23, .int 0, .int 3]) (st1 := []) (lv0 := [(0, .int a23), (1, .int 0), (2, .int 3)]) kc_32_8 rfl rfl (Nat.le_of_ble_eq_true rfl) rfl rfl (Nat.le_of_ble_eq_true rfl) (hJ _ _ _ _ (by decide)) (xm_le ml_11 rfl) rfl ?_
                  refine xi_iload_n (pc' := 1) (x := a23) kc_11_0 rfl rfl ?_
                  refine xi_iload_n (pc' := 2) (x := 0) kc_11_1 rfl rfl ?_
                  refine xi_cmf (pc' := 5) kc_11_2 rfl (xc_lt_f (X := a23.toInt) (Y := 0) rfl (by decide) (by omega)) ?_
                  refine xi_iload_n (pc' := 6) (x := a23) kc_11_5 rfl rfl ?_
                  refine xi_iload_n (pc' := 7) (x := 3) kc_11_6 rfl rfl ?_
                  refine xi_cmf (pc' := 10) kc_11_7 rfl (xc_gt_f (X := a23.toInt) (Y := 3) rfl (by decide) (by omega)) ?_
                  refine xi_iconst (pc' := 11) (v := 1) kc_11_10 rfl rfl ?_
                  refine xi_goto (pc' := 15) kc_11_11 rfl ?_
                  refine xi_ireturn kc_11_15 mr_11 rfl ?_
                  show xw J ov 99 32 (11, [(0, .ref 115), (1, .int a23), (2, .int a25), (3, .int a27), (4, .int a29)], [.int 1], hh144) _
                  refine xi_ift (pc' := 21) kc_32_11 rfl rfl ?_
                  refine xi_iload_n (pc' := 22) (x := a23) kc_32_21 rfl rfl ?_
                  refine xi_iconst (pc' := 23) (v := 3) kc_32_22 rfl rfl ?_
                  refine xi_cmf (pc' := 26) kc_32_23 rfl (xc_ne_f (X := a23.toInt) (Y := 3) rfl (by decide) (by omega)) ?_
                  refine xi_iload_n (pc' := 27) (x := a25) kc_32_26 rfl rfl ?_
                  refine xi_static (mj := 10) (as := [.int a25]) (st1 := []) (lv0 := [(0, .int a25)]) kc_32_27 rfl rfl (Nat.le_of_ble_eq_true rfl) rfl rfl (Nat.le_of_ble_eq_true rfl) (hJ _ _ _ _ (by decide)) (xm_le ml_10 rfl) rfl ?_
                  refine xi_iload_n (pc' := 1) (x := a25) kc_10_0 rfl rfl ?_
                  refine xi_iconst (pc' := 2) (v := 0) kc_10_1 rfl rfl ?_
                  refine xi_iconst (pc' := 3) (v := 5) kc_10_2 rfl rfl ?_
                  refine xi_static (mj := 11) (as := [.int a25, .int 0, .int 5]) (st1 := []) (lv0 := [(0, .int a25), (1, .int 0), (2, .int 5)]) kc_10_3 rfl rfl (Nat.le_of_ble_eq_true rfl) rfl rfl (Nat.le_of_ble_eq_true rfl) (hJ _ _ _ _ (by decide)) (xm_le ml_11 rfl) rfl ?_
                  refine xi_iload_n (pc' := 1) (x := a25) kc_11_0 rfl rfl ?_
                  refine xi_iload_n (pc' := 2) (x := 0) kc_11_1 rfl rfl ?_
                  refine xi_cmf (pc' := 5) kc_11_2 rfl (xc_lt_f (X := a25.toInt) (Y := 0) rfl (by decide) (by omega)) ?_
                  refine xi_iload_n (pc' := 6) (x := a25) kc_11_5 rfl rfl ?_
                  refine xi_iload_n (pc' := 7) (x := 5) kc_11_6 rfl rfl ?_
                  refine xi_cmf (pc' := 10) kc_11_7 rfl (xc_gt_f (X := a25.toInt) (Y := 5) rfl (by decide) (by omega)) ?_
                  refine xi_iconst (pc' := 11) (v := 1) kc_11_10 rfl rfl ?_
                  refine xi_goto (pc' := 15) kc_11_11 rfl ?_
                  refine xi_ireturn kc_11_15 mr_11 rfl ?_
                  show xw J ov 98 10 (6, [(0, .int a25)], [.int 1], hh144) _
                  refine xi_ireturn kc_10_6 mr_10 rfl ?_
                  show xw J ov 99 32 (30, [(0, .ref 115), (1, .int a23), (2, .int a25), (3, .int a27), (4, .int a29)], [.int 1], hh144) _
                  refine xi_ift (pc' := 63) kc_32_30 rfl rfl ?_
                  refine xi_iload_n (pc' := 64) (x := a27) kc_32_63 rfl rfl ?_
                  refine xi_iconst (pc' := 65) (v := 1) kc_32_64 rfl rfl ?_
                  refine xi_cmf (pc' := 68) kc_32_65 rfl (xc_lt_f (X := a27.toInt) (Y := 1) rfl (by decide) (by omega)) ?_
                  refine xi_iload (pc' := 70) (x := a29) kc_32_68 rfl rfl ?_
                  refine xi_ift (pc' := 80) kc_32_70 rfl (xc_ge_t (X := a29.toInt) (Y := 0) rfl (by decide) (by omega)) ?_
                  refine xi_iload_n (pc' := 81) (x := a27) kc_32_80 rfl rfl ?_
                  refine xi_bipush (pc' := 83) (v := 99) kc_32_81 rfl rfl ?_
                  refine xi_cmt (pc' := 103) kc_32_83 rfl (xc_gt_t (X := a27.toInt) (Y := 99) rfl (by decide) (by omega)) ?_
                  refine xi_aload_n (pc' := 104) (x := 115) kc_32_103 rfl rfl ?_
                  refine xi_bipush (pc' := 106) (v := (-6)) kc_32_104 rfl rfl ?_
                  refine xi_virtual (mj := 12) (as := [.int (-6)]) (st1 := []) (lv0 := [(0, .ref 115), (1, .int (-6))]) kc_32_106 rfl rfl rfl rfl rfl eh143.1 (Nat.le_of_ble_eq_true rfl) (hJ _ _ _ _ (by decide)) (xm_le ml_12 rfl) rfl ?_
                  refine xi_aload_n (pc' := 1) (x := 115) kc_12_0 rfl rfl ?_
                  refine xi_getfield (pc' := 4) (v := .ref 140) kc_12_1 rfl rfl rfl eh143.1 rfl ?_
                  refine xi_iload_n (pc' := 5) (x := (-6)) kc_12_4 rfl rfl ?_
                  refine xi_ineg (pc' := 6) (v := 6) kc_12_5 rfl rfl ?_
                  refine xi_dup2 (pc' := 7) kc_12_6 rfl ⟨rfl, rfl⟩ ?_
                  obtain ⟨y147, A147, hy147, ry147⟩ := xk_arr K.1 xD_140
                  obtain ⟨v148, ev148, bv148, dv148⟩ := xj_get hy147 ry147 (i := 6) (by decide) (by decide)
                  have A149 := ((eh143.2.1 140 (by decide)).trans ((eh139.2.1 140 (by decide)).trans A147))
                  refine xi_iaload (pc' := 8) (v := v148) kc_12_7 rfl A149 (by decide) rfl (xi_in (by decide) (by rw [hy147]; decide)) ev148 ?_
                  refine xi_iconst (pc' := 9) (v := 1) kc_12_8 rfl rfl ?_
                  obtain ⟨v150, ev150⟩ : ∃ q : Int32, (v148 : Int32) + 1 = q := ⟨_, rfl⟩
                  have rv150 := xc_rng v150
                  refine xi_iadd (pc' := 10) (v := v150) kc_12_9 rfl ev150 ?_
                  obtain ⟨y151, s151, hy151, ry151⟩ := xj_set (v := v150) hy147 ry147 6 (by first | omega | decide) (by first | omega | decide)
                  refine xi_iastore (pc' := 11) (x' := y151) kc_12_10 rfl A149 rfl (xi_in (by decide) (by rw [hy147]; decide)) s151 (fun hh151 eh151 => ?_)
                  have K152 := xk_pa K145 (xk_wa (by decide +kernel)) xD_140 hy151 ry151 eh151
                  have KR153 := xk_pa KR146 (xk_wa (by decide +kernel)) xD_140 hy151 ry151 eh151
                  refine xi_iload_n (pc' := 12) (x := (-6)) kc_12_11 rfl rfl ?_
                  refine xi_ireturn kc_12_12 mr_12 rfl ?_
                  show xw J ov 99 32 (109, [(0, .ref 115), (1, .int a23), (2, .int a25), (3, .int a27), (4, .int a29)], [.int (-6)], hh151) _
                  refine xi_ireturn kc_32_109 mr_32 rfl ?_
                  show xw J ov 100 195 (708, [(4, .int x4), (3, .ref 167), (2, .ref 115), (1, .ref 0), (0, .ref 1000000)], [.int (-6)], hh151) _
                  refine xi_pop (pc' := 709) kc_195_708 rfl rfl ?_
                  refine xi_goto (pc' := 1501) kc_195_709 rfl ?_
                  obtain ⟨v154, ev154⟩ : ∃ q : Int32, x4 + 6 = q := ⟨_, rfl⟩
                  have zv154 : v154.toInt = (x4.toInt + 6) := by rw [← ev154]; exact (xz_add (X := x4.toInt) (Y := 6) rfl (by decide) (by omega) (by omega)).trans (by omega)
                  refine xi_iinc (pc' := 1504) (x := x4) (v := v154) (lv' := [(4, .int v154), (3, .ref 167), (2, .ref 115), (1, .ref 0), (0, .ref 1000000)]) kc_195_1501 rfl rfl ev154 rfl (xm_lt ml_195 rfl) ?_
                  refine xi_goto (pc' := 23) kc_195_1504 rfl ?_
                  exact kk v154 hh151 (by omega) K152 (xI_kept I KR153.2.1)
                · refine xi_cmf (pc' := 55) kc_116_52 rfl (xc_gt_f (X := a27.toInt) (Y := 99) rfl (by decide) (by omega)) ?_
                  refine xi_iload (pc' := 57) (x := a29) kc_116_55 rfl rfl ?_
                  refine xi_sipush (pc' := 60) (v := 600) kc_116_57 rfl rfl ?_
                  by_cases c155 : 600 < a29.toInt
                  · refine xi_cmt (pc' := 75) kc_116_60 rfl (xc_gt_t (X := a29.toInt) (Y := 600) rfl (by decide) (by omega)) ?_
                    refine xi_aload_n (pc' := 76) (x := 0) kc_116_75 rfl rfl ?_
                    refine xi_bipush (pc' := 78) (v := (-6)) kc_116_76 rfl rfl ?_
                    refine xi_virtual (mj := 90) (as := [.int (-6)]) (st1 := []) (lv0 := [(0, .ref 0), (1, .int (-6))]) kc_116_78 rfl rfl rfl rfl rfl A32 (Nat.le_of_ble_eq_true rfl) (hJ _ _ _ _ (by decide)) (xm_le ml_90 rfl) rfl ?_
                    refine xi_iload_n (pc' := 1) (x := (-6)) kc_90_0 rfl rfl ?_
                    refine xi_ineg (pc' := 2) (v := 6) kc_90_1 rfl rfl ?_
                    refine xi_istore_n (pc' := 3) (lv' := [(2, .int 6), (0, .ref 0), (1, .int (-6))]) kc_90_2 rfl rfl (xm_lt ml_90 rfl) ?_
                    refine xi_iload_n (pc' := 4) (x := 6) kc_90_3 rfl rfl ?_
                    refine xi_iff (pc' := 7) kc_90_4 rfl rfl ?_
                    refine xi_iload_n (pc' := 8) (x := 6) kc_90_7 rfl rfl ?_
                    refine xi_aload_n (pc' := 9) (x := 0) kc_90_8 rfl rfl ?_
                    refine xi_getfield (pc' := 12) (v := .ref 94) kc_90_9 rfl rfl rfl A32 rfl ?_
                    obtain ⟨y156, A156, hy156, ry156⟩ := xk_arr K.1 xD_94
                    refine xi_arraylength (pc' := 13) (n := 7) (v := 7) kc_90_12 rfl (xl_lenI (by decide) (by decide) A156 hy156) rfl ?_
                    refine xi_cmf (pc' := 16) kc_90_13 rfl rfl ?_
                    refine xi_aload_n (pc' := 17) (x := 0) kc_90_16 rfl rfl ?_
                    refine xi_getfield (pc' := 20) (v := .ref 94) kc_90_17 rfl rfl rfl A32 rfl ?_
                    refine xi_iload_n (pc' := 21) (x := 6) kc_90_20 rfl rfl ?_
                    refine xi_dup2 (pc' := 22) kc_90_21 rfl ⟨rfl, rfl⟩ ?_
                    obtain ⟨v157, ev157, bv157, dv157⟩ := xj_get hy156 ry156 (i := 6) (by decide) (by decide)
                    refine xi_iaload (pc' := 23) (v := v157) kc_90_22 rfl A156 (by decide) rfl (xi_in (by decide) (by rw [hy156]; decide)) ev157 ?_
                    refine xi_iconst (pc' := 24) (v := 1) kc_90_23 rfl rfl ?_
                    obtain ⟨v158, ev158⟩ : ∃ q : Int32, (v157 : Int32) + 1 = q := ⟨_, rfl⟩
                    have rv158 := xc_rng v158
                    refine xi_iadd (pc' := 25) (v := v158) kc_90_24 rfl ev158 ?_
                    obtain ⟨y159, s159, hy159, ry159⟩ := xj_set (v := v158) hy156 ry156 6 (by first | omega | decide) (by first | omega | decide)
                    refine xi_iastore (pc' := 26) (x' := y159) kc_90_25 rfl A156 rfl (xi_in (by decide) (by rw [hy156]; decide)) s159 (fun hh159 eh159 => ?_)
                    have K160 := xk_pa K (xk_wa (by decide +kernel)) xD_94 hy159 ry159 eh159
                    have KR161 := xk_pa KR (xk_wa (by decide +kernel)) xD_94 hy159 ry159 eh159
                    refine xi_iload_n (pc' := 27) (x := (-6)) kc_90_26 rfl rfl ?_
                    refine xi_ireturn kc_90_27 mr_90 rfl ?_
                    show xw J ov 99 116 (81, [(0, .ref 0), (1, .int a23), (2, .int a25), (3, .int a27), (4, .int a29)], [.int (-6)], hh159) _
                    refine xi_ireturn kc_116_81 mr_116 rfl ?_
                    show xw J ov 100 195 (679, [(4, .int x4), (3, .ref 167), (2, .ref 115), (1, .ref 0), (0, .ref 1000000)], [.int (-6)], hh159) _
                    refine xi_pop (pc' := 680) kc_195_679 rfl rfl ?_
                    refine xi_aload_n (pc' := 681) (x := 115) kc_195_680 rfl rfl ?_
                    refine xi_aload_n (pc' := 682) (x := 1000000) kc_195_681 rfl rfl ?_
                    refine xi_iload (pc' := 684) (x := x4) kc_195_682 rfl rfl ?_
                    refine xi_iconst (pc' := 685) (v := 1) kc_195_684 rfl rfl ?_
                    refine xi_iadd (pc' := 686) (v := v22) kc_195_685 rfl ev22 ?_
                    refine xi_ialoadO (pc' := 687) (v := a23) kc_195_686 rfl (by decide) hov0 (xi_in (by omega) (by omega)) ea23 ?_
                    refine xi_aload_n (pc' := 688) (x := 1000000) kc_195_687 rfl rfl ?_
                    refine xi_iload (pc' := 690) (x := x4) kc_195_688 rfl rfl ?_
                    refine xi_iconst (pc' := 691) (v := 2) kc_195_690 rfl rfl ?_
                    refine xi_iadd (pc' := 692) (v := v24) kc_195_691 rfl ev24 ?_
                    refine xi_ialoadO (pc' := 693) (v := a25) kc_195_692 rfl (by decide) hov0 (xi_in (by omega) (by omega)) ea25 ?_
                    refine xi_aload_n (pc' := 694) (x := 1000000) kc_195_693 rfl rfl ?_
                    refine xi_iload (pc' := 696) (x := x4) kc_195_694 rfl rfl ?_
                    refine xi_iconst (pc' := 697) (v := 3) kc_195_696 rfl rfl ?_
                    refine xi_iadd (pc' := 698) (v := v26) kc_195_697 rfl ev26 ?_
                    refine xi_ialoadO (pc' := 699) (v := a27) kc_195_698 rfl (by decide) hov0 (xi_in (by omega) (by omega)) ea27 ?_
                    refine xi_aload_n (pc' := 700) (x := 1000000) kc_195_699 rfl rfl ?_
                    refine xi_iload (pc' := 702) (x := x4) kc_195_700 rfl rfl ?_
                    refine xi_iconst (pc' := 703) (v := 4) kc_195_702 rfl rfl ?_
                    refine xi_iadd (pc' := 704) (v := v28) kc_195_703 rfl ev28 ?_
                    refine xi_ialoadO (pc' := 705) (v := a29) kc_195_704 rfl (by decide) hov0 (xi_in (by omega) (by omega)) ea29 ?_
                    have A162 := ((eh159.2.1 115 (by decide)).trans A17)
                    refine xi_virtual (mj := 32) (as := [.int a23, .int a25, .int a27, .int a29]) (st1 := []) (lv0 := [(0, .ref 115), (1, .int a23), (2, .int a25), (3, .int a27), (4, .int a29)]) kc_195_705 rfl rfl rfl rfl rfl A162 (Nat.le_of_ble_eq_true rfl) (hJ _ _ _ _ (by decide)) (xm_le ml_32 rfl) rfl ?_
                    refine xi_aload_n (pc' := 1) (x := 115) kc_32_0 rfl rfl ?_
                    refine xi_iconst (pc' := 2) (v := 0) kc_32_1 rfl rfl ?_
                    refine xi_putfield (pc' := 5) (fs' := [.int 0, .int u5, .ref 116, .ref 117, .ref 118, .ref 119, .ref 120, .ref 121, .ref 122, .ref 123, .ref 124, .ref 125, .ref 126, .ref 127, .ref 128, .ref 129, .int u6, .ref 130, .int u7, .ref 131, .ref 132, .ref 133, .ref 134, .int u1, .ref 135, .ref 136, .ref 137, .ref 138, .ref 139, .ref 140, .ref 141, .ref 142, .int u9, .int u10, .int u11, .ref 143, .ref 144, .ref 145, .ref 146, .ref 147, .ref 148, .int u12, .ref 149, .ref 150, .ref 151, .int u13, .ref 152, .ref 153, .ref 154, .ref 155, .ref 156, .ref 157, .ref 158, .ref 159, .int u14, .ref 160, .int u15, .ref 161, .ref 162, .ref 163, .ref 164, .int u16, .ref 165, .ref 166]) kc_32_2 rfl rfl rfl A162 rfl rfl rfl (Nat.le_of_ble_eq_true rfl) rfl (fun hh164 eh163 => ?_)
                    have K165 := xk_pf (k := 0) (v := 0) K160 (xk_wf (by decide +kernel)) xD_115 A162 rfl (by first | omega | decide) (by first | omega | decide) eh163 rfl
                    have KR166 := xk_pf (k := 0) (v := 0) KR161 (xk_wf (by decide +kernel)) xD_115 A162 rfl (by first | omega | decide) (by first | omega | decide) eh163 rfl
                    refine xi_iload_n (pc' := 6) (x := a23) kc_32_5 rfl rfl ?_
                    refine xi_iconst (pc' := 7) (v := 0) kc_32_6 rfl rfl ?_
                    refine xi_iconst (pc' := 8) (v := 3) kc_32_7 rfl rfl ?_
                    refine xi_static (mj := 11) (as := [.int a23, .int 0, .int 3]) (st1 := []) (lv0 := [(0, .int a23), (1, .int 0), (2, .int 3)]) kc_32_8 rfl rfl (Nat.le_of_ble_eq_true rfl) rfl rfl (Nat.le_of_ble_eq_true rfl) (hJ _ _ _ _ (by decide)) (xm_le ml_11 rfl) rfl ?_
                    refine xi_iload_n (pc' := 1) (x := a23) kc_11_0 rfl rfl ?_
                    refine xi_iload_n (pc' := 2) (x := 0) kc_11_1 rfl rfl ?_
                    refine xi_cmf (pc' := 5) kc_11_2 rfl (xc_lt_f (X := a23.toInt) (Y := 0) rfl (by decide) (by omega)) ?_
                    refine xi_iload_n (pc' := 6) (x := a23) kc_11_5 rfl rfl ?_
                    refine xi_iload_n (pc' := 7) (x := 3) kc_11_6 rfl rfl ?_
                    refine xi_cmf (pc' := 10) kc_11_7 rfl (xc_gt_f (X := a23.toInt) (Y := 3) rfl (by decide) (by omega)) ?_
                    refine xi_iconst (pc' := 11) (v := 1) kc_11_10 rfl rfl ?_
                    refine xi_goto (pc' := 15) kc_11_11 rfl ?_
                    refine xi_ireturn kc_11_15 mr_11 rfl ?_
                    show xw J ov 99 32 (11, [(0, .ref 115), (1, .int a23), (2, .int a25), (3, .int a27), (4, .int a29)], [.int 1], hh164) _
                    refine xi_ift (pc' := 21) kc_32_11 rfl rfl ?_
                    refine xi_iload_n (pc' := 22) (x := a23) kc_32_21 rfl rfl ?_
                    refine xi_iconst (pc' := 23) (v := 3) kc_32_22 rfl rfl ?_
                    refine xi_cmf (pc' := 26) kc_32_23 rfl (xc_ne_f (X := a23.toInt) (Y := 3) rfl (by decide) (by omega)) ?_
                    refine xi_iload_n (pc' := 27) (x := a25) kc_32_26 rfl rfl ?_
                    refine xi_static (mj := 10) (as := [.int a25]) (st1 := []) (lv0 := [(0, .int a25)]) kc_32_27 rfl rfl (Nat.le_of_ble_eq_true rfl) rfl rfl (Nat.le_of_ble_eq_true rfl) (hJ _ _ _ _ (by decide)) (xm_le ml_10 rfl) rfl ?_
                    refine xi_iload_n (pc' := 1) (x := a25) kc_10_0 rfl rfl ?_
                    refine xi_iconst (pc' := 2) (v := 0) kc_10_1 rfl rfl ?_
                    refine xi_iconst (pc' := 3) (v := 5) kc_10_2 rfl rfl ?_
                    refine xi_static (mj := 11) (as := [.int a25, .int 0, .int 5]) (st1 := []) (lv0 := [(0, .int a25), (1, .int 0), (2, .int 5)]) kc_10_3 rfl rfl (Nat.le_of_ble_eq_true rfl) rfl rfl (Nat.le_of_ble_eq_true rfl) (hJ _ _ _ _ (by decide)) (xm_le ml_11 rfl) rfl ?_
                    refine xi_iload_n (pc' := 1) (x := a25) kc_11_0 rfl rfl ?_
                    refine xi_iload_n (pc' := 2) (x := 0) kc_11_1 rfl rfl ?_
                    refine xi_cmf (pc' := 5) kc_11_2 rfl (xc_lt_f (X := a25.toInt) (Y := 0) rfl (by decide) (by omega)) ?_
                    refine xi_iload_n (pc' := 6) (x := a25) kc_11_5 rfl rfl ?_
                    refine xi_iload_n (pc' := 7) (x := 5) kc_11_6 rfl rfl ?_
                    refine xi_cmf (pc' := 10) kc_11_7 rfl (xc_gt_f (X := a25.toInt) (Y := 5) rfl (by decide) (by omega)) ?_
                    refine xi_iconst (pc' := 11) (v := 1) kc_11_10 rfl rfl ?_
                    refine xi_goto (pc' := 15) kc_11_11 rfl ?_
                    refine xi_ireturn kc_11_15 mr_11 rfl ?_
                    show xw J ov 98 10 (6, [(0, .int a25)], [.int 1], hh164) _
                    refine xi_ireturn kc_10_6 mr_10 rfl ?_
                    show xw J ov 99 32 (30, [(0, .ref 115), (1, .int a23), (2, .int a25), (3, .int a27), (4, .int a29)], [.int 1], hh164) _
                    refine xi_ift (pc' := 63) kc_32_30 rfl rfl ?_
                    refine xi_iload_n (pc' := 64) (x := a27) kc_32_63 rfl rfl ?_
                    refine xi_iconst (pc' := 65) (v := 1) kc_32_64 rfl rfl ?_
                    refine xi_cmf (pc' := 68) kc_32_65 rfl (xc_lt_f (X := a27.toInt) (Y := 1) rfl (by decide) (by omega)) ?_
                    refine xi_iload (pc' := 70) (x := a29) kc_32_68 rfl rfl ?_
                    refine xi_ift (pc' := 80) kc_32_70 rfl (xc_ge_t (X := a29.toInt) (Y := 0) rfl (by decide) (by omega)) ?_
                    refine xi_iload_n (pc' := 81) (x := a27) kc_32_80 rfl rfl ?_
                    refine xi_bipush (pc' := 83) (v := 99) kc_32_81 rfl rfl ?_
                    refine xi_cmf (pc' := 86) kc_32_83 rfl (xc_gt_f (X := a27.toInt) (Y := 99) rfl (by decide) (by omega)) ?_
                    refine xi_iload (pc' := 88) (x := a29) kc_32_86 rfl rfl ?_
                    refine xi_sipush (pc' := 91) (v := 600) kc_32_88 rfl rfl ?_
                    refine xi_cmt (pc' := 103) kc_32_91 rfl (xc_gt_t (X := a29.toInt) (Y := 600) rfl (by decide) (by omega)) ?_
                    refine xi_aload_n (pc' := 104) (x := 115) kc_32_103 rfl rfl ?_
                    refine xi_bipush (pc' := 106) (v := (-6)) kc_32_104 rfl rfl ?_
                    refine xi_virtual (mj := 12) (as := [.int (-6)]) (st1 := []) (lv0 := [(0, .ref 115), (1, .int (-6))]) kc_32_106 rfl rfl rfl rfl rfl eh163.1 (Nat.le_of_ble_eq_true rfl) (hJ _ _ _ _ (by decide)) (xm_le ml_12 rfl) rfl ?_
                    refine xi_aload_n (pc' := 1) (x := 115) kc_12_0 rfl rfl ?_
                    refine xi_getfield (pc' := 4) (v := .ref 140) kc_12_1 rfl rfl rfl eh163.1 rfl ?_
                    refine xi_iload_n (pc' := 5) (x := (-6)) kc_12_4 rfl rfl ?_
                    refine xi_ineg (pc' := 6) (v := 6) kc_12_5 rfl rfl ?_
                    refine xi_dup2 (pc' := 7) kc_12_6 rfl ⟨rfl, rfl⟩ ?_
                    obtain ⟨y167, A167, hy167, ry167⟩ := xk_arr K.1 xD_140
                    obtain ⟨v168, ev168, bv168, dv168⟩ := xj_get hy167 ry167 (i := 6) (by decide) (by decide)
                    have A169 := ((eh163.2.1 140 (by decide)).trans ((eh159.2.1 140 (by decide)).trans A167))
                    refine xi_iaload (pc' := 8) (v := v168) kc_12_7 rfl A169 (by decide) rfl (xi_in (by decide) (by rw [hy167]; decide)) ev168 ?_
                    refine xi_iconst (pc' := 9) (v := 1) kc_12_8 rfl rfl ?_
                    obtain ⟨v170, ev170⟩ : ∃ q : Int32, (v168 : Int32) + 1 = q := ⟨_, rfl⟩
                    have rv170 := xc_rng v170
                    refine xi_iadd (pc' := 10) (v := v170) kc_12_9 rfl ev170 ?_
                    obtain ⟨y171, s171, hy171, ry171⟩ := xj_set (v := v170) hy167 ry167 6 (by first | omega | decide) (by first | omega | decide)
                    refine xi_iastore (pc' := 11) (x' := y171) kc_12_10 rfl A169 rfl (xi_in (by decide) (by rw [hy167]; decide)) s171 (fun hh171 eh171 => ?_)
                    have K172 := xk_pa K165 (xk_wa (by decide +kernel)) xD_140 hy171 ry171 eh171
                    have KR173 := xk_pa KR166 (xk_wa (by decide +kernel)) xD_140 hy171 ry171 eh171
                    refine xi_iload_n (pc' := 12) (x := (-6)) kc_12_11 rfl rfl ?_
                    refine xi_ireturn kc_12_12 mr_12 rfl ?_
                    show xw J ov 99 32 (109, [(0, .ref 115), (1, .int a23), (2, .int a25), (3, .int a27), (4, .int a29)], [.int (-6)], hh171) _
                    refine xi_ireturn kc_32_109 mr_32 rfl ?_
                    show xw J ov 100 195 (708, [(4, .int x4), (3, .ref 167), (2, .ref 115), (1, .ref 0), (0, .ref 1000000)], [.int (-6)], hh171) _
                    refine xi_pop (pc' := 709) kc_195_708 rfl rfl ?_
                    refine xi_goto (pc' := 1501) kc_195_709 rfl ?_
                    obtain ⟨v174, ev174⟩ : ∃ q : Int32, x4 + 6 = q := ⟨_, rfl⟩
                    have zv174 : v174.toInt = (x4.toInt + 6) := by rw [← ev174]; exact (xz_add (X := x4.toInt) (Y := 6) rfl (by decide) (by omega) (by omega)).trans (by omega)
                    refine xi_iinc (pc' := 1504) (x := x4) (v := v174) (lv' := [(4, .int v174), (3, .ref 167), (2, .ref 115), (1, .ref 0), (0, .ref 1000000)]) kc_195_1501 rfl rfl ev174 rfl (xm_lt ml_195 rfl) ?_
                    refine xi_goto (pc' := 23) kc_195_1504 rfl ?_
                    exact kk v174 hh171 (by omega) K172 (xI_kept I KR173.2.1)
                  · refine xi_cmf (pc' := 63) kc_116_60 rfl (xc_gt_f (X := a29.toInt) (Y := 600) rfl (by decide) (by omega)) ?_
                    refine xi_aload_n (pc' := 64) (x := 0) kc_116_63 rfl rfl ?_
                    refine xi_getfield (pc' := 67) (v := .ref 1) kc_116_64 rfl rfl rfl A32 rfl ?_
                    refine xi_getfield (pc' := 70) (v := .int u1) kc_116_67 rfl rfl rfl A3 rfl ?_
                    refine xi_bipush (pc' := 72) (v := 10) kc_116_70 rfl rfl ?_
                    by_cases c175 : u1.toInt < 10
                    · refine xi_cmt (pc' := 82) kc_116_72 rfl (xc_lt_t (X := u1.toInt) (Y := 10) rfl (by decide) (by omega)) ?_
                      refine xi_aload_n (pc' := 83) (x := 0) kc_116_82 rfl rfl ?_
                      refine xi_getfield (pc' := 86) (v := .ref 1) kc_116_83 rfl rfl rfl A32 rfl ?_
                      refine xi_iload_n (pc' := 87) (x := a23) kc_116_86 rfl rfl ?_
                      refine xi_iload_n (pc' := 88) (x := a25) kc_116_87 rfl rfl ?_
                      refine xi_iload_n (pc' := 89) (x := a27) kc_116_88 rfl rfl ?_
                      refine xi_iload (pc' := 91) (x := a29) kc_116_89 rfl rfl ?_
                      refine xi_virtual (mj := 119) (as := [.int a23, .int a25, .int a27, .int a29]) (st1 := []) (lv0 := [(0, .ref 1), (1, .int a23), (2, .int a25), (3, .int a27), (4, .int a29)]) kc_116_91 rfl rfl rfl rfl rfl A3 (Nat.le_of_ble_eq_true rfl) (hJ _ _ _ _ (by decide)) (xm_le ml_119 rfl) rfl ?_
                      refine xi_aload_n (pc' := 1) (x := 1) kc_119_0 rfl rfl ?_
                      refine xi_getfield (pc' := 4) (v := .int u1) kc_119_1 rfl rfl rfl A3 rfl ?_
                      refine xi_bipush (pc' := 6) (v := 10) kc_119_4 rfl rfl ?_
                      refine xi_cmt (pc' := 12) kc_119_6 rfl (xc_lt_t (X := u1.toInt) (Y := 10) rfl (by decide) (by omega)) ?_
                      refine xi_aload_n (pc' := 13) (x := 1) kc_119_12 rfl rfl ?_
                      refine xi_getfield (pc' := 16) (v := .ref 4) kc_119_13 rfl rfl rfl A3 rfl ?_
                      refine xi_aload_n (pc' := 17) (x := 1) kc_119_16 rfl rfl ?_
                      refine xi_getfield (pc' := 20) (v := .int u1) kc_119_17 rfl rfl rfl A3 rfl ?_
                      have A176 := xk_ex K.1 xD_4
                      obtain ⟨pt177, ept177, mpt177⟩ := xR_4 (i := u1) (by omega) (by omega)
                      refine xj_aaload (pc' := 21) (b := pt177) kc_119_20 rfl A176 rfl (xi_in (n := 10) (by omega) (by omega)) ept177 ?_
                      refine xi_astore (pc' := 23) (lv' := [(5, .ref pt177), (0, .ref 1), (1, .int a23), (2, .int a25), (3, .int a27), (4, .int a29)]) kc_119_21 rfl rfl (xm_lt ml_119 rfl) ?_
                      refine xi_aload (pc' := 25) (x := pt177) kc_119_23 rfl rfl ?_
                      refine xi_iload_n (pc' := 26) (x := a23) kc_119_25 rfl rfl ?_
                      obtain ⟨u178, u179, u180, u181, bu178, bu179, bu180, bu181, A182⟩ := xg_cause K.1 mpt177
                      obtain ⟨y183, A183, hy183, ry183⟩ := xk_arr K.1 xD_135
                      have HG184 : y183.getD (Int32.toNatClampNeg u1) 0 = u178 := xGR_ld (Lo := [some 53, some 54, some 55, some 56, some 57, some 58, some 59, some 60, some 61, some 62]) I.2.2.2.2.2.2.2.2.2.2.2.2.2.2.2.2.2.2.1 rfl ept177 (by omega) (by show _ < ((10 : Nat) : Int); omega) A182 rfl A183
                      have bHG184 : 0 ≤ u178.toInt ∧ u178.toInt ≤ 3 := by rw [← HG184]; exact ry183 _ (xj_nat (n := 10) (by omega) (by omega))
                      obtain ⟨y185, A185, hy185, ry185⟩ := xk_arr K.1 xD_136
                      have HG186 : y185.getD (Int32.toNatClampNeg u1) 0 = u179 := xGR_ld (Lo := [some 53, some 54, some 55, some 56, some 57, some 58, some 59, some 60, some 61, some 62]) I.2.2.2.2.2.2.2.2.2.2.2.2.2.2.2.2.2.2.2.1 rfl ept177 (by omega) (by show _ < ((10 : Nat) : Int); omega) A182 rfl A185
                      have bHG186 : 0 ≤ u179.toInt ∧ u179.toInt ≤ 11 := by rw [← HG186]; exact ry185 _ (xj_nat (n := 10) (by omega) (by omega))
                      obtain ⟨y187, A187, hy187, ry187⟩ := xk_arr K.1 xD_137
                      have HG188 : y187.getD (Int32.toNatClampNeg u1) 0 = u180 := xGR_ld (Lo := [some 53, some 54, some 55, some 56, some 57, some 58, some 59, some 60, some 61, some 62]) I.2.2.2.2.2.2.2.2.2.2.2.2.2.2.2.2.2.2.2.2.1 rfl ept177 (by omega) (by show _ < ((10 : Nat) : Int); omega) A182 rfl A187
                      have bHG188 : 0 ≤ u180.toInt ∧ u180.toInt ≤ 99 := by rw [← HG188]; exact ry187 _ (xj_nat (n := 10) (by omega) (by omega))
                      obtain ⟨y189, A189, hy189, ry189⟩ := xk_arr K.1 xD_138
                      have HG190 : y189.getD (Int32.toNatClampNeg u1) 0 = u181 := xGR_ld (Lo := [some 53, some 54, some 55, some 56, some 57, some 58, some 59, some 60, some 61, some 62]) I.2.2.2.2.2.2.2.2.2.2.2.2.2.2.2.2.2.2.2.2.2.1 rfl ept177 (by omega) (by show _ < ((10 : Nat) : Int); omega) A182 rfl A189
                      have bHG190 : (-2147483648) ≤ u181.toInt ∧ u181.toInt ≤ 2147483647 := by rw [← HG190]; exact ry189 _ (xj_nat (n := 10) (by omega) (by omega))
                      refine xi_putfield (pc' := 29) (fs' := [.int a23, .int u179, .int u180, .int u181]) kc_119_26 rfl rfl rfl A182 rfl rfl rfl (Nat.le_of_ble_eq_true rfl) rfl (fun hh192 eh191 => ?_)
                      obtain ⟨ds193, Dds193, dds193_0, dds193_1, dds193_2, dds193_3⟩ := xGo_cause mpt177
                      have K194 := xk_pf (k := 0) (v := a23) K (xk_gf mpt177 (by decide +kernel)) Dds193 A182 dds193_0 (by first | omega | decide) (by first | omega | decide) eh191 rfl
                      refine xi_aload (pc' := 31) (x := pt177) kc_119_29 rfl rfl ?_
                      refine xi_iload_n (pc' := 32) (x := a25) kc_119_31 rfl rfl ?_
                      refine xi_putfield (pc' := 35) (fs' := [.int a23, .int a25, .int u180, .int u181]) kc_119_32 rfl rfl rfl eh191.1 rfl rfl rfl (Nat.le_of_ble_eq_true rfl) rfl (fun hh196 eh195 => ?_)
                      obtain ⟨ds197, Dds197, dds197_0, dds197_1, dds197_2, dds197_3⟩ := xGo_cause mpt177
                      have K198 := xk_pf (k := 1) (v := a25) K194 (xk_gf mpt177 (by decide +kernel)) Dds197 eh191.1 dds197_1 (by first | omega | decide) (by first | omega | decide) eh195 rfl
                      refine xi_aload (pc' := 37) (x := pt177) kc_119_35 rfl rfl ?_
                      refine xi_iload_n (pc' := 38) (x := a27) kc_119_37 rfl rfl ?_
                      refine xi_putfield (pc' := 41) (fs' := [.int a23, .int a25, .int a27, .int u181]) kc_119_38 rfl rfl rfl eh195.1 rfl rfl rfl (Nat.le_of_ble_eq_true rfl) rfl (fun hh200 eh199 => ?_)
                      obtain ⟨ds201, Dds201, dds201_0, dds201_1, dds201_2, dds201_3⟩ := xGo_cause mpt177
                      have K202 := xk_pf (k := 2) (v := a27) K198 (xk_gf mpt177 (by decide +kernel)) Dds201 eh195.1 dds201_2 (by first | omega | decide) (by first | omega | decide) eh199 rfl
                      refine xi_aload (pc' := 43) (x := pt177) kc_119_41 rfl rfl ?_
                      refine xi_iload (pc' := 45) (x := a29) kc_119_43 rfl rfl ?_
                      refine xi_putfield (pc' := 48) (fs' := [.int a23, .int a25, .int a27, .int a29]) kc_119_45 rfl rfl rfl eh199.1 rfl rfl rfl (Nat.le_of_ble_eq_true rfl) rfl (fun hh204 eh203 => ?_)
                      obtain ⟨ds205, Dds205, dds205_0, dds205_1, dds205_2, dds205_3⟩ := xGo_cause mpt177
                      have K206 := xk_pf (k := 3) (v := a29) K202 (xk_gf mpt177 (by decide +kernel)) Dds205 eh199.1 dds205_3 (by first | omega | decide) (by first | omega | decide) eh203 rfl
                      refine xi_aload_n (pc' := 49) (x := 1) kc_119_48 rfl rfl ?_
                      refine xi_dup (pc' := 50) kc_119_49 rfl rfl ?_
                      have A207 := ((eh203.2.1 1 (xk_nc mpt177 rfl)).trans ((eh199.2.1 1 (xk_nc mpt177 rfl)).trans ((eh195.2.1 1 (xk_nc mpt177 rfl)).trans ((eh191.2.1 1 (xk_nc mpt177 rfl)).trans A3))))
                      refine xi_getfield (pc' := 53) (v := .int u1) kc_119_50 rfl rfl rfl A207 rfl ?_
                      refine xi_iconst (pc' := 54) (v := 1) kc_119_53 rfl rfl ?_
                      obtain ⟨v208, ev208⟩ : ∃ q : Int32, u1 + 1 = q := ⟨_, rfl⟩
                      have zv208 : v208.toInt = (u1.toInt + 1) := by rw [← ev208]; exact (xz_add (X := u1.toInt) (Y := 1) rfl (by decide) (by omega) (by omega)).trans (by omega)
                      refine xi_iadd (pc' := 55) (v := v208) kc_119_54 rfl ev208 ?_
                      refine xi_putfield (pc' := 58) (fs' := [.ref 2, .ref 3, .ref 4, .ref 5, .ref 8, .int v208, .int u2]) kc_119_55 rfl rfl rfl A207 rfl rfl rfl (Nat.le_of_ble_eq_true rfl) rfl (fun hh210 eh209 => ?_)
                      have K211 := xk_pf (k := 5) (v := v208) K206 (xk_wf (by decide +kernel)) xD_1 A207 rfl (by first | omega | decide) (by first | omega | decide) eh209 rfl
                      refine xi_aload_n (pc' := 59) (x := 1) kc_119_58 rfl rfl ?_
                      refine xi_getfield (pc' := 62) (v := .int v208) kc_119_59 rfl rfl rfl eh209.1 rfl ?_
                      refine xi_iconst (pc' := 63) (v := 1) kc_119_62 rfl rfl ?_
                      obtain ⟨v212, ev212⟩ : ∃ q : Int32, v208 - 1 = q := ⟨_, rfl⟩
                      have zv212 : v212.toInt = u1.toInt := by rw [← ev212]; exact (xz_sub (X := (u1.toInt + 1)) (Y := 1) zv208 (by decide) (by omega) (by omega)).trans (by omega)
                      refine xi_isub (pc' := 64) (v := v212) kc_119_63 rfl ev212 ?_
                      refine xi_ireturn kc_119_64 mr_119 rfl ?_
                      show xw J ov 99 116 (94, [(0, .ref 0), (1, .int a23), (2, .int a25), (3, .int a27), (4, .int a29)], [.int v212], hh210) _
                      refine xi_ireturn kc_116_94 mr_116 rfl ?_
                      show xw J ov 100 195 (679, [(4, .int x4), (3, .ref 167), (2, .ref 115), (1, .ref 0), (0, .ref 1000000)], [.int v212], hh210) _
                      refine xi_pop (pc' := 680) kc_195_679 rfl rfl ?_
                      refine xi_aload_n (pc' := 681) (x := 115) kc_195_680 rfl rfl ?_
                      refine xi_aload_n (pc' := 682) (x := 1000000) kc_195_681 rfl rfl ?_
                      refine xi_iload (pc' := 684) (x := x4) kc_195_682 rfl rfl ?_
                      refine xi_iconst (pc' := 685) (v := 1) kc_195_684 rfl rfl ?_
                      refine xi_iadd (pc' := 686) (v := v22) kc_195_685 rfl ev22 ?_
                      refine xi_ialoadO (pc' := 687) (v := a23) kc_195_686 rfl (by decide) hov0 (xi_in (by omega) (by omega)) ea23 ?_
                      refine xi_aload_n (pc' := 688) (x := 1000000) kc_195_687 rfl rfl ?_
                      refine xi_iload (pc' := 690) (x := x4) kc_195_688 rfl rfl ?_
                      refine xi_iconst (pc' := 691) (v := 2) kc_195_690 rfl rfl ?_
                      refine xi_iadd (pc' := 692) (v := v24) kc_195_691 rfl ev24 ?_
                      refine xi_ialoadO (pc' := 693) (v := a25) kc_195_692 rfl (by decide) hov0 (xi_in (by omega) (by omega)) ea25 ?_
                      refine xi_aload_n (pc' := 694) (x := 1000000) kc_195_693 rfl rfl ?_
                      refine xi_iload (pc' := 696) (x := x4) kc_195_694 rfl rfl ?_
                      refine xi_iconst (pc' := 697) (v := 3) kc_195_696 rfl rfl ?_
                      refine xi_iadd (pc' := 698) (v := v26) kc_195_697 rfl ev26 ?_
                      refine xi_ialoadO (pc' := 699) (v := a27) kc_195_698 rfl (by decide) hov0 (xi_in (by omega) (by omega)) ea27 ?_
                      refine xi_aload_n (pc' := 700) (x := 1000000) kc_195_699 rfl rfl ?_
                      refine xi_iload (pc' := 702) (x := x4) kc_195_700 rfl rfl ?_
                      refine xi_iconst (pc' := 703) (v := 4) kc_195_702 rfl rfl ?_
                      refine xi_iadd (pc' := 704) (v := v28) kc_195_703 rfl ev28 ?_
                      refine xi_ialoadO (pc' := 705) (v := a29) kc_195_704 rfl (by decide) hov0 (xi_in (by omega) (by omega)) ea29 ?_
                      have A213 := ((eh209.2.1 115 (by decide)).trans ((eh203.2.1 115 (xk_nc mpt177 rfl)).trans ((eh199.2.1 115 (xk_nc mpt177 rfl)).trans ((eh195.2.1 115 (xk_nc mpt177 rfl)).trans ((eh191.2.1 115 (xk_nc mpt177 rfl)).trans A17)))))
                      refine xi_virtual (mj := 32) (as := [.int a23, .int a25, .int a27, .int a29]) (st1 := []) (lv0 := [(0, .ref 115), (1, .int a23), (2, .int a25), (3, .int a27), (4, .int a29)]) kc_195_705 rfl rfl rfl rfl rfl A213 (Nat.le_of_ble_eq_true rfl) (hJ _ _ _ _ (by decide)) (xm_le ml_32 rfl) rfl ?_
                      refine xi_aload_n (pc' := 1) (x := 115) kc_32_0 rfl rfl ?_
                      refine xi_iconst (pc' := 2) (v := 0) kc_32_1 rfl rfl ?_
                      refine xi_putfield (pc' := 5) (fs' := [.int 0, .int u5, .ref 116, .ref 117, .ref 118, .ref 119, .ref 120, .ref 121, .ref 122, .ref 123, .ref 124, .ref 125, .ref 126, .ref 127, .ref 128, .ref 129, .int u6, .ref 130, .int u7, .ref 131, .ref 132, .ref 133, .ref 134, .int u1, .ref 135, .ref 136, .ref 137, .ref 138, .ref 139, .ref 140, .ref 141, .ref 142, .int u9, .int u10, .int u11, .ref 143, .ref 144, .ref 145, .ref 146, .ref 147, .ref 148, .int u12, .ref 149, .ref 150, .ref 151, .int u13, .ref 152, .ref 153, .ref 154, .ref 155, .ref 156, .ref 157, .ref 158, .ref 159, .int u14, .ref 160, .int u15, .ref 161, .ref 162, .ref 163, .ref 164, .int u16, .ref 165, .ref 166]) kc_32_2 rfl rfl rfl A213 rfl rfl rfl (Nat.le_of_ble_eq_true rfl) rfl (fun hh215 eh214 => ?_)
                      have K216 := xk_pf (k := 0) (v := 0) K211 (xk_wf (by decide +kernel)) xD_115 A213 rfl (by first | omega | decide) (by first | omega | decide) eh214 rfl
                      refine xi_iload_n (pc' := 6) (x := a23) kc_32_5 rfl rfl ?_
                      refine xi_iconst (pc' := 7) (v := 0) kc_32_6 rfl rfl ?_
                      refine xi_iconst (pc' := 8) (v := 3) kc_32_7 rfl rfl ?_
                      refine xi_static (mj := 11) (as := [.int a23, .int 0, .int 3]) (st1 := []) (lv0 := [(0, .int a23), (1, .int 0), (2, .int 3)]) kc_32_8 rfl rfl (Nat.le_of_ble_eq_true rfl) rfl rfl (Nat.le_of_ble_eq_true rfl) (hJ _ _ _ _ (by decide)) (xm_le ml_11 rfl) rfl ?_
                      refine xi_iload_n (pc' := 1) (x := a23) kc_11_0 rfl rfl ?_
                      refine xi_iload_n (pc' := 2) (x := 0) kc_11_1 rfl rfl ?_
                      refine xi_cmf (pc' := 5) kc_11_2 rfl (xc_lt_f (X := a23.toInt) (Y := 0) rfl (by decide) (by omega)) ?_
                      refine xi_iload_n (pc' := 6) (x := a23) kc_11_5 rfl rfl ?_
                      refine xi_iload_n (pc' := 7) (x := 3) kc_11_6 rfl rfl ?_
                      refine xi_cmf (pc' := 10) kc_11_7 rfl (xc_gt_f (X := a23.toInt) (Y := 3) rfl (by decide) (by omega)) ?_
                      refine xi_iconst (pc' := 11) (v := 1) kc_11_10 rfl rfl ?_
                      refine xi_goto (pc' := 15) kc_11_11 rfl ?_
                      refine xi_ireturn kc_11_15 mr_11 rfl ?_
                      show xw J ov 99 32 (11, [(0, .ref 115), (1, .int a23), (2, .int a25), (3, .int a27), (4, .int a29)], [.int 1], hh215) _
                      refine xi_ift (pc' := 21) kc_32_11 rfl rfl ?_
                      refine xi_iload_n (pc' := 22) (x := a23) kc_32_21 rfl rfl ?_
                      refine xi_iconst (pc' := 23) (v := 3) kc_32_22 rfl rfl ?_
                      refine xi_cmf (pc' := 26) kc_32_23 rfl (xc_ne_f (X := a23.toInt) (Y := 3) rfl (by decide) (by omega)) ?_
                      refine xi_iload_n (pc' := 27) (x := a25) kc_32_26 rfl rfl ?_
                      refine xi_static (mj := 10) (as := [.int a25]) (st1 := []) (lv0 := [(0, .int a25)]) kc_32_27 rfl rfl (Nat.le_of_ble_eq_true rfl) rfl rfl (Nat.le_of_ble_eq_true rfl) (hJ _ _ _ _ (by decide)) (xm_le ml_10 rfl) rfl ?_
                      refine xi_iload_n (pc' := 1) (x := a25) kc_10_0 rfl rfl ?_
                      refine xi_iconst (pc' := 2) (v := 0) kc_10_1 rfl rfl ?_
                      refine xi_iconst (pc' := 3) (v := 5) kc_10_2 rfl rfl ?_
                      refine xi_static (mj := 11) (as := [.int a25, .int 0, .int 5]) (st1 := []) (lv0 := [(0, .int a25), (1, .int 0), (2, .int 5)]) kc_10_3 rfl rfl (Nat.le_of_ble_eq_true rfl) rfl rfl (Nat.le_of_ble_eq_true rfl) (hJ _ _ _ _ (by decide)) (xm_le ml_11 rfl) rfl ?_
                      refine xi_iload_n (pc' := 1) (x := a25) kc_11_0 rfl rfl ?_
                      refine xi_iload_n (pc' := 2) (x := 0) kc_11_1 rfl rfl ?_
                      refine xi_cmf (pc' := 5) kc_11_2 rfl (xc_lt_f (X := a25.toInt) (Y := 0) rfl (by decide) (by omega)) ?_
                      refine xi_iload_n (pc' := 6) (x := a25) kc_11_5 rfl rfl ?_
                      refine xi_iload_n (pc' := 7) (x := 5) kc_11_6 rfl rfl ?_
                      refine xi_cmf (pc' := 10) kc_11_7 rfl (xc_gt_f (X := a25.toInt) (Y := 5) rfl (by decide) (by omega)) ?_
                      refine xi_iconst (pc' := 11) (v := 1) kc_11_10 rfl rfl ?_
                      refine xi_goto (pc' := 15) kc_11_11 rfl ?_
                      refine xi_ireturn kc_11_15 mr_11 rfl ?_
                      show xw J ov 98 10 (6, [(0, .int a25)], [.int 1], hh215) _
                      refine xi_ireturn kc_10_6 mr_10 rfl ?_
                      show xw J ov 99 32 (30, [(0, .ref 115), (1, .int a23), (2, .int a25), (3, .int a27), (4, .int a29)], [.int 1], hh215) _
                      refine xi_ift (pc' := 63) kc_32_30 rfl rfl ?_
                      refine xi_iload_n (pc' := 64) (x := a27) kc_32_63 rfl rfl ?_
                      refine xi_iconst (pc' := 65) (v := 1) kc_32_64 rfl rfl ?_
                      refine xi_cmf (pc' := 68) kc_32_65 rfl (xc_lt_f (X := a27.toInt) (Y := 1) rfl (by decide) (by omega)) ?_
                      refine xi_iload (pc' := 70) (x := a29) kc_32_68 rfl rfl ?_
                      refine xi_ift (pc' := 80) kc_32_70 rfl (xc_ge_t (X := a29.toInt) (Y := 0) rfl (by decide) (by omega)) ?_
                      refine xi_iload_n (pc' := 81) (x := a27) kc_32_80 rfl rfl ?_
                      refine xi_bipush (pc' := 83) (v := 99) kc_32_81 rfl rfl ?_
                      refine xi_cmf (pc' := 86) kc_32_83 rfl (xc_gt_f (X := a27.toInt) (Y := 99) rfl (by decide) (by omega)) ?_
                      refine xi_iload (pc' := 88) (x := a29) kc_32_86 rfl rfl ?_
                      refine xi_sipush (pc' := 91) (v := 600) kc_32_88 rfl rfl ?_
                      refine xi_cmf (pc' := 94) kc_32_91 rfl (xc_gt_f (X := a29.toInt) (Y := 600) rfl (by decide) (by omega)) ?_
                      refine xi_aload_n (pc' := 95) (x := 115) kc_32_94 rfl rfl ?_
                      refine xi_getfield (pc' := 98) (v := .int u1) kc_32_95 rfl rfl rfl eh214.1 rfl ?_
                      refine xi_bipush (pc' := 100) (v := 10) kc_32_98 rfl rfl ?_
                      refine xi_cmt (pc' := 110) kc_32_100 rfl (xc_ne_t (X := u1.toInt) (Y := 10) rfl (by decide) (by omega)) ?_
                      refine xi_aload_n (pc' := 111) (x := 115) kc_32_110 rfl rfl ?_
                      refine xi_getfield (pc' := 114) (v := .ref 135) kc_32_111 rfl rfl rfl eh214.1 rfl ?_
                      refine xi_aload_n (pc' := 115) (x := 115) kc_32_114 rfl rfl ?_
                      refine xi_getfield (pc' := 118) (v := .int u1) kc_32_115 rfl rfl rfl eh214.1 rfl ?_
                      refine xi_iload_n (pc' := 119) (x := a23) kc_32_118 rfl rfl ?_
                      have A217 := ((eh214.2.1 135 (by decide)).trans ((eh209.2.1 135 (by decide)).trans ((eh203.2.1 135 (xk_nc mpt177 rfl)).trans ((eh199.2.1 135 (xk_nc mpt177 rfl)).trans ((eh195.2.1 135 (xk_nc mpt177 rfl)).trans ((eh191.2.1 135 (xk_nc mpt177 rfl)).trans A183))))))
                      obtain ⟨y218, s218, hy218, ry218⟩ := xj_set (v := a23) hy183 ry183 u1 (by first | omega | decide) (by first | omega | decide)
                      refine xi_iastore (pc' := 120) (x' := y218) kc_32_119 rfl A217 rfl (xi_in (by omega) (by rw [hy183]; omega)) s218 (fun hh218 eh218 => ?_)
                      have K219 := xk_pa K216 (xk_wa (by decide +kernel)) xD_135 hy218 ry218 eh218
                      refine xi_aload_n (pc' := 121) (x := 115) kc_32_120 rfl rfl ?_
                      have A220 := ((eh218.2.1 115 (by decide)).trans eh214.1)
                      refine xi_getfield (pc' := 124) (v := .ref 136) kc_32_121 rfl rfl rfl A220 rfl ?_
                      refine xi_aload_n (pc' := 125) (x := 115) kc_32_124 rfl rfl ?_
                      refine xi_getfield (pc' := 128) (v := .int u1) kc_32_125 rfl rfl rfl A220 rfl ?_
                      refine xi_iload_n (pc' := 129) (x := a25) kc_32_128 rfl rfl ?_
                      have A221 := ((eh218.2.1 136 (by decide)).trans ((eh214.2.1 136 (by decide)).trans ((eh209.2.1 136 (by decide)).trans ((eh203.2.1 136 (xk_nc mpt177 rfl)).trans ((eh199.2.1 136 (xk_nc mpt177 rfl)).trans ((eh195.2.1 136 (xk_nc mpt177 rfl)).trans ((eh191.2.1 136 (xk_nc mpt177 rfl)).trans A185)))))))
                      obtain ⟨y222, s222, hy222, ry222⟩ := xj_set (v := a25) hy185 ry185 u1 (by first | omega | decide) (by first | omega | decide)
                      refine xi_iastore (pc' := 130) (x' := y222) kc_32_129 rfl A221 rfl (xi_in (by omega) (by rw [hy185]; omega)) s222 (fun hh222 eh222 => ?_)
                      have K223 := xk_pa K219 (xk_wa (by decide +kernel)) xD_136 hy222 ry222 eh222
                      refine xi_aload_n (pc' := 131) (x := 115) kc_32_130 rfl rfl ?_
                      have A224 := ((eh222.2.1 115 (by decide)).trans A220)
                      refine xi_getfield (pc' := 134) (v := .ref 137) kc_32_131 rfl rfl rfl A224 rfl ?_
                      refine xi_aload_n (pc' := 135) (x := 115) kc_32_134 rfl rfl ?_
                      refine xi_getfield (pc' := 138) (v := .int u1) kc_32_135 rfl rfl rfl A224 rfl ?_
                      refine xi_iload_n (pc' := 139) (x := a27) kc_32_138 rfl rfl ?_
                      have A225 := ((eh222.2.1 137 (by decide)).trans ((eh218.2.1 137 (by decide)).trans ((eh214.2.1 137 (by decide)).trans ((eh209.2.1 137 (by decide)).trans ((eh203.2.1 137 (xk_nc mpt177 rfl)).trans ((eh199.2.1 137 (xk_nc mpt177 rfl)).trans ((eh195.2.1 137 (xk_nc mpt177 rfl)).trans ((eh191.2.1 137 (xk_nc mpt177 rfl)).trans A187))))))))
                      obtain ⟨y226, s226, hy226, ry226⟩ := xj_set (v := a27) hy187 ry187 u1 (by first | omega | decide) (by first | omega | decide)
                      refine xi_iastore (pc' := 140) (x' := y226) kc_32_139 rfl A225 rfl (xi_in (by omega) (by rw [hy187]; omega)) s226 (fun hh226 eh226 => ?_)
                      have K227 := xk_pa K223 (xk_wa (by decide +kernel)) xD_137 hy226 ry226 eh226
                      refine xi_aload_n (pc' := 141) (x := 115) kc_32_140 rfl rfl ?_
                      have A228 := ((eh226.2.1 115 (by decide)).trans A224)
                      refine xi_getfield (pc' := 144) (v := .ref 138) kc_32_141 rfl rfl rfl A228 rfl ?_
                      refine xi_aload_n (pc' := 145) (x := 115) kc_32_144 rfl rfl ?_
                      refine xi_getfield (pc' := 148) (v := .int u1) kc_32_145 rfl rfl rfl A228 rfl ?_
                      refine xi_iload (pc' := 150) (x := a29) kc_32_148 rfl rfl ?_
                      have A229 := ((eh226.2.1 138 (by decide)).trans ((eh222.2.1 138 (by decide)).trans ((eh218.2.1 138 (by decide)).trans ((eh214.2.1 138 (by decide)).trans ((eh209.2.1 138 (by decide)).trans ((eh203.2.1 138 (xk_nc mpt177 rfl)).trans ((eh199.2.1 138 (xk_nc mpt177 rfl)).trans ((eh195.2.1 138 (xk_nc mpt177 rfl)).trans ((eh191.2.1 138 (xk_nc mpt177 rfl)).trans A189)))))))))
                      obtain ⟨y230, s230, hy230, ry230⟩ := xj_set (v := a29) hy189 ry189 u1 (by first | omega | decide) (by first | omega | decide)
                      refine xi_iastore (pc' := 151) (x' := y230) kc_32_150 rfl A229 rfl (xi_in (by omega) (by rw [hy189]; omega)) s230 (fun hh230 eh230 => ?_)
                      have K231 := xk_pa K227 (xk_wa (by decide +kernel)) xD_138 hy230 ry230 eh230
                      refine xi_aload_n (pc' := 152) (x := 115) kc_32_151 rfl rfl ?_
                      have A232 := ((eh230.2.1 115 (by decide)).trans A228)
                      refine xi_getfield (pc' := 155) (v := .ref 139) kc_32_152 rfl rfl rfl A232 rfl ?_
                      refine xi_aload_n (pc' := 156) (x := 115) kc_32_155 rfl rfl ?_
                      refine xi_getfield (pc' := 159) (v := .int u1) kc_32_156 rfl rfl rfl A232 rfl ?_
                      refine xi_iconst (pc' := 160) (v := 0) kc_32_159 rfl rfl ?_
                      have A233 := ((eh230.2.1 139 (by decide)).trans ((eh226.2.1 139 (by decide)).trans ((eh222.2.1 139 (by decide)).trans ((eh218.2.1 139 (by decide)).trans ((eh214.2.1 139 (by decide)).trans ((eh209.2.1 139 (by decide)).trans ((eh203.2.1 139 (xk_nc mpt177 rfl)).trans ((eh199.2.1 139 (xk_nc mpt177 rfl)).trans ((eh195.2.1 139 (xk_nc mpt177 rfl)).trans ((eh191.2.1 139 (xk_nc mpt177 rfl)).trans A21))))))))))
                      obtain ⟨y234, s234, hy234, ry234⟩ := xj_set (v := 0) hy21 ry21 u1 (by first | omega | decide) (by first | omega | decide)
                      refine xi_bastore (pc' := 161) (x' := y234) kc_32_160 rfl A233 rfl (xi_in (by omega) (by rw [hy21]; omega)) s234 (fun hh234 eh234 => ?_)
                      have K235 := xk_pa K231 (xk_wa (by decide +kernel)) xD_139 hy234 ry234 eh234
                      refine xi_aload_n (pc' := 162) (x := 115) kc_32_161 rfl rfl ?_
                      refine xi_dup (pc' := 163) kc_32_162 rfl rfl ?_
                      have A236 := ((eh234.2.1 115 (by decide)).trans A232)
                      refine xi_getfield (pc' := 166) (v := .int u1) kc_32_163 rfl rfl rfl A236 rfl ?_
                      refine xi_iconst (pc' := 167) (v := 1) kc_32_166 rfl rfl ?_
                      refine xi_iadd (pc' := 168) (v := v208) kc_32_167 rfl ev208 ?_
                      refine xi_putfield (pc' := 171) (fs' := [.int 0, .int u5, .ref 116, .ref 117, .ref 118, .ref 119, .ref 120, .ref 121, .ref 122, .ref 123, .ref 124, .ref 125, .ref 126, .ref 127, .ref 128, .ref 129, .int u6, .ref 130, .int u7, .ref 131, .ref 132, .ref 133, .ref 134, .int v208, .ref 135, .ref 136, .ref 137, .ref 138, .ref 139, .ref 140, .ref 141, .ref 142, .int u9, .int u10, .int u11, .ref 143, .ref 144, .ref 145, .ref 146, .ref 147, .ref 148, .int u12, .ref 149, .ref 150, .ref 151, .int u13, .ref 152, .ref 153, .ref 154, .ref 155, .ref 156, .ref 157, .ref 158, .ref 159, .int u14, .ref 160, .int u15, .ref 161, .ref 162, .ref 163, .ref 164, .int u16, .ref 165, .ref 166]) kc_32_168 rfl rfl rfl A236 rfl rfl rfl (Nat.le_of_ble_eq_true rfl) rfl (fun hh238 eh237 => ?_)
                      have K239 := xk_pf (k := 23) (v := v208) K235 (xk_wf (by decide +kernel)) xD_115 A236 rfl (by first | omega | decide) (by first | omega | decide) eh237 rfl
                      refine xi_aload_n (pc' := 172) (x := 115) kc_32_171 rfl rfl ?_
                      refine xi_iconst (pc' := 173) (v := 0) kc_32_172 rfl rfl ?_
                      refine xi_putfield (pc' := 176) (fs' := [.int 0, .int u5, .ref 116, .ref 117, .ref 118, .ref 119, .ref 120, .ref 121, .ref 122, .ref 123, .ref 124, .ref 125, .ref 126, .ref 127, .ref 128, .ref 129, .int u6, .ref 130, .int u7, .ref 131, .ref 132, .ref 133, .ref 134, .int v208, .ref 135, .ref 136, .ref 137, .ref 138, .ref 139, .ref 140, .ref 141, .ref 142, .int u9, .int u10, .int u11, .ref 143, .ref 144, .ref 145, .ref 146, .ref 147, .ref 148, .int 0, .ref 149, .ref 150, .ref 151, .int u13, .ref 152, .ref 153, .ref 154, .ref 155, .ref 156, .ref 157, .ref 158, .ref 159, .int u14, .ref 160, .int u15, .ref 161, .ref 162, .ref 163, .ref 164, .int u16, .ref 165, .ref 166]) kc_32_173 rfl rfl rfl eh237.1 rfl rfl rfl (Nat.le_of_ble_eq_true rfl) rfl (fun hh241 eh240 => ?_)
                      have K242 := xk_pf (k := 41) (v := 0) K239 (xk_wf (by decide +kernel)) xD_115 eh237.1 rfl (by first | omega | decide) (by first | omega | decide) eh240 rfl
                      refine xi_aload_n (pc' := 177) (x := 115) kc_32_176 rfl rfl ?_
                      refine xi_getfield (pc' := 180) (v := .int v208) kc_32_177 rfl rfl rfl eh240.1 rfl ?_
                      refine xi_iconst (pc' := 181) (v := 1) kc_32_180 rfl rfl ?_
                      refine xi_isub (pc' := 182) (v := v212) kc_32_181 rfl ev212 ?_
                      refine xi_ireturn kc_32_182 mr_32 rfl ?_
                      show xw J ov 100 195 (708, [(4, .int x4), (3, .ref 167), (2, .ref 115), (1, .ref 0), (0, .ref 1000000)], [.int v212], hh241) _
                      refine xi_pop (pc' := 709) kc_195_708 rfl rfl ?_
                      refine xi_goto (pc' := 1501) kc_195_709 rfl ?_
                      obtain ⟨v243, ev243⟩ : ∃ q : Int32, x4 + 6 = q := ⟨_, rfl⟩
                      have zv243 : v243.toInt = (x4.toInt + 6) := by rw [← ev243]; exact (xz_add (X := x4.toInt) (Y := 6) rfl (by decide) (by omega) (by omega)).trans (by omega)
                      refine xi_iinc (pc' := 1504) (x := x4) (v := v243) (lv' := [(4, .int v243), (3, .ref 167), (2, .ref 115), (1, .ref 0), (0, .ref 1000000)]) kc_195_1501 rfl rfl ev243 rfl (xm_lt ml_195 rfl) ?_
                      refine xi_goto (pc' := 23) kc_195_1504 rfl ?_
                      have A244 := ((eh240.2.1 1 (by decide)).trans ((eh237.2.1 1 (by decide)).trans ((eh234.2.1 1 (by decide)).trans ((eh230.2.1 1 (by decide)).trans ((eh226.2.1 1 (by decide)).trans ((eh222.2.1 1 (by decide)).trans ((eh218.2.1 1 (by decide)).trans ((eh214.2.1 1 (by decide)).trans eh209.1))))))))
                      have A245 := ((eh240.2.1 pt177 (Ne.symm (xk_nc mpt177 rfl))).trans ((eh237.2.1 pt177 (Ne.symm (xk_nc mpt177 rfl))).trans ((eh234.2.1 pt177 (Ne.symm (xk_nc mpt177 rfl))).trans ((eh230.2.1 pt177 (Ne.symm (xk_nc mpt177 rfl))).trans ((eh226.2.1 pt177 (Ne.symm (xk_nc mpt177 rfl))).trans ((eh222.2.1 pt177 (Ne.symm (xk_nc mpt177 rfl))).trans ((eh218.2.1 pt177 (Ne.symm (xk_nc mpt177 rfl))).trans ((eh214.2.1 pt177 (Ne.symm (xk_nc mpt177 rfl))).trans ((eh209.2.1 pt177 (Ne.symm (xk_nc mpt177 rfl))).trans eh203.1)))))))))
                      have A246 := ((eh240.2.1 135 (by decide)).trans ((eh237.2.1 135 (by decide)).trans ((eh234.2.1 135 (by decide)).trans ((eh230.2.1 135 (by decide)).trans ((eh226.2.1 135 (by decide)).trans ((eh222.2.1 135 (by decide)).trans eh218.1))))))
                      have A247 := ((eh240.2.1 136 (by decide)).trans ((eh237.2.1 136 (by decide)).trans ((eh234.2.1 136 (by decide)).trans ((eh230.2.1 136 (by decide)).trans ((eh226.2.1 136 (by decide)).trans eh222.1)))))
                      have A248 := ((eh240.2.1 137 (by decide)).trans ((eh237.2.1 137 (by decide)).trans ((eh234.2.1 137 (by decide)).trans ((eh230.2.1 137 (by decide)).trans eh226.1))))
                      have A249 := ((eh240.2.1 138 (by decide)).trans ((eh237.2.1 138 (by decide)).trans ((eh234.2.1 138 (by decide)).trans eh230.1)))
                      have A250 := ((eh240.2.1 63 (by decide)).trans ((eh237.2.1 63 (by decide)).trans ((eh234.2.1 63 (by decide)).trans ((eh230.2.1 63 (by decide)).trans ((eh226.2.1 63 (by decide)).trans ((eh222.2.1 63 (by decide)).trans ((eh218.2.1 63 (by decide)).trans ((eh214.2.1 63 (by decide)).trans ((eh209.2.1 63 (by decide)).trans ((eh203.2.1 63 (xk_nc mpt177 rfl)).trans ((eh199.2.1 63 (xk_nc mpt177 rfl)).trans ((eh195.2.1 63 (xk_nc mpt177 rfl)).trans ((eh191.2.1 63 (xk_nc mpt177 rfl)).trans A20)))))))))))))
                      have A251 := ((eh240.2.1 139 (by decide)).trans ((eh237.2.1 139 (by decide)).trans eh234.1))
                      exact kk v243 hh241 (by omega) K242 ⟨((K242.2.1 (0, 9) (by decide +kernel)).trans (I.1.trans (K242.2.1 (115, 1) (by decide +kernel)).symm)), (xWW_fr I.2.1 (K242.2.1 (64, 0) (by decide +kernel)) (K242.2.1 (121, 0) (by decide +kernel))), (xSG_fr I.2.2.1 (fun l hl => K242.2.1 l (xk_el (by decide +kernel) hl))), (by rw [(K242.2.1 (13, 0) (by decide +kernel)), (K242.2.1 (122, 0) (by decide +kernel))]; exact I.2.2.2.1), (by rw [(K242.2.1 (16, 0) (by decide +kernel)), (K242.2.1 (122, 0) (by decide +kernel))]; exact I.2.2.2.2.1), (by rw [(K242.2.1 (19, 0) (by decide +kernel)), (K242.2.1 (122, 0) (by decide +kernel))]; exact I.2.2.2.2.2.1), (by rw [(K242.2.1 (22, 0) (by decide +kernel)), (K242.2.1 (122, 0) (by decide +kernel))]; exact I.2.2.2.2.2.2.1), (by rw [(K242.2.1 (25, 0) (by decide +kernel)), (K242.2.1 (122, 0) (by decide +kernel))]; exact I.2.2.2.2.2.2.2.1), (by rw [(K242.2.1 (28, 0) (by decide +kernel)), (K242.2.1 (122, 0) (by decide +kernel))]; exact I.2.2.2.2.2.2.2.2.1), (by rw [(K242.2.1 (6, 0) (by decide +kernel)), (K242.2.1 (123, 0) (by decide +kernel))]; exact I.2.2.2.2.2.2.2.2.2.1), (by rw [(K242.2.1 (9, 0) (by decide +kernel)), (K242.2.1 (124, 0) (by decide +kernel))]; exact I.2.2.2.2.2.2.2.2.2.2.1), (by rw [(K242.2.1 (7, 0) (by decide +kernel)), (K242.2.1 (6, 0) (by decide +kernel))]; exact I.2.2.2.2.2.2.2.2.2.2.2.1), (by rw [(K242.2.1 (10, 0) (by decide +kernel)), (K242.2.1 (9, 0) (by decide +kernel))]; exact I.2.2.2.2.2.2.2.2.2.2.2.2.1), ((K242.2.1 (5, 0) (by decide +kernel)).trans I.2.2.2.2.2.2.2.2.2.2.2.2.2.1), ((K242.2.1 (8, 0) (by decide +kernel)).trans I.2.2.2.2.2.2.2.2.2.2.2.2.2.2.1), (xGR_kept I.2.2.2.2.2.2.2.2.2.2.2.2.2.2.2.1 (fun c hc => ((eh240.2.1 c (Ne.symm (xk_nc hc rfl))).trans ((eh237.2.1 c (Ne.symm (xk_nc hc rfl))).trans ((eh234.2.1 c (Ne.symm (xk_nc hc rfl))).trans ((eh230.2.1 c (Ne.symm (xk_nc hc rfl))).trans ((eh226.2.1 c (Ne.symm (xk_nc hc rfl))).trans ((eh222.2.1 c (Ne.symm (xk_nc hc rfl))).trans ((eh218.2.1 c (Ne.symm (xk_nc hc rfl))).trans ((eh214.2.1 c (Ne.symm (xk_nc hc rfl))).trans ((eh209.2.1 c (Ne.symm (xk_nc hc rfl))).trans ((eh203.2.1 c (xk_nn hc mpt177 rfl)).trans ((eh199.2.1 c (xk_nn hc mpt177 rfl)).trans ((eh195.2.1 c (xk_nn hc mpt177 rfl)).trans (eh191.2.1 c (xk_nn hc mpt177 rfl))))))))))))))) ((eh240.2.1 125 (by decide)).trans ((eh237.2.1 125 (by decide)).trans ((eh234.2.1 125 (by decide)).trans ((eh230.2.1 125 (by decide)).trans ((eh226.2.1 125 (by decide)).trans ((eh222.2.1 125 (by decide)).trans ((eh218.2.1 125 (by decide)).trans ((eh214.2.1 125 (by decide)).trans ((eh209.2.1 125 (by decide)).trans ((eh203.2.1 125 (xk_nc mpt177 rfl)).trans ((eh199.2.1 125 (xk_nc mpt177 rfl)).trans ((eh195.2.1 125 (xk_nc mpt177 rfl)).trans (eh191.2.1 125 (xk_nc mpt177 rfl))))))))))))))), (xGR_kept I.2.2.2.2.2.2.2.2.2.2.2.2.2.2.2.2.1 (fun c hc => ((eh240.2.1 c (Ne.symm (xk_nc hc rfl))).trans ((eh237.2.1 c (Ne.symm (xk_nc hc rfl))).trans ((eh234.2.1 c (Ne.symm (xk_nc hc rfl))).trans ((eh230.2.1 c (Ne.symm (xk_nc hc rfl))).trans ((eh226.2.1 c (Ne.symm (xk_nc hc rfl))).trans ((eh222.2.1 c (Ne.symm (xk_nc hc rfl))).trans ((eh218.2.1 c (Ne.symm (xk_nc hc rfl))).trans ((eh214.2.1 c (Ne.symm (xk_nc hc rfl))).trans ((eh209.2.1 c (Ne.symm (xk_nc hc rfl))).trans ((eh203.2.1 c (xk_nn hc mpt177 rfl)).trans ((eh199.2.1 c (xk_nn hc mpt177 rfl)).trans ((eh195.2.1 c (xk_nn hc mpt177 rfl)).trans (eh191.2.1 c (xk_nn hc mpt177 rfl))))))))))))))) ((eh240.2.1 127 (by decide)).trans ((eh237.2.1 127 (by decide)).trans ((eh234.2.1 127 (by decide)).trans ((eh230.2.1 127 (by decide)).trans ((eh226.2.1 127 (by decide)).trans ((eh222.2.1 127 (by decide)).trans ((eh218.2.1 127 (by decide)).trans ((eh214.2.1 127 (by decide)).trans ((eh209.2.1 127 (by decide)).trans ((eh203.2.1 127 (xk_nc mpt177 rfl)).trans ((eh199.2.1 127 (xk_nc mpt177 rfl)).trans ((eh195.2.1 127 (xk_nc mpt177 rfl)).trans (eh191.2.1 127 (xk_nc mpt177 rfl))))))))))))))), ((xl_of A244 rfl).trans (xl_of eh240.1 rfl).symm), (xGR_set (Lo := [some 53, some 54, some 55, some 56, some 57, some 58, some 59, some 60, some 61, some 62]) I.2.2.2.2.2.2.2.2.2.2.2.2.2.2.2.2.2.2.1 (by decide) rfl ept177 (by omega) (by show _ < ((10 : Nat) : Int); omega) A183 (by rw [hy183]; decide) A245 rfl A246 s218 (fun c hc hne => ((eh240.2.1 c (Ne.symm (xk_nc hc rfl))).trans ((eh237.2.1 c (Ne.symm (xk_nc hc rfl))).trans ((eh234.2.1 c (Ne.symm (xk_nc hc rfl))).trans ((eh230.2.1 c (Ne.symm (xk_nc hc rfl))).trans ((eh226.2.1 c (Ne.symm (xk_nc hc rfl))).trans ((eh222.2.1 c (Ne.symm (xk_nc hc rfl))).trans ((eh218.2.1 c (Ne.symm (xk_nc hc rfl))).trans ((eh214.2.1 c (Ne.symm (xk_nc hc rfl))).trans ((eh209.2.1 c (Ne.symm (xk_nc hc rfl))).trans ((eh203.2.1 c hne).trans ((eh199.2.1 c hne).trans ((eh195.2.1 c hne).trans (eh191.2.1 c hne))))))))))))))), (xGR_set (Lo := [some 53, some 54, some 55, some 56, some 57, some 58, some 59, some 60, some 61, some 62]) I.2.2.2.2.2.2.2.2.2.2.2.2.2.2.2.2.2.2.2.1 (by decide) rfl ept177 (by omega) (by show _ < ((10 : Nat) : Int); omega) A185 (by rw [hy185]; decide) A245 rfl A247 s222 (fun c hc hne => ((eh240.2.1 c (Ne.symm (xk_nc hc rfl))).trans ((eh237.2.1 c (Ne.symm (xk_nc hc rfl))).trans ((eh234.2.1 c (Ne.symm (xk_nc hc rfl))).trans ((eh230.2.1 c (Ne.symm (xk_nc hc rfl))).trans ((eh226.2.1 c (Ne.symm (xk_nc hc rfl))).trans ((eh222.2.1 c (Ne.symm (xk_nc hc rfl))).trans ((eh218.2.1 c (Ne.symm (xk_nc hc rfl))).trans ((eh214.2.1 c (Ne.symm (xk_nc hc rfl))).trans ((eh209.2.1 c (Ne.symm (xk_nc hc rfl))).trans ((eh203.2.1 c hne).trans ((eh199.2.1 c hne).trans ((eh195.2.1 c hne).trans (eh191.2.1 c hne))))))))))))))), (xGR_set (Lo := [some 53, some 54, some 55, some 56, some 57, some 58, some 59, some 60, some 61, some 62]) I.2.2.2.2.2.2.2.2.2.2.2.2.2.2.2.2.2.2.2.2.1 (by decide) rfl ept177 (by omega) (by show _ < ((10 : Nat) : Int); omega) A187 (by rw [hy187]; decide) A245 rfl A248 s226 (fun c hc hne => ((eh240.2.1 c (Ne.symm (xk_nc hc rfl))).trans ((eh237.2.1 c (Ne.symm (xk_nc hc rfl))).trans ((eh234.2.1 c (Ne.symm (xk_nc hc rfl))).trans ((eh230.2.1 c (Ne.symm (xk_nc hc rfl))).trans ((eh226.2.1 c (Ne.symm (xk_nc hc rfl))).trans ((eh222.2.1 c (Ne.symm (xk_nc hc rfl))).trans ((eh218.2.1 c (Ne.symm (xk_nc hc rfl))).trans ((eh214.2.1 c (Ne.symm (xk_nc hc rfl))).trans ((eh209.2.1 c (Ne.symm (xk_nc hc rfl))).trans ((eh203.2.1 c hne).trans ((eh199.2.1 c hne).trans ((eh195.2.1 c hne).trans (eh191.2.1 c hne))))))))))))))), (xGR_set (Lo := [some 53, some 54, some 55, some 56, some 57, some 58, some 59, some 60, some 61, some 62]) I.2.2.2.2.2.2.2.2.2.2.2.2.2.2.2.2.2.2.2.2.2.1 (by decide) rfl ept177 (by omega) (by show _ < ((10 : Nat) : Int); omega) A189 (by rw [hy189]; decide) A245 rfl A249 s230 (fun c hc hne => ((eh240.2.1 c (Ne.symm (xk_nc hc rfl))).trans ((eh237.2.1 c (Ne.symm (xk_nc hc rfl))).trans ((eh234.2.1 c (Ne.symm (xk_nc hc rfl))).trans ((eh230.2.1 c (Ne.symm (xk_nc hc rfl))).trans ((eh226.2.1 c (Ne.symm (xk_nc hc rfl))).trans ((eh222.2.1 c (Ne.symm (xk_nc hc rfl))).trans ((eh218.2.1 c (Ne.symm (xk_nc hc rfl))).trans ((eh214.2.1 c (Ne.symm (xk_nc hc rfl))).trans ((eh209.2.1 c (Ne.symm (xk_nc hc rfl))).trans ((eh203.2.1 c hne).trans ((eh199.2.1 c hne).trans ((eh195.2.1 c hne).trans (eh191.2.1 c hne))))))))))))))), (xB_mk A250 A251 A244 rfl rfl (xB_new (on := 0) H22 (by first | omega | decide) (by first | omega | decide) (by omega) (by omega) hy21 s234 (by decide))), ((K242.2.1 (0, 8) (by decide +kernel)).trans (I.2.2.2.2.2.2.2.2.2.2.2.2.2.2.2.2.2.2.2.2.2.2.2.1.trans (K242.2.1 (115, 34) (by decide +kernel)).symm)), (xGR_fr I.2.2.2.2.2.2.2.2.2.2.2.2.2.2.2.2.2.2.2.2.2.2.2.2.1 K242.2.1 (by decide +kernel) (by decide +kernel)), (xGR_fr I.2.2.2.2.2.2.2.2.2.2.2.2.2.2.2.2.2.2.2.2.2.2.2.2.2.1 K242.2.1 (by decide +kernel) (by decide +kernel)), (xGR_fr I.2.2.2.2.2.2.2.2.2.2.2.2.2.2.2.2.2.2.2.2.2.2.2.2.2.2.1 K242.2.1 (by decide +kernel) (by decide +kernel)), (xGR_fr I.2.2.2.2.2.2.2.2.2.2.2.2.2.2.2.2.2.2.2.2.2.2.2.2.2.2.2.1 K242.2.1 (by decide +kernel) (by decide +kernel)), (xts_fr I.2.2.2.2.2.2.2.2.2.2.2.2.2.2.2.2.2.2.2.2.2.2.2.2.2.2.2.2.1 (fun l hl => K242.2.1 l (xk_el (by decide +kernel) hl))), ((K242.2.1 (63, 3) (by decide +kernel)).trans I.2.2.2.2.2.2.2.2.2.2.2.2.2.2.2.2.2.2.2.2.2.2.2.2.2.2.2.2.2)⟩
                    · refine xi_cmf (pc' := 75) kc_116_72 rfl (xc_lt_f (X := u1.toInt) (Y := 10) rfl (by decide) (by omega)) ?_
                      refine xi_aload_n (pc' := 76) (x := 0) kc_116_75 rfl rfl ?_
                      refine xi_bipush (pc' := 78) (v := (-6)) kc_116_76 rfl rfl ?_
                      refine xi_virtual (mj := 90) (as := [.int (-6)]) (st1 := []) (lv0 := [(0, .ref 0), (1, .int (-6))]) kc_116_78 rfl rfl rfl rfl rfl A32 (Nat.le_of_ble_eq_true rfl) (hJ _ _ _ _ (by decide)) (xm_le ml_90 rfl) rfl ?_
                      refine xi_iload_n (pc' := 1) (x := (-6)) kc_90_0 rfl rfl ?_
                      refine xi_ineg (pc' := 2) (v := 6) kc_90_1 rfl rfl ?_
                      refine xi_istore_n (pc' := 3) (lv' := [(2, .int 6), (0, .ref 0), (1, .int (-6))]) kc_90_2 rfl rfl (xm_lt ml_90 rfl) ?_
                      refine xi_iload_n (pc' := 4) (x := 6) kc_90_3 rfl rfl ?_
                      refine xi_iff (pc' := 7) kc_90_4 rfl rfl ?_
                      refine xi_iload_n (pc' := 8) (x := 6) kc_90_7 rfl rfl ?_
                      refine xi_aload_n (pc' := 9) (x := 0) kc_90_8 rfl rfl ?_
                      refine xi_getfield (pc' := 12) (v := .ref 94) kc_90_9 rfl rfl rfl A32 rfl ?_
                      obtain ⟨y252, A252, hy252, ry252⟩ := xk_arr K.1 xD_94
                      refine xi_arraylength (pc' := 13) (n := 7) (v := 7) kc_90_12 rfl (xl_lenI (by decide) (by decide) A252 hy252) rfl ?_
                      refine xi_cmf (pc' := 16) kc_90_13 rfl rfl ?_
                      refine xi_aload_n (pc' := 17) (x := 0) kc_90_16 rfl rfl ?_
                      refine xi_getfield (pc' := 20) (v := .ref 94) kc_90_17 rfl rfl rfl A32 rfl ?_
                      refine xi_iload_n (pc' := 21) (x := 6) kc_90_20 rfl rfl ?_
                      refine xi_dup2 (pc' := 22) kc_90_21 rfl ⟨rfl, rfl⟩ ?_
                      obtain ⟨v253, ev253, bv253, dv253⟩ := xj_get hy252 ry252 (i := 6) (by decide) (by decide)
                      refine xi_iaload (pc' := 23) (v := v253) kc_90_22 rfl A252 (by decide) rfl (xi_in (by decide) (by rw [hy252]; decide)) ev253 ?_
                      refine xi_iconst (pc' := 24) (v := 1) kc_90_23 rfl rfl ?_
                      obtain ⟨v254, ev254⟩ : ∃ q : Int32, (v253 : Int32) + 1 = q := ⟨_, rfl⟩
                      have rv254 := xc_rng v254
                      refine xi_iadd (pc' := 25) (v := v254) kc_90_24 rfl ev254 ?_
                      obtain ⟨y255, s255, hy255, ry255⟩ := xj_set (v := v254) hy252 ry252 6 (by first | omega | decide) (by first | omega | decide)
                      refine xi_iastore (pc' := 26) (x' := y255) kc_90_25 rfl A252 rfl (xi_in (by decide) (by rw [hy252]; decide)) s255 (fun hh255 eh255 => ?_)
                      have K256 := xk_pa K (xk_wa (by decide +kernel)) xD_94 hy255 ry255 eh255
                      have KR257 := xk_pa KR (xk_wa (by decide +kernel)) xD_94 hy255 ry255 eh255
                      refine xi_iload_n (pc' := 27) (x := (-6)) kc_90_26 rfl rfl ?_
                      refine xi_ireturn kc_90_27 mr_90 rfl ?_
                      show xw J ov 99 116 (81, [(0, .ref 0), (1, .int a23), (2, .int a25), (3, .int a27), (4, .int a29)], [.int (-6)], hh255) _
                      refine xi_ireturn kc_116_81 mr_116 rfl ?_
                      show xw J ov 100 195 (679, [(4, .int x4), (3, .ref 167), (2, .ref 115), (1, .ref 0), (0, .ref 1000000)], [.int (-6)], hh255) _
                      refine xi_pop (pc' := 680) kc_195_679 rfl rfl ?_
                      refine xi_aload_n (pc' := 681) (x := 115) kc_195_680 rfl rfl ?_
                      refine xi_aload_n (pc' := 682) (x := 1000000) kc_195_681 rfl rfl ?_
                      refine xi_iload (pc' := 684) (x := x4) kc_195_682 rfl rfl ?_
                      refine xi_iconst (pc' := 685) (v := 1) kc_195_684 rfl rfl ?_
                      refine xi_iadd (pc' := 686) (v := v22) kc_195_685 rfl ev22 ?_
                      refine xi_ialoadO (pc' := 687) (v := a23) kc_195_686 rfl (by decide) hov0 (xi_in (by omega) (by omega)) ea23 ?_
                      refine xi_aload_n (pc' := 688) (x := 1000000) kc_195_687 rfl rfl ?_
                      refine xi_iload (pc' := 690) (x := x4) kc_195_688 rfl rfl ?_
                      refine xi_iconst (pc' := 691) (v := 2) kc_195_690 rfl rfl ?_
                      refine xi_iadd (pc' := 692) (v := v24) kc_195_691 rfl ev24 ?_
                      refine xi_ialoadO (pc' := 693) (v := a25) kc_195_692 rfl (by decide) hov0 (xi_in (by omega) (by omega)) ea25 ?_
                      refine xi_aload_n (pc' := 694) (x := 1000000) kc_195_693 rfl rfl ?_
                      refine xi_iload (pc' := 696) (x := x4) kc_195_694 rfl rfl ?_
                      refine xi_iconst (pc' := 697) (v := 3) kc_195_696 rfl rfl ?_
                      refine xi_iadd (pc' := 698) (v := v26) kc_195_697 rfl ev26 ?_
                      refine xi_ialoadO (pc' := 699) (v := a27) kc_195_698 rfl (by decide) hov0 (xi_in (by omega) (by omega)) ea27 ?_
                      refine xi_aload_n (pc' := 700) (x := 1000000) kc_195_699 rfl rfl ?_
                      refine xi_iload (pc' := 702) (x := x4) kc_195_700 rfl rfl ?_
                      refine xi_iconst (pc' := 703) (v := 4) kc_195_702 rfl rfl ?_
                      refine xi_iadd (pc' := 704) (v := v28) kc_195_703 rfl ev28 ?_
                      refine xi_ialoadO (pc' := 705) (v := a29) kc_195_704 rfl (by decide) hov0 (xi_in (by omega) (by omega)) ea29 ?_
                      have A258 := ((eh255.2.1 115 (by decide)).trans A17)
                      refine xi_virtual (mj := 32) (as := [.int a23, .int a25, .int a27, .int a29]) (st1 := []) (lv0 := [(0, .ref 115), (1, .int a23), (2, .int a25), (3, .int a27), (4, .int a29)]) kc_195_705 rfl rfl rfl rfl rfl A258 (Nat.le_of_ble_eq_true rfl) (hJ _ _ _ _ (by decide)) (xm_le ml_32 rfl) rfl ?_
                      refine xi_aload_n (pc' := 1) (x := 115) kc_32_0 rfl rfl ?_
                      refine xi_iconst (pc' := 2) (v := 0) kc_32_1 rfl rfl ?_
                      refine xi_putfield (pc' := 5) (fs' := [.int 0, .int u5, .ref 116, .ref 117, .ref 118, .ref 119, .ref 120, .ref 121, .ref 122, .ref 123, .ref 124, .ref 125, .ref 126, .ref 127, .ref 128, .ref 129, .int u6, .ref 130, .int u7, .ref 131, .ref 132, .ref 133, .ref 134, .int u1, .ref 135, .ref 136, .ref 137, .ref 138, .ref 139, .ref 140, .ref 141, .ref 142, .int u9, .int u10, .int u11, .ref 143, .ref 144, .ref 145, .ref 146, .ref 147, .ref 148, .int u12, .ref 149, .ref 150, .ref 151, .int u13, .ref 152, .ref 153, .ref 154, .ref 155, .ref 156, .ref 157, .ref 158, .ref 159, .int u14, .ref 160, .int u15, .ref 161, .ref 162, .ref 163, .ref 164, .int u16, .ref 165, .ref 166]) kc_32_2 rfl rfl rfl A258 rfl rfl rfl (Nat.le_of_ble_eq_true rfl) rfl (fun hh260 eh259 => ?_)
                      have K261 := xk_pf (k := 0) (v := 0) K256 (xk_wf (by decide +kernel)) xD_115 A258 rfl (by first | omega | decide) (by first | omega | decide) eh259 rfl
                      have KR262 := xk_pf (k := 0) (v := 0) KR257 (xk_wf (by decide +kernel)) xD_115 A258 rfl (by first | omega | decide) (by first | omega | decide) eh259 rfl
                      refine xi_iload_n (pc' := 6) (x := a23) kc_32_5 rfl rfl ?_
                      refine xi_iconst (pc' := 7) (v := 0) kc_32_6 rfl rfl ?_
                      refine xi_iconst (pc' := 8) (v := 3) kc_32_7 rfl rfl ?_
                      refine xi_static (mj := 11) (as := [.int a23, .int 0, .int 3]) (st1 := []) (lv0 := [(0, .int a23), (1, .int 0), (2, .int 3)]) kc_32_8 rfl rfl (Nat.le_of_ble_eq_true rfl) rfl rfl (Nat.le_of_ble_eq_true rfl) (hJ _ _ _ _ (by decide)) (xm_le ml_11 rfl) rfl ?_
                      refine xi_iload_n (pc' := 1) (x := a23) kc_11_0 rfl rfl ?_
                      refine xi_iload_n (pc' := 2) (x := 0) kc_11_1 rfl rfl ?_
                      refine xi_cmf (pc' := 5) kc_11_2 rfl (xc_lt_f (X := a23.toInt) (Y := 0) rfl (by decide) (by omega)) ?_
                      refine xi_iload_n (pc' := 6) (x := a23) kc_11_5 rfl rfl ?_
                      refine xi_iload_n (pc' := 7) (x := 3) kc_11_6 rfl rfl ?_
                      refine xi_cmf (pc' := 10) kc_11_7 rfl (xc_gt_f (X := a23.toInt) (Y := 3) rfl (by decide) (by omega)) ?_
                      refine xi_iconst (pc' := 11) (v := 1) kc_11_10 rfl rfl ?_
                      refine xi_goto (pc' := 15) kc_11_11 rfl ?_
                      refine xi_ireturn kc_11_15 mr_11 rfl ?_
                      show xw J ov 99 32 (11, [(0, .ref 115), (1, .int a23), (2, .int a25), (3, .int a27), (4, .int a29)], [.int 1], hh260) _
                      refine xi_ift (pc' := 21) kc_32_11 rfl rfl ?_
                      refine xi_iload_n (pc' := 22) (x := a23) kc_32_21 rfl rfl ?_
                      refine xi_iconst (pc' := 23) (v := 3) kc_32_22 rfl rfl ?_
                      refine xi_cmf (pc' := 26) kc_32_23 rfl (xc_ne_f (X := a23.toInt) (Y := 3) rfl (by decide) (by omega)) ?_
                      refine xi_iload_n (pc' := 27) (x := a25) kc_32_26 rfl rfl ?_
                      refine xi_static (mj := 10) (as := [.int a25]) (st1 := []) (lv0 := [(0, .int a25)]) kc_32_27 rfl rfl (Nat.le_of_ble_eq_true rfl) rfl rfl (Nat.le_of_ble_eq_true rfl) (hJ _ _ _ _ (by decide)) (xm_le ml_10 rfl) rfl ?_
                      refine xi_iload_n (pc' := 1) (x := a25) kc_10_0 rfl rfl ?_
                      refine xi_iconst (pc' := 2) (v := 0) kc_10_1 rfl rfl ?_
                      refine xi_iconst (pc' := 3) (v := 5) kc_10_2 rfl rfl ?_
                      refine xi_static (mj := 11) (as := [.int a25, .int 0, .int 5]) (st1 := []) (lv0 := [(0, .int a25), (1, .int 0), (2, .int 5)]) kc_10_3 rfl rfl (Nat.le_of_ble_eq_true rfl) rfl rfl (Nat.le_of_ble_eq_true rfl) (hJ _ _ _ _ (by decide)) (xm_le ml_11 rfl) rfl ?_
                      refine xi_iload_n (pc' := 1) (x := a25) kc_11_0 rfl rfl ?_
                      refine xi_iload_n (pc' := 2) (x := 0) kc_11_1 rfl rfl ?_
                      refine xi_cmf (pc' := 5) kc_11_2 rfl (xc_lt_f (X := a25.toInt) (Y := 0) rfl (by decide) (by omega)) ?_
                      refine xi_iload_n (pc' := 6) (x := a25) kc_11_5 rfl rfl ?_
                      refine xi_iload_n (pc' := 7) (x := 5) kc_11_6 rfl rfl ?_
                      refine xi_cmf (pc' := 10) kc_11_7 rfl (xc_gt_f (X := a25.toInt) (Y := 5) rfl (by decide) (by omega)) ?_
                      refine xi_iconst (pc' := 11) (v := 1) kc_11_10 rfl rfl ?_
                      refine xi_goto (pc' := 15) kc_11_11 rfl ?_
                      refine xi_ireturn kc_11_15 mr_11 rfl ?_
                      show xw J ov 98 10 (6, [(0, .int a25)], [.int 1], hh260) _
                      refine xi_ireturn kc_10_6 mr_10 rfl ?_
                      show xw J ov 99 32 (30, [(0, .ref 115), (1, .int a23), (2, .int a25), (3, .int a27), (4, .int a29)], [.int 1], hh260) _
                      refine xi_ift (pc' := 63) kc_32_30 rfl rfl ?_
                      refine xi_iload_n (pc' := 64) (x := a27) kc_32_63 rfl rfl ?_
                      refine xi_iconst (pc' := 65) (v := 1) kc_32_64 rfl rfl ?_
                      refine xi_cmf (pc' := 68) kc_32_65 rfl (xc_lt_f (X := a27.toInt) (Y := 1) rfl (by decide) (by omega)) ?_
                      refine xi_iload (pc' := 70) (x := a29) kc_32_68 rfl rfl ?_
                      refine xi_ift (pc' := 80) kc_32_70 rfl (xc_ge_t (X := a29.toInt) (Y := 0) rfl (by decide) (by omega)) ?_
                      refine xi_iload_n (pc' := 81) (x := a27) kc_32_80 rfl rfl ?_
                      refine xi_bipush (pc' := 83) (v := 99) kc_32_81 rfl rfl ?_
                      refine xi_cmf (pc' := 86) kc_32_83 rfl (xc_gt_f (X := a27.toInt) (Y := 99) rfl (by decide) (by omega)) ?_
                      refine xi_iload (pc' := 88) (x := a29) kc_32_86 rfl rfl ?_
                      refine xi_sipush (pc' := 91) (v := 600) kc_32_88 rfl rfl ?_
                      refine xi_cmf (pc' := 94) kc_32_91 rfl (xc_gt_f (X := a29.toInt) (Y := 600) rfl (by decide) (by omega)) ?_
                      refine xi_aload_n (pc' := 95) (x := 115) kc_32_94 rfl rfl ?_
                      refine xi_getfield (pc' := 98) (v := .int u1) kc_32_95 rfl rfl rfl eh259.1 rfl ?_
                      refine xi_bipush (pc' := 100) (v := 10) kc_32_98 rfl rfl ?_
                      refine xi_cmf (pc' := 103) kc_32_100 rfl (xc_ne_f (X := u1.toInt) (Y := 10) rfl (by decide) (by omega)) ?_
                      refine xi_aload_n (pc' := 104) (x := 115) kc_32_103 rfl rfl ?_
                      refine xi_bipush (pc' := 106) (v := (-6)) kc_32_104 rfl rfl ?_
                      refine xi_virtual (mj := 12) (as := [.int (-6)]) (st1 := []) (lv0 := [(0, .ref 115), (1, .int (-6))]) kc_32_106 rfl rfl rfl rfl rfl eh259.1 (Nat.le_of_ble_eq_true rfl) (hJ _ _ _ _ (by decide)) (xm_le ml_12 rfl) rfl ?_
                      refine xi_aload_n (pc' := 1) (x := 115) kc_12_0 rfl rfl ?_
                      refine xi_getfield (pc' := 4) (v := .ref 140) kc_12_1 rfl rfl rfl eh259.1 rfl ?_
                      refine xi_iload_n (pc' := 5) (x := (-6)) kc_12_4 rfl rfl ?_
                      refine xi_ineg (pc' := 6) (v := 6) kc_12_5 rfl rfl ?_
                      refine xi_dup2 (pc' := 7) kc_12_6 rfl ⟨rfl, rfl⟩ ?_
                      obtain ⟨y263, A263, hy263, ry263⟩ := xk_arr K.1 xD_140
                      obtain ⟨v264, ev264, bv264, dv264⟩ := xj_get hy263 ry263 (i := 6) (by decide) (by decide)
                      have A265 := ((eh259.2.1 140 (by decide)).trans ((eh255.2.1 140 (by decide)).trans A263))
                      refine xi_iaload (pc' := 8) (v := v264) kc_12_7 rfl A265 (by decide) rfl (xi_in (by decide) (by rw [hy263]; decide)) ev264 ?_
                      refine xi_iconst (pc' := 9) (v := 1) kc_12_8 rfl rfl ?_
                      obtain ⟨v266, ev266⟩ : ∃ q : Int32, (v264 : Int32) + 1 = q := ⟨_, rfl⟩
                      have rv266 := xc_rng v266
                      refine xi_iadd (pc' := 10) (v := v266) kc_12_9 rfl ev266 ?_
                      obtain ⟨y267, s267, hy267, ry267⟩ := xj_set (v := v266) hy263 ry263 6 (by first | omega | decide) (by first | omega | decide)
                      refine xi_iastore (pc' := 11) (x' := y267) kc_12_10 rfl A265 rfl (xi_in (by decide) (by rw [hy263]; decide)) s267 (fun hh267 eh267 => ?_)
                      have K268 := xk_pa K261 (xk_wa (by decide +kernel)) xD_140 hy267 ry267 eh267
                      have KR269 := xk_pa KR262 (xk_wa (by decide +kernel)) xD_140 hy267 ry267 eh267
                      refine xi_iload_n (pc' := 12) (x := (-6)) kc_12_11 rfl rfl ?_
                      refine xi_ireturn kc_12_12 mr_12 rfl ?_
                      show xw J ov 99 32 (109, [(0, .ref 115), (1, .int a23), (2, .int a25), (3, .int a27), (4, .int a29)], [.int (-6)], hh267) _
                      refine xi_ireturn kc_32_109 mr_32 rfl ?_
                      show xw J ov 100 195 (708, [(4, .int x4), (3, .ref 167), (2, .ref 115), (1, .ref 0), (0, .ref 1000000)], [.int (-6)], hh267) _
                      refine xi_pop (pc' := 709) kc_195_708 rfl rfl ?_
                      refine xi_goto (pc' := 1501) kc_195_709 rfl ?_
                      obtain ⟨v270, ev270⟩ : ∃ q : Int32, x4 + 6 = q := ⟨_, rfl⟩
                      have zv270 : v270.toInt = (x4.toInt + 6) := by rw [← ev270]; exact (xz_add (X := x4.toInt) (Y := 6) rfl (by decide) (by omega) (by omega)).trans (by omega)
                      refine xi_iinc (pc' := 1504) (x := x4) (v := v270) (lv' := [(4, .int v270), (3, .ref 167), (2, .ref 115), (1, .ref 0), (0, .ref 1000000)]) kc_195_1501 rfl rfl ev270 rfl (xm_lt ml_195 rfl) ?_
                      refine xi_goto (pc' := 23) kc_195_1504 rfl ?_
                      exact kk v270 hh267 (by omega) K268 (xI_kept I KR269.2.1)
              · refine xi_iff (pc' := 42) kc_116_39 rfl (xc_ge_f (X := a29.toInt) (Y := 0) rfl (by decide) (by omega)) ?_
                refine xi_aload_n (pc' := 43) (x := 0) kc_116_42 rfl rfl ?_
                refine xi_bipush (pc' := 45) (v := (-4)) kc_116_43 rfl rfl ?_
                refine xi_virtual (mj := 90) (as := [.int (-4)]) (st1 := []) (lv0 := [(0, .ref 0), (1, .int (-4))]) kc_116_45 rfl rfl rfl rfl rfl A32 (Nat.le_of_ble_eq_true rfl) (hJ _ _ _ _ (by decide)) (xm_le ml_90 rfl) rfl ?_
                refine xi_iload_n (pc' := 1) (x := (-4)) kc_90_0 rfl rfl ?_
                refine xi_ineg (pc' := 2) (v := 4) kc_90_1 rfl rfl ?_
                refine xi_istore_n (pc' := 3) (lv' := [(2, .int 4), (0, .ref 0), (1, .int (-4))]) kc_90_2 rfl rfl (xm_lt ml_90 rfl) ?_
                refine xi_iload_n (pc' := 4) (x := 4) kc_90_3 rfl rfl ?_
                refine xi_iff (pc' := 7) kc_90_4 rfl rfl ?_
                refine xi_iload_n (pc' := 8) (x := 4) kc_90_7 rfl rfl ?_
                refine xi_aload_n (pc' := 9) (x := 0) kc_90_8 rfl rfl ?_
                refine xi_getfield (pc' := 12) (v := .ref 94) kc_90_9 rfl rfl rfl A32 rfl ?_
                obtain ⟨y271, A271, hy271, ry271⟩ := xk_arr K.1 xD_94
                refine xi_arraylength (pc' := 13) (n := 7) (v := 7) kc_90_12 rfl (xl_lenI (by decide) (by decide) A271 hy271) rfl ?_
                refine xi_cmf (pc' := 16) kc_90_13 rfl rfl ?_
                refine xi_aload_n (pc' := 17) (x := 0) kc_90_16 rfl rfl ?_
                refine xi_getfield (pc' := 20) (v := .ref 94) kc_90_17 rfl rfl rfl A32 rfl ?_
                refine xi_iload_n (pc' := 21) (x := 4) kc_90_20 rfl rfl ?_
                refine xi_dup2 (pc' := 22) kc_90_21 rfl ⟨rfl, rfl⟩ ?_
                obtain ⟨v272, ev272, bv272, dv272⟩ := xj_get hy271 ry271 (i := 4) (by decide) (by decide)
                refine xi_iaload (pc' := 23) (v := v272) kc_90_22 rfl A271 (by decide) rfl (xi_in (by decide) (by rw [hy271]; decide)) ev272 ?_
                refine xi_iconst (pc' := 24) (v := 1) kc_90_23 rfl rfl ?_
                obtain ⟨v273, ev273⟩ : ∃ q : Int32, (v272 : Int32) + 1 = q := ⟨_, rfl⟩
                have rv273 := xc_rng v273
                refine xi_iadd (pc' := 25) (v := v273) kc_90_24 rfl ev273 ?_
                obtain ⟨y274, s274, hy274, ry274⟩ := xj_set (v := v273) hy271 ry271 4 (by first | omega | decide) (by first | omega | decide)
                refine xi_iastore (pc' := 26) (x' := y274) kc_90_25 rfl A271 rfl (xi_in (by decide) (by rw [hy271]; decide)) s274 (fun hh274 eh274 => ?_)
                have K275 := xk_pa K (xk_wa (by decide +kernel)) xD_94 hy274 ry274 eh274
                have KR276 := xk_pa KR (xk_wa (by decide +kernel)) xD_94 hy274 ry274 eh274
                refine xi_iload_n (pc' := 27) (x := (-4)) kc_90_26 rfl rfl ?_
                refine xi_ireturn kc_90_27 mr_90 rfl ?_
                show xw J ov 99 116 (48, [(0, .ref 0), (1, .int a23), (2, .int a25), (3, .int a27), (4, .int a29)], [.int (-4)], hh274) _
                refine xi_ireturn kc_116_48 mr_116 rfl ?_
                show xw J ov 100 195 (679, [(4, .int x4), (3, .ref 167), (2, .ref 115), (1, .ref 0), (0, .ref 1000000)], [.int (-4)], hh274) _
                refine xi_pop (pc' := 680) kc_195_679 rfl rfl ?_
                refine xi_aload_n (pc' := 681) (x := 115) kc_195_680 rfl rfl ?_
                refine xi_aload_n (pc' := 682) (x := 1000000) kc_195_681 rfl rfl ?_
                refine xi_iload (pc' := 684) (x := x4) kc_195_682 rfl rfl ?_
                refine xi_iconst (pc' := 685) (v := 1) kc_195_684 rfl rfl ?_
                refine xi_iadd (pc' := 686) (v := v22) kc_195_685 rfl ev22 ?_
                refine xi_ialoadO (pc' := 687) (v := a23) kc_195_686 rfl (by decide) hov0 (xi_in (by omega) (by omega)) ea23 ?_
                refine xi_aload_n (pc' := 688) (x := 1000000) kc_195_687 rfl rfl ?_
                refine xi_iload (pc' := 690) (x := x4) kc_195_688 rfl rfl ?_
                refine xi_iconst (pc' := 691) (v := 2) kc_195_690 rfl rfl ?_
                refine xi_iadd (pc' := 692) (v := v24) kc_195_691 rfl ev24 ?_
                refine xi_ialoadO (pc' := 693) (v := a25) kc_195_692 rfl (by decide) hov0 (xi_in (by omega) (by omega)) ea25 ?_
                refine xi_aload_n (pc' := 694) (x := 1000000) kc_195_693 rfl rfl ?_
                refine xi_iload (pc' := 696) (x := x4) kc_195_694 rfl rfl ?_
                refine xi_iconst (pc' := 697) (v := 3) kc_195_696 rfl rfl ?_
                refine xi_iadd (pc' := 698) (v := v26) kc_195_697 rfl ev26 ?_
                refine xi_ialoadO (pc' := 699) (v := a27) kc_195_698 rfl (by decide) hov0 (xi_in (by omega) (by omega)) ea27 ?_
                refine xi_aload_n (pc' := 700) (x := 1000000) kc_195_699 rfl rfl ?_
                refine xi_iload (pc' := 702) (x := x4) kc_195_700 rfl rfl ?_
                refine xi_iconst (pc' := 703) (v := 4) kc_195_702 rfl rfl ?_
                refine xi_iadd (pc' := 704) (v := v28) kc_195_703 rfl ev28 ?_
                refine xi_ialoadO (pc' := 705) (v := a29) kc_195_704 rfl (by decide) hov0 (xi_in (by omega) (by omega)) ea29 ?_
                have A277 := ((eh274.2.1 115 (by decide)).trans A17)
                refine xi_virtual (mj := 32) (as := [.int a23, .int a25, .int a27, .int a29]) (st1 := []) (lv0 := [(0, .ref 115), (1, .int a23), (2, .int a25), (3, .int a27), (4, .int a29)]) kc_195_705 rfl rfl rfl rfl rfl A277 (Nat.le_of_ble_eq_true rfl) (hJ _ _ _ _ (by decide)) (xm_le ml_32 rfl) rfl ?_
                refine xi_aload_n (pc' := 1) (x := 115) kc_32_0 rfl rfl ?_
                refine xi_iconst (pc' := 2) (v := 0) kc_32_1 rfl rfl ?_
                refine xi_putfield (pc' := 5) (fs' := [.int 0, .int u5, .ref 116, .ref 117, .ref 118, .ref 119, .ref 120, .ref 121, .ref 122, .ref 123, .ref 124, .ref 125, .ref 126, .ref 127, .ref 128, .ref 129, .int u6, .ref 130, .int u7, .ref 131, .ref 132, .ref 133, .ref 134, .int u1, .ref 135, .ref 136, .ref 137, .ref 138, .ref 139, .ref 140, .ref 141, .ref 142, .int u9, .int u10, .int u11, .ref 143, .ref 144, .ref 145, .ref 146, .ref 147, .ref 148, .int u12, .ref 149, .ref 150, .ref 151, .int u13, .ref 152, .ref 153, .ref 154, .ref 155, .ref 156, .ref 157, .ref 158, .ref 159, .int u14, .ref 160, .int u15, .ref 161, .ref 162, .ref 163, .ref 164, .int u16, .ref 165, .ref 166]) kc_32_2 rfl rfl rfl A277 rfl rfl rfl (Nat.le_of_ble_eq_true rfl) rfl (fun hh279 eh278 => ?_)
                have K280 := xk_pf (k := 0) (v := 0) K275 (xk_wf (by decide +kernel)) xD_115 A277 rfl (by first | omega | decide) (by first | omega | decide) eh278 rfl
                have KR281 := xk_pf (k := 0) (v := 0) KR276 (xk_wf (by decide +kernel)) xD_115 A277 rfl (by first | omega | decide) (by first | omega | decide) eh278 rfl
                refine xi_iload_n (pc' := 6) (x := a23) kc_32_5 rfl rfl ?_
                refine xi_iconst (pc' := 7) (v := 0) kc_32_6 rfl rfl ?_
                refine xi_iconst (pc' := 8) (v := 3) kc_32_7 rfl rfl ?_
                refine xi_static (mj := 11) (as := [.int a23, .int 0, .int 3]) (st1 := []) (lv0 := [(0, .int a23), (1, .int 0), (2, .int 3)]) kc_32_8 rfl rfl (Nat.le_of_ble_eq_true rfl) rfl rfl (Nat.le_of_ble_eq_true rfl) (hJ _ _ _ _ (by decide)) (xm_le ml_11 rfl) rfl ?_
                refine xi_iload_n (pc' := 1) (x := a23) kc_11_0 rfl rfl ?_
                refine xi_iload_n (pc' := 2) (x := 0) kc_11_1 rfl rfl ?_
                refine xi_cmf (pc' := 5) kc_11_2 rfl (xc_lt_f (X := a23.toInt) (Y := 0) rfl (by decide) (by omega)) ?_
                refine xi_iload_n (pc' := 6) (x := a23) kc_11_5 rfl rfl ?_
                refine xi_iload_n (pc' := 7) (x := 3) kc_11_6 rfl rfl ?_
                refine xi_cmf (pc' := 10) kc_11_7 rfl (xc_gt_f (X := a23.toInt) (Y := 3) rfl (by decide) (by omega)) ?_
                refine xi_iconst (pc' := 11) (v := 1) kc_11_10 rfl rfl ?_
                refine xi_goto (pc' := 15) kc_11_11 rfl ?_
                refine xi_ireturn kc_11_15 mr_11 rfl ?_
                show xw J ov 99 32 (11, [(0, .ref 115), (1, .int a23), (2, .int a25), (3, .int a27), (4, .int a29)], [.int 1], hh279) _
                refine xi_ift (pc' := 21) kc_32_11 rfl rfl ?_
                refine xi_iload_n (pc' := 22) (x := a23) kc_32_21 rfl rfl ?_
                refine xi_iconst (pc' := 23) (v := 3) kc_32_22 rfl rfl ?_
                refine xi_cmf (pc' := 26) kc_32_23 rfl (xc_ne_f (X := a23.toInt) (Y := 3) rfl (by decide) (by omega)) ?_
                refine xi_iload_n (pc' := 27) (x := a25) kc_32_26 rfl rfl ?_
                refine xi_static (mj := 10) (as := [.int a25]) (st1 := []) (lv0 := [(0, .int a25)]) kc_32_27 rfl rfl (Nat.le_of_ble_eq_true rfl) rfl rfl (Nat.le_of_ble_eq_true rfl) (hJ _ _ _ _ (by decide)) (xm_le ml_10 rfl) rfl ?_
                refine xi_iload_n (pc' := 1) (x := a25) kc_10_0 rfl rfl ?_
                refine xi_iconst (pc' := 2) (v := 0) kc_10_1 rfl rfl ?_
                refine xi_iconst (pc' := 3) (v := 5) kc_10_2 rfl rfl ?_
                refine xi_static (mj := 11) (as := [.int a25, .int 0, .int 5]) (st1 := []) (lv0 := [(0, .int a25), (1, .int 0), (2, .int 5)]) kc_10_3 rfl rfl (Nat.le_of_ble_eq_true rfl) rfl rfl (Nat.le_of_ble_eq_true rfl) (hJ _ _ _ _ (by decide)) (xm_le ml_11 rfl) rfl ?_
                refine xi_iload_n (pc' := 1) (x := a25) kc_11_0 rfl rfl ?_
                refine xi_iload_n (pc' := 2) (x := 0) kc_11_1 rfl rfl ?_
                refine xi_cmf (pc' := 5) kc_11_2 rfl (xc_lt_f (X := a25.toInt) (Y := 0) rfl (by decide) (by omega)) ?_
                refine xi_iload_n (pc' := 6) (x := a25) kc_11_5 rfl rfl ?_
                refine xi_iload_n (pc' := 7) (x := 5) kc_11_6 rfl rfl ?_
                refine xi_cmf (pc' := 10) kc_11_7 rfl (xc_gt_f (X := a25.toInt) (Y := 5) rfl (by decide) (by omega)) ?_
                refine xi_iconst (pc' := 11) (v := 1) kc_11_10 rfl rfl ?_
                refine xi_goto (pc' := 15) kc_11_11 rfl ?_
                refine xi_ireturn kc_11_15 mr_11 rfl ?_
                show xw J ov 98 10 (6, [(0, .int a25)], [.int 1], hh279) _
                refine xi_ireturn kc_10_6 mr_10 rfl ?_
                show xw J ov 99 32 (30, [(0, .ref 115), (1, .int a23), (2, .int a25), (3, .int a27), (4, .int a29)], [.int 1], hh279) _
                refine xi_ift (pc' := 63) kc_32_30 rfl rfl ?_
                refine xi_iload_n (pc' := 64) (x := a27) kc_32_63 rfl rfl ?_
                refine xi_iconst (pc' := 65) (v := 1) kc_32_64 rfl rfl ?_
                refine xi_cmf (pc' := 68) kc_32_65 rfl (xc_lt_f (X := a27.toInt) (Y := 1) rfl (by decide) (by omega)) ?_
                refine xi_iload (pc' := 70) (x := a29) kc_32_68 rfl rfl ?_
                refine xi_iff (pc' := 73) kc_32_70 rfl (xc_ge_f (X := a29.toInt) (Y := 0) rfl (by decide) (by omega)) ?_
                refine xi_aload_n (pc' := 74) (x := 115) kc_32_73 rfl rfl ?_
                refine xi_bipush (pc' := 76) (v := (-4)) kc_32_74 rfl rfl ?_
                refine xi_virtual (mj := 12) (as := [.int (-4)]) (st1 := []) (lv0 := [(0, .ref 115), (1, .int (-4))]) kc_32_76 rfl rfl rfl rfl rfl eh278.1 (Nat.le_of_ble_eq_true rfl) (hJ _ _ _ _ (by decide)) (xm_le ml_12 rfl) rfl ?_
                refine xi_aload_n (pc' := 1) (x := 115) kc_12_0 rfl rfl ?_
                refine xi_getfield (pc' := 4) (v := .ref 140) kc_12_1 rfl rfl rfl eh278.1 rfl ?_
                refine xi_iload_n (pc' := 5) (x := (-4)) kc_12_4 rfl rfl ?_
                refine xi_ineg (pc' := 6) (v := 4) kc_12_5 rfl rfl ?_
                refine xi_dup2 (pc' := 7) kc_12_6 rfl ⟨rfl, rfl⟩ ?_
                obtain ⟨y282, A282, hy282, ry282⟩ := xk_arr K.1 xD_140
                obtain ⟨v283, ev283, bv283, dv283⟩ := xj_get hy282 ry282 (i := 4) (by decide) (by decide)
                have A284 := ((eh278.2.1 140 (by decide)).trans ((eh274.2.1 140 (by decide)).trans A282))
                refine xi_iaload (pc' := 8) (v := v283) kc_12_7 rfl A284 (by decide) rfl (xi_in (by decide) (by rw [hy282]; decide)) ev283 ?_
                refine xi_iconst (pc' := 9) (v := 1) kc_12_8 rfl rfl ?_
                obtain ⟨v285, ev285⟩ : ∃ q : Int32, (v283 : Int32) + 1 = q := ⟨_, rfl⟩
                have rv285 := xc_rng v285
                refine xi_iadd (pc' := 10) (v := v285) kc_12_9 rfl ev285 ?_
                obtain ⟨y286, s286, hy286, ry286⟩ := xj_set (v := v285) hy282 ry282 4 (by first | omega | decide) (by first | omega | decide)
                refine xi_iastore (pc' := 11) (x' := y286) kc_12_10 rfl A284 rfl (xi_in (by decide) (by rw [hy282]; decide)) s286 (fun hh286 eh286 => ?_)
                have K287 := xk_pa K280 (xk_wa (by decide +kernel)) xD_140 hy286 ry286 eh286
                have KR288 := xk_pa KR281 (xk_wa (by decide +kernel)) xD_140 hy286 ry286 eh286
                refine xi_iload_n (pc' := 12) (x := (-4)) kc_12_11 rfl rfl ?_
                refine xi_ireturn kc_12_12 mr_12 rfl ?_
                show xw J ov 99 32 (79, [(0, .ref 115), (1, .int a23), (2, .int a25), (3, .int a27), (4, .int a29)], [.int (-4)], hh286) _
                refine xi_ireturn kc_32_79 mr_32 rfl ?_
                show xw J ov 100 195 (708, [(4, .int x4), (3, .ref 167), (2, .ref 115), (1, .ref 0), (0, .ref 1000000)], [.int (-4)], hh286) _
                refine xi_pop (pc' := 709) kc_195_708 rfl rfl ?_
                refine xi_goto (pc' := 1501) kc_195_709 rfl ?_
                obtain ⟨v289, ev289⟩ : ∃ q : Int32, x4 + 6 = q := ⟨_, rfl⟩
                have zv289 : v289.toInt = (x4.toInt + 6) := by rw [← ev289]; exact (xz_add (X := x4.toInt) (Y := 6) rfl (by decide) (by omega) (by omega)).trans (by omega)
                refine xi_iinc (pc' := 1504) (x := x4) (v := v289) (lv' := [(4, .int v289), (3, .ref 167), (2, .ref 115), (1, .ref 0), (0, .ref 1000000)]) kc_195_1501 rfl rfl ev289 rfl (xm_lt ml_195 rfl) ?_
                refine xi_goto (pc' := 23) kc_195_1504 rfl ?_
                exact kk v289 hh286 (by omega) K287 (xI_kept I KR288.2.1)
      · refine xi_cmt (pc' := 10) kc_118_2 rfl (xc_ne_t (X := a23.toInt) (Y := 3) rfl (by decide) (by omega)) ?_
        refine xi_aload_n (pc' := 11) (x := 1) kc_118_10 rfl rfl ?_
        refine xi_iload_n (pc' := 12) (x := a25) kc_118_11 rfl rfl ?_
        refine xi_virtual (mj := 108) (as := [.int a25]) (st1 := []) (lv0 := [(0, .ref 1), (1, .int a25)]) kc_118_12 rfl rfl rfl rfl rfl A3 (Nat.le_of_ble_eq_true rfl) (hJ _ _ _ _ (by decide)) (xm_le ml_108 rfl) rfl ?_
        refine xi_iload_n (pc' := 1) (x := a25) kc_108_0 rfl rfl ?_
        refine xi_static (mj := 104) (as := [.int a25]) (st1 := []) (lv0 := [(0, .int a25)]) kc_108_1 rfl rfl (Nat.le_of_ble_eq_true rfl) rfl rfl (Nat.le_of_ble_eq_true rfl) (hJ _ _ _ _ (by decide)) (xm_le ml_104 rfl) rfl ?_
        refine xi_iload_n (pc' := 1) (x := a25) kc_104_0 rfl rfl ?_
        by_cases c290 : a25.toInt < 0
        · refine xi_ift (pc' := 14) kc_104_1 rfl (xc_lt_t (X := a25.toInt) (Y := 0) rfl (by decide) (by omega)) ?_
          refine xi_iconst (pc' := 15) (v := 0) kc_104_14 rfl rfl ?_
          refine xi_ireturn kc_104_15 mr_104 rfl ?_
          show xw J ov 97 108 (4, [(0, .ref 1), (1, .int a25)], [.int 0], h) _
          refine xi_ift (pc' := 23) kc_108_4 rfl rfl ?_
          refine xi_iconst (pc' := 24) (v := 0) kc_108_23 rfl rfl ?_
          refine xi_ireturn kc_108_24 mr_108 rfl ?_
          show xw J ov 98 118 (15, [(0, .ref 1), (1, .int a23), (2, .int a25)], [.int 0], h) _
          refine xi_ift (pc' := 38) kc_118_15 rfl rfl ?_
          refine xi_iconst (pc' := 39) (v := 0) kc_118_38 rfl rfl ?_
          refine xi_ireturn kc_118_39 mr_118 rfl ?_
          show xw J ov 99 116 (23, [(0, .ref 0), (1, .int a23), (2, .int a25), (3, .int a27), (4, .int a29)], [.int 0], h) _
          refine xi_iff (pc' := 26) kc_116_23 rfl rfl ?_
          refine xi_aload_n (pc' := 27) (x := 0) kc_116_26 rfl rfl ?_
          refine xi_iconst (pc' := 28) (v := (-1)) kc_116_27 rfl rfl ?_
          refine xi_virtual (mj := 90) (as := [.int (-1)]) (st1 := []) (lv0 := [(0, .ref 0), (1, .int (-1))]) kc_116_28 rfl rfl rfl rfl rfl A32 (Nat.le_of_ble_eq_true rfl) (hJ _ _ _ _ (by decide)) (xm_le ml_90 rfl) rfl ?_
          refine xi_iload_n (pc' := 1) (x := (-1)) kc_90_0 rfl rfl ?_
          refine xi_ineg (pc' := 2) (v := 1) kc_90_1 rfl rfl ?_
          refine xi_istore_n (pc' := 3) (lv' := [(2, .int 1), (0, .ref 0), (1, .int (-1))]) kc_90_2 rfl rfl (xm_lt ml_90 rfl) ?_
          refine xi_iload_n (pc' := 4) (x := 1) kc_90_3 rfl rfl ?_
          refine xi_iff (pc' := 7) kc_90_4 rfl rfl ?_
          refine xi_iload_n (pc' := 8) (x := 1) kc_90_7 rfl rfl ?_
          refine xi_aload_n (pc' := 9) (x := 0) kc_90_8 rfl rfl ?_
          refine xi_getfield (pc' := 12) (v := .ref 94) kc_90_9 rfl rfl rfl A32 rfl ?_
          obtain ⟨y291, A291, hy291, ry291⟩ := xk_arr K.1 xD_94
          refine xi_arraylength (pc' := 13) (n := 7) (v := 7) kc_90_12 rfl (xl_lenI (by decide) (by decide) A291 hy291) rfl ?_
          refine xi_cmf (pc' := 16) kc_90_13 rfl rfl ?_
          refine xi_aload_n (pc' := 17) (x := 0) kc_90_16 rfl rfl ?_
          refine xi_getfield (pc' := 20) (v := .ref 94) kc_90_17 rfl rfl rfl A32 rfl ?_
          refine xi_iload_n (pc' := 21) (x := 1) kc_90_20 rfl rfl ?_
          refine xi_dup2 (pc' := 22) kc_90_21 rfl ⟨rfl, rfl⟩ ?_
          obtain ⟨v292, ev292, bv292, dv292⟩ := xj_get hy291 ry291 (i := 1) (by decide) (by decide)
          refine xi_iaload (pc' := 23) (v := v292) kc_90_22 rfl A291 (by decide) rfl (xi_in (by decide) (by rw [hy291]; decide)) ev292 ?_
          refine xi_iconst (pc' := 24) (v := 1) kc_90_23 rfl rfl ?_
          obtain ⟨v293, ev293⟩ : ∃ q : Int32, (v292 : Int32) + 1 = q := ⟨_, rfl⟩
          have rv293 := xc_rng v293
          refine xi_iadd (pc' := 25) (v := v293) kc_90_24 rfl ev293 ?_
          obtain ⟨y294, s294, hy294, ry294⟩ := xj_set (v := v293) hy291 ry291 1 (by first | omega | decide) (by first | omega | decide)
          refine xi_iastore (pc' := 26) (x' := y294) kc_90_25 rfl A291 rfl (xi_in (by decide) (by rw [hy291]; decide)) s294 (fun hh294 eh294 => ?_)
          have K295 := xk_pa K (xk_wa (by decide +kernel)) xD_94 hy294 ry294 eh294
          have KR296 := xk_pa KR (xk_wa (by decide +kernel)) xD_94 hy294 ry294 eh294
          refine xi_iload_n (pc' := 27) (x := (-1)) kc_90_26 rfl rfl ?_
          refine xi_ireturn kc_90_27 mr_90 rfl ?_
          show xw J ov 99 116 (31, [(0, .ref 0), (1, .int a23), (2, .int a25), (3, .int a27), (4, .int a29)], [.int (-1)], hh294) _
          refine xi_ireturn kc_116_31 mr_116 rfl ?_
          show xw J ov 100 195 (679, [(4, .int x4), (3, .ref 167), (2, .ref 115), (1, .ref 0), (0, .ref 1000000)], [.int (-1)], hh294) _
          refine xi_pop (pc' := 680) kc_195_679 rfl rfl ?_
          refine xi_aload_n (pc' := 681) (x := 115) kc_195_680 rfl rfl ?_
          refine xi_aload_n (pc' := 682) (x := 1000000) kc_195_681 rfl rfl ?_
          refine xi_iload (pc' := 684) (x := x4) kc_195_682 rfl rfl ?_
          refine xi_iconst (pc' := 685) (v := 1) kc_195_684 rfl rfl ?_
          refine xi_iadd (pc' := 686) (v := v22) kc_195_685 rfl ev22 ?_
          refine xi_ialoadO (pc' := 687) (v := a23) kc_195_686 rfl (by decide) hov0 (xi_in (by omega) (by omega)) ea23 ?_
          refine xi_aload_n (pc' := 688) (x := 1000000) kc_195_687 rfl rfl ?_
          refine xi_iload (pc' := 690) (x := x4) kc_195_688 rfl rfl ?_
          refine xi_iconst (pc' := 691) (v := 2) kc_195_690 rfl rfl ?_
          refine xi_iadd (pc' := 692) (v := v24) kc_195_691 rfl ev24 ?_
          refine xi_ialoadO (pc' := 693) (v := a25) kc_195_692 rfl (by decide) hov0 (xi_in (by omega) (by omega)) ea25 ?_
          refine xi_aload_n (pc' := 694) (x := 1000000) kc_195_693 rfl rfl ?_
          refine xi_iload (pc' := 696) (x := x4) kc_195_694 rfl rfl ?_
          refine xi_iconst (pc' := 697) (v := 3) kc_195_696 rfl rfl ?_
          refine xi_iadd (pc' := 698) (v := v26) kc_195_697 rfl ev26 ?_
          refine xi_ialoadO (pc' := 699) (v := a27) kc_195_698 rfl (by decide) hov0 (xi_in (by omega) (by omega)) ea27 ?_
          refine xi_aload_n (pc' := 700) (x := 1000000) kc_195_699 rfl rfl ?_
          refine xi_iload (pc' := 702) (x := x4) kc_195_700 rfl rfl ?_
          refine xi_iconst (pc' := 703) (v := 4) kc_195_702 rfl rfl ?_
          refine xi_iadd (pc' := 704) (v := v28) kc_195_703 rfl ev28 ?_
          refine xi_ialoadO (pc' := 705) (v := a29) kc_195_704 rfl (by decide) hov0 (xi_in (by omega) (by omega)) ea29 ?_
          have A297 := ((eh294.2.1 115 (by decide)).trans A17)
          refine xi_virtual (mj := 32) (as := [.int a23, .int a25, .int a27, .int a29]) (st1 := []) (lv0 := [(0, .ref 115), (1, .int a23), (2, .int a25), (3, .int a27), (4, .int a29)]) kc_195_705 rfl rfl rfl rfl rfl A297 (Nat.le_of_ble_eq_true rfl) (hJ _ _ _ _ (by decide)) (xm_le ml_32 rfl) rfl ?_
          refine xi_aload_n (pc' := 1) (x := 115) kc_32_0 rfl rfl ?_
          refine xi_iconst (pc' := 2) (v := 0) kc_32_1 rfl rfl ?_
          refine xi_putfield (pc' := 5) (fs' := [.int 0, .int u5, .ref 116, .ref 117, .ref 118, .ref 119, .ref 120, .ref 121, .ref 122, .ref 123, .ref 124, .ref 125, .ref 126, .ref 127, .ref 128, .ref 129, .int u6, .ref 130, .int u7, .ref 131, .ref 132, .ref 133, .ref 134, .int u1, .ref 135, .ref 136, .ref 137, .ref 138, .ref 139, .ref 140, .ref 141, .ref 142, .int u9, .int u10, .int u11, .ref 143, .ref 144, .ref 145, .ref 146, .ref 147, .ref 148, .int u12, .ref 149, .ref 150, .ref 151, .int u13, .ref 152, .ref 153, .ref 154, .ref 155, .ref 156, .ref 157, .ref 158, .ref 159, .int u14, .ref 160, .int u15, .ref 161, .ref 162, .ref 163, .ref 164, .int u16, .ref 165, .ref 166]) kc_32_2 rfl rfl rfl A297 rfl rfl rfl (Nat.le_of_ble_eq_true rfl) rfl (fun hh299 eh298 => ?_)
          have K300 := xk_pf (k := 0) (v := 0) K295 (xk_wf (by decide +kernel)) xD_115 A297 rfl (by first | omega | decide) (by first | omega | decide) eh298 rfl
          have KR301 := xk_pf (k := 0) (v := 0) KR296 (xk_wf (by decide +kernel)) xD_115 A297 rfl (by first | omega | decide) (by first | omega | decide) eh298 rfl
          refine xi_iload_n (pc' := 6) (x := a23) kc_32_5 rfl rfl ?_
          refine xi_iconst (pc' := 7) (v := 0) kc_32_6 rfl rfl ?_
          refine xi_iconst (pc' := 8) (v := 3) kc_32_7 rfl rfl ?_
          refine xi_static (mj := 11) (as := [.int a23, .int 0, .int 3]) (st1 := []) (lv0 := [(0, .int a23), (1, .int 0), (2, .int 3)]) kc_32_8 rfl rfl (Nat.le_of_ble_eq_true rfl) rfl rfl (Nat.le_of_ble_eq_true rfl) (hJ _ _ _ _ (by decide)) (xm_le ml_11 rfl) rfl ?_
          refine xi_iload_n (pc' := 1) (x := a23) kc_11_0 rfl rfl ?_
          refine xi_iload_n (pc' := 2) (x := 0) kc_11_1 rfl rfl ?_
          refine xi_cmf (pc' := 5) kc_11_2 rfl (xc_lt_f (X := a23.toInt) (Y := 0) rfl (by decide) (by omega)) ?_
          refine xi_iload_n (pc' := 6) (x := a23) kc_11_5 rfl rfl ?_
          refine xi_iload_n (pc' := 7) (x := 3) kc_11_6 rfl rfl ?_
          refine xi_cmf (pc' := 10) kc_11_7 rfl (xc_gt_f (X := a23.toInt) (Y := 3) rfl (by decide) (by omega)) ?_
          refine xi_iconst (pc' := 11) (v := 1) kc_11_10 rfl rfl ?_
          refine xi_goto (pc' := 15) kc_11_11 rfl ?_
          refine xi_ireturn kc_11_15 mr_11 rfl ?_
          show xw J ov 99 32 (11, [(0, .ref 115), (1, .int a23), (2, .int a25), (3, .int a27), (4, .int a29)], [.int 1], hh299) _
          refine xi_ift (pc' := 21) kc_32_11 rfl rfl ?_
          refine xi_iload_n (pc' := 22) (x := a23) kc_32_21 rfl rfl ?_
          refine xi_iconst (pc' := 23) (v := 3) kc_32_22 rfl rfl ?_
          refine xi_cmt (pc' := 36) kc_32_23 rfl (xc_ne_t (X := a23.toInt) (Y := 3) rfl (by decide) (by omega)) ?_
          refine xi_aload_n (pc' := 37) (x := 115) kc_32_36 rfl rfl ?_
          refine xi_iload_n (pc' := 38) (x := a25) kc_32_37 rfl rfl ?_
          refine xi_virtual (mj := 31) (as := [.int a25]) (st1 := []) (lv0 := [(0, .ref 115), (1, .int a25)]) kc_32_38 rfl rfl rfl rfl rfl eh298.1 (Nat.le_of_ble_eq_true rfl) (hJ _ _ _ _ (by decide)) (xm_le ml_31 rfl) rfl ?_
          refine xi_iload_n (pc' := 1) (x := a25) kc_31_0 rfl rfl ?_
          refine xi_static (mj := 24) (as := [.int a25]) (st1 := []) (lv0 := [(0, .int a25)]) kc_31_1 rfl rfl (Nat.le_of_ble_eq_true rfl) rfl rfl (Nat.le_of_ble_eq_true rfl) (hJ _ _ _ _ (by decide)) (xm_le ml_24 rfl) rfl ?_
          refine xi_iload_n (pc' := 1) (x := a25) kc_24_0 rfl rfl ?_
          refine xi_iconst (pc' := 2) (v := 0) kc_24_1 rfl rfl ?_
          refine xi_bipush (pc' := 4) (v := 11) kc_24_2 rfl rfl ?_
          refine xi_static (mj := 11) (as := [.int a25, .int 0, .int 11]) (st1 := []) (lv0 := [(0, .int a25), (1, .int 0), (2, .int 11)]) kc_24_4 rfl rfl (Nat.le_of_ble_eq_true rfl) rfl rfl (Nat.le_of_ble_eq_true rfl) (hJ _ _ _ _ (by decide)) (xm_le ml_11 rfl) rfl ?_
          refine xi_iload_n (pc' := 1) (x := a25) kc_11_0 rfl rfl ?_
          refine xi_iload_n (pc' := 2) (x := 0) kc_11_1 rfl rfl ?_
          refine xi_cmt (pc' := 14) kc_11_2 rfl (xc_lt_t (X := a25.toInt) (Y := 0) rfl (by decide) (by omega)) ?_
          refine xi_iconst (pc' := 15) (v := 0) kc_11_14 rfl rfl ?_
          refine xi_ireturn kc_11_15 mr_11 rfl ?_
          show xw J ov 97 24 (7, [(0, .int a25)], [.int 0], hh299) _
          refine xi_ireturn kc_24_7 mr_24 rfl ?_
          show xw J ov 98 31 (4, [(0, .ref 115), (1, .int a25)], [.int 0], hh299) _
          refine xi_ift (pc' := 20) kc_31_4 rfl rfl ?_
          refine xi_iconst (pc' := 21) (v := 0) kc_31_20 rfl rfl ?_
          refine xi_ireturn kc_31_21 mr_31 rfl ?_
          show xw J ov 99 32 (41, [(0, .ref 115), (1, .int a23), (2, .int a25), (3, .int a27), (4, .int a29)], [.int 0], hh299) _
          refine xi_ift (pc' := 57) kc_32_41 rfl rfl ?_
          refine xi_aload_n (pc' := 58) (x := 115) kc_32_57 rfl rfl ?_
          refine xi_iconst (pc' := 59) (v := (-1)) kc_32_58 rfl rfl ?_
          refine xi_virtual (mj := 12) (as := [.int (-1)]) (st1 := []) (lv0 := [(0, .ref 115), (1, .int (-1))]) kc_32_59 rfl rfl rfl rfl rfl eh298.1 (Nat.le_of_ble_eq_true rfl) (hJ _ _ _ _ (by decide)) (xm_le ml_12 rfl) rfl ?_
          refine xi_aload_n (pc' := 1) (x := 115) kc_12_0 rfl rfl ?_
          refine xi_getfield (pc' := 4) (v := .ref 140) kc_12_1 rfl rfl rfl eh298.1 rfl ?_
          refine xi_iload_n (pc' := 5) (x := (-1)) kc_12_4 rfl rfl ?_
          refine xi_ineg (pc' := 6) (v := 1) kc_12_5 rfl rfl ?_
          refine xi_dup2 (pc' := 7) kc_12_6 rfl ⟨rfl, rfl⟩ ?_
          obtain ⟨y302, A302, hy302, ry302⟩ := xk_arr K.1 xD_140
          obtain ⟨v303, ev303, bv303, dv303⟩ := xj_get hy302 ry302 (i := 1) (by decide) (by decide)
          have A304 := ((eh298.2.1 140 (by decide)).trans ((eh294.2.1 140 (by decide)).trans A302))
          refine xi_iaload (pc' := 8) (v := v303) kc_12_7 rfl A304 (by decide) rfl (xi_in (by decide) (by rw [hy302]; decide)) ev303 ?_
          refine xi_iconst (pc' := 9) (v := 1) kc_12_8 rfl rfl ?_
          obtain ⟨v305, ev305⟩ : ∃ q : Int32, (v303 : Int32) + 1 = q := ⟨_, rfl⟩
          have rv305 := xc_rng v305
          refine xi_iadd (pc' := 10) (v := v305) kc_12_9 rfl ev305 ?_
          obtain ⟨y306, s306, hy306, ry306⟩ := xj_set (v := v305) hy302 ry302 1 (by first | omega | decide) (by first | omega | decide)
          refine xi_iastore (pc' := 11) (x' := y306) kc_12_10 rfl A304 rfl (xi_in (by decide) (by rw [hy302]; decide)) s306 (fun hh306 eh306 => ?_)
          have K307 := xk_pa K300 (xk_wa (by decide +kernel)) xD_140 hy306 ry306 eh306
          have KR308 := xk_pa KR301 (xk_wa (by decide +kernel)) xD_140 hy306 ry306 eh306
          refine xi_iload_n (pc' := 12) (x := (-1)) kc_12_11 rfl rfl ?_
          refine xi_ireturn kc_12_12 mr_12 rfl ?_
          show xw J ov 99 32 (62, [(0, .ref 115), (1, .int a23), (2, .int a25), (3, .int a27), (4, .int a29)], [.int (-1)], hh306) _
          refine xi_ireturn kc_32_62 mr_32 rfl ?_
          show xw J ov 100 195 (708, [(4, .int x4), (3, .ref 167), (2, .ref 115), (1, .ref 0), (0, .ref 1000000)], [.int (-1)], hh306) _
          refine xi_pop (pc' := 709) kc_195_708 rfl rfl ?_
          refine xi_goto (pc' := 1501) kc_195_709 rfl ?_
          obtain ⟨v309, ev309⟩ : ∃ q : Int32, x4 + 6 = q := ⟨_, rfl⟩
          have zv309 : v309.toInt = (x4.toInt + 6) := by rw [← ev309]; exact (xz_add (X := x4.toInt) (Y := 6) rfl (by decide) (by omega) (by omega)).trans (by omega)
          refine xi_iinc (pc' := 1504) (x := x4) (v := v309) (lv' := [(4, .int v309), (3, .ref 167), (2, .ref 115), (1, .ref 0), (0, .ref 1000000)]) kc_195_1501 rfl rfl ev309 rfl (xm_lt ml_195 rfl) ?_
          refine xi_goto (pc' := 23) kc_195_1504 rfl ?_
          exact kk v309 hh306 (by omega) K307 (xI_kept I KR308.2.1)
        · refine xi_iff (pc' := 4) kc_104_1 rfl (xc_lt_f (X := a25.toInt) (Y := 0) rfl (by decide) (by omega)) ?_
          refine xi_iload_n (pc' := 5) (x := a25) kc_104_4 rfl rfl ?_
          refine xi_bipush (pc' := 7) (v := 12) kc_104_5 rfl rfl ?_
          by_cases c310 : 12 ≤ a25.toInt
          · refine xi_cmt (pc' := 14) kc_104_7 rfl (xc_ge_t (X := a25.toInt) (Y := 12) rfl (by decide) (by omega)) ?_
            refine xi_iconst (pc' := 15) (v := 0) kc_104_14 rfl rfl ?_
            refine xi_ireturn kc_104_15 mr_104 rfl ?_
            show xw J ov 97 108 (4, [(0, .ref 1), (1, .int a25)], [.int 0], h) _
            refine xi_ift (pc' := 23) kc_108_4 rfl rfl ?_
            refine xi_iconst (pc' := 24) (v := 0) kc_108_23 rfl rfl ?_
            refine xi_ireturn kc_108_24 mr_108 rfl ?_
            show xw J ov 98 118 (15, [(0, .ref 1), (1, .int a23), (2, .int a25)], [.int 0], h) _
            refine xi_ift (pc' := 38) kc_118_15 rfl rfl ?_
            refine xi_iconst (pc' := 39) (v := 0) kc_118_38 rfl rfl ?_
            refine xi_ireturn kc_118_39 mr_118 rfl ?_
            show xw J ov 99 116 (23, [(0, .ref 0), (1, .int a23), (2, .int a25), (3, .int a27), (4, .int a29)], [.int 0], h) _
            refine xi_iff (pc' := 26) kc_116_23 rfl rfl ?_
            refine xi_aload_n (pc' := 27) (x := 0) kc_116_26 rfl rfl ?_
            refine xi_iconst (pc' := 28) (v := (-1)) kc_116_27 rfl rfl ?_
            refine xi_virtual (mj := 90) (as := [.int (-1)]) (st1 := []) (lv0 := [(0, .ref 0), (1, .int (-1))]) kc_116_28 rfl rfl rfl rfl rfl A32 (Nat.le_of_ble_eq_true rfl) (hJ _ _ _ _ (by decide)) (xm_le ml_90 rfl) rfl ?_
            refine xi_iload_n (pc' := 1) (x := (-1)) kc_90_0 rfl rfl ?_
            refine xi_ineg (pc' := 2) (v := 1) kc_90_1 rfl rfl ?_
            refine xi_istore_n (pc' := 3) (lv' := [(2, .int 1), (0, .ref 0), (1, .int (-1))]) kc_90_2 rfl rfl (xm_lt ml_90 rfl) ?_
            refine xi_iload_n (pc' := 4) (x := 1) kc_90_3 rfl rfl ?_
            refine xi_iff (pc' := 7) kc_90_4 rfl rfl ?_
            refine xi_iload_n (pc' := 8) (x := 1) kc_90_7 rfl rfl ?_
            refine xi_aload_n (pc' := 9) (x := 0) kc_90_8 rfl rfl ?_
            refine xi_getfield (pc' := 12) (v := .ref 94) kc_90_9 rfl rfl rfl A32 rfl ?_
            obtain ⟨y311, A311, hy311, ry311⟩ := xk_arr K.1 xD_94
            refine xi_arraylength (pc' := 13) (n := 7) (v := 7) kc_90_12 rfl (xl_lenI (by decide) (by decide) A311 hy311) rfl ?_
            refine xi_cmf (pc' := 16) kc_90_13 rfl rfl ?_
            refine xi_aload_n (pc' := 17) (x := 0) kc_90_16 rfl rfl ?_
            refine xi_getfield (pc' := 20) (v := .ref 94) kc_90_17 rfl rfl rfl A32 rfl ?_
            refine xi_iload_n (pc' := 21) (x := 1) kc_90_20 rfl rfl ?_
            refine xi_dup2 (pc' := 22) kc_90_21 rfl ⟨rfl, rfl⟩ ?_
            obtain ⟨v312, ev312, bv312, dv312⟩ := xj_get hy311 ry311 (i := 1) (by decide) (by decide)
            refine xi_iaload (pc' := 23) (v := v312) kc_90_22 rfl A311 (by decide) rfl (xi_in (by decide) (by rw [hy311]; decide)) ev312 ?_
            refine xi_iconst (pc' := 24) (v := 1) kc_90_23 rfl rfl ?_
            obtain ⟨v313, ev313⟩ : ∃ q : Int32, (v312 : Int32) + 1 = q := ⟨_, rfl⟩
            have rv313 := xc_rng v313
            refine xi_iadd (pc' := 25) (v := v313) kc_90_24 rfl ev313 ?_
            obtain ⟨y314, s314, hy314, ry314⟩ := xj_set (v := v313) hy311 ry311 1 (by first | omega | decide) (by first | omega | decide)
            refine xi_iastore (pc' := 26) (x' := y314) kc_90_25 rfl A311 rfl (xi_in (by decide) (by rw [hy311]; decide)) s314 (fun hh314 eh314 => ?_)
            have K315 := xk_pa K (xk_wa (by decide +kernel)) xD_94 hy314 ry314 eh314
            have KR316 := xk_pa KR (xk_wa (by decide +kernel)) xD_94 hy314 ry314 eh314
            refine xi_iload_n (pc' := 27) (x := (-1)) kc_90_26 rfl rfl ?_
            refine xi_ireturn kc_90_27 mr_90 rfl ?_
            show xw J ov 99 116 (31, [(0, .ref 0), (1, .int a23), (2, .int a25), (3, .int a27), (4, .int a29)], [.int (-1)], hh314) _
            refine xi_ireturn kc_116_31 mr_116 rfl ?_
            show xw J ov 100 195 (679, [(4, .int x4), (3, .ref 167), (2, .ref 115), (1, .ref 0), (0, .ref 1000000)], [.int (-1)], hh314) _
            refine xi_pop (pc' := 680) kc_195_679 rfl rfl ?_
            refine xi_aload_n (pc' := 681) (x := 115) kc_195_680 rfl rfl ?_
            refine xi_aload_n (pc' := 682) (x := 1000000) kc_195_681 rfl rfl ?_
            refine xi_iload (pc' := 684) (x := x4) kc_195_682 rfl rfl ?_
            refine xi_iconst (pc' := 685) (v := 1) kc_195_684 rfl rfl ?_
            refine xi_iadd (pc' := 686) (v := v22) kc_195_685 rfl ev22 ?_
            refine xi_ialoadO (pc' := 687) (v := a23) kc_195_686 rfl (by decide) hov0 (xi_in (by omega) (by omega)) ea23 ?_
            refine xi_aload_n (pc' := 688) (x := 1000000) kc_195_687 rfl rfl ?_
            refine xi_iload (pc' := 690) (x := x4) kc_195_688 rfl rfl ?_
            refine xi_iconst (pc' := 691) (v := 2) kc_195_690 rfl rfl ?_
            refine xi_iadd (pc' := 692) (v := v24) kc_195_691 rfl ev24 ?_
            refine xi_ialoadO (pc' := 693) (v := a25) kc_195_692 rfl (by decide) hov0 (xi_in (by omega) (by omega)) ea25 ?_
            refine xi_aload_n (pc' := 694) (x := 1000000) kc_195_693 rfl rfl ?_
            refine xi_iload (pc' := 696) (x := x4) kc_195_694 rfl rfl ?_
            refine xi_iconst (pc' := 697) (v := 3) kc_195_696 rfl rfl ?_
            refine xi_iadd (pc' := 698) (v := v26) kc_195_697 rfl ev26 ?_
            refine xi_ialoadO (pc' := 699) (v := a27) kc_195_698 rfl (by decide) hov0 (xi_in (by omega) (by omega)) ea27 ?_
            refine xi_aload_n (pc' := 700) (x := 1000000) kc_195_699 rfl rfl ?_
            refine xi_iload (pc' := 702) (x := x4) kc_195_700 rfl rfl ?_
            refine xi_iconst (pc' := 703) (v := 4) kc_195_702 rfl rfl ?_
            refine xi_iadd (pc' := 704) (v := v28) kc_195_703 rfl ev28 ?_
            refine xi_ialoadO (pc' := 705) (v := a29) kc_195_704 rfl (by decide) hov0 (xi_in (by omega) (by omega)) ea29 ?_
            have A317 := ((eh314.2.1 115 (by decide)).trans A17)
            refine xi_virtual (mj := 32) (as := [.int a23, .int a25, .int a27, .int a29]) (st1 := []) (lv0 := [(0, .ref 115), (1, .int a23), (2, .int a25), (3, .int a27), (4, .int a29)]) kc_195_705 rfl rfl rfl rfl rfl A317 (Nat.le_of_ble_eq_true rfl) (hJ _ _ _ _ (by decide)) (xm_le ml_32 rfl) rfl ?_
            refine xi_aload_n (pc' := 1) (x := 115) kc_32_0 rfl rfl ?_
            refine xi_iconst (pc' := 2) (v := 0) kc_32_1 rfl rfl ?_
            refine xi_putfield (pc' := 5) (fs' := [.int 0, .int u5, .ref 116, .ref 117, .ref 118, .ref 119, .ref 120, .ref 121, .ref 122, .ref 123, .ref 124, .ref 125, .ref 126, .ref 127, .ref 128, .ref 129, .int u6, .ref 130, .int u7, .ref 131, .ref 132, .ref 133, .ref 134, .int u1, .ref 135, .ref 136, .ref 137, .ref 138, .ref 139, .ref 140, .ref 141, .ref 142, .int u9, .int u10, .int u11, .ref 143, .ref 144, .ref 145, .ref 146, .ref 147, .ref 148, .int u12, .ref 149, .ref 150, .ref 151, .int u13, .ref 152, .ref 153, .ref 154, .ref 155, .ref 156, .ref 157, .ref 158, .ref 159, .int u14, .ref 160, .int u15, .ref 161, .ref 162, .ref 163, .ref 164, .int u16, .ref 165, .ref 166]) kc_32_2 rfl rfl rfl A317 rfl rfl rfl (Nat.le_of_ble_eq_true rfl) rfl (fun hh319 eh318 => ?_)
            have K320 := xk_pf (k := 0) (v := 0) K315 (xk_wf (by decide +kernel)) xD_115 A317 rfl (by first | omega | decide) (by first | omega | decide) eh318 rfl
            have KR321 := xk_pf (k := 0) (v := 0) KR316 (xk_wf (by decide +kernel)) xD_115 A317 rfl (by first | omega | decide) (by first | omega | decide) eh318 rfl
            refine xi_iload_n (pc' := 6) (x := a23) kc_32_5 rfl rfl ?_
            refine xi_iconst (pc' := 7) (v := 0) kc_32_6 rfl rfl ?_
            refine xi_iconst (pc' := 8) (v := 3) kc_32_7 rfl rfl ?_
            refine xi_static (mj := 11) (as := [.int a23, .int 0, .int 3]) (st1 := []) (lv0 := [(0, .int a23), (1, .int 0), (2, .int 3)]) kc_32_8 rfl rfl (Nat.le_of_ble_eq_true rfl) rfl rfl (Nat.le_of_ble_eq_true rfl) (hJ _ _ _ _ (by decide)) (xm_le ml_11 rfl) rfl ?_
            refine xi_iload_n (pc' := 1) (x := a23) kc_11_0 rfl rfl ?_
            refine xi_iload_n (pc' := 2) (x := 0) kc_11_1 rfl rfl ?_
            refine xi_cmf (pc' := 5) kc_11_2 rfl (xc_lt_f (X := a23.toInt) (Y := 0) rfl (by decide) (by omega)) ?_
            refine xi_iload_n (pc' := 6) (x := a23) kc_11_5 rfl rfl ?_
            refine xi_iload_n (pc' := 7) (x := 3) kc_11_6 rfl rfl ?_
            refine xi_cmf (pc' := 10) kc_11_7 rfl (xc_gt_f (X := a23.toInt) (Y := 3) rfl (by decide) (by omega)) ?_
            refine xi_iconst (pc' := 11) (v := 1) kc_11_10 rfl rfl ?_
            refine xi_goto (pc' := 15) kc_11_11 rfl ?_
            refine xi_ireturn kc_11_15 mr_11 rfl ?_
            show xw J ov 99 32 (11, [(0, .ref 115), (1, .int a23), (2, .int a25), (3, .int a27), (4, .int a29)], [.int 1], hh319) _
            refine xi_ift (pc' := 21) kc_32_11 rfl rfl ?_
            refine xi_iload_n (pc' := 22) (x := a23) kc_32_21 rfl rfl ?_
            refine xi_iconst (pc' := 23) (v := 3) kc_32_22 rfl rfl ?_
            refine xi_cmt (pc' := 36) kc_32_23 rfl (xc_ne_t (X := a23.toInt) (Y := 3) rfl (by decide) (by omega)) ?_
            refine xi_aload_n (pc' := 37) (x := 115) kc_32_36 rfl rfl ?_
            refine xi_iload_n (pc' := 38) (x := a25) kc_32_37 rfl rfl ?_
            refine xi_virtual (mj := 31) (as := [.int a25]) (st1 := []) (lv0 := [(0, .ref 115), (1, .int a25)]) kc_32_38 rfl rfl rfl rfl rfl eh318.1 (Nat.le_of_ble_eq_true rfl) (hJ _ _ _ _ (by decide)) (xm_le ml_31 rfl) rfl ?_
            refine xi_iload_n (pc' := 1) (x := a25) kc_31_0 rfl rfl ?_
            refine xi_static (mj := 24) (as := [.int a25]) (st1 := []) (lv0 := [(0, .int a25)]) kc_31_1 rfl rfl (Nat.le_of_ble_eq_true rfl) rfl rfl (Nat.le_of_ble_eq_true rfl) (hJ _ _ _ _ (by decide)) (xm_le ml_24 rfl) rfl ?_
            refine xi_iload_n (pc' := 1) (x := a25) kc_24_0 rfl rfl ?_
            refine xi_iconst (pc' := 2) (v := 0) kc_24_1 rfl rfl ?_
            refine xi_bipush (pc' := 4) (v := 11) kc_24_2 rfl rfl ?_
            refine xi_static (mj := 11) (as := [.int a25, .int 0, .int 11]) (st1 := []) (lv0 := [(0, .int a25), (1, .int 0), (2, .int 11)]) kc_24_4 rfl rfl (Nat.le_of_ble_eq_true rfl) rfl rfl (Nat.le_of_ble_eq_true rfl) (hJ _ _ _ _ (by decide)) (xm_le ml_11 rfl) rfl ?_
            refine xi_iload_n (pc' := 1) (x := a25) kc_11_0 rfl rfl ?_
            refine xi_iload_n (pc' := 2) (x := 0) kc_11_1 rfl rfl ?_
            refine xi_cmf (pc' := 5) kc_11_2 rfl (xc_lt_f (X := a25.toInt) (Y := 0) rfl (by decide) (by omega)) ?_
            refine xi_iload_n (pc' := 6) (x := a25) kc_11_5 rfl rfl ?_
            refine xi_iload_n (pc' := 7) (x := 11) kc_11_6 rfl rfl ?_
            refine xi_cmt (pc' := 14) kc_11_7 rfl (xc_gt_t (X := a25.toInt) (Y := 11) rfl (by decide) (by omega)) ?_
            refine xi_iconst (pc' := 15) (v := 0) kc_11_14 rfl rfl ?_
            refine xi_ireturn kc_11_15 mr_11 rfl ?_
            show xw J ov 97 24 (7, [(0, .int a25)], [.int 0], hh319) _
            refine xi_ireturn kc_24_7 mr_24 rfl ?_
            show xw J ov 98 31 (4, [(0, .ref 115), (1, .int a25)], [.int 0], hh319) _
            refine xi_ift (pc' := 20) kc_31_4 rfl rfl ?_
            refine xi_iconst (pc' := 21) (v := 0) kc_31_20 rfl rfl ?_
            refine xi_ireturn kc_31_21 mr_31 rfl ?_
            show xw J ov 99 32 (41, [(0, .ref 115), (1, .int a23), (2, .int a25), (3, .int a27), (4, .int a29)], [.int 0], hh319) _
            refine xi_ift (pc' := 57) kc_32_41 rfl rfl ?_
            refine xi_aload_n (pc' := 58) (x := 115) kc_32_57 rfl rfl ?_
            refine xi_iconst (pc' := 59) (v := (-1)) kc_32_58 rfl rfl ?_
            refine xi_virtual (mj := 12) (as := [.int (-1)]) (st1 := []) (lv0 := [(0, .ref 115), (1, .int (-1))]) kc_32_59 rfl rfl rfl rfl rfl eh318.1 (Nat.le_of_ble_eq_true rfl) (hJ _ _ _ _ (by decide)) (xm_le ml_12 rfl) rfl ?_
            refine xi_aload_n (pc' := 1) (x := 115) kc_12_0 rfl rfl ?_
            refine xi_getfield (pc' := 4) (v := .ref 140) kc_12_1 rfl rfl rfl eh318.1 rfl ?_
            refine xi_iload_n (pc' := 5) (x := (-1)) kc_12_4 rfl rfl ?_
            refine xi_ineg (pc' := 6) (v := 1) kc_12_5 rfl rfl ?_
            refine xi_dup2 (pc' := 7) kc_12_6 rfl ⟨rfl, rfl⟩ ?_
            obtain ⟨y322, A322, hy322, ry322⟩ := xk_arr K.1 xD_140
            obtain ⟨v323, ev323, bv323, dv323⟩ := xj_get hy322 ry322 (i := 1) (by decide) (by decide)
            have A324 := ((eh318.2.1 140 (by decide)).trans ((eh314.2.1 140 (by decide)).trans A322))
            refine xi_iaload (pc' := 8) (v := v323) kc_12_7 rfl A324 (by decide) rfl (xi_in (by decide) (by rw [hy322]; decide)) ev323 ?_
            refine xi_iconst (pc' := 9) (v := 1) kc_12_8 rfl rfl ?_
            obtain ⟨v325, ev325⟩ : ∃ q : Int32, (v323 : Int32) + 1 = q := ⟨_, rfl⟩
            have rv325 := xc_rng v325
            refine xi_iadd (pc' := 10) (v := v325) kc_12_9 rfl ev325 ?_
            obtain ⟨y326, s326, hy326, ry326⟩ := xj_set (v := v325) hy322 ry322 1 (by first | omega | decide) (by first | omega | decide)
            refine xi_iastore (pc' := 11) (x' := y326) kc_12_10 rfl A324 rfl (xi_in (by decide) (by rw [hy322]; decide)) s326 (fun hh326 eh326 => ?_)
            have K327 := xk_pa K320 (xk_wa (by decide +kernel)) xD_140 hy326 ry326 eh326
            have KR328 := xk_pa KR321 (xk_wa (by decide +kernel)) xD_140 hy326 ry326 eh326
            refine xi_iload_n (pc' := 12) (x := (-1)) kc_12_11 rfl rfl ?_
            refine xi_ireturn kc_12_12 mr_12 rfl ?_
            show xw J ov 99 32 (62, [(0, .ref 115), (1, .int a23), (2, .int a25), (3, .int a27), (4, .int a29)], [.int (-1)], hh326) _
            refine xi_ireturn kc_32_62 mr_32 rfl ?_
            show xw J ov 100 195 (708, [(4, .int x4), (3, .ref 167), (2, .ref 115), (1, .ref 0), (0, .ref 1000000)], [.int (-1)], hh326) _
            refine xi_pop (pc' := 709) kc_195_708 rfl rfl ?_
            refine xi_goto (pc' := 1501) kc_195_709 rfl ?_
            obtain ⟨v329, ev329⟩ : ∃ q : Int32, x4 + 6 = q := ⟨_, rfl⟩
            have zv329 : v329.toInt = (x4.toInt + 6) := by rw [← ev329]; exact (xz_add (X := x4.toInt) (Y := 6) rfl (by decide) (by omega) (by omega)).trans (by omega)
            refine xi_iinc (pc' := 1504) (x := x4) (v := v329) (lv' := [(4, .int v329), (3, .ref 167), (2, .ref 115), (1, .ref 0), (0, .ref 1000000)]) kc_195_1501 rfl rfl ev329 rfl (xm_lt ml_195 rfl) ?_
            refine xi_goto (pc' := 23) kc_195_1504 rfl ?_
            exact kk v329 hh326 (by omega) K327 (xI_kept I KR328.2.1)
          · refine xi_cmf (pc' := 10) kc_104_7 rfl (xc_ge_f (X := a25.toInt) (Y := 12) rfl (by decide) (by omega)) ?_
            refine xi_iconst (pc' := 11) (v := 1) kc_104_10 rfl rfl ?_
            refine xi_goto (pc' := 15) kc_104_11 rfl ?_
            refine xi_ireturn kc_104_15 mr_104 rfl ?_
            show xw J ov 97 108 (4, [(0, .ref 1), (1, .int a25)], [.int 1], h) _
            refine xi_iff (pc' := 7) kc_108_4 rfl rfl ?_
            refine xi_aload_n (pc' := 8) (x := 1) kc_108_7 rfl rfl ?_
            refine xi_getfield (pc' := 11) (v := .ref 3) kc_108_8 rfl rfl rfl A3 rfl ?_
            refine xi_iload_n (pc' := 12) (x := a25) kc_108_11 rfl rfl ?_
            have A330 := xk_ex K.1 xD_3
            obtain ⟨pt331, ept331, mpt331⟩ := xR_3 (i := a25) (by omega) (by omega)
            refine xj_aaload (pc' := 13) (b := pt331) kc_108_12 rfl A330 rfl (xi_in (n := 12) (by omega) (by omega)) ept331 ?_
            obtain ⟨u332, u333, u334, u335, pt336, bu332, bu333, bu334, bu335, mpt336, A337⟩ := xg_wall K.1 mpt331
            obtain ⟨y338, A338, hy338, ry338⟩ := xk_arr K.1 xD_125
            have HG339 : y338.getD (Int32.toNatClampNeg a25) 0 = u332 := xGR_ld (Lo := [some 29, some 31, some 33, some 35, some 37, some 39, some 41, some 43, some 45, some 47, some 49, some 51]) I.2.2.2.2.2.2.2.2.2.2.2.2.2.2.2.1 rfl ept331 (by omega) (by show _ < ((12 : Nat) : Int); omega) A337 rfl A338
            have bHG339 : (-9) ≤ u332.toInt ∧ u332.toInt ≤ 5 := by rw [← HG339]; exact ry338 _ (xj_nat (n := 12) (by omega) (by omega))
            obtain ⟨y340, A340, hy340, ry340⟩ := xk_arr K.1 xD_127
            have HG341 : y340.getD (Int32.toNatClampNeg a25) 0 = u334 := xGR_ld (Lo := [some 29, some 31, some 33, some 35, some 37, some 39, some 41, some 43, some 45, some 47, some 49, some 51]) I.2.2.2.2.2.2.2.2.2.2.2.2.2.2.2.2.1 rfl ept331 (by omega) (by show _ < ((12 : Nat) : Int); omega) A337 rfl A340
            have bHG341 : 0 ≤ u334.toInt ∧ u334.toInt ≤ 1 := by rw [← HG341]; exact ry340 _ (xj_nat (n := 12) (by omega) (by omega))
            refine xi_virtual (mj := 105) (as := []) (st1 := []) (lv0 := [(0, .ref pt331)]) kc_108_13 rfl rfl rfl rfl rfl A337 (Nat.le_of_ble_eq_true rfl) (hJ _ _ _ _ (by decide)) (xm_le ml_105 rfl) rfl ?_
            refine xi_aload_n (pc' := 1) (x := pt331) kc_105_0 rfl rfl ?_
            refine xi_getfield (pc' := 4) (v := .int u332) kc_105_1 rfl rfl rfl A337 rfl ?_
            refine xi_static (mj := 89) (as := [.int u332]) (st1 := []) (lv0 := [(0, .int u332)]) kc_105_4 rfl rfl (Nat.le_of_ble_eq_true rfl) rfl rfl (Nat.le_of_ble_eq_true rfl) (hJ _ _ _ _ (by decide)) (xm_le ml_89 rfl) rfl ?_
            refine xi_iload_n (pc' := 1) (x := u332) kc_89_0 rfl rfl ?_
            by_cases c342 : u332.toInt < 0
            · refine xi_ift (pc' := 14) kc_89_1 rfl (xc_lt_t (X := u332.toInt) (Y := 0) rfl (by decide) (by omega)) ?_
              refine xi_iconst (pc' := 15) (v := 0) kc_89_14 rfl rfl ?_
              refine xi_ireturn kc_89_15 mr_89 rfl ?_
              show xw J ov 96 105 (7, [(0, .ref pt331)], [.int 0], h) _
              refine xi_ireturn kc_105_7 mr_105 rfl ?_
              show xw J ov 97 108 (16, [(0, .ref 1), (1, .int a25)], [.int 0], h) _
              refine xi_ift (pc' := 23) kc_108_16 rfl rfl ?_
              refine xi_iconst (pc' := 24) (v := 0) kc_108_23 rfl rfl ?_
              refine xi_ireturn kc_108_24 mr_108 rfl ?_
              show xw J ov 98 118 (15, [(0, .ref 1), (1, .int a23), (2, .int a25)], [.int 0], h) _
              refine xi_ift (pc' := 38) kc_118_15 rfl rfl ?_
              refine xi_iconst (pc' := 39) (v := 0) kc_118_38 rfl rfl ?_
              refine xi_ireturn kc_118_39 mr_118 rfl ?_
              show xw J ov 99 116 (23, [(0, .ref 0), (1, .int a23), (2, .int a25), (3, .int a27), (4, .int a29)], [.int 0], h) _
              refine xi_iff (pc' := 26) kc_116_23 rfl rfl ?_
              refine xi_aload_n (pc' := 27) (x := 0) kc_116_26 rfl rfl ?_
              refine xi_iconst (pc' := 28) (v := (-1)) kc_116_27 rfl rfl ?_
              refine xi_virtual (mj := 90) (as := [.int (-1)]) (st1 := []) (lv0 := [(0, .ref 0), (1, .int (-1))]) kc_116_28 rfl rfl rfl rfl rfl A32 (Nat.le_of_ble_eq_true rfl) (hJ _ _ _ _ (by decide)) (xm_le ml_90 rfl) rfl ?_
              refine xi_iload_n (pc' := 1) (x := (-1)) kc_90_0 rfl rfl ?_
              refine xi_ineg (pc' := 2) (v := 1) kc_90_1 rfl rfl ?_
              refine xi_istore_n (pc' := 3) (lv' := [(2, .int 1), (0, .ref 0), (1, .int (-1))]) kc_90_2 rfl rfl (xm_lt ml_90 rfl) ?_
              refine xi_iload_n (pc' := 4) (x := 1) kc_90_3 rfl rfl ?_
              refine xi_iff (pc' := 7) kc_90_4 rfl rfl ?_
              refine xi_iload_n (pc' := 8) (x := 1) kc_90_7 rfl rfl ?_
              refine xi_aload_n (pc' := 9) (x := 0) kc_90_8 rfl rfl ?_
              refine xi_getfield (pc' := 12) (v := .ref 94) kc_90_9 rfl rfl rfl A32 rfl ?_
              obtain ⟨y343, A343, hy343, ry343⟩ := xk_arr K.1 xD_94
              refine xi_arraylength (pc' := 13) (n := 7) (v := 7) kc_90_12 rfl (xl_lenI (by decide) (by decide) A343 hy343) rfl ?_
              refine xi_cmf (pc' := 16) kc_90_13 rfl rfl ?_
              refine xi_aload_n (pc' := 17) (x := 0) kc_90_16 rfl rfl ?_
              refine xi_getfield (pc' := 20) (v := .ref 94) kc_90_17 rfl rfl rfl A32 rfl ?_
              refine xi_iload_n (pc' := 21) (x := 1) kc_90_20 rfl rfl ?_
              refine xi_dup2 (pc' := 22) kc_90_21 rfl ⟨rfl, rfl⟩ ?_
              obtain ⟨v344, ev344, bv344, dv344⟩ := xj_get hy343 ry343 (i := 1) (by decide) (by decide)
              refine xi_iaload (pc' := 23) (v := v344) kc_90_22 rfl A343 (by decide) rfl (xi_in (by decide) (by rw [hy343]; decide)) ev344 ?_
              refine xi_iconst (pc' := 24) (v := 1) kc_90_23 rfl rfl ?_
              obtain ⟨v345, ev345⟩ : ∃ q : Int32, (v344 : Int32) + 1 = q := ⟨_, rfl⟩
              have rv345 := xc_rng v345
              refine xi_iadd (pc' := 25) (v := v345) kc_90_24 rfl ev345 ?_
              obtain ⟨y346, s346, hy346, ry346⟩ := xj_set (v := v345) hy343 ry343 1 (by first | omega | decide) (by first | omega | decide)
              refine xi_iastore (pc' := 26) (x' := y346) kc_90_25 rfl A343 rfl (xi_in (by decide) (by rw [hy343]; decide)) s346 (fun hh346 eh346 => ?_)
              have K347 := xk_pa K (xk_wa (by decide +kernel)) xD_94 hy346 ry346 eh346
              have KR348 := xk_pa KR (xk_wa (by decide +kernel)) xD_94 hy346 ry346 eh346
              refine xi_iload_n (pc' := 27) (x := (-1)) kc_90_26 rfl rfl ?_
              refine xi_ireturn kc_90_27 mr_90 rfl ?_
              show xw J ov 99 116 (31, [(0, .ref 0), (1, .int a23), (2, .int a25), (3, .int a27), (4, .int a29)], [.int (-1)], hh346) _
              refine xi_ireturn kc_116_31 mr_116 rfl ?_
              show xw J ov 100 195 (679, [(4, .int x4), (3, .ref 167), (2, .ref 115), (1, .ref 0), (0, .ref 1000000)], [.int (-1)], hh346) _
              refine xi_pop (pc' := 680) kc_195_679 rfl rfl ?_
              refine xi_aload_n (pc' := 681) (x := 115) kc_195_680 rfl rfl ?_
              refine xi_aload_n (pc' := 682) (x := 1000000) kc_195_681 rfl rfl ?_
              refine xi_iload (pc' := 684) (x := x4) kc_195_682 rfl rfl ?_
              refine xi_iconst (pc' := 685) (v := 1) kc_195_684 rfl rfl ?_
              refine xi_iadd (pc' := 686) (v := v22) kc_195_685 rfl ev22 ?_
              refine xi_ialoadO (pc' := 687) (v := a23) kc_195_686 rfl (by decide) hov0 (xi_in (by omega) (by omega)) ea23 ?_
              refine xi_aload_n (pc' := 688) (x := 1000000) kc_195_687 rfl rfl ?_
              refine xi_iload (pc' := 690) (x := x4) kc_195_688 rfl rfl ?_
              refine xi_iconst (pc' := 691) (v := 2) kc_195_690 rfl rfl ?_
              refine xi_iadd (pc' := 692) (v := v24) kc_195_691 rfl ev24 ?_
              refine xi_ialoadO (pc' := 693) (v := a25) kc_195_692 rfl (by decide) hov0 (xi_in (by omega) (by omega)) ea25 ?_
              refine xi_aload_n (pc' := 694) (x := 1000000) kc_195_693 rfl rfl ?_
              refine xi_iload (pc' := 696) (x := x4) kc_195_694 rfl rfl ?_
              refine xi_iconst (pc' := 697) (v := 3) kc_195_696 rfl rfl ?_
              refine xi_iadd (pc' := 698) (v := v26) kc_195_697 rfl ev26 ?_
              refine xi_ialoadO (pc' := 699) (v := a27) kc_195_698 rfl (by decide) hov0 (xi_in (by omega) (by omega)) ea27 ?_
              refine xi_aload_n (pc' := 700) (x := 1000000) kc_195_699 rfl rfl ?_
              refine xi_iload (pc' := 702) (x := x4) kc_195_700 rfl rfl ?_
              refine xi_iconst (pc' := 703) (v := 4) kc_195_702 rfl rfl ?_
              refine xi_iadd (pc' := 704) (v := v28) kc_195_703 rfl ev28 ?_
              refine xi_ialoadO (pc' := 705) (v := a29) kc_195_704 rfl (by decide) hov0 (xi_in (by omega) (by omega)) ea29 ?_
              have A349 := ((eh346.2.1 115 (by decide)).trans A17)
              refine xi_virtual (mj := 32) (as := [.int a23, .int a25, .int a27, .int a29]) (st1 := []) (lv0 := [(0, .ref 115), (1, .int a23), (2, .int a25), (3, .int a27), (4, .int a29)]) kc_195_705 rfl rfl rfl rfl rfl A349 (Nat.le_of_ble_eq_true rfl) (hJ _ _ _ _ (by decide)) (xm_le ml_32 rfl) rfl ?_
              refine xi_aload_n (pc' := 1) (x := 115) kc_32_0 rfl rfl ?_
              refine xi_iconst (pc' := 2) (v := 0) kc_32_1 rfl rfl ?_
              refine xi_putfield (pc' := 5) (fs' := [.int 0, .int u5, .ref 116, .ref 117, .ref 118, .ref 119, .ref 120, .ref 121, .ref 122, .ref 123, .ref 124, .ref 125, .ref 126, .ref 127, .ref 128, .ref 129, .int u6, .ref 130, .int u7, .ref 131, .ref 132, .ref 133, .ref 134, .int u1, .ref 135, .ref 136, .ref 137, .ref 138, .ref 139, .ref 140, .ref 141, .ref 142, .int u9, .int u10, .int u11, .ref 143, .ref 144, .ref 145, .ref 146, .ref 147, .ref 148, .int u12, .ref 149, .ref 150, .ref 151, .int u13, .ref 152, .ref 153, .ref 154, .ref 155, .ref 156, .ref 157, .ref 158, .ref 159, .int u14, .ref 160, .int u15, .ref 161, .ref 162, .ref 163, .ref 164, .int u16, .ref 165, .ref 166]) kc_32_2 rfl rfl rfl A349 rfl rfl rfl (Nat.le_of_ble_eq_true rfl) rfl (fun hh351 eh350 => ?_)
              have K352 := xk_pf (k := 0) (v := 0) K347 (xk_wf (by decide +kernel)) xD_115 A349 rfl (by first | omega | decide) (by first | omega | decide) eh350 rfl
              have KR353 := xk_pf (k := 0) (v := 0) KR348 (xk_wf (by decide +kernel)) xD_115 A349 rfl (by first | omega | decide) (by first | omega | decide) eh350 rfl
              refine xi_iload_n (pc' := 6) (x := a23) kc_32_5 rfl rfl ?_
              refine xi_iconst (pc' := 7) (v := 0) kc_32_6 rfl rfl ?_
              refine xi_iconst (pc' := 8) (v := 3) kc_32_7 rfl rfl ?_
              refine xi_static (mj := 11) (as := [.int a23, .int 0, .int 3]) (st1 := []) (lv0 := [(0, .int a23), (1, .int 0), (2, .int 3)]) kc_32_8 rfl rfl (Nat.le_of_ble_eq_true rfl) rfl rfl (Nat.le_of_ble_eq_true rfl) (hJ _ _ _ _ (by decide)) (xm_le ml_11 rfl) rfl ?_
              refine xi_iload_n (pc' := 1) (x := a23) kc_11_0 rfl rfl ?_
              refine xi_iload_n (pc' := 2) (x := 0) kc_11_1 rfl rfl ?_
              refine xi_cmf (pc' := 5) kc_11_2 rfl (xc_lt_f (X := a23.toInt) (Y := 0) rfl (by decide) (by omega)) ?_
              refine xi_iload_n (pc' := 6) (x := a23) kc_11_5 rfl rfl ?_
              refine xi_iload_n (pc' := 7) (x := 3) kc_11_6 rfl rfl ?_
              refine xi_cmf (pc' := 10) kc_11_7 rfl (xc_gt_f (X := a23.toInt) (Y := 3) rfl (by decide) (by omega)) ?_
              refine xi_iconst (pc' := 11) (v := 1) kc_11_10 rfl rfl ?_
              refine xi_goto (pc' := 15) kc_11_11 rfl ?_
              refine xi_ireturn kc_11_15 mr_11 rfl ?_
              show xw J ov 99 32 (11, [(0, .ref 115), (1, .int a23), (2, .int a25), (3, .int a27), (4, .int a29)], [.int 1], hh351) _
              refine xi_ift (pc' := 21) kc_32_11 rfl rfl ?_
              refine xi_iload_n (pc' := 22) (x := a23) kc_32_21 rfl rfl ?_
              refine xi_iconst (pc' := 23) (v := 3) kc_32_22 rfl rfl ?_
              refine xi_cmt (pc' := 36) kc_32_23 rfl (xc_ne_t (X := a23.toInt) (Y := 3) rfl (by decide) (by omega)) ?_
              refine xi_aload_n (pc' := 37) (x := 115) kc_32_36 rfl rfl ?_
              refine xi_iload_n (pc' := 38) (x := a25) kc_32_37 rfl rfl ?_
              refine xi_virtual (mj := 31) (as := [.int a25]) (st1 := []) (lv0 := [(0, .ref 115), (1, .int a25)]) kc_32_38 rfl rfl rfl rfl rfl eh350.1 (Nat.le_of_ble_eq_true rfl) (hJ _ _ _ _ (by decide)) (xm_le ml_31 rfl) rfl ?_
              refine xi_iload_n (pc' := 1) (x := a25) kc_31_0 rfl rfl ?_
              refine xi_static (mj := 24) (as := [.int a25]) (st1 := []) (lv0 := [(0, .int a25)]) kc_31_1 rfl rfl (Nat.le_of_ble_eq_true rfl) rfl rfl (Nat.le_of_ble_eq_true rfl) (hJ _ _ _ _ (by decide)) (xm_le ml_24 rfl) rfl ?_
              refine xi_iload_n (pc' := 1) (x := a25) kc_24_0 rfl rfl ?_
              refine xi_iconst (pc' := 2) (v := 0) kc_24_1 rfl rfl ?_
              refine xi_bipush (pc' := 4) (v := 11) kc_24_2 rfl rfl ?_
              refine xi_static (mj := 11) (as := [.int a25, .int 0, .int 11]) (st1 := []) (lv0 := [(0, .int a25), (1, .int 0), (2, .int 11)]) kc_24_4 rfl rfl (Nat.le_of_ble_eq_true rfl) rfl rfl (Nat.le_of_ble_eq_true rfl) (hJ _ _ _ _ (by decide)) (xm_le ml_11 rfl) rfl ?_
              refine xi_iload_n (pc' := 1) (x := a25) kc_11_0 rfl rfl ?_
              refine xi_iload_n (pc' := 2) (x := 0) kc_11_1 rfl rfl ?_
              refine xi_cmf (pc' := 5) kc_11_2 rfl (xc_lt_f (X := a25.toInt) (Y := 0) rfl (by decide) (by omega)) ?_
              refine xi_iload_n (pc' := 6) (x := a25) kc_11_5 rfl rfl ?_
              refine xi_iload_n (pc' := 7) (x := 11) kc_11_6 rfl rfl ?_
              refine xi_cmf (pc' := 10) kc_11_7 rfl (xc_gt_f (X := a25.toInt) (Y := 11) rfl (by decide) (by omega)) ?_
              refine xi_iconst (pc' := 11) (v := 1) kc_11_10 rfl rfl ?_
              refine xi_goto (pc' := 15) kc_11_11 rfl ?_
              refine xi_ireturn kc_11_15 mr_11 rfl ?_
              show xw J ov 97 24 (7, [(0, .int a25)], [.int 1], hh351) _
              refine xi_ireturn kc_24_7 mr_24 rfl ?_
              show xw J ov 98 31 (4, [(0, .ref 115), (1, .int a25)], [.int 1], hh351) _
              refine xi_iff (pc' := 7) kc_31_4 rfl rfl ?_
              refine xi_aload_n (pc' := 8) (x := 115) kc_31_7 rfl rfl ?_
              refine xi_getfield (pc' := 11) (v := .ref 125) kc_31_8 rfl rfl rfl eh350.1 rfl ?_
              refine xi_iload_n (pc' := 12) (x := a25) kc_31_11 rfl rfl ?_
              have A354 := ((eh350.2.1 125 (by decide)).trans ((eh346.2.1 125 (by decide)).trans A338))
              refine xi_iaload (pc' := 13) (v := u332) kc_31_12 rfl A354 (by decide) rfl (xi_in (by omega) (by rw [hy338]; omega)) HG339 ?_
              refine xi_ift (pc' := 20) kc_31_13 rfl (xc_lt_t (X := u332.toInt) (Y := 0) rfl (by decide) (by omega)) ?_
              refine xi_iconst (pc' := 21) (v := 0) kc_31_20 rfl rfl ?_
              refine xi_ireturn kc_31_21 mr_31 rfl ?_
              show xw J ov 99 32 (41, [(0, .ref 115), (1, .int a23), (2, .int a25), (3, .int a27), (4, .int a29)], [.int 0], hh351) _
              refine xi_ift (pc' := 57) kc_32_41 rfl rfl ?_
              refine xi_aload_n (pc' := 58) (x := 115) kc_32_57 rfl rfl ?_
              refine xi_iconst (pc' := 59) (v := (-1)) kc_32_58 rfl rfl ?_
              refine xi_virtual (mj := 12) (as := [.int (-1)]) (st1 := []) (lv0 := [(0, .ref 115), (1, .int (-1))]) kc_32_59 rfl rfl rfl rfl rfl eh350.1 (Nat.le_of_ble_eq_true rfl) (hJ _ _ _ _ (by decide)) (xm_le ml_12 rfl) rfl ?_
              refine xi_aload_n (pc' := 1) (x := 115) kc_12_0 rfl rfl ?_
              refine xi_getfield (pc' := 4) (v := .ref 140) kc_12_1 rfl rfl rfl eh350.1 rfl ?_
              refine xi_iload_n (pc' := 5) (x := (-1)) kc_12_4 rfl rfl ?_
              refine xi_ineg (pc' := 6) (v := 1) kc_12_5 rfl rfl ?_
              refine xi_dup2 (pc' := 7) kc_12_6 rfl ⟨rfl, rfl⟩ ?_
              obtain ⟨y355, A355, hy355, ry355⟩ := xk_arr K.1 xD_140
              obtain ⟨v356, ev356, bv356, dv356⟩ := xj_get hy355 ry355 (i := 1) (by decide) (by decide)
              have A357 := ((eh350.2.1 140 (by decide)).trans ((eh346.2.1 140 (by decide)).trans A355))
              refine xi_iaload (pc' := 8) (v := v356) kc_12_7 rfl A357 (by decide) rfl (xi_in (by decide) (by rw [hy355]; decide)) ev356 ?_
              refine xi_iconst (pc' := 9) (v := 1) kc_12_8 rfl rfl ?_
              obtain ⟨v358, ev358⟩ : ∃ q : Int32, (v356 : Int32) + 1 = q := ⟨_, rfl⟩
              have rv358 := xc_rng v358
              refine xi_iadd (pc' := 10) (v := v358) kc_12_9 rfl ev358 ?_
              obtain ⟨y359, s359, hy359, ry359⟩ := xj_set (v := v358) hy355 ry355 1 (by first | omega | decide) (by first | omega | decide)
              refine xi_iastore (pc' := 11) (x' := y359) kc_12_10 rfl A357 rfl (xi_in (by decide) (by rw [hy355]; decide)) s359 (fun hh359 eh359 => ?_)
              have K360 := xk_pa K352 (xk_wa (by decide +kernel)) xD_140 hy359 ry359 eh359
              have KR361 := xk_pa KR353 (xk_wa (by decide +kernel)) xD_140 hy359 ry359 eh359
              refine xi_iload_n (pc' := 12) (x := (-1)) kc_12_11 rfl rfl ?_
              refine xi_ireturn kc_12_12 mr_12 rfl ?_
              show xw J ov 99 32 (62, [(0, .ref 115), (1, .int a23), (2, .int a25), (3, .int a27), (4, .int a29)], [.int (-1)], hh359) _
              refine xi_ireturn kc_32_62 mr_32 rfl ?_
              show xw J ov 100 195 (708, [(4, .int x4), (3, .ref 167), (2, .ref 115), (1, .ref 0), (0, .ref 1000000)], [.int (-1)], hh359) _
              refine xi_pop (pc' := 709) kc_195_708 rfl rfl ?_
              refine xi_goto (pc' := 1501) kc_195_709 rfl ?_
              obtain ⟨v362, ev362⟩ : ∃ q : Int32, x4 + 6 = q := ⟨_, rfl⟩
              have zv362 : v362.toInt = (x4.toInt + 6) := by rw [← ev362]; exact (xz_add (X := x4.toInt) (Y := 6) rfl (by decide) (by omega) (by omega)).trans (by omega)
              refine xi_iinc (pc' := 1504) (x := x4) (v := v362) (lv' := [(4, .int v362), (3, .ref 167), (2, .ref 115), (1, .ref 0), (0, .ref 1000000)]) kc_195_1501 rfl rfl ev362 rfl (xm_lt ml_195 rfl) ?_
              refine xi_goto (pc' := 23) kc_195_1504 rfl ?_
              exact kk v362 hh359 (by omega) K360 (xI_kept I KR361.2.1)
            · refine xi_iff (pc' := 4) kc_89_1 rfl (xc_lt_f (X := u332.toInt) (Y := 0) rfl (by decide) (by omega)) ?_
              refine xi_iload_n (pc' := 5) (x := u332) kc_89_4 rfl rfl ?_
              refine xi_bipush (pc' := 7) (v := 6) kc_89_5 rfl rfl ?_
              refine xi_cmf (pc' := 10) kc_89_7 rfl (xc_ge_f (X := u332.toInt) (Y := 6) rfl (by decide) (by omega)) ?_
              refine xi_iconst (pc' := 11) (v := 1) kc_89_10 rfl rfl ?_
              refine xi_goto (pc' := 15) kc_89_11 rfl ?_
              refine xi_ireturn kc_89_15 mr_89 rfl ?_
              show xw J ov 96 105 (7, [(0, .ref pt331)], [.int 1], h) _
              refine xi_ireturn kc_105_7 mr_105 rfl ?_
              show xw J ov 97 108 (16, [(0, .ref 1), (1, .int a25)], [.int 1], h) _
              refine xi_iff (pc' := 19) kc_108_16 rfl rfl ?_
              refine xi_iconst (pc' := 20) (v := 1) kc_108_19 rfl rfl ?_
              refine xi_goto (pc' := 24) kc_108_20 rfl ?_
              refine xi_ireturn kc_108_24 mr_108 rfl ?_
              show xw J ov 98 118 (15, [(0, .ref 1), (1, .int a23), (2, .int a25)], [.int 1], h) _
              refine xi_iff (pc' := 18) kc_118_15 rfl rfl ?_
              refine xi_iload_n (pc' := 19) (x := a23) kc_118_18 rfl rfl ?_
              by_cases c363 : a23.toInt = 0
              · refine xi_iff (pc' := 22) kc_118_19 rfl (xc_ne_f (X := a23.toInt) (Y := 0) rfl (by decide) (by omega)) ?_
                refine xi_aload_n (pc' := 23) (x := 1) kc_118_22 rfl rfl ?_
                refine xi_getfield (pc' := 26) (v := .ref 3) kc_118_23 rfl rfl rfl A3 rfl ?_
                refine xi_iload_n (pc' := 27) (x := a25) kc_118_26 rfl rfl ?_
                refine xj_aaload (pc' := 28) (b := pt331) kc_118_27 rfl A330 rfl (xi_in (n := 12) (by omega) (by omega)) ept331 ?_
                refine xi_getfield (pc' := 31) (v := .int u334) kc_118_28 rfl rfl rfl A337 rfl ?_
                by_cases c364 : u334.toInt = 0
                · refine xi_ift (pc' := 38) kc_118_31 rfl (xc_eq_t (X := u334.toInt) (Y := 0) rfl (by decide) (by omega)) ?_
                  refine xi_iconst (pc' := 39) (v := 0) kc_118_38 rfl rfl ?_
                  refine xi_ireturn kc_118_39 mr_118 rfl ?_
                  show xw J ov 99 116 (23, [(0, .ref 0), (1, .int a23), (2, .int a25), (3, .int a27), (4, .int a29)], [.int 0], h) _
                  refine xi_iff (pc' := 26) kc_116_23 rfl rfl ?_
                  refine xi_aload_n (pc' := 27) (x := 0) kc_116_26 rfl rfl ?_
                  refine xi_iconst (pc' := 28) (v := (-1)) kc_116_27 rfl rfl ?_
                  refine xi_virtual (mj := 90) (as := [.int (-1)]) (st1 := []) (lv0 := [(0, .ref 0), (1, .int (-1))]) kc_116_28 rfl rfl rfl rfl rfl A32 (Nat.le_of_ble_eq_true rfl) (hJ _ _ _ _ (by decide)) (xm_le ml_90 rfl) rfl ?_
                  refine xi_iload_n (pc' := 1) (x := (-1)) kc_90_0 rfl rfl ?_
                  refine xi_ineg (pc' := 2) (v := 1) kc_90_1 rfl rfl ?_
                  refine xi_istore_n (pc' := 3) (lv' := [(2, .int 1), (0, .ref 0), (1, .int (-1))]) kc_90_2 rfl rfl (xm_lt ml_90 rfl) ?_
                  refine xi_iload_n (pc' := 4) (x := 1) kc_90_3 rfl rfl ?_
                  refine xi_iff (pc' := 7) kc_90_4 rfl rfl ?_
                  refine xi_iload_n (pc' := 8) (x := 1) kc_90_7 rfl rfl ?_
                  refine xi_aload_n (pc' := 9) (x := 0) kc_90_8 rfl rfl ?_
                  refine xi_getfield (pc' := 12) (v := .ref 94) kc_90_9 rfl rfl rfl A32 rfl ?_
                  obtain ⟨y365, A365, hy365, ry365⟩ := xk_arr K.1 xD_94
                  refine xi_arraylength (pc' := 13) (n := 7) (v := 7) kc_90_12 rfl (xl_lenI (by decide) (by decide) A365 hy365) rfl ?_
                  refine xi_cmf (pc' := 16) kc_90_13 rfl rfl ?_
                  refine xi_aload_n (pc' := 17) (x := 0) kc_90_16 rfl rfl ?_
                  refine xi_getfield (pc' := 20) (v := .ref 94) kc_90_17 rfl rfl rfl A32 rfl ?_
                  refine xi_iload_n (pc' := 21) (x := 1) kc_90_20 rfl rfl ?_
                  refine xi_dup2 (pc' := 22) kc_90_21 rfl ⟨rfl, rfl⟩ ?_
                  obtain ⟨v366, ev366, bv366, dv366⟩ := xj_get hy365 ry365 (i := 1) (by decide) (by decide)
                  refine xi_iaload (pc' := 23) (v := v366) kc_90_22 rfl A365 (by decide) rfl (xi_in (by decide) (by rw [hy365]; decide)) ev366 ?_
                  refine xi_iconst (pc' := 24) (v := 1) kc_90_23 rfl rfl ?_
                  obtain ⟨v367, ev367⟩ : ∃ q : Int32, (v366 : Int32) + 1 = q := ⟨_, rfl⟩
                  have rv367 := xc_rng v367
                  refine xi_iadd (pc' := 25) (v := v367) kc_90_24 rfl ev367 ?_
                  obtain ⟨y368, s368, hy368, ry368⟩ := xj_set (v := v367) hy365 ry365 1 (by first | omega | decide) (by first | omega | decide)
                  refine xi_iastore (pc' := 26) (x' := y368) kc_90_25 rfl A365 rfl (xi_in (by decide) (by rw [hy365]; decide)) s368 (fun hh368 eh368 => ?_)
                  have K369 := xk_pa K (xk_wa (by decide +kernel)) xD_94 hy368 ry368 eh368
                  have KR370 := xk_pa KR (xk_wa (by decide +kernel)) xD_94 hy368 ry368 eh368
                  refine xi_iload_n (pc' := 27) (x := (-1)) kc_90_26 rfl rfl ?_
                  refine xi_ireturn kc_90_27 mr_90 rfl ?_
                  show xw J ov 99 116 (31, [(0, .ref 0), (1, .int a23), (2, .int a25), (3, .int a27), (4, .int a29)], [.int (-1)], hh368) _
                  refine xi_ireturn kc_116_31 mr_116 rfl ?_
                  show xw J ov 100 195 (679, [(4, .int x4), (3, .ref 167), (2, .ref 115), (1, .ref 0), (0, .ref 1000000)], [.int (-1)], hh368) _
                  refine xi_pop (pc' := 680) kc_195_679 rfl rfl ?_
                  refine xi_aload_n (pc' := 681) (x := 115) kc_195_680 rfl rfl ?_
                  refine xi_aload_n (pc' := 682) (x := 1000000) kc_195_681 rfl rfl ?_
                  refine xi_iload (pc' := 684) (x := x4) kc_195_682 rfl rfl ?_
                  refine xi_iconst (pc' := 685) (v := 1) kc_195_684 rfl rfl ?_
                  refine xi_iadd (pc' := 686) (v := v22) kc_195_685 rfl ev22 ?_
                  refine xi_ialoadO (pc' := 687) (v := a23) kc_195_686 rfl (by decide) hov0 (xi_in (by omega) (by omega)) ea23 ?_
                  refine xi_aload_n (pc' := 688) (x := 1000000) kc_195_687 rfl rfl ?_
                  refine xi_iload (pc' := 690) (x := x4) kc_195_688 rfl rfl ?_
                  refine xi_iconst (pc' := 691) (v := 2) kc_195_690 rfl rfl ?_
                  refine xi_iadd (pc' := 692) (v := v24) kc_195_691 rfl ev24 ?_
                  refine xi_ialoadO (pc' := 693) (v := a25) kc_195_692 rfl (by decide) hov0 (xi_in (by omega) (by omega)) ea25 ?_
                  refine xi_aload_n (pc' := 694) (x := 1000000) kc_195_693 rfl rfl ?_
                  refine xi_iload (pc' := 696) (x := x4) kc_195_694 rfl rfl ?_
                  refine xi_iconst (pc' := 697) (v := 3) kc_195_696 rfl rfl ?_
                  refine xi_iadd (pc' := 698) (v := v26) kc_195_697 rfl ev26 ?_
                  refine xi_ialoadO (pc' := 699) (v := a27) kc_195_698 rfl (by decide) hov0 (xi_in (by omega) (by omega)) ea27 ?_
                  refine xi_aload_n (pc' := 700) (x := 1000000) kc_195_699 rfl rfl ?_
                  refine xi_iload (pc' := 702) (x := x4) kc_195_700 rfl rfl ?_
                  refine xi_iconst (pc' := 703) (v := 4) kc_195_702 rfl rfl ?_
                  refine xi_iadd (pc' := 704) (v := v28) kc_195_703 rfl ev28 ?_
                  refine xi_ialoadO (pc' := 705) (v := a29) kc_195_704 rfl (by decide) hov0 (xi_in (by omega) (by omega)) ea29 ?_
                  have A371 := ((eh368.2.1 115 (by decide)).trans A17)
                  refine xi_virtual (mj := 32) (as := [.int a23, .int a25, .int a27, .int a29]) (st1 := []) (lv0 := [(0, .ref 115), (1, .int a23), (2, .int a25), (3, .int a27), (4, .int a29)]) kc_195_705 rfl rfl rfl rfl rfl A371 (Nat.le_of_ble_eq_true rfl) (hJ _ _ _ _ (by decide)) (xm_le ml_32 rfl) rfl ?_
                  refine xi_aload_n (pc' := 1) (x := 115) kc_32_0 rfl rfl ?_
                  refine xi_iconst (pc' := 2) (v := 0) kc_32_1 rfl rfl ?_
                  refine xi_putfield (pc' := 5) (fs' := [.int 0, .int u5, .ref 116, .ref 117, .ref 118, .ref 119, .ref 120, .ref 121, .ref 122, .ref 123, .ref 124, .ref 125, .ref 126, .ref 127, .ref 128, .ref 129, .int u6, .ref 130, .int u7, .ref 131, .ref 132, .ref 133, .ref 134, .int u1, .ref 135, .ref 136, .ref 137, .ref 138, .ref 139, .ref 140, .ref 141, .ref 142, .int u9, .int u10, .int u11, .ref 143, .ref 144, .ref 145, .ref 146, .ref 147, .ref 148, .int u12, .ref 149, .ref 150, .ref 151, .int u13, .ref 152, .ref 153, .ref 154, .ref 155, .ref 156, .ref 157, .ref 158, .ref 159, .int u14, .ref 160, .int u15, .ref 161, .ref 162, .ref 163, .ref 164, .int u16, .ref 165, .ref 166]) kc_32_2 rfl rfl rfl A371 rfl rfl rfl (Nat.le_of_ble_eq_true rfl) rfl (fun hh373 eh372 => ?_)
                  have K374 := xk_pf (k := 0) (v := 0) K369 (xk_wf (by decide +kernel)) xD_115 A371 rfl (by first | omega | decide) (by first | omega | decide) eh372 rfl
                  have KR375 := xk_pf (k := 0) (v := 0) KR370 (xk_wf (by decide +kernel)) xD_115 A371 rfl (by first | omega | decide) (by first | omega | decide) eh372 rfl
                  refine xi_iload_n (pc' := 6) (x := a23) kc_32_5 rfl rfl ?_
                  refine xi_iconst (pc' := 7) (v := 0) kc_32_6 rfl rfl ?_
                  refine xi_iconst (pc' := 8) (v := 3) kc_32_7 rfl rfl ?_
                  refine xi_static (mj := 11) (as := [.int a23, .int 0, .int 3]) (st1 := []) (lv0 := [(0, .int a23), (1, .int 0), (2, .int 3)]) kc_32_8 rfl rfl (Nat.le_of_ble_eq_true rfl) rfl rfl (Nat.le_of_ble_eq_true rfl) (hJ _ _ _ _ (by decide)) (xm_le ml_11 rfl) rfl ?_
                  refine xi_iload_n (pc' := 1) (x := a23) kc_11_0 rfl rfl ?_
                  refine xi_iload_n (pc' := 2) (x := 0) kc_11_1 rfl rfl ?_
                  refine xi_cmf (pc' := 5) kc_11_2 rfl (xc_lt_f (X := a23.toInt) (Y := 0) rfl (by decide) (by omega)) ?_
                  refine xi_iload_n (pc' := 6) (x := a23) kc_11_5 rfl rfl ?_
                  refine xi_iload_n (pc' := 7) (x := 3) kc_11_6 rfl rfl ?_
                  refine xi_cmf (pc' := 10) kc_11_7 rfl (xc_gt_f (X := a23.toInt) (Y := 3) rfl (by decide) (by omega)) ?_
                  refine xi_iconst (pc' := 11) (v := 1) kc_11_10 rfl rfl ?_
                  refine xi_goto (pc' := 15) kc_11_11 rfl ?_
                  refine xi_ireturn kc_11_15 mr_11 rfl ?_
                  show xw J ov 99 32 (11, [(0, .ref 115), (1, .int a23), (2, .int a25), (3, .int a27), (4, .int a29)], [.int 1], hh373) _
                  refine xi_ift (pc' := 21) kc_32_11 rfl rfl ?_
                  refine xi_iload_n (pc' := 22) (x := a23) kc_32_21 rfl rfl ?_
                  refine xi_iconst (pc' := 23) (v := 3) kc_32_22 rfl rfl ?_
                  refine xi_cmt (pc' := 36) kc_32_23 rfl (xc_ne_t (X := a23.toInt) (Y := 3) rfl (by decide) (by omega)) ?_
                  refine xi_aload_n (pc' := 37) (x := 115) kc_32_36 rfl rfl ?_
                  refine xi_iload_n (pc' := 38) (x := a25) kc_32_37 rfl rfl ?_
                  refine xi_virtual (mj := 31) (as := [.int a25]) (st1 := []) (lv0 := [(0, .ref 115), (1, .int a25)]) kc_32_38 rfl rfl rfl rfl rfl eh372.1 (Nat.le_of_ble_eq_true rfl) (hJ _ _ _ _ (by decide)) (xm_le ml_31 rfl) rfl ?_
                  refine xi_iload_n (pc' := 1) (x := a25) kc_31_0 rfl rfl ?_
                  refine xi_static (mj := 24) (as := [.int a25]) (st1 := []) (lv0 := [(0, .int a25)]) kc_31_1 rfl rfl (Nat.le_of_ble_eq_true rfl) rfl rfl (Nat.le_of_ble_eq_true rfl) (hJ _ _ _ _ (by decide)) (xm_le ml_24 rfl) rfl ?_
                  refine xi_iload_n (pc' := 1) (x := a25) kc_24_0 rfl rfl ?_
                  refine xi_iconst (pc' := 2) (v := 0) kc_24_1 rfl rfl ?_
                  refine xi_bipush (pc' := 4) (v := 11) kc_24_2 rfl rfl ?_
                  refine xi_static (mj := 11) (as := [.int a25, .int 0, .int 11]) (st1 := []) (lv0 := [(0, .int a25), (1, .int 0), (2, .int 11)]) kc_24_4 rfl rfl (Nat.le_of_ble_eq_true rfl) rfl rfl (Nat.le_of_ble_eq_true rfl) (hJ _ _ _ _ (by decide)) (xm_le ml_11 rfl) rfl ?_
                  refine xi_iload_n (pc' := 1) (x := a25) kc_11_0 rfl rfl ?_
                  refine xi_iload_n (pc' := 2) (x := 0) kc_11_1 rfl rfl ?_
                  refine xi_cmf (pc' := 5) kc_11_2 rfl (xc_lt_f (X := a25.toInt) (Y := 0) rfl (by decide) (by omega)) ?_
                  refine xi_iload_n (pc' := 6) (x := a25) kc_11_5 rfl rfl ?_
                  refine xi_iload_n (pc' := 7) (x := 11) kc_11_6 rfl rfl ?_
                  refine xi_cmf (pc' := 10) kc_11_7 rfl (xc_gt_f (X := a25.toInt) (Y := 11) rfl (by decide) (by omega)) ?_
                  refine xi_iconst (pc' := 11) (v := 1) kc_11_10 rfl rfl ?_
                  refine xi_goto (pc' := 15) kc_11_11 rfl ?_
                  refine xi_ireturn kc_11_15 mr_11 rfl ?_
                  show xw J ov 97 24 (7, [(0, .int a25)], [.int 1], hh373) _
                  refine xi_ireturn kc_24_7 mr_24 rfl ?_
                  show xw J ov 98 31 (4, [(0, .ref 115), (1, .int a25)], [.int 1], hh373) _
                  refine xi_iff (pc' := 7) kc_31_4 rfl rfl ?_
                  refine xi_aload_n (pc' := 8) (x := 115) kc_31_7 rfl rfl ?_
                  refine xi_getfield (pc' := 11) (v := .ref 125) kc_31_8 rfl rfl rfl eh372.1 rfl ?_
                  refine xi_iload_n (pc' := 12) (x := a25) kc_31_11 rfl rfl ?_
                  have A376 := ((eh372.2.1 125 (by decide)).trans ((eh368.2.1 125 (by decide)).trans A338))
                  refine xi_iaload (pc' := 13) (v := u332) kc_31_12 rfl A376 (by decide) rfl (xi_in (by omega) (by rw [hy338]; omega)) HG339 ?_
                  refine xi_iff (pc' := 16) kc_31_13 rfl (xc_lt_f (X := u332.toInt) (Y := 0) rfl (by decide) (by omega)) ?_
                  refine xi_iconst (pc' := 17) (v := 1) kc_31_16 rfl rfl ?_
                  refine xi_goto (pc' := 21) kc_31_17 rfl ?_
                  refine xi_ireturn kc_31_21 mr_31 rfl ?_
                  show xw J ov 99 32 (41, [(0, .ref 115), (1, .int a23), (2, .int a25), (3, .int a27), (4, .int a29)], [.int 1], hh373) _
                  refine xi_iff (pc' := 44) kc_32_41 rfl rfl ?_
                  refine xi_iload_n (pc' := 45) (x := a23) kc_32_44 rfl rfl ?_
                  refine xi_iff (pc' := 48) kc_32_45 rfl (xc_ne_f (X := a23.toInt) (Y := 0) rfl (by decide) (by omega)) ?_
                  refine xi_aload_n (pc' := 49) (x := 115) kc_32_48 rfl rfl ?_
                  refine xi_getfield (pc' := 52) (v := .ref 127) kc_32_49 rfl rfl rfl eh372.1 rfl ?_
                  refine xi_iload_n (pc' := 53) (x := a25) kc_32_52 rfl rfl ?_
                  have A377 := ((eh372.2.1 127 (by decide)).trans ((eh368.2.1 127 (by decide)).trans A340))
                  refine xi_baload (pc' := 54) (v := u334) kc_32_53 rfl A377 rfl (xi_in (by omega) (by rw [hy340]; omega)) HG341 ?_
                  refine xi_iff (pc' := 57) kc_32_54 rfl (xc_ne_f (X := u334.toInt) (Y := 0) rfl (by decide) (by omega)) ?_
                  refine xi_aload_n (pc' := 58) (x := 115) kc_32_57 rfl rfl ?_
                  refine xi_iconst (pc' := 59) (v := (-1)) kc_32_58 rfl rfl ?_
                  refine xi_virtual (mj := 12) (as := [.int (-1)]) (st1 := []) (lv0 := [(0, .ref 115), (1, .int (-1))]) kc_32_59 rfl rfl rfl rfl rfl eh372.1 (Nat.le_of_ble_eq_true rfl) (hJ _ _ _ _ (by decide)) (xm_le ml_12 rfl) rfl ?_
                  refine xi_aload_n (pc' := 1) (x := 115) kc_12_0 rfl rfl ?_
                  refine xi_getfield (pc' := 4) (v := .ref 140) kc_12_1 rfl rfl rfl eh372.1 rfl ?_
                  refine xi_iload_n (pc' := 5) (x := (-1)) kc_12_4 rfl rfl ?_
                  refine xi_ineg (pc' := 6) (v := 1) kc_12_5 rfl rfl ?_
                  refine xi_dup2 (pc' := 7) kc_12_6 rfl ⟨rfl, rfl⟩ ?_
                  obtain ⟨y378, A378, hy378, ry378⟩ := xk_arr K.1 xD_140
                  obtain ⟨v379, ev379, bv379, dv379⟩ := xj_get hy378 ry378 (i := 1) (by decide) (by decide)
                  have A380 := ((eh372.2.1 140 (by decide)).trans ((eh368.2.1 140 (by decide)).trans A378))
                  refine xi_iaload (pc' := 8) (v := v379) kc_12_7 rfl A380 (by decide) rfl (xi_in (by decide) (by rw [hy378]; decide)) ev379 ?_
                  refine xi_iconst (pc' := 9) (v := 1) kc_12_8 rfl rfl ?_
                  obtain ⟨v381, ev381⟩ : ∃ q : Int32, (v379 : Int32) + 1 = q := ⟨_, rfl⟩
                  have rv381 := xc_rng v381
                  refine xi_iadd (pc' := 10) (v := v381) kc_12_9 rfl ev381 ?_
                  obtain ⟨y382, s382, hy382, ry382⟩ := xj_set (v := v381) hy378 ry378 1 (by first | omega | decide) (by first | omega | decide)
                  refine xi_iastore (pc' := 11) (x' := y382) kc_12_10 rfl A380 rfl (xi_in (by decide) (by rw [hy378]; decide)) s382 (fun hh382 eh382 => ?_)
                  have K383 := xk_pa K374 (xk_wa (by decide +kernel)) xD_140 hy382 ry382 eh382
                  have KR384 := xk_pa KR375 (xk_wa (by decide +kernel)) xD_140 hy382 ry382 eh382
                  refine xi_iload_n (pc' := 12) (x := (-1)) kc_12_11 rfl rfl ?_
                  refine xi_ireturn kc_12_12 mr_12 rfl ?_
                  show xw J ov 99 32 (62, [(0, .ref 115), (1, .int a23), (2, .int a25), (3, .int a27), (4, .int a29)], [.int (-1)], hh382) _
                  refine xi_ireturn kc_32_62 mr_32 rfl ?_
                  show xw J ov 100 195 (708, [(4, .int x4), (3, .ref 167), (2, .ref 115), (1, .ref 0), (0, .ref 1000000)], [.int (-1)], hh382) _
                  refine xi_pop (pc' := 709) kc_195_708 rfl rfl ?_
                  refine xi_goto (pc' := 1501) kc_195_709 rfl ?_
                  obtain ⟨v385, ev385⟩ : ∃ q : Int32, x4 + 6 = q := ⟨_, rfl⟩
                  have zv385 : v385.toInt = (x4.toInt + 6) := by rw [← ev385]; exact (xz_add (X := x4.toInt) (Y := 6) rfl (by decide) (by omega) (by omega)).trans (by omega)
                  refine xi_iinc (pc' := 1504) (x := x4) (v := v385) (lv' := [(4, .int v385), (3, .ref 167), (2, .ref 115), (1, .ref 0), (0, .ref 1000000)]) kc_195_1501 rfl rfl ev385 rfl (xm_lt ml_195 rfl) ?_
                  refine xi_goto (pc' := 23) kc_195_1504 rfl ?_
                  exact kk v385 hh382 (by omega) K383 (xI_kept I KR384.2.1)
                · refine xi_iff (pc' := 34) kc_118_31 rfl (xc_eq_f (X := u334.toInt) (Y := 0) rfl (by decide) (by omega)) ?_
                  refine xi_iconst (pc' := 35) (v := 1) kc_118_34 rfl rfl ?_
                  refine xi_goto (pc' := 39) kc_118_35 rfl ?_
                  refine xi_ireturn kc_118_39 mr_118 rfl ?_
                  show xw J ov 99 116 (23, [(0, .ref 0), (1, .int a23), (2, .int a25), (3, .int a27), (4, .int a29)], [.int 1], h) _
                  refine xi_ift (pc' := 32) kc_116_23 rfl rfl ?_
                  refine xi_iload_n (pc' := 33) (x := a27) kc_116_32 rfl rfl ?_
                  refine xi_iconst (pc' := 34) (v := 1) kc_116_33 rfl rfl ?_
                  by_cases c386 : a27.toInt < 1
                  · refine xi_cmt (pc' := 42) kc_116_34 rfl (xc_lt_t (X := a27.toInt) (Y := 1) rfl (by decide) (by omega)) ?_
                    refine xi_aload_n (pc' := 43) (x := 0) kc_116_42 rfl rfl ?_
                    refine xi_bipush (pc' := 45) (v := (-4)) kc_116_43 rfl rfl ?_
                    refine xi_virtual (mj := 90) (as := [.int (-4)]) (st1 := []) (lv0 := [(0, .ref 0), (1, .int (-4))]) kc_116_45 rfl rfl rfl rfl rfl A32 (Nat.le_of_ble_eq_true rfl) (hJ _ _ _ _ (by decide)) (xm_le ml_90 rfl) rfl ?_
                    refine xi_iload_n (pc' := 1) (x := (-4)) kc_90_0 rfl rfl ?_
                    refine xi_ineg (pc' := 2) (v := 4) kc_90_1 rfl rfl ?_
                    refine xi_istore_n (pc' := 3) (lv' := [(2, .int 4), (0, .ref 0), (1, .int (-4))]) kc_90_2 rfl rfl (xm_lt ml_90 rfl) ?_
                    refine xi_iload_n (pc' := 4) (x := 4) kc_90_3 rfl rfl ?_
                    refine xi_iff (pc' := 7) kc_90_4 rfl rfl ?_
                    refine xi_iload_n (pc' := 8) (x := 4) kc_90_7 rfl rfl ?_
                    refine xi_aload_n (pc' := 9) (x := 0) kc_90_8 rfl rfl ?_
                    refine xi_getfield (pc' := 12) (v := .ref 94) kc_90_9 rfl rfl rfl A32 rfl ?_
                    obtain ⟨y387, A387, hy387, ry387⟩ := xk_arr K.1 xD_94
                    refine xi_arraylength (pc' := 13) (n := 7) (v := 7) kc_90_12 rfl (xl_lenI (by decide) (by decide) A387 hy387) rfl ?_
                    refine xi_cmf (pc' := 16) kc_90_13 rfl rfl ?_
                    refine xi_aload_n (pc' := 17) (x := 0) kc_90_16 rfl rfl ?_
                    refine xi_getfield (pc' := 20) (v := .ref 94) kc_90_17 rfl rfl rfl A32 rfl ?_
                    refine xi_iload_n (pc' := 21) (x := 4) kc_90_20 rfl rfl ?_
                    refine xi_dup2 (pc' := 22) kc_90_21 rfl ⟨rfl, rfl⟩ ?_
                    obtain ⟨v388, ev388, bv388, dv388⟩ := xj_get hy387 ry387 (i := 4) (by decide) (by decide)
                    refine xi_iaload (pc' := 23) (v := v388) kc_90_22 rfl A387 (by decide) rfl (xi_in (by decide) (by rw [hy387]; decide)) ev388 ?_
                    refine xi_iconst (pc' := 24) (v := 1) kc_90_23 rfl rfl ?_
                    obtain ⟨v389, ev389⟩ : ∃ q : Int32, (v388 : Int32) + 1 = q := ⟨_, rfl⟩
                    have rv389 := xc_rng v389
                    refine xi_iadd (pc' := 25) (v := v389) kc_90_24 rfl ev389 ?_
                    obtain ⟨y390, s390, hy390, ry390⟩ := xj_set (v := v389) hy387 ry387 4 (by first | omega | decide) (by first | omega | decide)
                    refine xi_iastore (pc' := 26) (x' := y390) kc_90_25 rfl A387 rfl (xi_in (by decide) (by rw [hy387]; decide)) s390 (fun hh390 eh390 => ?_)
                    have K391 := xk_pa K (xk_wa (by decide +kernel)) xD_94 hy390 ry390 eh390
                    have KR392 := xk_pa KR (xk_wa (by decide +kernel)) xD_94 hy390 ry390 eh390
                    refine xi_iload_n (pc' := 27) (x := (-4)) kc_90_26 rfl rfl ?_
                    refine xi_ireturn kc_90_27 mr_90 rfl ?_
                    show xw J ov 99 116 (48, [(0, .ref 0), (1, .int a23), (2, .int a25), (3, .int a27), (4, .int a29)], [.int (-4)], hh390) _
                    refine xi_ireturn kc_116_48 mr_116 rfl ?_
                    show xw J ov 100 195 (679, [(4, .int x4), (3, .ref 167), (2, .ref 115), (1, .ref 0), (0, .ref 1000000)], [.int (-4)], hh390) _
                    refine xi_pop (pc' := 680) kc_195_679 rfl rfl ?_
                    refine xi_aload_n (pc' := 681) (x := 115) kc_195_680 rfl rfl ?_
                    refine xi_aload_n (pc' := 682) (x := 1000000) kc_195_681 rfl rfl ?_
                    refine xi_iload (pc' := 684) (x := x4) kc_195_682 rfl rfl ?_
                    refine xi_iconst (pc' := 685) (v := 1) kc_195_684 rfl rfl ?_
                    refine xi_iadd (pc' := 686) (v := v22) kc_195_685 rfl ev22 ?_
                    refine xi_ialoadO (pc' := 687) (v := a23) kc_195_686 rfl (by decide) hov0 (xi_in (by omega) (by omega)) ea23 ?_
                    refine xi_aload_n (pc' := 688) (x := 1000000) kc_195_687 rfl rfl ?_
                    refine xi_iload (pc' := 690) (x := x4) kc_195_688 rfl rfl ?_
                    refine xi_iconst (pc' := 691) (v := 2) kc_195_690 rfl rfl ?_
                    refine xi_iadd (pc' := 692) (v := v24) kc_195_691 rfl ev24 ?_
                    refine xi_ialoadO (pc' := 693) (v := a25) kc_195_692 rfl (by decide) hov0 (xi_in (by omega) (by omega)) ea25 ?_
                    refine xi_aload_n (pc' := 694) (x := 1000000) kc_195_693 rfl rfl ?_
                    refine xi_iload (pc' := 696) (x := x4) kc_195_694 rfl rfl ?_
                    refine xi_iconst (pc' := 697) (v := 3) kc_195_696 rfl rfl ?_
                    refine xi_iadd (pc' := 698) (v := v26) kc_195_697 rfl ev26 ?_
                    refine xi_ialoadO (pc' := 699) (v := a27) kc_195_698 rfl (by decide) hov0 (xi_in (by omega) (by omega)) ea27 ?_
                    refine xi_aload_n (pc' := 700) (x := 1000000) kc_195_699 rfl rfl ?_
                    refine xi_iload (pc' := 702) (x := x4) kc_195_700 rfl rfl ?_
                    refine xi_iconst (pc' := 703) (v := 4) kc_195_702 rfl rfl ?_
                    refine xi_iadd (pc' := 704) (v := v28) kc_195_703 rfl ev28 ?_
                    refine xi_ialoadO (pc' := 705) (v := a29) kc_195_704 rfl (by decide) hov0 (xi_in (by omega) (by omega)) ea29 ?_
                    have A393 := ((eh390.2.1 115 (by decide)).trans A17)
                    refine xi_virtual (mj := 32) (as := [.int a23, .int a25, .int a27, .int a29]) (st1 := []) (lv0 := [(0, .ref 115), (1, .int a23), (2, .int a25), (3, .int a27), (4, .int a29)]) kc_195_705 rfl rfl rfl rfl rfl A393 (Nat.le_of_ble_eq_true rfl) (hJ _ _ _ _ (by decide)) (xm_le ml_32 rfl) rfl ?_
                    refine xi_aload_n (pc' := 1) (x := 115) kc_32_0 rfl rfl ?_
                    refine xi_iconst (pc' := 2) (v := 0) kc_32_1 rfl rfl ?_
                    refine xi_putfield (pc' := 5) (fs' := [.int 0, .int u5, .ref 116, .ref 117, .ref 118, .ref 119, .ref 120, .ref 121, .ref 122, .ref 123, .ref 124, .ref 125, .ref 126, .ref 127, .ref 128, .ref 129, .int u6, .ref 130, .int u7, .ref 131, .ref 132, .ref 133, .ref 134, .int u1, .ref 135, .ref 136, .ref 137, .ref 138, .ref 139, .ref 140, .ref 141, .ref 142, .int u9, .int u10, .int u11, .ref 143, .ref 144, .ref 145, .ref 146, .ref 147, .ref 148, .int u12, .ref 149, .ref 150, .ref 151, .int u13, .ref 152, .ref 153, .ref 154, .ref 155, .ref 156, .ref 157, .ref 158, .ref 159, .int u14, .ref 160, .int u15, .ref 161, .ref 162, .ref 163, .ref 164, .int u16, .ref 165, .ref 166]) kc_32_2 rfl rfl rfl A393 rfl rfl rfl (Nat.le_of_ble_eq_true rfl) rfl (fun hh395 eh394 => ?_)
                    have K396 := xk_pf (k := 0) (v := 0) K391 (xk_wf (by decide +kernel)) xD_115 A393 rfl (by first | omega | decide) (by first | omega | decide) eh394 rfl
                    have KR397 := xk_pf (k := 0) (v := 0) KR392 (xk_wf (by decide +kernel)) xD_115 A393 rfl (by first | omega | decide) (by first | omega | decide) eh394 rfl
                    refine xi_iload_n (pc' := 6) (x := a23) kc_32_5 rfl rfl ?_
                    refine xi_iconst (pc' := 7) (v := 0) kc_32_6 rfl rfl ?_
                    refine xi_iconst (pc' := 8) (v := 3) kc_32_7 rfl rfl ?_
                    refine xi_static (mj := 11) (as := [.int a23, .int 0, .int 3]) (st1 := []) (lv0 := [(0, .int a23), (1, .int 0), (2, .int 3)]) kc_32_8 rfl rfl (Nat.le_of_ble_eq_true rfl) rfl rfl (Nat.le_of_ble_eq_true rfl) (hJ _ _ _ _ (by decide)) (xm_le ml_11 rfl) rfl ?_
                    refine xi_iload_n (pc' := 1) (x := a23) kc_11_0 rfl rfl ?_
                    refine xi_iload_n (pc' := 2) (x := 0) kc_11_1 rfl rfl ?_
                    refine xi_cmf (pc' := 5) kc_11_2 rfl (xc_lt_f (X := a23.toInt) (Y := 0) rfl (by decide) (by omega)) ?_
                    refine xi_iload_n (pc' := 6) (x := a23) kc_11_5 rfl rfl ?_
                    refine xi_iload_n (pc' := 7) (x := 3) kc_11_6 rfl rfl ?_
                    refine xi_cmf (pc' := 10) kc_11_7 rfl (xc_gt_f (X := a23.toInt) (Y := 3) rfl (by decide) (by omega)) ?_
                    refine xi_iconst (pc' := 11) (v := 1) kc_11_10 rfl rfl ?_
                    refine xi_goto (pc' := 15) kc_11_11 rfl ?_
                    refine xi_ireturn kc_11_15 mr_11 rfl ?_
                    show xw J ov 99 32 (11, [(0, .ref 115), (1, .int a23), (2, .int a25), (3, .int a27), (4, .int a29)], [.int 1], hh395) _
                    refine xi_ift (pc' := 21) kc_32_11 rfl rfl ?_
                    refine xi_iload_n (pc' := 22) (x := a23) kc_32_21 rfl rfl ?_
                    refine xi_iconst (pc' := 23) (v := 3) kc_32_22 rfl rfl ?_
                    refine xi_cmt (pc' := 36) kc_32_23 rfl (xc_ne_t (X := a23.toInt) (Y := 3) rfl (by decide) (by omega)) ?_
                    refine xi_aload_n (pc' := 37) (x := 115) kc_32_36 rfl rfl ?_
                    refine xi_iload_n (pc' := 38) (x := a25) kc_32_37 rfl rfl ?_
                    refine xi_virtual (mj := 31) (as := [.int a25]) (st1 := []) (lv0 := [(0, .ref 115), (1, .int a25)]) kc_32_38 rfl rfl rfl rfl rfl eh394.1 (Nat.le_of_ble_eq_true rfl) (hJ _ _ _ _ (by decide)) (xm_le ml_31 rfl) rfl ?_
                    refine xi_iload_n (pc' := 1) (x := a25) kc_31_0 rfl rfl ?_
                    refine xi_static (mj := 24) (as := [.int a25]) (st1 := []) (lv0 := [(0, .int a25)]) kc_31_1 rfl rfl (Nat.le_of_ble_eq_true rfl) rfl rfl (Nat.le_of_ble_eq_true rfl) (hJ _ _ _ _ (by decide)) (xm_le ml_24 rfl) rfl ?_
                    refine xi_iload_n (pc' := 1) (x := a25) kc_24_0 rfl rfl ?_
                    refine xi_iconst (pc' := 2) (v := 0) kc_24_1 rfl rfl ?_
                    refine xi_bipush (pc' := 4) (v := 11) kc_24_2 rfl rfl ?_
                    refine xi_static (mj := 11) (as := [.int a25, .int 0, .int 11]) (st1 := []) (lv0 := [(0, .int a25), (1, .int 0), (2, .int 11)]) kc_24_4 rfl rfl (Nat.le_of_ble_eq_true rfl) rfl rfl (Nat.le_of_ble_eq_true rfl) (hJ _ _ _ _ (by decide)) (xm_le ml_11 rfl) rfl ?_
                    refine xi_iload_n (pc' := 1) (x := a25) kc_11_0 rfl rfl ?_
                    refine xi_iload_n (pc' := 2) (x := 0) kc_11_1 rfl rfl ?_
                    refine xi_cmf (pc' := 5) kc_11_2 rfl (xc_lt_f (X := a25.toInt) (Y := 0) rfl (by decide) (by omega)) ?_
                    refine xi_iload_n (pc' := 6) (x := a25) kc_11_5 rfl rfl ?_
                    refine xi_iload_n (pc' := 7) (x := 11) kc_11_6 rfl rfl ?_
                    refine xi_cmf (pc' := 10) kc_11_7 rfl (xc_gt_f (X := a25.toInt) (Y := 11) rfl (by decide) (by omega)) ?_
                    refine xi_iconst (pc' := 11) (v := 1) kc_11_10 rfl rfl ?_
                    refine xi_goto (pc' := 15) kc_11_11 rfl ?_
                    refine xi_ireturn kc_11_15 mr_11 rfl ?_
                    show xw J ov 97 24 (7, [(0, .int a25)], [.int 1], hh395) _
                    refine xi_ireturn kc_24_7 mr_24 rfl ?_
                    show xw J ov 98 31 (4, [(0, .ref 115), (1, .int a25)], [.int 1], hh395) _
                    refine xi_iff (pc' := 7) kc_31_4 rfl rfl ?_
                    refine xi_aload_n (pc' := 8) (x := 115) kc_31_7 rfl rfl ?_
                    refine xi_getfield (pc' := 11) (v := .ref 125) kc_31_8 rfl rfl rfl eh394.1 rfl ?_
                    refine xi_iload_n (pc' := 12) (x := a25) kc_31_11 rfl rfl ?_
                    have A398 := ((eh394.2.1 125 (by decide)).trans ((eh390.2.1 125 (by decide)).trans A338))
                    refine xi_iaload (pc' := 13) (v := u332) kc_31_12 rfl A398 (by decide) rfl (xi_in (by omega) (by rw [hy338]; omega)) HG339 ?_
                    refine xi_iff (pc' := 16) kc_31_13 rfl (xc_lt_f (X := u332.toInt) (Y := 0) rfl (by decide) (by omega)) ?_
                    refine xi_iconst (pc' := 17) (v := 1) kc_31_16 rfl rfl ?_
                    refine xi_goto (pc' := 21) kc_31_17 rfl ?_
                    refine xi_ireturn kc_31_21 mr_31 rfl ?_
                    show xw J ov 99 32 (41, [(0, .ref 115), (1, .int a23), (2, .int a25), (3, .int a27), (4, .int a29)], [.int 1], hh395) _
                    refine xi_iff (pc' := 44) kc_32_41 rfl rfl ?_
                    refine xi_iload_n (pc' := 45) (x := a23) kc_32_44 rfl rfl ?_
                    refine xi_iff (pc' := 48) kc_32_45 rfl (xc_ne_f (X := a23.toInt) (Y := 0) rfl (by decide) (by omega)) ?_
                    refine xi_aload_n (pc' := 49) (x := 115) kc_32_48 rfl rfl ?_
                    refine xi_getfield (pc' := 52) (v := .ref 127) kc_32_49 rfl rfl rfl eh394.1 rfl ?_
                    refine xi_iload_n (pc' := 53) (x := a25) kc_32_52 rfl rfl ?_
                    have A399 := ((eh394.2.1 127 (by decide)).trans ((eh390.2.1 127 (by decide)).trans A340))
                    refine xi_baload (pc' := 54) (v := u334) kc_32_53 rfl A399 rfl (xi_in (by omega) (by rw [hy340]; omega)) HG341 ?_
                    refine xi_ift (pc' := 63) kc_32_54 rfl (xc_ne_t (X := u334.toInt) (Y := 0) rfl (by decide) (by omega)) ?_
                    refine xi_iload_n (pc' := 64) (x := a27) kc_32_63 rfl rfl ?_
                    refine xi_iconst (pc' := 65) (v := 1) kc_32_64 rfl rfl ?_
                    refine xi_cmt (pc' := 73) kc_32_65 rfl (xc_lt_t (X := a27.toInt) (Y := 1) rfl (by decide) (by omega)) ?_
                    refine xi_aload_n (pc' := 74) (x := 115) kc_32_73 rfl rfl ?_
                    refine xi_bipush (pc' := 76) (v := (-4)) kc_32_74 rfl rfl ?_
                    refine xi_virtual (mj := 12) (as := [.int (-4)]) (st1 := []) (lv0 := [(0, .ref 115), (1, .int (-4))]) kc_32_76 rfl rfl rfl rfl rfl eh394.1 (Nat.le_of_ble_eq_true rfl) (hJ _ _ _ _ (by decide)) (xm_le ml_12 rfl) rfl ?_
                    refine xi_aload_n (pc' := 1) (x := 115) kc_12_0 rfl rfl ?_
                    refine xi_getfield (pc' := 4) (v := .ref 140) kc_12_1 rfl rfl rfl eh394.1 rfl ?_
                    refine xi_iload_n (pc' := 5) (x := (-4)) kc_12_4 rfl rfl ?_
                    refine xi_ineg (pc' := 6) (v := 4) kc_12_5 rfl rfl ?_
                    refine xi_dup2 (pc' := 7) kc_12_6 rfl ⟨rfl, rfl⟩ ?_
                    obtain ⟨y400, A400, hy400, ry400⟩ := xk_arr K.1 xD_140
                    obtain ⟨v401, ev401, bv401, dv401⟩ := xj_get hy400 ry400 (i := 4) (by decide) (by decide)
                    have A402 := ((eh394.2.1 140 (by decide)).trans ((eh390.2.1 140 (by decide)).trans A400))
                    refine xi_iaload (pc' := 8) (v := v401) kc_12_7 rfl A402 (by decide) rfl (xi_in (by decide) (by rw [hy400]; decide)) ev401 ?_
                    refine xi_iconst (pc' := 9) (v := 1) kc_12_8 rfl rfl ?_
                    obtain ⟨v403, ev403⟩ : ∃ q : Int32, (v401 : Int32) + 1 = q := ⟨_, rfl⟩
                    have rv403 := xc_rng v403
                    refine xi_iadd (pc' := 10) (v := v403) kc_12_9 rfl ev403 ?_
                    obtain ⟨y404, s404, hy404, ry404⟩ := xj_set (v := v403) hy400 ry400 4 (by first | omega | decide) (by first | omega | decide)
                    refine xi_iastore (pc' := 11) (x' := y404) kc_12_10 rfl A402 rfl (xi_in (by decide) (by rw [hy400]; decide)) s404 (fun hh404 eh404 => ?_)
                    have K405 := xk_pa K396 (xk_wa (by decide +kernel)) xD_140 hy404 ry404 eh404
                    have KR406 := xk_pa KR397 (xk_wa (by decide +kernel)) xD_140 hy404 ry404 eh404
                    refine xi_iload_n (pc' := 12) (x := (-4)) kc_12_11 rfl rfl ?_
                    refine xi_ireturn kc_12_12 mr_12 rfl ?_
                    show xw J ov 99 32 (79, [(0, .ref 115), (1, .int a23), (2, .int a25), (3, .int a27), (4, .int a29)], [.int (-4)], hh404) _
                    refine xi_ireturn kc_32_79 mr_32 rfl ?_
                    show xw J ov 100 195 (708, [(4, .int x4), (3, .ref 167), (2, .ref 115), (1, .ref 0), (0, .ref 1000000)], [.int (-4)], hh404) _
                    refine xi_pop (pc' := 709) kc_195_708 rfl rfl ?_
                    refine xi_goto (pc' := 1501) kc_195_709 rfl ?_
                    obtain ⟨v407, ev407⟩ : ∃ q : Int32, x4 + 6 = q := ⟨_, rfl⟩
                    have zv407 : v407.toInt = (x4.toInt + 6) := by rw [← ev407]; exact (xz_add (X := x4.toInt) (Y := 6) rfl (by decide) (by omega) (by omega)).trans (by omega)
                    refine xi_iinc (pc' := 1504) (x := x4) (v := v407) (lv' := [(4, .int v407), (3, .ref 167), (2, .ref 115), (1, .ref 0), (0, .ref 1000000)]) kc_195_1501 rfl rfl ev407 rfl (xm_lt ml_195 rfl) ?_
                    refine xi_goto (pc' := 23) kc_195_1504 rfl ?_
                    exact kk v407 hh404 (by omega) K405 (xI_kept I KR406.2.1)
                  · refine xi_cmf (pc' := 37) kc_116_34 rfl (xc_lt_f (X := a27.toInt) (Y := 1) rfl (by decide) (by omega)) ?_
                    refine xi_iload (pc' := 39) (x := a29) kc_116_37 rfl rfl ?_
                    by_cases c408 : 0 ≤ a29.toInt
                    · refine xi_ift (pc' := 49) kc_116_39 rfl (xc_ge_t (X := a29.toInt) (Y := 0) rfl (by decide) (by omega)) ?_
                      refine xi_iload_n (pc' := 50) (x := a27) kc_116_49 rfl rfl ?_
                      refine xi_bipush (pc' := 52) (v := 99) kc_116_50 rfl rfl ?_
                      by_cases c409 : 99 < a27.toInt
                      · refine xi_cmt (pc' := 75) kc_116_52 rfl (xc_gt_t (X := a27.toInt) (Y := 99) rfl (by decide) (by omega)) ?_
                        refine xi_aload_n (pc' := 76) (x := 0) kc_116_75 rfl rfl ?_
                        refine xi_bipush (pc' := 78) (v := (-6)) kc_116_76 rfl rfl ?_
                        refine xi_virtual (mj := 90) (as := [.int (-6)]) (st1 := []) (lv0 := [(0, .ref 0), (1, .int (-6))]) kc_116_78 rfl rfl rfl rfl rfl A32 (Nat.le_of_ble_eq_true rfl) (hJ _ _ _ _ (by decide)) (xm_le ml_90 rfl) rfl ?_
                        refine xi_iload_n (pc' := 1) (x := (-6)) kc_90_0 rfl rfl ?_
                        refine xi_ineg (pc' := 2) (v := 6) kc_90_1 rfl rfl ?_
                        refine xi_istore_n (pc' := 3) (lv' := [(2, .int 6), (0, .ref 0), (1, .int (-6))]) kc_90_2 rfl rfl (xm_lt ml_90 rfl) ?_
                        refine xi_iload_n (pc' := 4) (x := 6) kc_90_3 rfl rfl ?_
                        refine xi_iff (pc' := 7) kc_90_4 rfl rfl ?_
                        refine xi_iload_n (pc' := 8) (x := 6) kc_90_7 rfl rfl ?_
                        refine xi_aload_n (pc' := 9) (x := 0) kc_90_8 rfl rfl ?_
                        refine xi_getfield (pc' := 12) (v := .ref 94) kc_90_9 rfl rfl rfl A32 rfl ?_
                        obtain ⟨y410, A410, hy410, ry410⟩ := xk_arr K.1 xD_94
                        refine xi_arraylength (pc' := 13) (n := 7) (v := 7) kc_90_12 rfl (xl_lenI (by decide) (by decide) A410 hy410) rfl ?_
                        refine xi_cmf (pc' := 16) kc_90_13 rfl rfl ?_
                        refine xi_aload_n (pc' := 17) (x := 0) kc_90_16 rfl rfl ?_
                        refine xi_getfield (pc' := 20) (v := .ref 94) kc_90_17 rfl rfl rfl A32 rfl ?_
                        refine xi_iload_n (pc' := 21) (x := 6) kc_90_20 rfl rfl ?_
                        refine xi_dup2 (pc' := 22) kc_90_21 rfl ⟨rfl, rfl⟩ ?_
                        obtain ⟨v411, ev411, bv411, dv411⟩ := xj_get hy410 ry410 (i := 6) (by decide) (by decide)
                        refine xi_iaload (pc' := 23) (v := v411) kc_90_22 rfl A410 (by decide) rfl (xi_in (by decide) (by rw [hy410]; decide)) ev411 ?_
                        refine xi_iconst (pc' := 24) (v := 1) kc_90_23 rfl rfl ?_
                        obtain ⟨v412, ev412⟩ : ∃ q : Int32, (v411 : Int32) + 1 = q := ⟨_, rfl⟩
                        have rv412 := xc_rng v412
                        refine xi_iadd (pc' := 25) (v := v412) kc_90_24 rfl ev412 ?_
                        obtain ⟨y413, s413, hy413, ry413⟩ := xj_set (v := v412) hy410 ry410 6 (by first | omega | decide) (by first | omega | decide)
                        refine xi_iastore (pc' := 26) (x' := y413) kc_90_25 rfl A410 rfl (xi_in (by decide) (by rw [hy410]; decide)) s413 (fun hh413 eh413 => ?_)
                        have K414 := xk_pa K (xk_wa (by decide +kernel)) xD_94 hy413 ry413 eh413
                        have KR415 := xk_pa KR (xk_wa (by decide +kernel)) xD_94 hy413 ry413 eh413
                        refine xi_iload_n (pc' := 27) (x := (-6)) kc_90_26 rfl rfl ?_
                        refine xi_ireturn kc_90_27 mr_90 rfl ?_
                        show xw J ov 99 116 (81, [(0, .ref 0), (1, .int a23), (2, .int a25), (3, .int a27), (4, .int a29)], [.int (-6)], hh413) _
                        refine xi_ireturn kc_116_81 mr_116 rfl ?_
                        show xw J ov 100 195 (679, [(4, .int x4), (3, .ref 167), (2, .ref 115), (1, .ref 0), (0, .ref 1000000)], [.int (-6)], hh413) _
                        refine xi_pop (pc' := 680) kc_195_679 rfl rfl ?_
                        refine xi_aload_n (pc' := 681) (x := 115) kc_195_680 rfl rfl ?_
                        refine xi_aload_n (pc' := 682) (x := 1000000) kc_195_681 rfl rfl ?_
                        refine xi_iload (pc' := 684) (x := x4) kc_195_682 rfl rfl ?_
                        refine xi_iconst (pc' := 685) (v := 1) kc_195_684 rfl rfl ?_
                        refine xi_iadd (pc' := 686) (v := v22) kc_195_685 rfl ev22 ?_
                        refine xi_ialoadO (pc' := 687) (v := a23) kc_195_686 rfl (by decide) hov0 (xi_in (by omega) (by omega)) ea23 ?_
                        refine xi_aload_n (pc' := 688) (x := 1000000) kc_195_687 rfl rfl ?_
                        refine xi_iload (pc' := 690) (x := x4) kc_195_688 rfl rfl ?_
                        refine xi_iconst (pc' := 691) (v := 2) kc_195_690 rfl rfl ?_
                        refine xi_iadd (pc' := 692) (v := v24) kc_195_691 rfl ev24 ?_
                        refine xi_ialoadO (pc' := 693) (v := a25) kc_195_692 rfl (by decide) hov0 (xi_in (by omega) (by omega)) ea25 ?_
                        refine xi_aload_n (pc' := 694) (x := 1000000) kc_195_693 rfl rfl ?_
                        refine xi_iload (pc' := 696) (x := x4) kc_195_694 rfl rfl ?_
                        refine xi_iconst (pc' := 697) (v := 3) kc_195_696 rfl rfl ?_
                        refine xi_iadd (pc' := 698) (v := v26) kc_195_697 rfl ev26 ?_
                        refine xi_ialoadO (pc' := 699) (v := a27) kc_195_698 rfl (by decide) hov0 (xi_in (by omega) (by omega)) ea27 ?_
                        refine xi_aload_n (pc' := 700) (x := 1000000) kc_195_699 rfl rfl ?_
                        refine xi_iload (pc' := 702) (x := x4) kc_195_700 rfl rfl ?_
                        refine xi_iconst (pc' := 703) (v := 4) kc_195_702 rfl rfl ?_
                        refine xi_iadd (pc' := 704) (v := v28) kc_195_703 rfl ev28 ?_
                        refine xi_ialoadO (pc' := 705) (v := a29) kc_195_704 rfl (by decide) hov0 (xi_in (by omega) (by omega)) ea29 ?_
                        have A416 := ((eh413.2.1 115 (by decide)).trans A17)
                        refine xi_virtual (mj := 32) (as := [.int a23, .int a25, .int a27, .int a29]) (st1 := []) (lv0 := [(0, .ref 115), (1, .int a23), (2, .int a25), (3, .int a27), (4, .int a29)]) kc_195_705 rfl rfl rfl rfl rfl A416 (Nat.le_of_ble_eq_true rfl) (hJ _ _ _ _ (by decide)) (xm_le ml_32 rfl) rfl ?_
                        refine xi_aload_n (pc' := 1) (x := 115) kc_32_0 rfl rfl ?_
                        refine xi_iconst (pc' := 2) (v := 0) kc_32_1 rfl rfl ?_
                        refine xi_putfield (pc' := 5) (fs' := [.int 0, .int u5, .ref 116, .ref 117, .ref 118, .ref 119, .ref 120, .ref 121, .ref 122, .ref 123, .ref 124, .ref 125, .ref 126, .ref 127, .ref 128, .ref 129, .int u6, .ref 130, .int u7, .ref 131, .ref 132, .ref 133, .ref 134, .int u1, .ref 135, .ref 136, .ref 137, .ref 138, .ref 139, .ref 140, .ref 141, .ref 142, .int u9, .int u10, .int u11, .ref 143, .ref 144, .ref 145, .ref 146, .ref 147, .ref 148, .int u12, .ref 149, .ref 150, .ref 151, .int u13, .ref 152, .ref 153, .ref 154, .ref 155, .ref 156, .ref 157, .ref 158, .ref 159, .int u14, .ref 160, .int u15, .ref 161, .ref 162, .ref 163, .ref 164, .int u16, .ref 165, .ref 166]) kc_32_2 rfl rfl rfl A416 rfl rfl rfl (Nat.le_of_ble_eq_true rfl) rfl (fun hh418 eh417 => ?_)
                        have K419 := xk_pf (k := 0) (v := 0) K414 (xk_wf (by decide +kernel)) xD_115 A416 rfl (by first | omega | decide) (by first | omega | decide) eh417 rfl
                        have KR420 := xk_pf (k := 0) (v := 0) KR415 (xk_wf (by decide +kernel)) xD_115 A416 rfl (by first | omega | decide) (by first | omega | decide) eh417 rfl
                        refine xi_iload_n (pc' := 6) (x := a23) kc_32_5 rfl rfl ?_
                        refine xi_iconst (pc' := 7) (v := 0) kc_32_6 rfl rfl ?_
                        refine xi_iconst (pc' := 8) (v := 3) kc_32_7 rfl rfl ?_
                        refine xi_static (mj := 11) (as := [.int a23, .int 0, .int 3]) (st1 := []) (lv0 := [(0, .int a23), (1, .int 0), (2, .int 3)]) kc_32_8 rfl rfl (Nat.le_of_ble_eq_true rfl) rfl rfl (Nat.le_of_ble_eq_true rfl) (hJ _ _ _ _ (by decide)) (xm_le ml_11 rfl) rfl ?_
                        refine xi_iload_n (pc' := 1) (x := a23) kc_11_0 rfl rfl ?_
                        refine xi_iload_n (pc' := 2) (x := 0) kc_11_1 rfl rfl ?_
                        refine xi_cmf (pc' := 5) kc_11_2 rfl (xc_lt_f (X := a23.toInt) (Y := 0) rfl (by decide) (by omega)) ?_
                        refine xi_iload_n (pc' := 6) (x := a23) kc_11_5 rfl rfl ?_
                        refine xi_iload_n (pc' := 7) (x := 3) kc_11_6 rfl rfl ?_
                        refine xi_cmf (pc' := 10) kc_11_7 rfl (xc_gt_f (X := a23.toInt) (Y := 3) rfl (by decide) (by omega)) ?_
                        refine xi_iconst (pc' := 11) (v := 1) kc_11_10 rfl rfl ?_
                        refine xi_goto (pc' := 15) kc_11_11 rfl ?_
                        refine xi_ireturn kc_11_15 mr_11 rfl ?_
                        show xw J ov 99 32 (11, [(0, .ref 115), (1, .int a23), (2, .int a25), (3, .int a27), (4, .int a29)], [.int 1], hh418) _
                        refine xi_ift (pc' := 21) kc_32_11 rfl rfl ?_
                        refine xi_iload_n (pc' := 22) (x := a23) kc_32_21 rfl rfl ?_
                        refine xi_iconst (pc' := 23) (v := 3) kc_32_22 rfl rfl ?_
                        refine xi_cmt (pc' := 36) kc_32_23 rfl (xc_ne_t (X := a23.toInt) (Y := 3) rfl (by decide) (by omega)) ?_
                        refine xi_aload_n (pc' := 37) (x := 115) kc_32_36 rfl rfl ?_
                        refine xi_iload_n (pc' := 38) (x := a25) kc_32_37 rfl rfl ?_
                        refine xi_virtual (mj := 31) (as := [.int a25]) (st1 := []) (lv0 := [(0, .ref 115), (1, .int a25)]) kc_32_38 rfl rfl rfl rfl rfl eh417.1 (Nat.le_of_ble_eq_true rfl) (hJ _ _ _ _ (by decide)) (xm_le ml_31 rfl) rfl ?_
                        refine xi_iload_n (pc' := 1) (x := a25) kc_31_0 rfl rfl ?_
                        refine xi_static (mj := 24) (as := [.int a25]) (st1 := []) (lv0 := [(0, .int a25)]) kc_31_1 rfl rfl (Nat.le_of_ble_eq_true rfl) rfl rfl (Nat.le_of_ble_eq_true rfl) (hJ _ _ _ _ (by decide)) (xm_le ml_24 rfl) rfl ?_
                        refine xi_iload_n (pc' := 1) (x := a25) kc_24_0 rfl rfl ?_
                        refine xi_iconst (pc' := 2) (v := 0) kc_24_1 rfl rfl ?_
                        refine xi_bipush (pc' := 4) (v := 11) kc_24_2 rfl rfl ?_
                        refine xi_static (mj := 11) (as := [.int a25, .int 0, .int 11]) (st1 := []) (lv0 := [(0, .int a25), (1, .int 0), (2, .int 11)]) kc_24_4 rfl rfl (Nat.le_of_ble_eq_true rfl) rfl rfl (Nat.le_of_ble_eq_true rfl) (hJ _ _ _ _ (by decide)) (xm_le ml_11 rfl) rfl ?_
                        refine xi_iload_n (pc' := 1) (x := a25) kc_11_0 rfl rfl ?_
                        refine xi_iload_n (pc' := 2) (x := 0) kc_11_1 rfl rfl ?_
                        refine xi_cmf (pc' := 5) kc_11_2 rfl (xc_lt_f (X := a25.toInt) (Y := 0) rfl (by decide) (by omega)) ?_
                        refine xi_iload_n (pc' := 6) (x := a25) kc_11_5 rfl rfl ?_
                        refine xi_iload_n (pc' := 7) (x := 11) kc_11_6 rfl rfl ?_
                        refine xi_cmf (pc' := 10) kc_11_7 rfl (xc_gt_f (X := a25.toInt) (Y := 11) rfl (by decide) (by omega)) ?_
                        refine xi_iconst (pc' := 11) (v := 1) kc_11_10 rfl rfl ?_
                        refine xi_goto (pc' := 15) kc_11_11 rfl ?_
                        refine xi_ireturn kc_11_15 mr_11 rfl ?_
                        show xw J ov 97 24 (7, [(0, .int a25)], [.int 1], hh418) _
                        refine xi_ireturn kc_24_7 mr_24 rfl ?_
                        show xw J ov 98 31 (4, [(0, .ref 115), (1, .int a25)], [.int 1], hh418) _
                        refine xi_iff (pc' := 7) kc_31_4 rfl rfl ?_
                        refine xi_aload_n (pc' := 8) (x := 115) kc_31_7 rfl rfl ?_
                        refine xi_getfield (pc' := 11) (v := .ref 125) kc_31_8 rfl rfl rfl eh417.1 rfl ?_
                        refine xi_iload_n (pc' := 12) (x := a25) kc_31_11 rfl rfl ?_
                        have A421 := ((eh417.2.1 125 (by decide)).trans ((eh413.2.1 125 (by decide)).trans A338))
                        refine xi_iaload (pc' := 13) (v := u332) kc_31_12 rfl A421 (by decide) rfl (xi_in (by omega) (by rw [hy338]; omega)) HG339 ?_
                        refine xi_iff (pc' := 16) kc_31_13 rfl (xc_lt_f (X := u332.toInt) (Y := 0) rfl (by decide) (by omega)) ?_
                        refine xi_iconst (pc' := 17) (v := 1) kc_31_16 rfl rfl ?_
                        refine xi_goto (pc' := 21) kc_31_17 rfl ?_
                        refine xi_ireturn kc_31_21 mr_31 rfl ?_
                        show xw J ov 99 32 (41, [(0, .ref 115), (1, .int a23), (2, .int a25), (3, .int a27), (4, .int a29)], [.int 1], hh418) _
                        refine xi_iff (pc' := 44) kc_32_41 rfl rfl ?_
                        refine xi_iload_n (pc' := 45) (x := a23) kc_32_44 rfl rfl ?_
                        refine xi_iff (pc' := 48) kc_32_45 rfl (xc_ne_f (X := a23.toInt) (Y := 0) rfl (by decide) (by omega)) ?_
                        refine xi_aload_n (pc' := 49) (x := 115) kc_32_48 rfl rfl ?_
                        refine xi_getfield (pc' := 52) (v := .ref 127) kc_32_49 rfl rfl rfl eh417.1 rfl ?_
                        refine xi_iload_n (pc' := 53) (x := a25) kc_32_52 rfl rfl ?_
                        have A422 := ((eh417.2.1 127 (by decide)).trans ((eh413.2.1 127 (by decide)).trans A340))
                        refine xi_baload (pc' := 54) (v := u334) kc_32_53 rfl A422 rfl (xi_in (by omega) (by rw [hy340]; omega)) HG341 ?_
                        refine xi_ift (pc' := 63) kc_32_54 rfl (xc_ne_t (X := u334.toInt) (Y := 0) rfl (by decide) (by omega)) ?_
                        refine xi_iload_n (pc' := 64) (x := a27) kc_32_63 rfl rfl ?_
                        refine xi_iconst (pc' := 65) (v := 1) kc_32_64 rfl rfl ?_
                        refine xi_cmf (pc' := 68) kc_32_65 rfl (xc_lt_f (X := a27.toInt) (Y := 1) rfl (by decide) (by omega)) ?_
                        refine xi_iload (pc' := 70) (x := a29) kc_32_68 rfl rfl ?_
                        refine xi_ift (pc' := 80) kc_32_70 rfl (xc_ge_t (X := a29.toInt) (Y := 0) rfl (by decide) (by omega)) ?_
                        refine xi_iload_n (pc' := 81) (x := a27) kc_32_80 rfl rfl ?_
                        refine xi_bipush (pc' := 83) (v := 99) kc_32_81 rfl rfl ?_
                        refine xi_cmt (pc' := 103) kc_32_83 rfl (xc_gt_t (X := a27.toInt) (Y := 99) rfl (by decide) (by omega)) ?_
                        refine xi_aload_n (pc' := 104) (x := 115) kc_32_103 rfl rfl ?_
                        refine xi_bipush (pc' := 106) (v := (-6)) kc_32_104 rfl rfl ?_
                        refine xi_virtual (mj := 12) (as := [.int (-6)]) (st1 := []) (lv0 := [(0, .ref 115), (1, .int (-6))]) kc_32_106 rfl rfl rfl rfl rfl eh417.1 (Nat.le_of_ble_eq_true rfl) (hJ _ _ _ _ (by decide)) (xm_le ml_12 rfl) rfl ?_
                        refine xi_aload_n (pc' := 1) (x := 115) kc_12_0 rfl rfl ?_
                        refine xi_getfield (pc' := 4) (v := .ref 140) kc_12_1 rfl rfl rfl eh417.1 rfl ?_
                        refine xi_iload_n (pc' := 5) (x := (-6)) kc_12_4 rfl rfl ?_
                        refine xi_ineg (pc' := 6) (v := 6) kc_12_5 rfl rfl ?_
                        refine xi_dup2 (pc' := 7) kc_12_6 rfl ⟨rfl, rfl⟩ ?_
                        obtain ⟨y423, A423, hy423, ry423⟩ := xk_arr K.1 xD_140
                        obtain ⟨v424, ev424, bv424, dv424⟩ := xj_get hy423 ry423 (i := 6) (by decide) (by decide)
                        have A425 := ((eh417.2.1 140 (by decide)).trans ((eh413.2.1 140 (by decide)).trans A423))
                        refine xi_iaload (pc' := 8) (v := v424) kc_12_7 rfl A425 (by decide) rfl (xi_in (by decide) (by rw [hy423]; decide)) ev424 ?_
                        refine xi_iconst (pc' := 9) (v := 1) kc_12_8 rfl rfl ?_
                        obtain ⟨v426, ev426⟩ : ∃ q : Int32, (v424 : Int32) + 1 = q := ⟨_, rfl⟩
                        have rv426 := xc_rng v426
                        refine xi_iadd (pc' := 10) (v := v426) kc_12_9 rfl ev426 ?_
                        obtain ⟨y427, s427, hy427, ry427⟩ := xj_set (v := v426) hy423 ry423 6 (by first | omega | decide) (by first | omega | decide)
                        refine xi_iastore (pc' := 11) (x' := y427) kc_12_10 rfl A425 rfl (xi_in (by decide) (by rw [hy423]; decide)) s427 (fun hh427 eh427 => ?_)
                        have K428 := xk_pa K419 (xk_wa (by decide +kernel)) xD_140 hy427 ry427 eh427
                        have KR429 := xk_pa KR420 (xk_wa (by decide +kernel)) xD_140 hy427 ry427 eh427
                        refine xi_iload_n (pc' := 12) (x := (-6)) kc_12_11 rfl rfl ?_
                        refine xi_ireturn kc_12_12 mr_12 rfl ?_
                        show xw J ov 99 32 (109, [(0, .ref 115), (1, .int a23), (2, .int a25), (3, .int a27), (4, .int a29)], [.int (-6)], hh427) _
                        refine xi_ireturn kc_32_109 mr_32 rfl ?_
                        show xw J ov 100 195 (708, [(4, .int x4), (3, .ref 167), (2, .ref 115), (1, .ref 0), (0, .ref 1000000)], [.int (-6)], hh427) _
                        refine xi_pop (pc' := 709) kc_195_708 rfl rfl ?_
                        refine xi_goto (pc' := 1501) kc_195_709 rfl ?_
                        obtain ⟨v430, ev430⟩ : ∃ q : Int32, x4 + 6 = q := ⟨_, rfl⟩
                        have zv430 : v430.toInt = (x4.toInt + 6) := by rw [← ev430]; exact (xz_add (X := x4.toInt) (Y := 6) rfl (by decide) (by omega) (by omega)).trans (by omega)
                        refine xi_iinc (pc' := 1504) (x := x4) (v := v430) (lv' := [(4, .int v430), (3, .ref 167), (2, .ref 115), (1, .ref 0), (0, .ref 1000000)]) kc_195_1501 rfl rfl ev430 rfl (xm_lt ml_195 rfl) ?_
                        refine xi_goto (pc' := 23) kc_195_1504 rfl ?_
                        exact kk v430 hh427 (by omega) K428 (xI_kept I KR429.2.1)
                      · refine xi_cmf (pc' := 55) kc_116_52 rfl (xc_gt_f (X := a27.toInt) (Y := 99) rfl (by decide) (by omega)) ?_
                        refine xi_iload (pc' := 57) (x := a29) kc_116_55 rfl rfl ?_
                        refine xi_sipush (pc' := 60) (v := 600) kc_116_57 rfl rfl ?_
                        by_cases c431 : 600 < a29.toInt
                        · refine xi_cmt (pc' := 75) kc_116_60 rfl (xc_gt_t (X := a29.toInt) (Y := 600) rfl (by decide) (by omega)) ?_
                          refine xi_aload_n (pc' := 76) (x := 0) kc_116_75 rfl rfl ?_
                          refine xi_bipush (pc' := 78) (v := (-6)) kc_116_76 rfl rfl ?_
                          refine xi_virtual (mj := 90) (as := [.int (-6)]) (st1 := []) (lv0 := [(0, .ref 0), (1, .int (-6))]) kc_116_78 rfl rfl rfl rfl rfl A32 (Nat.le_of_ble_eq_true rfl) (hJ _ _ _ _ (by decide)) (xm_le ml_90 rfl) rfl ?_
                          refine xi_iload_n (pc' := 1) (x := (-6)) kc_90_0 rfl rfl ?_
                          refine xi_ineg (pc' := 2) (v := 6) kc_90_1 rfl rfl ?_
                          refine xi_istore_n (pc' := 3) (lv' := [(2, .int 6), (0, .ref 0), (1, .int (-6))]) kc_90_2 rfl rfl (xm_lt ml_90 rfl) ?_
                          refine xi_iload_n (pc' := 4) (x := 6) kc_90_3 rfl rfl ?_
                          refine xi_iff (pc' := 7) kc_90_4 rfl rfl ?_
                          refine xi_iload_n (pc' := 8) (x := 6) kc_90_7 rfl rfl ?_
                          refine xi_aload_n (pc' := 9) (x := 0) kc_90_8 rfl rfl ?_
                          refine xi_getfield (pc' := 12) (v := .ref 94) kc_90_9 rfl rfl rfl A32 rfl ?_
                          obtain ⟨y432, A432, hy432, ry432⟩ := xk_arr K.1 xD_94
                          refine xi_arraylength (pc' := 13) (n := 7) (v := 7) kc_90_12 rfl (xl_lenI (by decide) (by decide) A432 hy432) rfl ?_
                          refine xi_cmf (pc' := 16) kc_90_13 rfl rfl ?_
                          refine xi_aload_n (pc' := 17) (x := 0) kc_90_16 rfl rfl ?_
                          refine xi_getfield (pc' := 20) (v := .ref 94) kc_90_17 rfl rfl rfl A32 rfl ?_
                          refine xi_iload_n (pc' := 21) (x := 6) kc_90_20 rfl rfl ?_
                          refine xi_dup2 (pc' := 22) kc_90_21 rfl ⟨rfl, rfl⟩ ?_
                          obtain ⟨v433, ev433, bv433, dv433⟩ := xj_get hy432 ry432 (i := 6) (by decide) (by decide)
                          refine xi_iaload (pc' := 23) (v := v433) kc_90_22 rfl A432 (by decide) rfl (xi_in (by decide) (by rw [hy432]; decide)) ev433 ?_
                          refine xi_iconst (pc' := 24) (v := 1) kc_90_23 rfl rfl ?_
                          obtain ⟨v434, ev434⟩ : ∃ q : Int32, (v433 : Int32) + 1 = q := ⟨_, rfl⟩
                          have rv434 := xc_rng v434
                          refine xi_iadd (pc' := 25) (v := v434) kc_90_24 rfl ev434 ?_
                          obtain ⟨y435, s435, hy435, ry435⟩ := xj_set (v := v434) hy432 ry432 6 (by first | omega | decide) (by first | omega | decide)
                          refine xi_iastore (pc' := 26) (x' := y435) kc_90_25 rfl A432 rfl (xi_in (by decide) (by rw [hy432]; decide)) s435 (fun hh435 eh435 => ?_)
                          have K436 := xk_pa K (xk_wa (by decide +kernel)) xD_94 hy435 ry435 eh435
                          have KR437 := xk_pa KR (xk_wa (by decide +kernel)) xD_94 hy435 ry435 eh435
                          refine xi_iload_n (pc' := 27) (x := (-6)) kc_90_26 rfl rfl ?_
                          refine xi_ireturn kc_90_27 mr_90 rfl ?_
                          show xw J ov 99 116 (81, [(0, .ref 0), (1, .int a23), (2, .int a25), (3, .int a27), (4, .int a29)], [.int (-6)], hh435) _
                          refine xi_ireturn kc_116_81 mr_116 rfl ?_
                          show xw J ov 100 195 (679, [(4, .int x4), (3, .ref 167), (2, .ref 115), (1, .ref 0), (0, .ref 1000000)], [.int (-6)], hh435) _
                          refine xi_pop (pc' := 680) kc_195_679 rfl rfl ?_
                          refine xi_aload_n (pc' := 681) (x := 115) kc_195_680 rfl rfl ?_
                          refine xi_aload_n (pc' := 682) (x := 1000000) kc_195_681 rfl rfl ?_
                          refine xi_iload (pc' := 684) (x := x4) kc_195_682 rfl rfl ?_
                          refine xi_iconst (pc' := 685) (v := 1) kc_195_684 rfl rfl ?_
                          refine xi_iadd (pc' := 686) (v := v22) kc_195_685 rfl ev22 ?_
                          refine xi_ialoadO (pc' := 687) (v := a23) kc_195_686 rfl (by decide) hov0 (xi_in (by omega) (by omega)) ea23 ?_
                          refine xi_aload_n (pc' := 688) (x := 1000000) kc_195_687 rfl rfl ?_
                          refine xi_iload (pc' := 690) (x := x4) kc_195_688 rfl rfl ?_
                          refine xi_iconst (pc' := 691) (v := 2) kc_195_690 rfl rfl ?_
                          refine xi_iadd (pc' := 692) (v := v24) kc_195_691 rfl ev24 ?_
                          refine xi_ialoadO (pc' := 693) (v := a25) kc_195_692 rfl (by decide) hov0 (xi_in (by omega) (by omega)) ea25 ?_
                          refine xi_aload_n (pc' := 694) (x := 1000000) kc_195_693 rfl rfl ?_
                          refine xi_iload (pc' := 696) (x := x4) kc_195_694 rfl rfl ?_
                          refine xi_iconst (pc' := 697) (v := 3) kc_195_696 rfl rfl ?_
                          refine xi_iadd (pc' := 698) (v := v26) kc_195_697 rfl ev26 ?_
                          refine xi_ialoadO (pc' := 699) (v := a27) kc_195_698 rfl (by decide) hov0 (xi_in (by omega) (by omega)) ea27 ?_
                          refine xi_aload_n (pc' := 700) (x := 1000000) kc_195_699 rfl rfl ?_
                          refine xi_iload (pc' := 702) (x := x4) kc_195_700 rfl rfl ?_
                          refine xi_iconst (pc' := 703) (v := 4) kc_195_702 rfl rfl ?_
                          refine xi_iadd (pc' := 704) (v := v28) kc_195_703 rfl ev28 ?_
                          refine xi_ialoadO (pc' := 705) (v := a29) kc_195_704 rfl (by decide) hov0 (xi_in (by omega) (by omega)) ea29 ?_
                          have A438 := ((eh435.2.1 115 (by decide)).trans A17)
                          refine xi_virtual (mj := 32) (as := [.int a23, .int a25, .int a27, .int a29]) (st1 := []) (lv0 := [(0, .ref 115), (1, .int a23), (2, .int a25), (3, .int a27), (4, .int a29)]) kc_195_705 rfl rfl rfl rfl rfl A438 (Nat.le_of_ble_eq_true rfl) (hJ _ _ _ _ (by decide)) (xm_le ml_32 rfl) rfl ?_
                          refine xi_aload_n (pc' := 1) (x := 115) kc_32_0 rfl rfl ?_
                          refine xi_iconst (pc' := 2) (v := 0) kc_32_1 rfl rfl ?_
                          refine xi_putfield (pc' := 5) (fs' := [.int 0, .int u5, .ref 116, .ref 117, .ref 118, .ref 119, .ref 120, .ref 121, .ref 122, .ref 123, .ref 124, .ref 125, .ref 126, .ref 127, .ref 128, .ref 129, .int u6, .ref 130, .int u7, .ref 131, .ref 132, .ref 133, .ref 134, .int u1, .ref 135, .ref 136, .ref 137, .ref 138, .ref 139, .ref 140, .ref 141, .ref 142, .int u9, .int u10, .int u11, .ref 143, .ref 144, .ref 145, .ref 146, .ref 147, .ref 148, .int u12, .ref 149, .ref 150, .ref 151, .int u13, .ref 152, .ref 153, .ref 154, .ref 155, .ref 156, .ref 157, .ref 158, .ref 159, .int u14, .ref 160, .int u15, .ref 161, .ref 162, .ref 163, .ref 164, .int u16, .ref 165, .ref 166]) kc_32_2 rfl rfl rfl A438 rfl rfl rfl (Nat.le_of_ble_eq_true rfl) rfl (fun hh440 eh439 => ?_)
                          have K441 := xk_pf (k := 0) (v := 0) K436 (xk_wf (by decide +kernel)) xD_115 A438 rfl (by first | omega | decide) (by first | omega | decide) eh439 rfl
                          have KR442 := xk_pf (k := 0) (v := 0) KR437 (xk_wf (by decide +kernel)) xD_115 A438 rfl (by first | omega | decide) (by first | omega | decide) eh439 rfl
                          refine xi_iload_n (pc' := 6) (x := a23) kc_32_5 rfl rfl ?_
                          refine xi_iconst (pc' := 7) (v := 0) kc_32_6 rfl rfl ?_
                          refine xi_iconst (pc' := 8) (v := 3) kc_32_7 rfl rfl ?_
                          refine xi_static (mj := 11) (as := [.int a23, .int 0, .int 3]) (st1 := []) (lv0 := [(0, .int a23), (1, .int 0), (2, .int 3)]) kc_32_8 rfl rfl (Nat.le_of_ble_eq_true rfl) rfl rfl (Nat.le_of_ble_eq_true rfl) (hJ _ _ _ _ (by decide)) (xm_le ml_11 rfl) rfl ?_
                          refine xi_iload_n (pc' := 1) (x := a23) kc_11_0 rfl rfl ?_
                          refine xi_iload_n (pc' := 2) (x := 0) kc_11_1 rfl rfl ?_
                          refine xi_cmf (pc' := 5) kc_11_2 rfl (xc_lt_f (X := a23.toInt) (Y := 0) rfl (by decide) (by omega)) ?_
                          refine xi_iload_n (pc' := 6) (x := a23) kc_11_5 rfl rfl ?_
                          refine xi_iload_n (pc' := 7) (x := 3) kc_11_6 rfl rfl ?_
                          refine xi_cmf (pc' := 10) kc_11_7 rfl (xc_gt_f (X := a23.toInt) (Y := 3) rfl (by decide) (by omega)) ?_
                          refine xi_iconst (pc' := 11) (v := 1) kc_11_10 rfl rfl ?_
                          refine xi_goto (pc' := 15) kc_11_11 rfl ?_
                          refine xi_ireturn kc_11_15 mr_11 rfl ?_
                          show xw J ov 99 32 (11, [(0, .ref 115), (1, .int a23), (2, .int a25), (3, .int a27), (4, .int a29)], [.int 1], hh440) _
                          refine xi_ift (pc' := 21) kc_32_11 rfl rfl ?_
                          refine xi_iload_n (pc' := 22) (x := a23) kc_32_21 rfl rfl ?_
                          refine xi_iconst (pc' := 23) (v := 3) kc_32_22 rfl rfl ?_
                          refine xi_cmt (pc' := 36) kc_32_23 rfl (xc_ne_t (X := a23.toInt) (Y := 3) rfl (by decide) (by omega)) ?_
                          refine xi_aload_n (pc' := 37) (x := 115) kc_32_36 rfl rfl ?_
                          refine xi_iload_n (pc' := 38) (x := a25) kc_32_37 rfl rfl ?_
                          refine xi_virtual (mj := 31) (as := [.int a25]) (st1 := []) (lv0 := [(0, .ref 115), (1, .int a25)]) kc_32_38 rfl rfl rfl rfl rfl eh439.1 (Nat.le_of_ble_eq_true rfl) (hJ _ _ _ _ (by decide)) (xm_le ml_31 rfl) rfl ?_
                          refine xi_iload_n (pc' := 1) (x := a25) kc_31_0 rfl rfl ?_
                          refine xi_static (mj := 24) (as := [.int a25]) (st1 := []) (lv0 := [(0, .int a25)]) kc_31_1 rfl rfl (Nat.le_of_ble_eq_true rfl) rfl rfl (Nat.le_of_ble_eq_true rfl) (hJ _ _ _ _ (by decide)) (xm_le ml_24 rfl) rfl ?_
                          refine xi_iload_n (pc' := 1) (x := a25) kc_24_0 rfl rfl ?_
                          refine xi_iconst (pc' := 2) (v := 0) kc_24_1 rfl rfl ?_
                          refine xi_bipush (pc' := 4) (v := 11) kc_24_2 rfl rfl ?_
                          refine xi_static (mj := 11) (as := [.int a25, .int 0, .int 11]) (st1 := []) (lv0 := [(0, .int a25), (1, .int 0), (2, .int 11)]) kc_24_4 rfl rfl (Nat.le_of_ble_eq_true rfl) rfl rfl (Nat.le_of_ble_eq_true rfl) (hJ _ _ _ _ (by decide)) (xm_le ml_11 rfl) rfl ?_
                          refine xi_iload_n (pc' := 1) (x := a25) kc_11_0 rfl rfl ?_
                          refine xi_iload_n (pc' := 2) (x := 0) kc_11_1 rfl rfl ?_
                          refine xi_cmf (pc' := 5) kc_11_2 rfl (xc_lt_f (X := a25.toInt) (Y := 0) rfl (by decide) (by omega)) ?_
                          refine xi_iload_n (pc' := 6) (x := a25) kc_11_5 rfl rfl ?_
                          refine xi_iload_n (pc' := 7) (x := 11) kc_11_6 rfl rfl ?_
                          refine xi_cmf (pc' := 10) kc_11_7 rfl (xc_gt_f (X := a25.toInt) (Y := 11) rfl (by decide) (by omega)) ?_
                          refine xi_iconst (pc' := 11) (v := 1) kc_11_10 rfl rfl ?_
                          refine xi_goto (pc' := 15) kc_11_11 rfl ?_
                          refine xi_ireturn kc_11_15 mr_11 rfl ?_
                          show xw J ov 97 24 (7, [(0, .int a25)], [.int 1], hh440) _
                          refine xi_ireturn kc_24_7 mr_24 rfl ?_
                          show xw J ov 98 31 (4, [(0, .ref 115), (1, .int a25)], [.int 1], hh440) _
                          refine xi_iff (pc' := 7) kc_31_4 rfl rfl ?_
                          refine xi_aload_n (pc' := 8) (x := 115) kc_31_7 rfl rfl ?_
                          refine xi_getfield (pc' := 11) (v := .ref 125) kc_31_8 rfl rfl rfl eh439.1 rfl ?_
                          refine xi_iload_n (pc' := 12) (x := a25) kc_31_11 rfl rfl ?_
                          have A443 := ((eh439.2.1 125 (by decide)).trans ((eh435.2.1 125 (by decide)).trans A338))
                          refine xi_iaload (pc' := 13) (v := u332) kc_31_12 rfl A443 (by decide) rfl (xi_in (by omega) (by rw [hy338]; omega)) HG339 ?_
                          refine xi_iff (pc' := 16) kc_31_13 rfl (xc_lt_f (X := u332.toInt) (Y := 0) rfl (by decide) (by omega)) ?_
                          refine xi_iconst (pc' := 17) (v := 1) kc_31_16 rfl rfl ?_
                          refine xi_goto (pc' := 21) kc_31_17 rfl ?_
                          refine xi_ireturn kc_31_21 mr_31 rfl ?_
                          show xw J ov 99 32 (41, [(0, .ref 115), (1, .int a23), (2, .int a25), (3, .int a27), (4, .int a29)], [.int 1], hh440) _
                          refine xi_iff (pc' := 44) kc_32_41 rfl rfl ?_
                          refine xi_iload_n (pc' := 45) (x := a23) kc_32_44 rfl rfl ?_
                          refine xi_iff (pc' := 48) kc_32_45 rfl (xc_ne_f (X := a23.toInt) (Y := 0) rfl (by decide) (by omega)) ?_
                          refine xi_aload_n (pc' := 49) (x := 115) kc_32_48 rfl rfl ?_
                          refine xi_getfield (pc' := 52) (v := .ref 127) kc_32_49 rfl rfl rfl eh439.1 rfl ?_
                          refine xi_iload_n (pc' := 53) (x := a25) kc_32_52 rfl rfl ?_
                          have A444 := ((eh439.2.1 127 (by decide)).trans ((eh435.2.1 127 (by decide)).trans A340))
                          refine xi_baload (pc' := 54) (v := u334) kc_32_53 rfl A444 rfl (xi_in (by omega) (by rw [hy340]; omega)) HG341 ?_
                          refine xi_ift (pc' := 63) kc_32_54 rfl (xc_ne_t (X := u334.toInt) (Y := 0) rfl (by decide) (by omega)) ?_
                          refine xi_iload_n (pc' := 64) (x := a27) kc_32_63 rfl rfl ?_
                          refine xi_iconst (pc' := 65) (v := 1) kc_32_64 rfl rfl ?_
                          refine xi_cmf (pc' := 68) kc_32_65 rfl (xc_lt_f (X := a27.toInt) (Y := 1) rfl (by decide) (by omega)) ?_
                          refine xi_iload (pc' := 70) (x := a29) kc_32_68 rfl rfl ?_
                          refine xi_ift (pc' := 80) kc_32_70 rfl (xc_ge_t (X := a29.toInt) (Y := 0) rfl (by decide) (by omega)) ?_
                          refine xi_iload_n (pc' := 81) (x := a27) kc_32_80 rfl rfl ?_
                          refine xi_bipush (pc' := 83) (v := 99) kc_32_81 rfl rfl ?_
                          refine xi_cmf (pc' := 86) kc_32_83 rfl (xc_gt_f (X := a27.toInt) (Y := 99) rfl (by decide) (by omega)) ?_
                          refine xi_iload (pc' := 88) (x := a29) kc_32_86 rfl rfl ?_
                          refine xi_sipush (pc' := 91) (v := 600) kc_32_88 rfl rfl ?_
                          refine xi_cmt (pc' := 103) kc_32_91 rfl (xc_gt_t (X := a29.toInt) (Y := 600) rfl (by decide) (by omega)) ?_
                          refine xi_aload_n (pc' := 104) (x := 115) kc_32_103 rfl rfl ?_
                          refine xi_bipush (pc' := 106) (v := (-6)) kc_32_104 rfl rfl ?_
                          refine xi_virtual (mj := 12) (as := [.int (-6)]) (st1 := []) (lv0 := [(0, .ref 115), (1, .int (-6))]) kc_32_106 rfl rfl rfl rfl rfl eh439.1 (Nat.le_of_ble_eq_true rfl) (hJ _ _ _ _ (by decide)) (xm_le ml_12 rfl) rfl ?_
                          refine xi_aload_n (pc' := 1) (x := 115) kc_12_0 rfl rfl ?_
                          refine xi_getfield (pc' := 4) (v := .ref 140) kc_12_1 rfl rfl rfl eh439.1 rfl ?_
                          refine xi_iload_n (pc' := 5) (x := (-6)) kc_12_4 rfl rfl ?_
                          refine xi_ineg (pc' := 6) (v := 6) kc_12_5 rfl rfl ?_
                          refine xi_dup2 (pc' := 7) kc_12_6 rfl ⟨rfl, rfl⟩ ?_
                          obtain ⟨y445, A445, hy445, ry445⟩ := xk_arr K.1 xD_140
                          obtain ⟨v446, ev446, bv446, dv446⟩ := xj_get hy445 ry445 (i := 6) (by decide) (by decide)
                          have A447 := ((eh439.2.1 140 (by decide)).trans ((eh435.2.1 140 (by decide)).trans A445))
                          refine xi_iaload (pc' := 8) (v := v446) kc_12_7 rfl A447 (by decide) rfl (xi_in (by decide) (by rw [hy445]; decide)) ev446 ?_
                          refine xi_iconst (pc' := 9) (v := 1) kc_12_8 rfl rfl ?_
                          obtain ⟨v448, ev448⟩ : ∃ q : Int32, (v446 : Int32) + 1 = q := ⟨_, rfl⟩
                          have rv448 := xc_rng v448
                          refine xi_iadd (pc' := 10) (v := v448) kc_12_9 rfl ev448 ?_
                          obtain ⟨y449, s449, hy449, ry449⟩ := xj_set (v := v448) hy445 ry445 6 (by first | omega | decide) (by first | omega | decide)
                          refine xi_iastore (pc' := 11) (x' := y449) kc_12_10 rfl A447 rfl (xi_in (by decide) (by rw [hy445]; decide)) s449 (fun hh449 eh449 => ?_)
                          have K450 := xk_pa K441 (xk_wa (by decide +kernel)) xD_140 hy449 ry449 eh449
                          have KR451 := xk_pa KR442 (xk_wa (by decide +kernel)) xD_140 hy449 ry449 eh449
                          refine xi_iload_n (pc' := 12) (x := (-6)) kc_12_11 rfl rfl ?_
                          refine xi_ireturn kc_12_12 mr_12 rfl ?_
                          show xw J ov 99 32 (109, [(0, .ref 115), (1, .int a23), (2, .int a25), (3, .int a27), (4, .int a29)], [.int (-6)], hh449) _
                          refine xi_ireturn kc_32_109 mr_32 rfl ?_
                          show xw J ov 100 195 (708, [(4, .int x4), (3, .ref 167), (2, .ref 115), (1, .ref 0), (0, .ref 1000000)], [.int (-6)], hh449) _
                          refine xi_pop (pc' := 709) kc_195_708 rfl rfl ?_
                          refine xi_goto (pc' := 1501) kc_195_709 rfl ?_
                          obtain ⟨v452, ev452⟩ : ∃ q : Int32, x4 + 6 = q := ⟨_, rfl⟩
                          have zv452 : v452.toInt = (x4.toInt + 6) := by rw [← ev452]; exact (xz_add (X := x4.toInt) (Y := 6) rfl (by decide) (by omega) (by omega)).trans (by omega)
                          refine xi_iinc (pc' := 1504) (x := x4) (v := v452) (lv' := [(4, .int v452), (3, .ref 167), (2, .ref 115), (1, .ref 0), (0, .ref 1000000)]) kc_195_1501 rfl rfl ev452 rfl (xm_lt ml_195 rfl) ?_
                          refine xi_goto (pc' := 23) kc_195_1504 rfl ?_
                          exact kk v452 hh449 (by omega) K450 (xI_kept I KR451.2.1)
                        · refine xi_cmf (pc' := 63) kc_116_60 rfl (xc_gt_f (X := a29.toInt) (Y := 600) rfl (by decide) (by omega)) ?_
                          refine xi_aload_n (pc' := 64) (x := 0) kc_116_63 rfl rfl ?_
                          refine xi_getfield (pc' := 67) (v := .ref 1) kc_116_64 rfl rfl rfl A32 rfl ?_
                          refine xi_getfield (pc' := 70) (v := .int u1) kc_116_67 rfl rfl rfl A3 rfl ?_
                          refine xi_bipush (pc' := 72) (v := 10) kc_116_70 rfl rfl ?_
                          by_cases c453 : u1.toInt < 10
                          · refine xi_cmt (pc' := 82) kc_116_72 rfl (xc_lt_t (X := u1.toInt) (Y := 10) rfl (by decide) (by omega)) ?_
                            refine xi_aload_n (pc' := 83) (x := 0) kc_116_82 rfl rfl ?_
                            refine xi_getfield (pc' := 86) (v := .ref 1) kc_116_83 rfl rfl rfl A32 rfl ?_
                            refine xi_iload_n (pc' := 87) (x := a23) kc_116_86 rfl rfl ?_
                            refine xi_iload_n (pc' := 88) (x := a25) kc_116_87 rfl rfl ?_
                            refine xi_iload_n (pc' := 89) (x := a27) kc_116_88 rfl rfl ?_
                            refine xi_iload (pc' := 91) (x := a29) kc_116_89 rfl rfl ?_
                            refine xi_virtual (mj := 119) (as := [.int a23, .int a25, .int a27, .int a29]) (st1 := []) (lv0 := [(0, .ref 1), (1, .int a23), (2, .int a25), (3, .int a27), (4, .int a29)]) kc_116_91 rfl rfl rfl rfl rfl A3 (Nat.le_of_ble_eq_true rfl) (hJ _ _ _ _ (by decide)) (xm_le ml_119 rfl) rfl ?_
                            refine xi_aload_n (pc' := 1) (x := 1) kc_119_0 rfl rfl ?_
                            refine xi_getfield (pc' := 4) (v := .int u1) kc_119_1 rfl rfl rfl A3 rfl ?_
                            refine xi_bipush (pc' := 6) (v := 10) kc_119_4 rfl rfl ?_
                            refine xi_cmt (pc' := 12) kc_119_6 rfl (xc_lt_t (X := u1.toInt) (Y := 10) rfl (by decide) (by omega)) ?_
                            refine xi_aload_n (pc' := 13) (x := 1) kc_119_12 rfl rfl ?_
                            refine xi_getfield (pc' := 16) (v := .ref 4) kc_119_13 rfl rfl rfl A3 rfl ?_
                            refine xi_aload_n (pc' := 17) (x := 1) kc_119_16 rfl rfl ?_
                            refine xi_getfield (pc' := 20) (v := .int u1) kc_119_17 rfl rfl rfl A3 rfl ?_
                            have A454 := xk_ex K.1 xD_4
                            obtain ⟨pt455, ept455, mpt455⟩ := xR_4 (i := u1) (by omega) (by omega)
                            refine xj_aaload (pc' := 21) (b := pt455) kc_119_20 rfl A454 rfl (xi_in (n := 10) (by omega) (by omega)) ept455 ?_
                            refine xi_astore (pc' := 23) (lv' := [(5, .ref pt455), (0, .ref 1), (1, .int a23), (2, .int a25), (3, .int a27), (4, .int a29)]) kc_119_21 rfl rfl (xm_lt ml_119 rfl) ?_
                            refine xi_aload (pc' := 25) (x := pt455) kc_119_23 rfl rfl ?_
                            refine xi_iload_n (pc' := 26) (x := a23) kc_119_25 rfl rfl ?_
                            obtain ⟨u456, u457, u458, u459, bu456, bu457, bu458, bu459, A460⟩ := xg_cause K.1 mpt455
                            obtain ⟨y461, A461, hy461, ry461⟩ := xk_arr K.1 xD_135
                            have HG462 : y461.getD (Int32.toNatClampNeg u1) 0 = u456 := xGR_ld (Lo := [some 53, some 54, some 55, some 56, some 57, some 58, some 59, some 60, some 61, some 62]) I.2.2.2.2.2.2.2.2.2.2.2.2.2.2.2.2.2.2.1 rfl ept455 (by omega) (by show _ < ((10 : Nat) : Int); omega) A460 rfl A461
                            have bHG462 : 0 ≤ u456.toInt ∧ u456.toInt ≤ 3 := by rw [← HG462]; exact ry461 _ (xj_nat (n := 10) (by omega) (by omega))
                            obtain ⟨y463, A463, hy463, ry463⟩ := xk_arr K.1 xD_136
                            have HG464 : y463.getD (Int32.toNatClampNeg u1) 0 = u457 := xGR_ld (Lo := [some 53, some 54, some 55, some 56, some 57, some 58, some 59, some 60, some 61, some 62]) I.2.2.2.2.2.2.2.2.2.2.2.2.2.2.2.2.2.2.2.1 rfl ept455 (by omega) (by show _ < ((10 : Nat) : Int); omega) A460 rfl A463
                            have bHG464 : 0 ≤ u457.toInt ∧ u457.toInt ≤ 11 := by rw [← HG464]; exact ry463 _ (xj_nat (n := 10) (by omega) (by omega))
                            obtain ⟨y465, A465, hy465, ry465⟩ := xk_arr K.1 xD_137
                            have HG466 : y465.getD (Int32.toNatClampNeg u1) 0 = u458 := xGR_ld (Lo := [some 53, some 54, some 55, some 56, some 57, some 58, some 59, some 60, some 61, some 62]) I.2.2.2.2.2.2.2.2.2.2.2.2.2.2.2.2.2.2.2.2.1 rfl ept455 (by omega) (by show _ < ((10 : Nat) : Int); omega) A460 rfl A465
                            have bHG466 : 0 ≤ u458.toInt ∧ u458.toInt ≤ 99 := by rw [← HG466]; exact ry465 _ (xj_nat (n := 10) (by omega) (by omega))
                            obtain ⟨y467, A467, hy467, ry467⟩ := xk_arr K.1 xD_138
                            have HG468 : y467.getD (Int32.toNatClampNeg u1) 0 = u459 := xGR_ld (Lo := [some 53, some 54, some 55, some 56, some 57, some 58, some 59, some 60, some 61, some 62]) I.2.2.2.2.2.2.2.2.2.2.2.2.2.2.2.2.2.2.2.2.2.1 rfl ept455 (by omega) (by show _ < ((10 : Nat) : Int); omega) A460 rfl A467
                            have bHG468 : (-2147483648) ≤ u459.toInt ∧ u459.toInt ≤ 2147483647 := by rw [← HG468]; exact ry467 _ (xj_nat (n := 10) (by omega) (by omega))
                            refine xi_putfield (pc' := 29) (fs' := [.int a23, .int u457, .int u458, .int u459]) kc_119_26 rfl rfl rfl A460 rfl rfl rfl (Nat.le_of_ble_eq_true rfl) rfl (fun hh470 eh469 => ?_)
                            obtain ⟨ds471, Dds471, dds471_0, dds471_1, dds471_2, dds471_3⟩ := xGo_cause mpt455
                            have K472 := xk_pf (k := 0) (v := a23) K (xk_gf mpt455 (by decide +kernel)) Dds471 A460 dds471_0 (by first | omega | decide) (by first | omega | decide) eh469 rfl
                            refine xi_aload (pc' := 31) (x := pt455) kc_119_29 rfl rfl ?_
                            refine xi_iload_n (pc' := 32) (x := a25) kc_119_31 rfl rfl ?_
                            refine xi_putfield (pc' := 35) (fs' := [.int a23, .int a25, .int u458, .int u459]) kc_119_32 rfl rfl rfl eh469.1 rfl rfl rfl (Nat.le_of_ble_eq_true rfl) rfl (fun hh474 eh473 => ?_)
                            obtain ⟨ds475, Dds475, dds475_0, dds475_1, dds475_2, dds475_3⟩ := xGo_cause mpt455
                            have K476 := xk_pf (k := 1) (v := a25) K472 (xk_gf mpt455 (by decide +kernel)) Dds475 eh469.1 dds475_1 (by first | omega | decide) (by first | omega | decide) eh473 rfl
                            refine xi_aload (pc' := 37) (x := pt455) kc_119_35 rfl rfl ?_
                            refine xi_iload_n (pc' := 38) (x := a27) kc_119_37 rfl rfl ?_
                            refine xi_putfield (pc' := 41) (fs' := [.int a23, .int a25, .int a27, .int u459]) kc_119_38 rfl rfl rfl eh473.1 rfl rfl rfl (Nat.le_of_ble_eq_true rfl) rfl (fun hh478 eh477 => ?_)
                            obtain ⟨ds479, Dds479, dds479_0, dds479_1, dds479_2, dds479_3⟩ := xGo_cause mpt455
                            have K480 := xk_pf (k := 2) (v := a27) K476 (xk_gf mpt455 (by decide +kernel)) Dds479 eh473.1 dds479_2 (by first | omega | decide) (by first | omega | decide) eh477 rfl
                            refine xi_aload (pc' := 43) (x := pt455) kc_119_41 rfl rfl ?_
                            refine xi_iload (pc' := 45) (x := a29) kc_119_43 rfl rfl ?_
                            refine xi_putfield (pc' := 48) (fs' := [.int a23, .int a25, .int a27, .int a29]) kc_119_45 rfl rfl rfl eh477.1 rfl rfl rfl (Nat.le_of_ble_eq_true rfl) rfl (fun hh482 eh481 => ?_)
                            obtain ⟨ds483, Dds483, dds483_0, dds483_1, dds483_2, dds483_3⟩ := xGo_cause mpt455
                            have K484 := xk_pf (k := 3) (v := a29) K480 (xk_gf mpt455 (by decide +kernel)) Dds483 eh477.1 dds483_3 (by first | omega | decide) (by first | omega | decide) eh481 rfl
                            refine xi_aload_n (pc' := 49) (x := 1) kc_119_48 rfl rfl ?_
                            refine xi_dup (pc' := 50) kc_119_49 rfl rfl ?_
                            have A485 := ((eh481.2.1 1 (xk_nc mpt455 rfl)).trans ((eh477.2.1 1 (xk_nc mpt455 rfl)).trans ((eh473.2.1 1 (xk_nc mpt455 rfl)).trans ((eh469.2.1 1 (xk_nc mpt455 rfl)).trans A3))))
                            refine xi_getfield (pc' := 53) (v := .int u1) kc_119_50 rfl rfl rfl A485 rfl ?_
                            refine xi_iconst (pc' := 54) (v := 1) kc_119_53 rfl rfl ?_
                            obtain ⟨v486, ev486⟩ : ∃ q : Int32, u1 + 1 = q := ⟨_, rfl⟩
                            have zv486 : v486.toInt = (u1.toInt + 1) := by rw [← ev486]; exact (xz_add (X := u1.toInt) (Y := 1) rfl (by decide) (by omega) (by omega)).trans (by omega)
                            refine xi_iadd (pc' := 55) (v := v486) kc_119_54 rfl ev486 ?_
                            refine xi_putfield (pc' := 58) (fs' := [.ref 2, .ref 3, .ref 4, .ref 5, .ref 8, .int v486, .int u2]) kc_119_55 rfl rfl rfl A485 rfl rfl rfl (Nat.le_of_ble_eq_true rfl) rfl (fun hh488 eh487 => ?_)
                            have K489 := xk_pf (k := 5) (v := v486) K484 (xk_wf (by decide +kernel)) xD_1 A485 rfl (by first | omega | decide) (by first | omega | decide) eh487 rfl
                            refine xi_aload_n (pc' := 59) (x := 1) kc_119_58 rfl rfl ?_
                            refine xi_getfield (pc' := 62) (v := .int v486) kc_119_59 rfl rfl rfl eh487.1 rfl ?_
                            refine xi_iconst (pc' := 63) (v := 1) kc_119_62 rfl rfl ?_
                            obtain ⟨v490, ev490⟩ : ∃ q : Int32, v486 - 1 = q := ⟨_, rfl⟩
                            have zv490 : v490.toInt = u1.toInt := by rw [← ev490]; exact (xz_sub (X := (u1.toInt + 1)) (Y := 1) zv486 (by decide) (by omega) (by omega)).trans (by omega)
                            refine xi_isub (pc' := 64) (v := v490) kc_119_63 rfl ev490 ?_
                            refine xi_ireturn kc_119_64 mr_119 rfl ?_
                            show xw J ov 99 116 (94, [(0, .ref 0), (1, .int a23), (2, .int a25), (3, .int a27), (4, .int a29)], [.int v490], hh488) _
                            refine xi_ireturn kc_116_94 mr_116 rfl ?_
                            show xw J ov 100 195 (679, [(4, .int x4), (3, .ref 167), (2, .ref 115), (1, .ref 0), (0, .ref 1000000)], [.int v490], hh488) _
                            refine xi_pop (pc' := 680) kc_195_679 rfl rfl ?_
                            refine xi_aload_n (pc' := 681) (x := 115) kc_195_680 rfl rfl ?_
                            refine xi_aload_n (pc' := 682) (x := 1000000) kc_195_681 rfl rfl ?_
                            refine xi_iload (pc' := 684) (x := x4) kc_195_682 rfl rfl ?_
                            refine xi_iconst (pc' := 685) (v := 1) kc_195_684 rfl rfl ?_
                            refine xi_iadd (pc' := 686) (v := v22) kc_195_685 rfl ev22 ?_
                            refine xi_ialoadO (pc' := 687) (v := a23) kc_195_686 rfl (by decide) hov0 (xi_in (by omega) (by omega)) ea23 ?_
                            refine xi_aload_n (pc' := 688) (x := 1000000) kc_195_687 rfl rfl ?_
                            refine xi_iload (pc' := 690) (x := x4) kc_195_688 rfl rfl ?_
                            refine xi_iconst (pc' := 691) (v := 2) kc_195_690 rfl rfl ?_
                            refine xi_iadd (pc' := 692) (v := v24) kc_195_691 rfl ev24 ?_
                            refine xi_ialoadO (pc' := 693) (v := a25) kc_195_692 rfl (by decide) hov0 (xi_in (by omega) (by omega)) ea25 ?_
                            refine xi_aload_n (pc' := 694) (x := 1000000) kc_195_693 rfl rfl ?_
                            refine xi_iload (pc' := 696) (x := x4) kc_195_694 rfl rfl ?_
                            refine xi_iconst (pc' := 697) (v := 3) kc_195_696 rfl rfl ?_
                            refine xi_iadd (pc' := 698) (v := v26) kc_195_697 rfl ev26 ?_
                            refine xi_ialoadO (pc' := 699) (v := a27) kc_195_698 rfl (by decide) hov0 (xi_in (by omega) (by omega)) ea27 ?_
                            refine xi_aload_n (pc' := 700) (x := 1000000) kc_195_699 rfl rfl ?_
                            refine xi_iload (pc' := 702) (x := x4) kc_195_700 rfl rfl ?_
                            refine xi_iconst (pc' := 703) (v := 4) kc_195_702 rfl rfl ?_
                            refine xi_iadd (pc' := 704) (v := v28) kc_195_703 rfl ev28 ?_
                            refine xi_ialoadO (pc' := 705) (v := a29) kc_195_704 rfl (by decide) hov0 (xi_in (by omega) (by omega)) ea29 ?_
                            have A491 := ((eh487.2.1 115 (by decide)).trans ((eh481.2.1 115 (xk_nc mpt455 rfl)).trans ((eh477.2.1 115 (xk_nc mpt455 rfl)).trans ((eh473.2.1 115 (xk_nc mpt455 rfl)).trans ((eh469.2.1 115 (xk_nc mpt455 rfl)).trans A17)))))
                            refine xi_virtual (mj := 32) (as := [.int a23, .int a25, .int a27, .int a29]) (st1 := []) (lv0 := [(0, .ref 115), (1, .int a23), (2, .int a25), (3, .int a27), (4, .int a29)]) kc_195_705 rfl rfl rfl rfl rfl A491 (Nat.le_of_ble_eq_true rfl) (hJ _ _ _ _ (by decide)) (xm_le ml_32 rfl) rfl ?_
                            refine xi_aload_n (pc' := 1) (x := 115) kc_32_0 rfl rfl ?_
                            refine xi_iconst (pc' := 2) (v := 0) kc_32_1 rfl rfl ?_
                            refine xi_putfield (pc' := 5) (fs' := [.int 0, .int u5, .ref 116, .ref 117, .ref 118, .ref 119, .ref 120, .ref 121, .ref 122, .ref 123, .ref 124, .ref 125, .ref 126, .ref 127, .ref 128, .ref 129, .int u6, .ref 130, .int u7, .ref 131, .ref 132, .ref 133, .ref 134, .int u1, .ref 135, .ref 136, .ref 137, .ref 138, .ref 139, .ref 140, .ref 141, .ref 142, .int u9, .int u10, .int u11, .ref 143, .ref 144, .ref 145, .ref 146, .ref 147, .ref 148, .int u12, .ref 149, .ref 150, .ref 151, .int u13, .ref 152, .ref 153, .ref 154, .ref 155, .ref 156, .ref 157, .ref 158, .ref 159, .int u14, .ref 160, .int u15, .ref 161, .ref 162, .ref 163, .ref 164, .int u16, .ref 165, .ref 166]) kc_32_2 rfl rfl rfl A491 rfl rfl rfl (Nat.le_of_ble_eq_true rfl) rfl (fun hh493 eh492 => ?_)
                            have K494 := xk_pf (k := 0) (v := 0) K489 (xk_wf (by decide +kernel)) xD_115 A491 rfl (by first | omega | decide) (by first | omega | decide) eh492 rfl
                            refine xi_iload_n (pc' := 6) (x := a23) kc_32_5 rfl rfl ?_
                            refine xi_iconst (pc' := 7) (v := 0) kc_32_6 rfl rfl ?_
                            refine xi_iconst (pc' := 8) (v := 3) kc_32_7 rfl rfl ?_
                            refine xi_static (mj := 11) (as := [.int a23, .int 0, .int 3]) (st1 := []) (lv0 := [(0, .int a23), (1, .int 0), (2, .int 3)]) kc_32_8 rfl rfl (Nat.le_of_ble_eq_true rfl) rfl rfl (Nat.le_of_ble_eq_true rfl) (hJ _ _ _ _ (by decide)) (xm_le ml_11 rfl) rfl ?_
                            refine xi_iload_n (pc' := 1) (x := a23) kc_11_0 rfl rfl ?_
                            refine xi_iload_n (pc' := 2) (x := 0) kc_11_1 rfl rfl ?_
                            refine xi_cmf (pc' := 5) kc_11_2 rfl (xc_lt_f (X := a23.toInt) (Y := 0) rfl (by decide) (by omega)) ?_
                            refine xi_iload_n (pc' := 6) (x := a23) kc_11_5 rfl rfl ?_
                            refine xi_iload_n (pc' := 7) (x := 3) kc_11_6 rfl rfl ?_
                            refine xi_cmf (pc' := 10) kc_11_7 rfl (xc_gt_f (X := a23.toInt) (Y := 3) rfl (by decide) (by omega)) ?_
                            refine xi_iconst (pc' := 11) (v := 1) kc_11_10 rfl rfl ?_
                            refine xi_goto (pc' := 15) kc_11_11 rfl ?_
                            refine xi_ireturn kc_11_15 mr_11 rfl ?_
                            show xw J ov 99 32 (11, [(0, .ref 115), (1, .int a23), (2, .int a25), (3, .int a27), (4, .int a29)], [.int 1], hh493) _
                            refine xi_ift (pc' := 21) kc_32_11 rfl rfl ?_
                            refine xi_iload_n (pc' := 22) (x := a23) kc_32_21 rfl rfl ?_
                            refine xi_iconst (pc' := 23) (v := 3) kc_32_22 rfl rfl ?_
                            refine xi_cmt (pc' := 36) kc_32_23 rfl (xc_ne_t (X := a23.toInt) (Y := 3) rfl (by decide) (by omega)) ?_
                            refine xi_aload_n (pc' := 37) (x := 115) kc_32_36 rfl rfl ?_
                            refine xi_iload_n (pc' := 38) (x := a25) kc_32_37 rfl rfl ?_
                            refine xi_virtual (mj := 31) (as := [.int a25]) (st1 := []) (lv0 := [(0, .ref 115), (1, .int a25)]) kc_32_38 rfl rfl rfl rfl rfl eh492.1 (Nat.le_of_ble_eq_true rfl) (hJ _ _ _ _ (by decide)) (xm_le ml_31 rfl) rfl ?_
                            refine xi_iload_n (pc' := 1) (x := a25) kc_31_0 rfl rfl ?_
                            refine xi_static (mj := 24) (as := [.int a25]) (st1 := []) (lv0 := [(0, .int a25)]) kc_31_1 rfl rfl (Nat.le_of_ble_eq_true rfl) rfl rfl (Nat.le_of_ble_eq_true rfl) (hJ _ _ _ _ (by decide)) (xm_le ml_24 rfl) rfl ?_
                            refine xi_iload_n (pc' := 1) (x := a25) kc_24_0 rfl rfl ?_
                            refine xi_iconst (pc' := 2) (v := 0) kc_24_1 rfl rfl ?_
                            refine xi_bipush (pc' := 4) (v := 11) kc_24_2 rfl rfl ?_
                            refine xi_static (mj := 11) (as := [.int a25, .int 0, .int 11]) (st1 := []) (lv0 := [(0, .int a25), (1, .int 0), (2, .int 11)]) kc_24_4 rfl rfl (Nat.le_of_ble_eq_true rfl) rfl rfl (Nat.le_of_ble_eq_true rfl) (hJ _ _ _ _ (by decide)) (xm_le ml_11 rfl) rfl ?_
                            refine xi_iload_n (pc' := 1) (x := a25) kc_11_0 rfl rfl ?_
                            refine xi_iload_n (pc' := 2) (x := 0) kc_11_1 rfl rfl ?_
                            refine xi_cmf (pc' := 5) kc_11_2 rfl (xc_lt_f (X := a25.toInt) (Y := 0) rfl (by decide) (by omega)) ?_
                            refine xi_iload_n (pc' := 6) (x := a25) kc_11_5 rfl rfl ?_
                            refine xi_iload_n (pc' := 7) (x := 11) kc_11_6 rfl rfl ?_
                            refine xi_cmf (pc' := 10) kc_11_7 rfl (xc_gt_f (X := a25.toInt) (Y := 11) rfl (by decide) (by omega)) ?_
                            refine xi_iconst (pc' := 11) (v := 1) kc_11_10 rfl rfl ?_
                            refine xi_goto (pc' := 15) kc_11_11 rfl ?_
                            refine xi_ireturn kc_11_15 mr_11 rfl ?_
                            show xw J ov 97 24 (7, [(0, .int a25)], [.int 1], hh493) _
                            refine xi_ireturn kc_24_7 mr_24 rfl ?_
                            show xw J ov 98 31 (4, [(0, .ref 115), (1, .int a25)], [.int 1], hh493) _
                            refine xi_iff (pc' := 7) kc_31_4 rfl rfl ?_
                            refine xi_aload_n (pc' := 8) (x := 115) kc_31_7 rfl rfl ?_
                            refine xi_getfield (pc' := 11) (v := .ref 125) kc_31_8 rfl rfl rfl eh492.1 rfl ?_
                            refine xi_iload_n (pc' := 12) (x := a25) kc_31_11 rfl rfl ?_
                            have A495 := ((eh492.2.1 125 (by decide)).trans ((eh487.2.1 125 (by decide)).trans ((eh481.2.1 125 (xk_nc mpt455 rfl)).trans ((eh477.2.1 125 (xk_nc mpt455 rfl)).trans ((eh473.2.1 125 (xk_nc mpt455 rfl)).trans ((eh469.2.1 125 (xk_nc mpt455 rfl)).trans A338))))))
                            refine xi_iaload (pc' := 13) (v := u332) kc_31_12 rfl A495 (by decide) rfl (xi_in (by omega) (by rw [hy338]; omega)) HG339 ?_
                            refine xi_iff (pc' := 16) kc_31_13 rfl (xc_lt_f (X := u332.toInt) (Y := 0) rfl (by decide) (by omega)) ?_
                            refine xi_iconst (pc' := 17) (v := 1) kc_31_16 rfl rfl ?_
                            refine xi_goto (pc' := 21) kc_31_17 rfl ?_
                            refine xi_ireturn kc_31_21 mr_31 rfl ?_
                            show xw J ov 99 32 (41, [(0, .ref 115), (1, .int a23), (2, .int a25), (3, .int a27), (4, .int a29)], [.int 1], hh493) _
                            refine xi_iff (pc' := 44) kc_32_41 rfl rfl ?_
                            refine xi_iload_n (pc' := 45) (x := a23) kc_32_44 rfl rfl ?_
                            refine xi_iff (pc' := 48) kc_32_45 rfl (xc_ne_f (X := a23.toInt) (Y := 0) rfl (by decide) (by omega)) ?_
                            refine xi_aload_n (pc' := 49) (x := 115) kc_32_48 rfl rfl ?_
                            refine xi_getfield (pc' := 52) (v := .ref 127) kc_32_49 rfl rfl rfl eh492.1 rfl ?_
                            refine xi_iload_n (pc' := 53) (x := a25) kc_32_52 rfl rfl ?_
                            have A496 := ((eh492.2.1 127 (by decide)).trans ((eh487.2.1 127 (by decide)).trans ((eh481.2.1 127 (xk_nc mpt455 rfl)).trans ((eh477.2.1 127 (xk_nc mpt455 rfl)).trans ((eh473.2.1 127 (xk_nc mpt455 rfl)).trans ((eh469.2.1 127 (xk_nc mpt455 rfl)).trans A340))))))
                            refine xi_baload (pc' := 54) (v := u334) kc_32_53 rfl A496 rfl (xi_in (by omega) (by rw [hy340]; omega)) HG341 ?_
                            refine xi_ift (pc' := 63) kc_32_54 rfl (xc_ne_t (X := u334.toInt) (Y := 0) rfl (by decide) (by omega)) ?_
                            refine xi_iload_n (pc' := 64) (x := a27) kc_32_63 rfl rfl ?_
                            refine xi_iconst (pc' := 65) (v := 1) kc_32_64 rfl rfl ?_
                            refine xi_cmf (pc' := 68) kc_32_65 rfl (xc_lt_f (X := a27.toInt) (Y := 1) rfl (by decide) (by omega)) ?_
                            refine xi_iload (pc' := 70) (x := a29) kc_32_68 rfl rfl ?_
                            refine xi_ift (pc' := 80) kc_32_70 rfl (xc_ge_t (X := a29.toInt) (Y := 0) rfl (by decide) (by omega)) ?_
                            refine xi_iload_n (pc' := 81) (x := a27) kc_32_80 rfl rfl ?_
                            refine xi_bipush (pc' := 83) (v := 99) kc_32_81 rfl rfl ?_
                            refine xi_cmf (pc' := 86) kc_32_83 rfl (xc_gt_f (X := a27.toInt) (Y := 99) rfl (by decide) (by omega)) ?_
                            refine xi_iload (pc' := 88) (x := a29) kc_32_86 rfl rfl ?_
                            refine xi_sipush (pc' := 91) (v := 600) kc_32_88 rfl rfl ?_
                            refine xi_cmf (pc' := 94) kc_32_91 rfl (xc_gt_f (X := a29.toInt) (Y := 600) rfl (by decide) (by omega)) ?_
                            refine xi_aload_n (pc' := 95) (x := 115) kc_32_94 rfl rfl ?_
                            refine xi_getfield (pc' := 98) (v := .int u1) kc_32_95 rfl rfl rfl eh492.1 rfl ?_
                            refine xi_bipush (pc' := 100) (v := 10) kc_32_98 rfl rfl ?_
                            refine xi_cmt (pc' := 110) kc_32_100 rfl (xc_ne_t (X := u1.toInt) (Y := 10) rfl (by decide) (by omega)) ?_
                            refine xi_aload_n (pc' := 111) (x := 115) kc_32_110 rfl rfl ?_
                            refine xi_getfield (pc' := 114) (v := .ref 135) kc_32_111 rfl rfl rfl eh492.1 rfl ?_
                            refine xi_aload_n (pc' := 115) (x := 115) kc_32_114 rfl rfl ?_
                            refine xi_getfield (pc' := 118) (v := .int u1) kc_32_115 rfl rfl rfl eh492.1 rfl ?_
                            refine xi_iload_n (pc' := 119) (x := a23) kc_32_118 rfl rfl ?_
                            have A497 := ((eh492.2.1 135 (by decide)).trans ((eh487.2.1 135 (by decide)).trans ((eh481.2.1 135 (xk_nc mpt455 rfl)).trans ((eh477.2.1 135 (xk_nc mpt455 rfl)).trans ((eh473.2.1 135 (xk_nc mpt455 rfl)).trans ((eh469.2.1 135 (xk_nc mpt455 rfl)).trans A461))))))
                            obtain ⟨y498, s498, hy498, ry498⟩ := xj_set (v := a23) hy461 ry461 u1 (by first | omega | decide) (by first | omega | decide)
                            refine xi_iastore (pc' := 120) (x' := y498) kc_32_119 rfl A497 rfl (xi_in (by omega) (by rw [hy461]; omega)) s498 (fun hh498 eh498 => ?_)
                            have K499 := xk_pa K494 (xk_wa (by decide +kernel)) xD_135 hy498 ry498 eh498
                            refine xi_aload_n (pc' := 121) (x := 115) kc_32_120 rfl rfl ?_
                            have A500 := ((eh498.2.1 115 (by decide)).trans eh492.1)
                            refine xi_getfield (pc' := 124) (v := .ref 136) kc_32_121 rfl rfl rfl A500 rfl ?_
                            refine xi_aload_n (pc' := 125) (x := 115) kc_32_124 rfl rfl ?_
                            refine xi_getfield (pc' := 128) (v := .int u1) kc_32_125 rfl rfl rfl A500 rfl ?_
                            refine xi_iload_n (pc' := 129) (x := a25) kc_32_128 rfl rfl ?_
                            have A501 := ((eh498.2.1 136 (by decide)).trans ((eh492.2.1 136 (by decide)).trans ((eh487.2.1 136 (by decide)).trans ((eh481.2.1 136 (xk_nc mpt455 rfl)).trans ((eh477.2.1 136 (xk_nc mpt455 rfl)).trans ((eh473.2.1 136 (xk_nc mpt455 rfl)).trans ((eh469.2.1 136 (xk_nc mpt455 rfl)).trans A463)))))))
                            obtain ⟨y502, s502, hy502, ry502⟩ := xj_set (v := a25) hy463 ry463 u1 (by first | omega | decide) (by first | omega | decide)
                            refine xi_iastore (pc' := 130) (x' := y502) kc_32_129 rfl A501 rfl (xi_in (by omega) (by rw [hy463]; omega)) s502 (fun hh502 eh502 => ?_)
                            have K503 := xk_pa K499 (xk_wa (by decide +kernel)) xD_136 hy502 ry502 eh502
                            refine xi_aload_n (pc' := 131) (x := 115) kc_32_130 rfl rfl ?_
                            have A504 := ((eh502.2.1 115 (by decide)).trans A500)
                            refine xi_getfield (pc' := 134) (v := .ref 137) kc_32_131 rfl rfl rfl A504 rfl ?_
                            refine xi_aload_n (pc' := 135) (x := 115) kc_32_134 rfl rfl ?_
                            refine xi_getfield (pc' := 138) (v := .int u1) kc_32_135 rfl rfl rfl A504 rfl ?_
                            refine xi_iload_n (pc' := 139) (x := a27) kc_32_138 rfl rfl ?_
                            have A505 := ((eh502.2.1 137 (by decide)).trans ((eh498.2.1 137 (by decide)).trans ((eh492.2.1 137 (by decide)).trans ((eh487.2.1 137 (by decide)).trans ((eh481.2.1 137 (xk_nc mpt455 rfl)).trans ((eh477.2.1 137 (xk_nc mpt455 rfl)).trans ((eh473.2.1 137 (xk_nc mpt455 rfl)).trans ((eh469.2.1 137 (xk_nc mpt455 rfl)).trans A465))))))))
                            obtain ⟨y506, s506, hy506, ry506⟩ := xj_set (v := a27) hy465 ry465 u1 (by first | omega | decide) (by first | omega | decide)
                            refine xi_iastore (pc' := 140) (x' := y506) kc_32_139 rfl A505 rfl (xi_in (by omega) (by rw [hy465]; omega)) s506 (fun hh506 eh506 => ?_)
                            have K507 := xk_pa K503 (xk_wa (by decide +kernel)) xD_137 hy506 ry506 eh506
                            refine xi_aload_n (pc' := 141) (x := 115) kc_32_140 rfl rfl ?_
                            have A508 := ((eh506.2.1 115 (by decide)).trans A504)
                            refine xi_getfield (pc' := 144) (v := .ref 138) kc_32_141 rfl rfl rfl A508 rfl ?_
                            refine xi_aload_n (pc' := 145) (x := 115) kc_32_144 rfl rfl ?_
                            refine xi_getfield (pc' := 148) (v := .int u1) kc_32_145 rfl rfl rfl A508 rfl ?_
                            refine xi_iload (pc' := 150) (x := a29) kc_32_148 rfl rfl ?_
                            have A509 := ((eh506.2.1 138 (by decide)).trans ((eh502.2.1 138 (by decide)).trans ((eh498.2.1 138 (by decide)).trans ((eh492.2.1 138 (by decide)).trans ((eh487.2.1 138 (by decide)).trans ((eh481.2.1 138 (xk_nc mpt455 rfl)).trans ((eh477.2.1 138 (xk_nc mpt455 rfl)).trans ((eh473.2.1 138 (xk_nc mpt455 rfl)).trans ((eh469.2.1 138 (xk_nc mpt455 rfl)).trans A467)))))))))
                            obtain ⟨y510, s510, hy510, ry510⟩ := xj_set (v := a29) hy467 ry467 u1 (by first | omega | decide) (by first | omega | decide)
                            refine xi_iastore (pc' := 151) (x' := y510) kc_32_150 rfl A509 rfl (xi_in (by omega) (by rw [hy467]; omega)) s510 (fun hh510 eh510 => ?_)
                            have K511 := xk_pa K507 (xk_wa (by decide +kernel)) xD_138 hy510 ry510 eh510
                            refine xi_aload_n (pc' := 152) (x := 115) kc_32_151 rfl rfl ?_
                            have A512 := ((eh510.2.1 115 (by decide)).trans A508)
                            refine xi_getfield (pc' := 155) (v := .ref 139) kc_32_152 rfl rfl rfl A512 rfl ?_
                            refine xi_aload_n (pc' := 156) (x := 115) kc_32_155 rfl rfl ?_
                            refine xi_getfield (pc' := 159) (v := .int u1) kc_32_156 rfl rfl rfl A512 rfl ?_
                            refine xi_iconst (pc' := 160) (v := 0) kc_32_159 rfl rfl ?_
                            have A513 := ((eh510.2.1 139 (by decide)).trans ((eh506.2.1 139 (by decide)).trans ((eh502.2.1 139 (by decide)).trans ((eh498.2.1 139 (by decide)).trans ((eh492.2.1 139 (by decide)).trans ((eh487.2.1 139 (by decide)).trans ((eh481.2.1 139 (xk_nc mpt455 rfl)).trans ((eh477.2.1 139 (xk_nc mpt455 rfl)).trans ((eh473.2.1 139 (xk_nc mpt455 rfl)).trans ((eh469.2.1 139 (xk_nc mpt455 rfl)).trans A21))))))))))
                            obtain ⟨y514, s514, hy514, ry514⟩ := xj_set (v := 0) hy21 ry21 u1 (by first | omega | decide) (by first | omega | decide)
                            refine xi_bastore (pc' := 161) (x' := y514) kc_32_160 rfl A513 rfl (xi_in (by omega) (by rw [hy21]; omega)) s514 (fun hh514 eh514 => ?_)
                            have K515 := xk_pa K511 (xk_wa (by decide +kernel)) xD_139 hy514 ry514 eh514
                            refine xi_aload_n (pc' := 162) (x := 115) kc_32_161 rfl rfl ?_
                            refine xi_dup (pc' := 163) kc_32_162 rfl rfl ?_
                            have A516 := ((eh514.2.1 115 (by decide)).trans A512)
                            refine xi_getfield (pc' := 166) (v := .int u1) kc_32_163 rfl rfl rfl A516 rfl ?_
                            refine xi_iconst (pc' := 167) (v := 1) kc_32_166 rfl rfl ?_
                            refine xi_iadd (pc' := 168) (v := v486) kc_32_167 rfl ev486 ?_
                            refine xi_putfield (pc' := 171) (fs' := [.int 0, .int u5, .ref 116, .ref 117, .ref 118, .ref 119, .ref 120, .ref 121, .ref 122, .ref 123, .ref 124, .ref 125, .ref 126, .ref 127, .ref 128, .ref 129, .int u6, .ref 130, .int u7, .ref 131, .ref 132, .ref 133, .ref 134, .int v486, .ref 135, .ref 136, .ref 137, .ref 138, .ref 139, .ref 140, .ref 141, .ref 142, .int u9, .int u10, .int u11, .ref 143, .ref 144, .ref 145, .ref 146, .ref 147, .ref 148, .int u12, .ref 149, .ref 150, .ref 151, .int u13, .ref 152, .ref 153, .ref 154, .ref 155, .ref 156, .ref 157, .ref 158, .ref 159, .int u14, .ref 160, .int u15, .ref 161, .ref 162, .ref 163, .ref 164, .int u16, .ref 165, .ref 166]) kc_32_168 rfl rfl rfl A516 rfl rfl rfl (Nat.le_of_ble_eq_true rfl) rfl (fun hh518 eh517 => ?_)
                            have K519 := xk_pf (k := 23) (v := v486) K515 (xk_wf (by decide +kernel)) xD_115 A516 rfl (by first | omega | decide) (by first | omega | decide) eh517 rfl
                            refine xi_aload_n (pc' := 172) (x := 115) kc_32_171 rfl rfl ?_
                            refine xi_iconst (pc' := 173) (v := 0) kc_32_172 rfl rfl ?_
                            refine xi_putfield (pc' := 176) (fs' := [.int 0, .int u5, .ref 116, .ref 117, .ref 118, .ref 119, .ref 120, .ref 121, .ref 122, .ref 123, .ref 124, .ref 125, .ref 126, .ref 127, .ref 128, .ref 129, .int u6, .ref 130, .int u7, .ref 131, .ref 132, .ref 133, .ref 134, .int v486, .ref 135, .ref 136, .ref 137, .ref 138, .ref 139, .ref 140, .ref 141, .ref 142, .int u9, .int u10, .int u11, .ref 143, .ref 144, .ref 145, .ref 146, .ref 147, .ref 148, .int 0, .ref 149, .ref 150, .ref 151, .int u13, .ref 152, .ref 153, .ref 154, .ref 155, .ref 156, .ref 157, .ref 158, .ref 159, .int u14, .ref 160, .int u15, .ref 161, .ref 162, .ref 163, .ref 164, .int u16, .ref 165, .ref 166]) kc_32_173 rfl rfl rfl eh517.1 rfl rfl rfl (Nat.le_of_ble_eq_true rfl) rfl (fun hh521 eh520 => ?_)
                            have K522 := xk_pf (k := 41) (v := 0) K519 (xk_wf (by decide +kernel)) xD_115 eh517.1 rfl (by first | omega | decide) (by first | omega | decide) eh520 rfl
                            refine xi_aload_n (pc' := 177) (x := 115) kc_32_176 rfl rfl ?_
                            refine xi_getfield (pc' := 180) (v := .int v486) kc_32_177 rfl rfl rfl eh520.1 rfl ?_
                            refine xi_iconst (pc' := 181) (v := 1) kc_32_180 rfl rfl ?_
                            refine xi_isub (pc' := 182) (v := v490) kc_32_181 rfl ev490 ?_
                            refine xi_ireturn kc_32_182 mr_32 rfl ?_
                            show xw J ov 100 195 (708, [(4, .int x4), (3, .ref 167), (2, .ref 115), (1, .ref 0), (0, .ref 1000000)], [.int v490], hh521) _
                            refine xi_pop (pc' := 709) kc_195_708 rfl rfl ?_
                            refine xi_goto (pc' := 1501) kc_195_709 rfl ?_
                            obtain ⟨v523, ev523⟩ : ∃ q : Int32, x4 + 6 = q := ⟨_, rfl⟩
                            have zv523 : v523.toInt = (x4.toInt + 6) := by rw [← ev523]; exact (xz_add (X := x4.toInt) (Y := 6) rfl (by decide) (by omega) (by omega)).trans (by omega)
                            refine xi_iinc (pc' := 1504) (x := x4) (v := v523) (lv' := [(4, .int v523), (3, .ref 167), (2, .ref 115), (1, .ref 0), (0, .ref 1000000)]) kc_195_1501 rfl rfl ev523 rfl (xm_lt ml_195 rfl) ?_
                            refine xi_goto (pc' := 23) kc_195_1504 rfl ?_
                            have A524 := ((eh520.2.1 1 (by decide)).trans ((eh517.2.1 1 (by decide)).trans ((eh514.2.1 1 (by decide)).trans ((eh510.2.1 1 (by decide)).trans ((eh506.2.1 1 (by decide)).trans ((eh502.2.1 1 (by decide)).trans ((eh498.2.1 1 (by decide)).trans ((eh492.2.1 1 (by decide)).trans eh487.1))))))))
                            have A525 := ((eh520.2.1 pt455 (Ne.symm (xk_nc mpt455 rfl))).trans ((eh517.2.1 pt455 (Ne.symm (xk_nc mpt455 rfl))).trans ((eh514.2.1 pt455 (Ne.symm (xk_nc mpt455 rfl))).trans ((eh510.2.1 pt455 (Ne.symm (xk_nc mpt455 rfl))).trans ((eh506.2.1 pt455 (Ne.symm (xk_nc mpt455 rfl))).trans ((eh502.2.1 pt455 (Ne.symm (xk_nc mpt455 rfl))).trans ((eh498.2.1 pt455 (Ne.symm (xk_nc mpt455 rfl))).trans ((eh492.2.1 pt455 (Ne.symm (xk_nc mpt455 rfl))).trans ((eh487.2.1 pt455 (Ne.symm (xk_nc mpt455 rfl))).trans eh481.1)))))))))
                            have A526 := ((eh520.2.1 135 (by decide)).trans ((eh517.2.1 135 (by decide)).trans ((eh514.2.1 135 (by decide)).trans ((eh510.2.1 135 (by decide)).trans ((eh506.2.1 135 (by decide)).trans ((eh502.2.1 135 (by decide)).trans eh498.1))))))
                            have A527 := ((eh520.2.1 136 (by decide)).trans ((eh517.2.1 136 (by decide)).trans ((eh514.2.1 136 (by decide)).trans ((eh510.2.1 136 (by decide)).trans ((eh506.2.1 136 (by decide)).trans eh502.1)))))
                            have A528 := ((eh520.2.1 137 (by decide)).trans ((eh517.2.1 137 (by decide)).trans ((eh514.2.1 137 (by decide)).trans ((eh510.2.1 137 (by decide)).trans eh506.1))))
                            have A529 := ((eh520.2.1 138 (by decide)).trans ((eh517.2.1 138 (by decide)).trans ((eh514.2.1 138 (by decide)).trans eh510.1)))
                            have A530 := ((eh520.2.1 63 (by decide)).trans ((eh517.2.1 63 (by decide)).trans ((eh514.2.1 63 (by decide)).trans ((eh510.2.1 63 (by decide)).trans ((eh506.2.1 63 (by decide)).trans ((eh502.2.1 63 (by decide)).trans ((eh498.2.1 63 (by decide)).trans ((eh492.2.1 63 (by decide)).trans ((eh487.2.1 63 (by decide)).trans ((eh481.2.1 63 (xk_nc mpt455 rfl)).trans ((eh477.2.1 63 (xk_nc mpt455 rfl)).trans ((eh473.2.1 63 (xk_nc mpt455 rfl)).trans ((eh469.2.1 63 (xk_nc mpt455 rfl)).trans A20)))))))))))))
                            have A531 := ((eh520.2.1 139 (by decide)).trans ((eh517.2.1 139 (by decide)).trans eh514.1))
                            exact kk v523 hh521 (by omega) K522 ⟨((K522.2.1 (0, 9) (by decide +kernel)).trans (I.1.trans (K522.2.1 (115, 1) (by decide +kernel)).symm)), (xWW_fr I.2.1 (K522.2.1 (64, 0) (by decide +kernel)) (K522.2.1 (121, 0) (by decide +kernel))), (xSG_fr I.2.2.1 (fun l hl => K522.2.1 l (xk_el (by decide +kernel) hl))), (by rw [(K522.2.1 (13, 0) (by decide +kernel)), (K522.2.1 (122, 0) (by decide +kernel))]; exact I.2.2.2.1), (by rw [(K522.2.1 (16, 0) (by decide +kernel)), (K522.2.1 (122, 0) (by decide +kernel))]; exact I.2.2.2.2.1), (by rw [(K522.2.1 (19, 0) (by decide +kernel)), (K522.2.1 (122, 0) (by decide +kernel))]; exact I.2.2.2.2.2.1), (by rw [(K522.2.1 (22, 0) (by decide +kernel)), (K522.2.1 (122, 0) (by decide +kernel))]; exact I.2.2.2.2.2.2.1), (by rw [(K522.2.1 (25, 0) (by decide +kernel)), (K522.2.1 (122, 0) (by decide +kernel))]; exact I.2.2.2.2.2.2.2.1), (by rw [(K522.2.1 (28, 0) (by decide +kernel)), (K522.2.1 (122, 0) (by decide +kernel))]; exact I.2.2.2.2.2.2.2.2.1), (by rw [(K522.2.1 (6, 0) (by decide +kernel)), (K522.2.1 (123, 0) (by decide +kernel))]; exact I.2.2.2.2.2.2.2.2.2.1), (by rw [(K522.2.1 (9, 0) (by decide +kernel)), (K522.2.1 (124, 0) (by decide +kernel))]; exact I.2.2.2.2.2.2.2.2.2.2.1), (by rw [(K522.2.1 (7, 0) (by decide +kernel)), (K522.2.1 (6, 0) (by decide +kernel))]; exact I.2.2.2.2.2.2.2.2.2.2.2.1), (by rw [(K522.2.1 (10, 0) (by decide +kernel)), (K522.2.1 (9, 0) (by decide +kernel))]; exact I.2.2.2.2.2.2.2.2.2.2.2.2.1), ((K522.2.1 (5, 0) (by decide +kernel)).trans I.2.2.2.2.2.2.2.2.2.2.2.2.2.1), ((K522.2.1 (8, 0) (by decide +kernel)).trans I.2.2.2.2.2.2.2.2.2.2.2.2.2.2.1), (xGR_kept I.2.2.2.2.2.2.2.2.2.2.2.2.2.2.2.1 (fun c hc => ((eh520.2.1 c (Ne.symm (xk_nc hc rfl))).trans ((eh517.2.1 c (Ne.symm (xk_nc hc rfl))).trans ((eh514.2.1 c (Ne.symm (xk_nc hc rfl))).trans ((eh510.2.1 c (Ne.symm (xk_nc hc rfl))).trans ((eh506.2.1 c (Ne.symm (xk_nc hc rfl))).trans ((eh502.2.1 c (Ne.symm (xk_nc hc rfl))).trans ((eh498.2.1 c (Ne.symm (xk_nc hc rfl))).trans ((eh492.2.1 c (Ne.symm (xk_nc hc rfl))).trans ((eh487.2.1 c (Ne.symm (xk_nc hc rfl))).trans ((eh481.2.1 c (xk_nn hc mpt455 rfl)).trans ((eh477.2.1 c (xk_nn hc mpt455 rfl)).trans ((eh473.2.1 c (xk_nn hc mpt455 rfl)).trans (eh469.2.1 c (xk_nn hc mpt455 rfl))))))))))))))) ((eh520.2.1 125 (by decide)).trans ((eh517.2.1 125 (by decide)).trans ((eh514.2.1 125 (by decide)).trans ((eh510.2.1 125 (by decide)).trans ((eh506.2.1 125 (by decide)).trans ((eh502.2.1 125 (by decide)).trans ((eh498.2.1 125 (by decide)).trans ((eh492.2.1 125 (by decide)).trans ((eh487.2.1 125 (by decide)).trans ((eh481.2.1 125 (xk_nc mpt455 rfl)).trans ((eh477.2.1 125 (xk_nc mpt455 rfl)).trans ((eh473.2.1 125 (xk_nc mpt455 rfl)).trans (eh469.2.1 125 (xk_nc mpt455 rfl))))))))))))))), (xGR_kept I.2.2.2.2.2.2.2.2.2.2.2.2.2.2.2.2.1 (fun c hc => ((eh520.2.1 c (Ne.symm (xk_nc hc rfl))).trans ((eh517.2.1 c (Ne.symm (xk_nc hc rfl))).trans ((eh514.2.1 c (Ne.symm (xk_nc hc rfl))).trans ((eh510.2.1 c (Ne.symm (xk_nc hc rfl))).trans ((eh506.2.1 c (Ne.symm (xk_nc hc rfl))).trans ((eh502.2.1 c (Ne.symm (xk_nc hc rfl))).trans ((eh498.2.1 c (Ne.symm (xk_nc hc rfl))).trans ((eh492.2.1 c (Ne.symm (xk_nc hc rfl))).trans ((eh487.2.1 c (Ne.symm (xk_nc hc rfl))).trans ((eh481.2.1 c (xk_nn hc mpt455 rfl)).trans ((eh477.2.1 c (xk_nn hc mpt455 rfl)).trans ((eh473.2.1 c (xk_nn hc mpt455 rfl)).trans (eh469.2.1 c (xk_nn hc mpt455 rfl))))))))))))))) ((eh520.2.1 127 (by decide)).trans ((eh517.2.1 127 (by decide)).trans ((eh514.2.1 127 (by decide)).trans ((eh510.2.1 127 (by decide)).trans ((eh506.2.1 127 (by decide)).trans ((eh502.2.1 127 (by decide)).trans ((eh498.2.1 127 (by decide)).trans ((eh492.2.1 127 (by decide)).trans ((eh487.2.1 127 (by decide)).trans ((eh481.2.1 127 (xk_nc mpt455 rfl)).trans ((eh477.2.1 127 (xk_nc mpt455 rfl)).trans ((eh473.2.1 127 (xk_nc mpt455 rfl)).trans (eh469.2.1 127 (xk_nc mpt455 rfl))))))))))))))), ((xl_of A524 rfl).trans (xl_of eh520.1 rfl).symm), (xGR_set (Lo := [some 53, some 54, some 55, some 56, some 57, some 58, some 59, some 60, some 61, some 62]) I.2.2.2.2.2.2.2.2.2.2.2.2.2.2.2.2.2.2.1 (by decide) rfl ept455 (by omega) (by show _ < ((10 : Nat) : Int); omega) A461 (by rw [hy461]; decide) A525 rfl A526 s498 (fun c hc hne => ((eh520.2.1 c (Ne.symm (xk_nc hc rfl))).trans ((eh517.2.1 c (Ne.symm (xk_nc hc rfl))).trans ((eh514.2.1 c (Ne.symm (xk_nc hc rfl))).trans ((eh510.2.1 c (Ne.symm (xk_nc hc rfl))).trans ((eh506.2.1 c (Ne.symm (xk_nc hc rfl))).trans ((eh502.2.1 c (Ne.symm (xk_nc hc rfl))).trans ((eh498.2.1 c (Ne.symm (xk_nc hc rfl))).trans ((eh492.2.1 c (Ne.symm (xk_nc hc rfl))).trans ((eh487.2.1 c (Ne.symm (xk_nc hc rfl))).trans ((eh481.2.1 c hne).trans ((eh477.2.1 c hne).trans ((eh473.2.1 c hne).trans (eh469.2.1 c hne))))))))))))))), (xGR_set (Lo := [some 53, some 54, some 55, some 56, some 57, some 58, some 59, some 60, some 61, some 62]) I.2.2.2.2.2.2.2.2.2.2.2.2.2.2.2.2.2.2.2.1 (by decide) rfl ept455 (by omega) (by show _ < ((10 : Nat) : Int); omega) A463 (by rw [hy463]; decide) A525 rfl A527 s502 (fun c hc hne => ((eh520.2.1 c (Ne.symm (xk_nc hc rfl))).trans ((eh517.2.1 c (Ne.symm (xk_nc hc rfl))).trans ((eh514.2.1 c (Ne.symm (xk_nc hc rfl))).trans ((eh510.2.1 c (Ne.symm (xk_nc hc rfl))).trans ((eh506.2.1 c (Ne.symm (xk_nc hc rfl))).trans ((eh502.2.1 c (Ne.symm (xk_nc hc rfl))).trans ((eh498.2.1 c (Ne.symm (xk_nc hc rfl))).trans ((eh492.2.1 c (Ne.symm (xk_nc hc rfl))).trans ((eh487.2.1 c (Ne.symm (xk_nc hc rfl))).trans ((eh481.2.1 c hne).trans ((eh477.2.1 c hne).trans ((eh473.2.1 c hne).trans (eh469.2.1 c hne))))))))))))))), (xGR_set (Lo := [some 53, some 54, some 55, some 56, some 57, some 58, some 59, some 60, some 61, some 62]) I.2.2.2.2.2.2.2.2.2.2.2.2.2.2.2.2.2.2.2.2.1 (by decide) rfl ept455 (by omega) (by show _ < ((10 : Nat) : Int); omega) A465 (by rw [hy465]; decide) A525 rfl A528 s506 (fun c hc hne => ((eh520.2.1 c (Ne.symm (xk_nc hc rfl))).trans ((eh517.2.1 c (Ne.symm (xk_nc hc rfl))).trans ((eh514.2.1 c (Ne.symm (xk_nc hc rfl))).trans ((eh510.2.1 c (Ne.symm (xk_nc hc rfl))).trans ((eh506.2.1 c (Ne.symm (xk_nc hc rfl))).trans ((eh502.2.1 c (Ne.symm (xk_nc hc rfl))).trans ((eh498.2.1 c (Ne.symm (xk_nc hc rfl))).trans ((eh492.2.1 c (Ne.symm (xk_nc hc rfl))).trans ((eh487.2.1 c (Ne.symm (xk_nc hc rfl))).trans ((eh481.2.1 c hne).trans ((eh477.2.1 c hne).trans ((eh473.2.1 c hne).trans (eh469.2.1 c hne))))))))))))))), (xGR_set (Lo := [some 53, some 54, some 55, some 56, some 57, some 58, some 59, some 60, some 61, some 62]) I.2.2.2.2.2.2.2.2.2.2.2.2.2.2.2.2.2.2.2.2.2.1 (by decide) rfl ept455 (by omega) (by show _ < ((10 : Nat) : Int); omega) A467 (by rw [hy467]; decide) A525 rfl A529 s510 (fun c hc hne => ((eh520.2.1 c (Ne.symm (xk_nc hc rfl))).trans ((eh517.2.1 c (Ne.symm (xk_nc hc rfl))).trans ((eh514.2.1 c (Ne.symm (xk_nc hc rfl))).trans ((eh510.2.1 c (Ne.symm (xk_nc hc rfl))).trans ((eh506.2.1 c (Ne.symm (xk_nc hc rfl))).trans ((eh502.2.1 c (Ne.symm (xk_nc hc rfl))).trans ((eh498.2.1 c (Ne.symm (xk_nc hc rfl))).trans ((eh492.2.1 c (Ne.symm (xk_nc hc rfl))).trans ((eh487.2.1 c (Ne.symm (xk_nc hc rfl))).trans ((eh481.2.1 c hne).trans ((eh477.2.1 c hne).trans ((eh473.2.1 c hne).trans (eh469.2.1 c hne))))))))))))))), (xB_mk A530 A531 A524 rfl rfl (xB_new (on := 0) H22 (by first | omega | decide) (by first | omega | decide) (by omega) (by omega) hy21 s514 (by decide))), ((K522.2.1 (0, 8) (by decide +kernel)).trans (I.2.2.2.2.2.2.2.2.2.2.2.2.2.2.2.2.2.2.2.2.2.2.2.1.trans (K522.2.1 (115, 34) (by decide +kernel)).symm)), (xGR_fr I.2.2.2.2.2.2.2.2.2.2.2.2.2.2.2.2.2.2.2.2.2.2.2.2.1 K522.2.1 (by decide +kernel) (by decide +kernel)), (xGR_fr I.2.2.2.2.2.2.2.2.2.2.2.2.2.2.2.2.2.2.2.2.2.2.2.2.2.1 K522.2.1 (by decide +kernel) (by decide +kernel)), (xGR_fr I.2.2.2.2.2.2.2.2.2.2.2.2.2.2.2.2.2.2.2.2.2.2.2.2.2.2.1 K522.2.1 (by decide +kernel) (by decide +kernel)), (xGR_fr I.2.2.2.2.2.2.2.2.2.2.2.2.2.2.2.2.2.2.2.2.2.2.2.2.2.2.2.1 K522.2.1 (by decide +kernel) (by decide +kernel)), (xts_fr I.2.2.2.2.2.2.2.2.2.2.2.2.2.2.2.2.2.2.2.2.2.2.2.2.2.2.2.2.1 (fun l hl => K522.2.1 l (xk_el (by decide +kernel) hl))), ((K522.2.1 (63, 3) (by decide +kernel)).trans I.2.2.2.2.2.2.2.2.2.2.2.2.2.2.2.2.2.2.2.2.2.2.2.2.2.2.2.2.2)⟩
                          · refine xi_cmf (pc' := 75) kc_116_72 rfl (xc_lt_f (X := u1.toInt) (Y := 10) rfl (by decide) (by omega)) ?_
                            refine xi_aload_n (pc' := 76) (x := 0) kc_116_75 rfl rfl ?_
                            refine xi_bipush (pc' := 78) (v := (-6)) kc_116_76 rfl rfl ?_
                            refine xi_virtual (mj := 90) (as := [.int (-6)]) (st1 := []) (lv0 := [(0, .ref 0), (1, .int (-6))]) kc_116_78 rfl rfl rfl rfl rfl A32 (Nat.le_of_ble_eq_true rfl) (hJ _ _ _ _ (by decide)) (xm_le ml_90 rfl) rfl ?_
                            refine xi_iload_n (pc' := 1) (x := (-6)) kc_90_0 rfl rfl ?_
                            refine xi_ineg (pc' := 2) (v := 6) kc_90_1 rfl rfl ?_
                            refine xi_istore_n (pc' := 3) (lv' := [(2, .int 6), (0, .ref 0), (1, .int (-6))]) kc_90_2 rfl rfl (xm_lt ml_90 rfl) ?_
                            refine xi_iload_n (pc' := 4) (x := 6) kc_90_3 rfl rfl ?_
                            refine xi_iff (pc' := 7) kc_90_4 rfl rfl ?_
                            refine xi_iload_n (pc' := 8) (x := 6) kc_90_7 rfl rfl ?_
                            refine xi_aload_n (pc' := 9) (x := 0) kc_90_8 rfl rfl ?_
                            refine xi_getfield (pc' := 12) (v := .ref 94) kc_90_9 rfl rfl rfl A32 rfl ?_
                            obtain ⟨y532, A532, hy532, ry532⟩ := xk_arr K.1 xD_94
                            refine xi_arraylength (pc' := 13) (n := 7) (v := 7) kc_90_12 rfl (xl_lenI (by decide) (by decide) A532 hy532) rfl ?_
                            refine xi_cmf (pc' := 16) kc_90_13 rfl rfl ?_
                            refine xi_aload_n (pc' := 17) (x := 0) kc_90_16 rfl rfl ?_
                            refine xi_getfield (pc' := 20) (v := .ref 94) kc_90_17 rfl rfl rfl A32 rfl ?_
                            refine xi_iload_n (pc' := 21) (x := 6) kc_90_20 rfl rfl ?_
                            refine xi_dup2 (pc' := 22) kc_90_21 rfl ⟨rfl, rfl⟩ ?_
                            obtain ⟨v533, ev533, bv533, dv533⟩ := xj_get hy532 ry532 (i := 6) (by decide) (by decide)
                            refine xi_iaload (pc' := 23) (v := v533) kc_90_22 rfl A532 (by decide) rfl (xi_in (by decide) (by rw [hy532]; decide)) ev533 ?_
                            refine xi_iconst (pc' := 24) (v := 1) kc_90_23 rfl rfl ?_
                            obtain ⟨v534, ev534⟩ : ∃ q : Int32, (v533 : Int32) + 1 = q := ⟨_, rfl⟩
                            have rv534 := xc_rng v534
                            refine xi_iadd (pc' := 25) (v := v534) kc_90_24 rfl ev534 ?_
                            obtain ⟨y535, s535, hy535, ry535⟩ := xj_set (v := v534) hy532 ry532 6 (by first | omega | decide) (by first | omega | decide)
                            refine xi_iastore (pc' := 26) (x' := y535) kc_90_25 rfl A532 rfl (xi_in (by decide) (by rw [hy532]; decide)) s535 (fun hh535 eh535 => ?_)
                            have K536 := xk_pa K (xk_wa (by decide +kernel)) xD_94 hy535 ry535 eh535
                            have KR537 := xk_pa KR (xk_wa (by decide +kernel)) xD_94 hy535 ry535 eh535
                            refine xi_iload_n (pc' := 27) (x := (-6)) kc_90_26 rfl rfl ?_
                            refine xi_ireturn kc_90_27 mr_90 rfl ?_
                            show xw J ov 99 116 (81, [(0, .ref 0), (1, .int a23), (2, .int a25), (3, .int a27), (4, .int a29)], [.int (-6)], hh535) _
                            refine xi_ireturn kc_116_81 mr_116 rfl ?_
                            show xw J ov 100 195 (679, [(4, .int x4), (3, .ref 167), (2, .ref 115), (1, .ref 0), (0, .ref 1000000)], [.int (-6)], hh535) _
                            refine xi_pop (pc' := 680) kc_195_679 rfl rfl ?_
                            refine xi_aload_n (pc' := 681) (x := 115) kc_195_680 rfl rfl ?_
                            refine xi_aload_n (pc' := 682) (x := 1000000) kc_195_681 rfl rfl ?_
                            refine xi_iload (pc' := 684) (x := x4) kc_195_682 rfl rfl ?_
                            refine xi_iconst (pc' := 685) (v := 1) kc_195_684 rfl rfl ?_
                            refine xi_iadd (pc' := 686) (v := v22) kc_195_685 rfl ev22 ?_
                            refine xi_ialoadO (pc' := 687) (v := a23) kc_195_686 rfl (by decide) hov0 (xi_in (by omega) (by omega)) ea23 ?_
                            refine xi_aload_n (pc' := 688) (x := 1000000) kc_195_687 rfl rfl ?_
                            refine xi_iload (pc' := 690) (x := x4) kc_195_688 rfl rfl ?_
                            refine xi_iconst (pc' := 691) (v := 2) kc_195_690 rfl rfl ?_
                            refine xi_iadd (pc' := 692) (v := v24) kc_195_691 rfl ev24 ?_
                            refine xi_ialoadO (pc' := 693) (v := a25) kc_195_692 rfl (by decide) hov0 (xi_in (by omega) (by omega)) ea25 ?_
                            refine xi_aload_n (pc' := 694) (x := 1000000) kc_195_693 rfl rfl ?_
                            refine xi_iload (pc' := 696) (x := x4) kc_195_694 rfl rfl ?_
                            refine xi_iconst (pc' := 697) (v := 3) kc_195_696 rfl rfl ?_
                            refine xi_iadd (pc' := 698) (v := v26) kc_195_697 rfl ev26 ?_
                            refine xi_ialoadO (pc' := 699) (v := a27) kc_195_698 rfl (by decide) hov0 (xi_in (by omega) (by omega)) ea27 ?_
                            refine xi_aload_n (pc' := 700) (x := 1000000) kc_195_699 rfl rfl ?_
                            refine xi_iload (pc' := 702) (x := x4) kc_195_700 rfl rfl ?_
                            refine xi_iconst (pc' := 703) (v := 4) kc_195_702 rfl rfl ?_
                            refine xi_iadd (pc' := 704) (v := v28) kc_195_703 rfl ev28 ?_
                            refine xi_ialoadO (pc' := 705) (v := a29) kc_195_704 rfl (by decide) hov0 (xi_in (by omega) (by omega)) ea29 ?_
                            have A538 := ((eh535.2.1 115 (by decide)).trans A17)
                            refine xi_virtual (mj := 32) (as := [.int a23, .int a25, .int a27, .int a29]) (st1 := []) (lv0 := [(0, .ref 115), (1, .int a23), (2, .int a25), (3, .int a27), (4, .int a29)]) kc_195_705 rfl rfl rfl rfl rfl A538 (Nat.le_of_ble_eq_true rfl) (hJ _ _ _ _ (by decide)) (xm_le ml_32 rfl) rfl ?_
                            refine xi_aload_n (pc' := 1) (x := 115) kc_32_0 rfl rfl ?_
                            refine xi_iconst (pc' := 2) (v := 0) kc_32_1 rfl rfl ?_
                            refine xi_putfield (pc' := 5) (fs' := [.int 0, .int u5, .ref 116, .ref 117, .ref 118, .ref 119, .ref 120, .ref 121, .ref 122, .ref 123, .ref 124, .ref 125, .ref 126, .ref 127, .ref 128, .ref 129, .int u6, .ref 130, .int u7, .ref 131, .ref 132, .ref 133, .ref 134, .int u1, .ref 135, .ref 136, .ref 137, .ref 138, .ref 139, .ref 140, .ref 141, .ref 142, .int u9, .int u10, .int u11, .ref 143, .ref 144, .ref 145, .ref 146, .ref 147, .ref 148, .int u12, .ref 149, .ref 150, .ref 151, .int u13, .ref 152, .ref 153, .ref 154, .ref 155, .ref 156, .ref 157, .ref 158, .ref 159, .int u14, .ref 160, .int u15, .ref 161, .ref 162, .ref 163, .ref 164, .int u16, .ref 165, .ref 166]) kc_32_2 rfl rfl rfl A538 rfl rfl rfl (Nat.le_of_ble_eq_true rfl) rfl (fun hh540 eh539 => ?_)
                            have K541 := xk_pf (k := 0) (v := 0) K536 (xk_wf (by decide +kernel)) xD_115 A538 rfl (by first | omega | decide) (by first | omega | decide) eh539 rfl
                            have KR542 := xk_pf (k := 0) (v := 0) KR537 (xk_wf (by decide +kernel)) xD_115 A538 rfl (by first | omega | decide) (by first | omega | decide) eh539 rfl
                            refine xi_iload_n (pc' := 6) (x := a23) kc_32_5 rfl rfl ?_
                            refine xi_iconst (pc' := 7) (v := 0) kc_32_6 rfl rfl ?_
                            refine xi_iconst (pc' := 8) (v := 3) kc_32_7 rfl rfl ?_
                            refine xi_static (mj := 11) (as := [.int a23, .int 0, .int 3]) (st1 := []) (lv0 := [(0, .int a23), (1, .int 0), (2, .int 3)]) kc_32_8 rfl rfl (Nat.le_of_ble_eq_true rfl) rfl rfl (Nat.le_of_ble_eq_true rfl) (hJ _ _ _ _ (by decide)) (xm_le ml_11 rfl) rfl ?_
                            refine xi_iload_n (pc' := 1) (x := a23) kc_11_0 rfl rfl ?_
                            refine xi_iload_n (pc' := 2) (x := 0) kc_11_1 rfl rfl ?_
                            refine xi_cmf (pc' := 5) kc_11_2 rfl (xc_lt_f (X := a23.toInt) (Y := 0) rfl (by decide) (by omega)) ?_
                            refine xi_iload_n (pc' := 6) (x := a23) kc_11_5 rfl rfl ?_
                            refine xi_iload_n (pc' := 7) (x := 3) kc_11_6 rfl rfl ?_
                            refine xi_cmf (pc' := 10) kc_11_7 rfl (xc_gt_f (X := a23.toInt) (Y := 3) rfl (by decide) (by omega)) ?_
                            refine xi_iconst (pc' := 11) (v := 1) kc_11_10 rfl rfl ?_
                            refine xi_goto (pc' := 15) kc_11_11 rfl ?_
                            refine xi_ireturn kc_11_15 mr_11 rfl ?_
                            show xw J ov 99 32 (11, [(0, .ref 115), (1, .int a23), (2, .int a25), (3, .int a27), (4, .int a29)], [.int 1], hh540) _
                            refine xi_ift (pc' := 21) kc_32_11 rfl rfl ?_
                            refine xi_iload_n (pc' := 22) (x := a23) kc_32_21 rfl rfl ?_
                            refine xi_iconst (pc' := 23) (v := 3) kc_32_22 rfl rfl ?_
                            refine xi_cmt (pc' := 36) kc_32_23 rfl (xc_ne_t (X := a23.toInt) (Y := 3) rfl (by decide) (by omega)) ?_
                            refine xi_aload_n (pc' := 37) (x := 115) kc_32_36 rfl rfl ?_
                            refine xi_iload_n (pc' := 38) (x := a25) kc_32_37 rfl rfl ?_
                            refine xi_virtual (mj := 31) (as := [.int a25]) (st1 := []) (lv0 := [(0, .ref 115), (1, .int a25)]) kc_32_38 rfl rfl rfl rfl rfl eh539.1 (Nat.le_of_ble_eq_true rfl) (hJ _ _ _ _ (by decide)) (xm_le ml_31 rfl) rfl ?_
                            refine xi_iload_n (pc' := 1) (x := a25) kc_31_0 rfl rfl ?_
                            refine xi_static (mj := 24) (as := [.int a25]) (st1 := []) (lv0 := [(0, .int a25)]) kc_31_1 rfl rfl (Nat.le_of_ble_eq_true rfl) rfl rfl (Nat.le_of_ble_eq_true rfl) (hJ _ _ _ _ (by decide)) (xm_le ml_24 rfl) rfl ?_
                            refine xi_iload_n (pc' := 1) (x := a25) kc_24_0 rfl rfl ?_
                            refine xi_iconst (pc' := 2) (v := 0) kc_24_1 rfl rfl ?_
                            refine xi_bipush (pc' := 4) (v := 11) kc_24_2 rfl rfl ?_
                            refine xi_static (mj := 11) (as := [.int a25, .int 0, .int 11]) (st1 := []) (lv0 := [(0, .int a25), (1, .int 0), (2, .int 11)]) kc_24_4 rfl rfl (Nat.le_of_ble_eq_true rfl) rfl rfl (Nat.le_of_ble_eq_true rfl) (hJ _ _ _ _ (by decide)) (xm_le ml_11 rfl) rfl ?_
                            refine xi_iload_n (pc' := 1) (x := a25) kc_11_0 rfl rfl ?_
                            refine xi_iload_n (pc' := 2) (x := 0) kc_11_1 rfl rfl ?_
                            refine xi_cmf (pc' := 5) kc_11_2 rfl (xc_lt_f (X := a25.toInt) (Y := 0) rfl (by decide) (by omega)) ?_
                            refine xi_iload_n (pc' := 6) (x := a25) kc_11_5 rfl rfl ?_
                            refine xi_iload_n (pc' := 7) (x := 11) kc_11_6 rfl rfl ?_
                            refine xi_cmf (pc' := 10) kc_11_7 rfl (xc_gt_f (X := a25.toInt) (Y := 11) rfl (by decide) (by omega)) ?_
                            refine xi_iconst (pc' := 11) (v := 1) kc_11_10 rfl rfl ?_
                            refine xi_goto (pc' := 15) kc_11_11 rfl ?_
                            refine xi_ireturn kc_11_15 mr_11 rfl ?_
                            show xw J ov 97 24 (7, [(0, .int a25)], [.int 1], hh540) _
                            refine xi_ireturn kc_24_7 mr_24 rfl ?_
                            show xw J ov 98 31 (4, [(0, .ref 115), (1, .int a25)], [.int 1], hh540) _
                            refine xi_iff (pc' := 7) kc_31_4 rfl rfl ?_
                            refine xi_aload_n (pc' := 8) (x := 115) kc_31_7 rfl rfl ?_
                            refine xi_getfield (pc' := 11) (v := .ref 125) kc_31_8 rfl rfl rfl eh539.1 rfl ?_
                            refine xi_iload_n (pc' := 12) (x := a25) kc_31_11 rfl rfl ?_
                            have A543 := ((eh539.2.1 125 (by decide)).trans ((eh535.2.1 125 (by decide)).trans A338))
                            refine xi_iaload (pc' := 13) (v := u332) kc_31_12 rfl A543 (by decide) rfl (xi_in (by omega) (by rw [hy338]; omega)) HG339 ?_
                            refine xi_iff (pc' := 16) kc_31_13 rfl (xc_lt_f (X := u332.toInt) (Y := 0) rfl (by decide) (by omega)) ?_
                            refine xi_iconst (pc' := 17) (v := 1) kc_31_16 rfl rfl ?_
                            refine xi_goto (pc' := 21) kc_31_17 rfl ?_
                            refine xi_ireturn kc_31_21 mr_31 rfl ?_
                            show xw J ov 99 32 (41, [(0, .ref 115), (1, .int a23), (2, .int a25), (3, .int a27), (4, .int a29)], [.int 1], hh540) _
                            refine xi_iff (pc' := 44) kc_32_41 rfl rfl ?_
                            refine xi_iload_n (pc' := 45) (x := a23) kc_32_44 rfl rfl ?_
                            refine xi_iff (pc' := 48) kc_32_45 rfl (xc_ne_f (X := a23.toInt) (Y := 0) rfl (by decide) (by omega)) ?_
                            refine xi_aload_n (pc' := 49) (x := 115) kc_32_48 rfl rfl ?_
                            refine xi_getfield (pc' := 52) (v := .ref 127) kc_32_49 rfl rfl rfl eh539.1 rfl ?_
                            refine xi_iload_n (pc' := 53) (x := a25) kc_32_52 rfl rfl ?_
                            have A544 := ((eh539.2.1 127 (by decide)).trans ((eh535.2.1 127 (by decide)).trans A340))
                            refine xi_baload (pc' := 54) (v := u334) kc_32_53 rfl A544 rfl (xi_in (by omega) (by rw [hy340]; omega)) HG341 ?_
                            refine xi_ift (pc' := 63) kc_32_54 rfl (xc_ne_t (X := u334.toInt) (Y := 0) rfl (by decide) (by omega)) ?_
                            refine xi_iload_n (pc' := 64) (x := a27) kc_32_63 rfl rfl ?_
                            refine xi_iconst (pc' := 65) (v := 1) kc_32_64 rfl rfl ?_
                            refine xi_cmf (pc' := 68) kc_32_65 rfl (xc_lt_f (X := a27.toInt) (Y := 1) rfl (by decide) (by omega)) ?_
                            refine xi_iload (pc' := 70) (x := a29) kc_32_68 rfl rfl ?_
                            refine xi_ift (pc' := 80) kc_32_70 rfl (xc_ge_t (X := a29.toInt) (Y := 0) rfl (by decide) (by omega)) ?_
                            refine xi_iload_n (pc' := 81) (x := a27) kc_32_80 rfl rfl ?_
                            refine xi_bipush (pc' := 83) (v := 99) kc_32_81 rfl rfl ?_
                            refine xi_cmf (pc' := 86) kc_32_83 rfl (xc_gt_f (X := a27.toInt) (Y := 99) rfl (by decide) (by omega)) ?_
                            refine xi_iload (pc' := 88) (x := a29) kc_32_86 rfl rfl ?_
                            refine xi_sipush (pc' := 91) (v := 600) kc_32_88 rfl rfl ?_
                            refine xi_cmf (pc' := 94) kc_32_91 rfl (xc_gt_f (X := a29.toInt) (Y := 600) rfl (by decide) (by omega)) ?_
                            refine xi_aload_n (pc' := 95) (x := 115) kc_32_94 rfl rfl ?_
                            refine xi_getfield (pc' := 98) (v := .int u1) kc_32_95 rfl rfl rfl eh539.1 rfl ?_
                            refine xi_bipush (pc' := 100) (v := 10) kc_32_98 rfl rfl ?_
                            refine xi_cmf (pc' := 103) kc_32_100 rfl (xc_ne_f (X := u1.toInt) (Y := 10) rfl (by decide) (by omega)) ?_
                            refine xi_aload_n (pc' := 104) (x := 115) kc_32_103 rfl rfl ?_
                            refine xi_bipush (pc' := 106) (v := (-6)) kc_32_104 rfl rfl ?_
                            refine xi_virtual (mj := 12) (as := [.int (-6)]) (st1 := []) (lv0 := [(0, .ref 115), (1, .int (-6))]) kc_32_106 rfl rfl rfl rfl rfl eh539.1 (Nat.le_of_ble_eq_true rfl) (hJ _ _ _ _ (by decide)) (xm_le ml_12 rfl) rfl ?_
                            refine xi_aload_n (pc' := 1) (x := 115) kc_12_0 rfl rfl ?_
                            refine xi_getfield (pc' := 4) (v := .ref 140) kc_12_1 rfl rfl rfl eh539.1 rfl ?_
                            refine xi_iload_n (pc' := 5) (x := (-6)) kc_12_4 rfl rfl ?_
                            refine xi_ineg (pc' := 6) (v := 6) kc_12_5 rfl rfl ?_
                            refine xi_dup2 (pc' := 7) kc_12_6 rfl ⟨rfl, rfl⟩ ?_
                            obtain ⟨y545, A545, hy545, ry545⟩ := xk_arr K.1 xD_140
                            obtain ⟨v546, ev546, bv546, dv546⟩ := xj_get hy545 ry545 (i := 6) (by decide) (by decide)
                            have A547 := ((eh539.2.1 140 (by decide)).trans ((eh535.2.1 140 (by decide)).trans A545))
                            refine xi_iaload (pc' := 8) (v := v546) kc_12_7 rfl A547 (by decide) rfl (xi_in (by decide) (by rw [hy545]; decide)) ev546 ?_
                            refine xi_iconst (pc' := 9) (v := 1) kc_12_8 rfl rfl ?_
                            obtain ⟨v548, ev548⟩ : ∃ q : Int32, (v546 : Int32) + 1 = q := ⟨_, rfl⟩
                            have rv548 := xc_rng v548
                            refine xi_iadd (pc' := 10) (v := v548) kc_12_9 rfl ev548 ?_
                            obtain ⟨y549, s549, hy549, ry549⟩ := xj_set (v := v548) hy545 ry545 6 (by first | omega | decide) (by first | omega | decide)
                            refine xi_iastore (pc' := 11) (x' := y549) kc_12_10 rfl A547 rfl (xi_in (by decide) (by rw [hy545]; decide)) s549 (fun hh549 eh549 => ?_)
                            have K550 := xk_pa K541 (xk_wa (by decide +kernel)) xD_140 hy549 ry549 eh549
                            have KR551 := xk_pa KR542 (xk_wa (by decide +kernel)) xD_140 hy549 ry549 eh549
                            refine xi_iload_n (pc' := 12) (x := (-6)) kc_12_11 rfl rfl ?_
                            refine xi_ireturn kc_12_12 mr_12 rfl ?_
                            show xw J ov 99 32 (109, [(0, .ref 115), (1, .int a23), (2, .int a25), (3, .int a27), (4, .int a29)], [.int (-6)], hh549) _
                            refine xi_ireturn kc_32_109 mr_32 rfl ?_
                            show xw J ov 100 195 (708, [(4, .int x4), (3, .ref 167), (2, .ref 115), (1, .ref 0), (0, .ref 1000000)], [.int (-6)], hh549) _
                            refine xi_pop (pc' := 709) kc_195_708 rfl rfl ?_
                            refine xi_goto (pc' := 1501) kc_195_709 rfl ?_
                            obtain ⟨v552, ev552⟩ : ∃ q : Int32, x4 + 6 = q := ⟨_, rfl⟩
                            have zv552 : v552.toInt = (x4.toInt + 6) := by rw [← ev552]; exact (xz_add (X := x4.toInt) (Y := 6) rfl (by decide) (by omega) (by omega)).trans (by omega)
                            refine xi_iinc (pc' := 1504) (x := x4) (v := v552) (lv' := [(4, .int v552), (3, .ref 167), (2, .ref 115), (1, .ref 0), (0, .ref 1000000)]) kc_195_1501 rfl rfl ev552 rfl (xm_lt ml_195 rfl) ?_
                            refine xi_goto (pc' := 23) kc_195_1504 rfl ?_
                            exact kk v552 hh549 (by omega) K550 (xI_kept I KR551.2.1)
                    · refine xi_iff (pc' := 42) kc_116_39 rfl (xc_ge_f (X := a29.toInt) (Y := 0) rfl (by decide) (by omega)) ?_
                      refine xi_aload_n (pc' := 43) (x := 0) kc_116_42 rfl rfl ?_
                      refine xi_bipush (pc' := 45) (v := (-4)) kc_116_43 rfl rfl ?_
                      refine xi_virtual (mj := 90) (as := [.int (-4)]) (st1 := []) (lv0 := [(0, .ref 0), (1, .int (-4))]) kc_116_45 rfl rfl rfl rfl rfl A32 (Nat.le_of_ble_eq_true rfl) (hJ _ _ _ _ (by decide)) (xm_le ml_90 rfl) rfl ?_
                      refine xi_iload_n (pc' := 1) (x := (-4)) kc_90_0 rfl rfl ?_
                      refine xi_ineg (pc' := 2) (v := 4) kc_90_1 rfl rfl ?_
                      refine xi_istore_n (pc' := 3) (lv' := [(2, .int 4), (0, .ref 0), (1, .int (-4))]) kc_90_2 rfl rfl (xm_lt ml_90 rfl) ?_
                      refine xi_iload_n (pc' := 4) (x := 4) kc_90_3 rfl rfl ?_
                      refine xi_iff (pc' := 7) kc_90_4 rfl rfl ?_
                      refine xi_iload_n (pc' := 8) (x := 4) kc_90_7 rfl rfl ?_
                      refine xi_aload_n (pc' := 9) (x := 0) kc_90_8 rfl rfl ?_
                      refine xi_getfield (pc' := 12) (v := .ref 94) kc_90_9 rfl rfl rfl A32 rfl ?_
                      obtain ⟨y553, A553, hy553, ry553⟩ := xk_arr K.1 xD_94
                      refine xi_arraylength (pc' := 13) (n := 7) (v := 7) kc_90_12 rfl (xl_lenI (by decide) (by decide) A553 hy553) rfl ?_
                      refine xi_cmf (pc' := 16) kc_90_13 rfl rfl ?_
                      refine xi_aload_n (pc' := 17) (x := 0) kc_90_16 rfl rfl ?_
                      refine xi_getfield (pc' := 20) (v := .ref 94) kc_90_17 rfl rfl rfl A32 rfl ?_
                      refine xi_iload_n (pc' := 21) (x := 4) kc_90_20 rfl rfl ?_
                      refine xi_dup2 (pc' := 22) kc_90_21 rfl ⟨rfl, rfl⟩ ?_
                      obtain ⟨v554, ev554, bv554, dv554⟩ := xj_get hy553 ry553 (i := 4) (by decide) (by decide)
                      refine xi_iaload (pc' := 23) (v := v554) kc_90_22 rfl A553 (by decide) rfl (xi_in (by decide) (by rw [hy553]; decide)) ev554 ?_
                      refine xi_iconst (pc' := 24) (v := 1) kc_90_23 rfl rfl ?_
                      obtain ⟨v555, ev555⟩ : ∃ q : Int32, (v554 : Int32) + 1 = q := ⟨_, rfl⟩
                      have rv555 := xc_rng v555
                      refine xi_iadd (pc' := 25) (v := v555) kc_90_24 rfl ev555 ?_
                      obtain ⟨y556, s556, hy556, ry556⟩ := xj_set (v := v555) hy553 ry553 4 (by first | omega | decide) (by first | omega | decide)
                      refine xi_iastore (pc' := 26) (x' := y556) kc_90_25 rfl A553 rfl (xi_in (by decide) (by rw [hy553]; decide)) s556 (fun hh556 eh556 => ?_)
                      have K557 := xk_pa K (xk_wa (by decide +kernel)) xD_94 hy556 ry556 eh556
                      have KR558 := xk_pa KR (xk_wa (by decide +kernel)) xD_94 hy556 ry556 eh556
                      refine xi_iload_n (pc' := 27) (x := (-4)) kc_90_26 rfl rfl ?_
                      refine xi_ireturn kc_90_27 mr_90 rfl ?_
                      show xw J ov 99 116 (48, [(0, .ref 0), (1, .int a23), (2, .int a25), (3, .int a27), (4, .int a29)], [.int (-4)], hh556) _
                      refine xi_ireturn kc_116_48 mr_116 rfl ?_
                      show xw J ov 100 195 (679, [(4, .int x4), (3, .ref 167), (2, .ref 115), (1, .ref 0), (0, .ref 1000000)], [.int (-4)], hh556) _
                      refine xi_pop (pc' := 680) kc_195_679 rfl rfl ?_
                      refine xi_aload_n (pc' := 681) (x := 115) kc_195_680 rfl rfl ?_
                      refine xi_aload_n (pc' := 682) (x := 1000000) kc_195_681 rfl rfl ?_
                      refine xi_iload (pc' := 684) (x := x4) kc_195_682 rfl rfl ?_
                      refine xi_iconst (pc' := 685) (v := 1) kc_195_684 rfl rfl ?_
                      refine xi_iadd (pc' := 686) (v := v22) kc_195_685 rfl ev22 ?_
                      refine xi_ialoadO (pc' := 687) (v := a23) kc_195_686 rfl (by decide) hov0 (xi_in (by omega) (by omega)) ea23 ?_
                      refine xi_aload_n (pc' := 688) (x := 1000000) kc_195_687 rfl rfl ?_
                      refine xi_iload (pc' := 690) (x := x4) kc_195_688 rfl rfl ?_
                      refine xi_iconst (pc' := 691) (v := 2) kc_195_690 rfl rfl ?_
                      refine xi_iadd (pc' := 692) (v := v24) kc_195_691 rfl ev24 ?_
                      refine xi_ialoadO (pc' := 693) (v := a25) kc_195_692 rfl (by decide) hov0 (xi_in (by omega) (by omega)) ea25 ?_
                      refine xi_aload_n (pc' := 694) (x := 1000000) kc_195_693 rfl rfl ?_
                      refine xi_iload (pc' := 696) (x := x4) kc_195_694 rfl rfl ?_
                      refine xi_iconst (pc' := 697) (v := 3) kc_195_696 rfl rfl ?_
                      refine xi_iadd (pc' := 698) (v := v26) kc_195_697 rfl ev26 ?_
                      refine xi_ialoadO (pc' := 699) (v := a27) kc_195_698 rfl (by decide) hov0 (xi_in (by omega) (by omega)) ea27 ?_
                      refine xi_aload_n (pc' := 700) (x := 1000000) kc_195_699 rfl rfl ?_
                      refine xi_iload (pc' := 702) (x := x4) kc_195_700 rfl rfl ?_
                      refine xi_iconst (pc' := 703) (v := 4) kc_195_702 rfl rfl ?_
                      refine xi_iadd (pc' := 704) (v := v28) kc_195_703 rfl ev28 ?_
                      refine xi_ialoadO (pc' := 705) (v := a29) kc_195_704 rfl (by decide) hov0 (xi_in (by omega) (by omega)) ea29 ?_
                      have A559 := ((eh556.2.1 115 (by decide)).trans A17)
                      refine xi_virtual (mj := 32) (as := [.int a23, .int a25, .int a27, .int a29]) (st1 := []) (lv0 := [(0, .ref 115), (1, .int a23), (2, .int a25), (3, .int a27), (4, .int a29)]) kc_195_705 rfl rfl rfl rfl rfl A559 (Nat.le_of_ble_eq_true rfl) (hJ _ _ _ _ (by decide)) (xm_le ml_32 rfl) rfl ?_
                      refine xi_aload_n (pc' := 1) (x := 115) kc_32_0 rfl rfl ?_
                      refine xi_iconst (pc' := 2) (v := 0) kc_32_1 rfl rfl ?_
                      refine xi_putfield (pc' := 5) (fs' := [.int 0, .int u5, .ref 116, .ref 117, .ref 118, .ref 119, .ref 120, .ref 121, .ref 122, .ref 123, .ref 124, .ref 125, .ref 126, .ref 127, .ref 128, .ref 129, .int u6, .ref 130, .int u7, .ref 131, .ref 132, .ref 133, .ref 134, .int u1, .ref 135, .ref 136, .ref 137, .ref 138, .ref 139, .ref 140, .ref 141, .ref 142, .int u9, .int u10, .int u11, .ref 143, .ref 144, .ref 145, .ref 146, .ref 147, .ref 148, .int u12, .ref 149, .ref 150, .ref 151, .int u13, .ref 152, .ref 153, .ref 154, .ref 155, .ref 156, .ref 157, .ref 158, .ref 159, .int u14, .ref 160, .int u15, .ref 161, .ref 162, .ref 163, .ref 164, .int u16, .ref 165, .ref 166]) kc_32_2 rfl rfl rfl A559 rfl rfl rfl (Nat.le_of_ble_eq_true rfl) rfl (fun hh561 eh560 => ?_)
                      have K562 := xk_pf (k := 0) (v := 0) K557 (xk_wf (by decide +kernel)) xD_115 A559 rfl (by first | omega | decide) (by first | omega | decide) eh560 rfl
                      have KR563 := xk_pf (k := 0) (v := 0) KR558 (xk_wf (by decide +kernel)) xD_115 A559 rfl (by first | omega | decide) (by first | omega | decide) eh560 rfl
                      refine xi_iload_n (pc' := 6) (x := a23) kc_32_5 rfl rfl ?_
                      refine xi_iconst (pc' := 7) (v := 0) kc_32_6 rfl rfl ?_
                      refine xi_iconst (pc' := 8) (v := 3) kc_32_7 rfl rfl ?_
                      refine xi_static (mj := 11) (as := [.int a23, .int 0, .int 3]) (st1 := []) (lv0 := [(0, .int a23), (1, .int 0), (2, .int 3)]) kc_32_8 rfl rfl (Nat.le_of_ble_eq_true rfl) rfl rfl (Nat.le_of_ble_eq_true rfl) (hJ _ _ _ _ (by decide)) (xm_le ml_11 rfl) rfl ?_
                      refine xi_iload_n (pc' := 1) (x := a23) kc_11_0 rfl rfl ?_
                      refine xi_iload_n (pc' := 2) (x := 0) kc_11_1 rfl rfl ?_
                      refine xi_cmf (pc' := 5) kc_11_2 rfl (xc_lt_f (X := a23.toInt) (Y := 0) rfl (by decide) (by omega)) ?_
                      refine xi_iload_n (pc' := 6) (x := a23) kc_11_5 rfl rfl ?_
                      refine xi_iload_n (pc' := 7) (x := 3) kc_11_6 rfl rfl ?_
                      refine xi_cmf (pc' := 10) kc_11_7 rfl (xc_gt_f (X := a23.toInt) (Y := 3) rfl (by decide) (by omega)) ?_
                      refine xi_iconst (pc' := 11) (v := 1) kc_11_10 rfl rfl ?_
                      refine xi_goto (pc' := 15) kc_11_11 rfl ?_
                      refine xi_ireturn kc_11_15 mr_11 rfl ?_
                      show xw J ov 99 32 (11, [(0, .ref 115), (1, .int a23), (2, .int a25), (3, .int a27), (4, .int a29)], [.int 1], hh561) _
                      refine xi_ift (pc' := 21) kc_32_11 rfl rfl ?_
                      refine xi_iload_n (pc' := 22) (x := a23) kc_32_21 rfl rfl ?_
                      refine xi_iconst (pc' := 23) (v := 3) kc_32_22 rfl rfl ?_
                      refine xi_cmt (pc' := 36) kc_32_23 rfl (xc_ne_t (X := a23.toInt) (Y := 3) rfl (by decide) (by omega)) ?_
                      refine xi_aload_n (pc' := 37) (x := 115) kc_32_36 rfl rfl ?_
                      refine xi_iload_n (pc' := 38) (x := a25) kc_32_37 rfl rfl ?_
                      refine xi_virtual (mj := 31) (as := [.int a25]) (st1 := []) (lv0 := [(0, .ref 115), (1, .int a25)]) kc_32_38 rfl rfl rfl rfl rfl eh560.1 (Nat.le_of_ble_eq_true rfl) (hJ _ _ _ _ (by decide)) (xm_le ml_31 rfl) rfl ?_
                      refine xi_iload_n (pc' := 1) (x := a25) kc_31_0 rfl rfl ?_
                      refine xi_static (mj := 24) (as := [.int a25]) (st1 := []) (lv0 := [(0, .int a25)]) kc_31_1 rfl rfl (Nat.le_of_ble_eq_true rfl) rfl rfl (Nat.le_of_ble_eq_true rfl) (hJ _ _ _ _ (by decide)) (xm_le ml_24 rfl) rfl ?_
                      refine xi_iload_n (pc' := 1) (x := a25) kc_24_0 rfl rfl ?_
                      refine xi_iconst (pc' := 2) (v := 0) kc_24_1 rfl rfl ?_
                      refine xi_bipush (pc' := 4) (v := 11) kc_24_2 rfl rfl ?_
                      refine xi_static (mj := 11) (as := [.int a25, .int 0, .int 11]) (st1 := []) (lv0 := [(0, .int a25), (1, .int 0), (2, .int 11)]) kc_24_4 rfl rfl (Nat.le_of_ble_eq_true rfl) rfl rfl (Nat.le_of_ble_eq_true rfl) (hJ _ _ _ _ (by decide)) (xm_le ml_11 rfl) rfl ?_
                      refine xi_iload_n (pc' := 1) (x := a25) kc_11_0 rfl rfl ?_
                      refine xi_iload_n (pc' := 2) (x := 0) kc_11_1 rfl rfl ?_
                      refine xi_cmf (pc' := 5) kc_11_2 rfl (xc_lt_f (X := a25.toInt) (Y := 0) rfl (by decide) (by omega)) ?_
                      refine xi_iload_n (pc' := 6) (x := a25) kc_11_5 rfl rfl ?_
                      refine xi_iload_n (pc' := 7) (x := 11) kc_11_6 rfl rfl ?_
                      refine xi_cmf (pc' := 10) kc_11_7 rfl (xc_gt_f (X := a25.toInt) (Y := 11) rfl (by decide) (by omega)) ?_
                      refine xi_iconst (pc' := 11) (v := 1) kc_11_10 rfl rfl ?_
                      refine xi_goto (pc' := 15) kc_11_11 rfl ?_
                      refine xi_ireturn kc_11_15 mr_11 rfl ?_
                      show xw J ov 97 24 (7, [(0, .int a25)], [.int 1], hh561) _
                      refine xi_ireturn kc_24_7 mr_24 rfl ?_
                      show xw J ov 98 31 (4, [(0, .ref 115), (1, .int a25)], [.int 1], hh561) _
                      refine xi_iff (pc' := 7) kc_31_4 rfl rfl ?_
                      refine xi_aload_n (pc' := 8) (x := 115) kc_31_7 rfl rfl ?_
                      refine xi_getfield (pc' := 11) (v := .ref 125) kc_31_8 rfl rfl rfl eh560.1 rfl ?_
                      refine xi_iload_n (pc' := 12) (x := a25) kc_31_11 rfl rfl ?_
                      have A564 := ((eh560.2.1 125 (by decide)).trans ((eh556.2.1 125 (by decide)).trans A338))
                      refine xi_iaload (pc' := 13) (v := u332) kc_31_12 rfl A564 (by decide) rfl (xi_in (by omega) (by rw [hy338]; omega)) HG339 ?_
                      refine xi_iff (pc' := 16) kc_31_13 rfl (xc_lt_f (X := u332.toInt) (Y := 0) rfl (by decide) (by omega)) ?_
                      refine xi_iconst (pc' := 17) (v := 1) kc_31_16 rfl rfl ?_
                      refine xi_goto (pc' := 21) kc_31_17 rfl ?_
                      refine xi_ireturn kc_31_21 mr_31 rfl ?_
                      show xw J ov 99 32 (41, [(0, .ref 115), (1, .int a23), (2, .int a25), (3, .int a27), (4, .int a29)], [.int 1], hh561) _
                      refine xi_iff (pc' := 44) kc_32_41 rfl rfl ?_
                      refine xi_iload_n (pc' := 45) (x := a23) kc_32_44 rfl rfl ?_
                      refine xi_iff (pc' := 48) kc_32_45 rfl (xc_ne_f (X := a23.toInt) (Y := 0) rfl (by decide) (by omega)) ?_
                      refine xi_aload_n (pc' := 49) (x := 115) kc_32_48 rfl rfl ?_
                      refine xi_getfield (pc' := 52) (v := .ref 127) kc_32_49 rfl rfl rfl eh560.1 rfl ?_
                      refine xi_iload_n (pc' := 53) (x := a25) kc_32_52 rfl rfl ?_
                      have A565 := ((eh560.2.1 127 (by decide)).trans ((eh556.2.1 127 (by decide)).trans A340))
                      refine xi_baload (pc' := 54) (v := u334) kc_32_53 rfl A565 rfl (xi_in (by omega) (by rw [hy340]; omega)) HG341 ?_
                      refine xi_ift (pc' := 63) kc_32_54 rfl (xc_ne_t (X := u334.toInt) (Y := 0) rfl (by decide) (by omega)) ?_
                      refine xi_iload_n (pc' := 64) (x := a27) kc_32_63 rfl rfl ?_
                      refine xi_iconst (pc' := 65) (v := 1) kc_32_64 rfl rfl ?_
                      refine xi_cmf (pc' := 68) kc_32_65 rfl (xc_lt_f (X := a27.toInt) (Y := 1) rfl (by decide) (by omega)) ?_
                      refine xi_iload (pc' := 70) (x := a29) kc_32_68 rfl rfl ?_
                      refine xi_iff (pc' := 73) kc_32_70 rfl (xc_ge_f (X := a29.toInt) (Y := 0) rfl (by decide) (by omega)) ?_
                      refine xi_aload_n (pc' := 74) (x := 115) kc_32_73 rfl rfl ?_
                      refine xi_bipush (pc' := 76) (v := (-4)) kc_32_74 rfl rfl ?_
                      refine xi_virtual (mj := 12) (as := [.int (-4)]) (st1 := []) (lv0 := [(0, .ref 115), (1, .int (-4))]) kc_32_76 rfl rfl rfl rfl rfl eh560.1 (Nat.le_of_ble_eq_true rfl) (hJ _ _ _ _ (by decide)) (xm_le ml_12 rfl) rfl ?_
                      refine xi_aload_n (pc' := 1) (x := 115) kc_12_0 rfl rfl ?_
                      refine xi_getfield (pc' := 4) (v := .ref 140) kc_12_1 rfl rfl rfl eh560.1 rfl ?_
                      refine xi_iload_n (pc' := 5) (x := (-4)) kc_12_4 rfl rfl ?_
                      refine xi_ineg (pc' := 6) (v := 4) kc_12_5 rfl rfl ?_
                      refine xi_dup2 (pc' := 7) kc_12_6 rfl ⟨rfl, rfl⟩ ?_
                      obtain ⟨y566, A566, hy566, ry566⟩ := xk_arr K.1 xD_140
                      obtain ⟨v567, ev567, bv567, dv567⟩ := xj_get hy566 ry566 (i := 4) (by decide) (by decide)
                      have A568 := ((eh560.2.1 140 (by decide)).trans ((eh556.2.1 140 (by decide)).trans A566))
                      refine xi_iaload (pc' := 8) (v := v567) kc_12_7 rfl A568 (by decide) rfl (xi_in (by decide) (by rw [hy566]; decide)) ev567 ?_
                      refine xi_iconst (pc' := 9) (v := 1) kc_12_8 rfl rfl ?_
                      obtain ⟨v569, ev569⟩ : ∃ q : Int32, (v567 : Int32) + 1 = q := ⟨_, rfl⟩
                      have rv569 := xc_rng v569
                      refine xi_iadd (pc' := 10) (v := v569) kc_12_9 rfl ev569 ?_
                      obtain ⟨y570, s570, hy570, ry570⟩ := xj_set (v := v569) hy566 ry566 4 (by first | omega | decide) (by first | omega | decide)
                      refine xi_iastore (pc' := 11) (x' := y570) kc_12_10 rfl A568 rfl (xi_in (by decide) (by rw [hy566]; decide)) s570 (fun hh570 eh570 => ?_)
                      have K571 := xk_pa K562 (xk_wa (by decide +kernel)) xD_140 hy570 ry570 eh570
                      have KR572 := xk_pa KR563 (xk_wa (by decide +kernel)) xD_140 hy570 ry570 eh570
                      refine xi_iload_n (pc' := 12) (x := (-4)) kc_12_11 rfl rfl ?_
                      refine xi_ireturn kc_12_12 mr_12 rfl ?_
                      show xw J ov 99 32 (79, [(0, .ref 115), (1, .int a23), (2, .int a25), (3, .int a27), (4, .int a29)], [.int (-4)], hh570) _
                      refine xi_ireturn kc_32_79 mr_32 rfl ?_
                      show xw J ov 100 195 (708, [(4, .int x4), (3, .ref 167), (2, .ref 115), (1, .ref 0), (0, .ref 1000000)], [.int (-4)], hh570) _
                      refine xi_pop (pc' := 709) kc_195_708 rfl rfl ?_
                      refine xi_goto (pc' := 1501) kc_195_709 rfl ?_
                      obtain ⟨v573, ev573⟩ : ∃ q : Int32, x4 + 6 = q := ⟨_, rfl⟩
                      have zv573 : v573.toInt = (x4.toInt + 6) := by rw [← ev573]; exact (xz_add (X := x4.toInt) (Y := 6) rfl (by decide) (by omega) (by omega)).trans (by omega)
                      refine xi_iinc (pc' := 1504) (x := x4) (v := v573) (lv' := [(4, .int v573), (3, .ref 167), (2, .ref 115), (1, .ref 0), (0, .ref 1000000)]) kc_195_1501 rfl rfl ev573 rfl (xm_lt ml_195 rfl) ?_
                      refine xi_goto (pc' := 23) kc_195_1504 rfl ?_
                      exact kk v573 hh570 (by omega) K571 (xI_kept I KR572.2.1)
              · refine xi_ift (pc' := 34) kc_118_19 rfl (xc_ne_t (X := a23.toInt) (Y := 0) rfl (by decide) (by omega)) ?_
                refine xi_iconst (pc' := 35) (v := 1) kc_118_34 rfl rfl ?_
                refine xi_goto (pc' := 39) kc_118_35 rfl ?_
                refine xi_ireturn kc_118_39 mr_118 rfl ?_
                show xw J ov 99 116 (23, [(0, .ref 0), (1, .int a23), (2, .int a25), (3, .int a27), (4, .int a29)], [.int 1], h) _
                refine xi_ift (pc' := 32) kc_116_23 rfl rfl ?_
                refine xi_iload_n (pc' := 33) (x := a27) kc_116_32 rfl rfl ?_
                refine xi_iconst (pc' := 34) (v := 1) kc_116_33 rfl rfl ?_
                by_cases c574 : a27.toInt < 1
                · refine xi_cmt (pc' := 42) kc_116_34 rfl (xc_lt_t (X := a27.toInt) (Y := 1) rfl (by decide) (by omega)) ?_
                  refine xi_aload_n (pc' := 43) (x := 0) kc_116_42 rfl rfl ?_
                  refine xi_bipush (pc' := 45) (v := (-4)) kc_116_43 rfl rfl ?_
                  refine xi_virtual (mj := 90) (as := [.int (-4)]) (st1 := []) (lv0 := [(0, .ref 0), (1, .int (-4))]) kc_116_45 rfl rfl rfl rfl rfl A32 (Nat.le_of_ble_eq_true rfl) (hJ _ _ _ _ (by decide)) (xm_le ml_90 rfl) rfl ?_
                  refine xi_iload_n (pc' := 1) (x := (-4)) kc_90_0 rfl rfl ?_
                  refine xi_ineg (pc' := 2) (v := 4) kc_90_1 rfl rfl ?_
                  refine xi_istore_n (pc' := 3) (lv' := [(2, .int 4), (0, .ref 0), (1, .int (-4))]) kc_90_2 rfl rfl (xm_lt ml_90 rfl) ?_
                  refine xi_iload_n (pc' := 4) (x := 4) kc_90_3 rfl rfl ?_
                  refine xi_iff (pc' := 7) kc_90_4 rfl rfl ?_
                  refine xi_iload_n (pc' := 8) (x := 4) kc_90_7 rfl rfl ?_
                  refine xi_aload_n (pc' := 9) (x := 0) kc_90_8 rfl rfl ?_
                  refine xi_getfield (pc' := 12) (v := .ref 94) kc_90_9 rfl rfl rfl A32 rfl ?_
                  obtain ⟨y575, A575, hy575, ry575⟩ := xk_arr K.1 xD_94
                  refine xi_arraylength (pc' := 13) (n := 7) (v := 7) kc_90_12 rfl (xl_lenI (by decide) (by decide) A575 hy575) rfl ?_
                  refine xi_cmf (pc' := 16) kc_90_13 rfl rfl ?_
                  refine xi_aload_n (pc' := 17) (x := 0) kc_90_16 rfl rfl ?_
                  refine xi_getfield (pc' := 20) (v := .ref 94) kc_90_17 rfl rfl rfl A32 rfl ?_
                  refine xi_iload_n (pc' := 21) (x := 4) kc_90_20 rfl rfl ?_
                  refine xi_dup2 (pc' := 22) kc_90_21 rfl ⟨rfl, rfl⟩ ?_
                  obtain ⟨v576, ev576, bv576, dv576⟩ := xj_get hy575 ry575 (i := 4) (by decide) (by decide)
                  refine xi_iaload (pc' := 23) (v := v576) kc_90_22 rfl A575 (by decide) rfl (xi_in (by decide) (by rw [hy575]; decide)) ev576 ?_
                  refine xi_iconst (pc' := 24) (v := 1) kc_90_23 rfl rfl ?_
                  obtain ⟨v577, ev577⟩ : ∃ q : Int32, (v576 : Int32) + 1 = q := ⟨_, rfl⟩
                  have rv577 := xc_rng v577
                  refine xi_iadd (pc' := 25) (v := v577) kc_90_24 rfl ev577 ?_
                  obtain ⟨y578, s578, hy578, ry578⟩ := xj_set (v := v577) hy575 ry575 4 (by first | omega | decide) (by first | omega | decide)
                  refine xi_iastore (pc' := 26) (x' := y578) kc_90_25 rfl A575 rfl (xi_in (by decide) (by rw [hy575]; decide)) s578 (fun hh578 eh578 => ?_)
                  have K579 := xk_pa K (xk_wa (by decide +kernel)) xD_94 hy578 ry578 eh578
                  have KR580 := xk_pa KR (xk_wa (by decide +kernel)) xD_94 hy578 ry578 eh578
                  refine xi_iload_n (pc' := 27) (x := (-4)) kc_90_26 rfl rfl ?_
                  refine xi_ireturn kc_90_27 mr_90 rfl ?_
                  show xw J ov 99 116 (48, [(0, .ref 0), (1, .int a23), (2, .int a25), (3, .int a27), (4, .int a29)], [.int (-4)], hh578) _
                  refine xi_ireturn kc_116_48 mr_116 rfl ?_
                  show xw J ov 100 195 (679, [(4, .int x4), (3, .ref 167), (2, .ref 115), (1, .ref 0), (0, .ref 1000000)], [.int (-4)], hh578) _
                  refine xi_pop (pc' := 680) kc_195_679 rfl rfl ?_
                  refine xi_aload_n (pc' := 681) (x := 115) kc_195_680 rfl rfl ?_
                  refine xi_aload_n (pc' := 682) (x := 1000000) kc_195_681 rfl rfl ?_
                  refine xi_iload (pc' := 684) (x := x4) kc_195_682 rfl rfl ?_
                  refine xi_iconst (pc' := 685) (v := 1) kc_195_684 rfl rfl ?_
                  refine xi_iadd (pc' := 686) (v := v22) kc_195_685 rfl ev22 ?_
                  refine xi_ialoadO (pc' := 687) (v := a23) kc_195_686 rfl (by decide) hov0 (xi_in (by omega) (by omega)) ea23 ?_
                  refine xi_aload_n (pc' := 688) (x := 1000000) kc_195_687 rfl rfl ?_
                  refine xi_iload (pc' := 690) (x := x4) kc_195_688 rfl rfl ?_
                  refine xi_iconst (pc' := 691) (v := 2) kc_195_690 rfl rfl ?_
                  refine xi_iadd (pc' := 692) (v := v24) kc_195_691 rfl ev24 ?_
                  refine xi_ialoadO (pc' := 693) (v := a25) kc_195_692 rfl (by decide) hov0 (xi_in (by omega) (by omega)) ea25 ?_
                  refine xi_aload_n (pc' := 694) (x := 1000000) kc_195_693 rfl rfl ?_
                  refine xi_iload (pc' := 696) (x := x4) kc_195_694 rfl rfl ?_
                  refine xi_iconst (pc' := 697) (v := 3) kc_195_696 rfl rfl ?_
                  refine xi_iadd (pc' := 698) (v := v26) kc_195_697 rfl ev26 ?_
                  refine xi_ialoadO (pc' := 699) (v := a27) kc_195_698 rfl (by decide) hov0 (xi_in (by omega) (by omega)) ea27 ?_
                  refine xi_aload_n (pc' := 700) (x := 1000000) kc_195_699 rfl rfl ?_
                  refine xi_iload (pc' := 702) (x := x4) kc_195_700 rfl rfl ?_
                  refine xi_iconst (pc' := 703) (v := 4) kc_195_702 rfl rfl ?_
                  refine xi_iadd (pc' := 704) (v := v28) kc_195_703 rfl ev28 ?_
                  refine xi_ialoadO (pc' := 705) (v := a29) kc_195_704 rfl (by decide) hov0 (xi_in (by omega) (by omega)) ea29 ?_
                  have A581 := ((eh578.2.1 115 (by decide)).trans A17)
                  refine xi_virtual (mj := 32) (as := [.int a23, .int a25, .int a27, .int a29]) (st1 := []) (lv0 := [(0, .ref 115), (1, .int a23), (2, .int a25), (3, .int a27), (4, .int a29)]) kc_195_705 rfl rfl rfl rfl rfl A581 (Nat.le_of_ble_eq_true rfl) (hJ _ _ _ _ (by decide)) (xm_le ml_32 rfl) rfl ?_
                  refine xi_aload_n (pc' := 1) (x := 115) kc_32_0 rfl rfl ?_
                  refine xi_iconst (pc' := 2) (v := 0) kc_32_1 rfl rfl ?_
                  refine xi_putfield (pc' := 5) (fs' := [.int 0, .int u5, .ref 116, .ref 117, .ref 118, .ref 119, .ref 120, .ref 121, .ref 122, .ref 123, .ref 124, .ref 125, .ref 126, .ref 127, .ref 128, .ref 129, .int u6, .ref 130, .int u7, .ref 131, .ref 132, .ref 133, .ref 134, .int u1, .ref 135, .ref 136, .ref 137, .ref 138, .ref 139, .ref 140, .ref 141, .ref 142, .int u9, .int u10, .int u11, .ref 143, .ref 144, .ref 145, .ref 146, .ref 147, .ref 148, .int u12, .ref 149, .ref 150, .ref 151, .int u13, .ref 152, .ref 153, .ref 154, .ref 155, .ref 156, .ref 157, .ref 158, .ref 159, .int u14, .ref 160, .int u15, .ref 161, .ref 162, .ref 163, .ref 164, .int u16, .ref 165, .ref 166]) kc_32_2 rfl rfl rfl A581 rfl rfl rfl (Nat.le_of_ble_eq_true rfl) rfl (fun hh583 eh582 => ?_)
                  have K584 := xk_pf (k := 0) (v := 0) K579 (xk_wf (by decide +kernel)) xD_115 A581 rfl (by first | omega | decide) (by first | omega | decide) eh582 rfl
                  have KR585 := xk_pf (k := 0) (v := 0) KR580 (xk_wf (by decide +kernel)) xD_115 A581 rfl (by first | omega | decide) (by first | omega | decide) eh582 rfl
                  refine xi_iload_n (pc' := 6) (x := a23) kc_32_5 rfl rfl ?_
                  refine xi_iconst (pc' := 7) (v := 0) kc_32_6 rfl rfl ?_
                  refine xi_iconst (pc' := 8) (v := 3) kc_32_7 rfl rfl ?_
                  refine xi_static (mj := 11) (as := [.int a23, .int 0, .int 3]) (st1 := []) (lv0 := [(0, .int a23), (1, .int 0), (2, .int 3)]) kc_32_8 rfl rfl (Nat.le_of_ble_eq_true rfl) rfl rfl (Nat.le_of_ble_eq_true rfl) (hJ _ _ _ _ (by decide)) (xm_le ml_11 rfl) rfl ?_
                  refine xi_iload_n (pc' := 1) (x := a23) kc_11_0 rfl rfl ?_
                  refine xi_iload_n (pc' := 2) (x := 0) kc_11_1 rfl rfl ?_
                  refine xi_cmf (pc' := 5) kc_11_2 rfl (xc_lt_f (X := a23.toInt) (Y := 0) rfl (by decide) (by omega)) ?_
                  refine xi_iload_n (pc' := 6) (x := a23) kc_11_5 rfl rfl ?_
                  refine xi_iload_n (pc' := 7) (x := 3) kc_11_6 rfl rfl ?_
                  refine xi_cmf (pc' := 10) kc_11_7 rfl (xc_gt_f (X := a23.toInt) (Y := 3) rfl (by decide) (by omega)) ?_
                  refine xi_iconst (pc' := 11) (v := 1) kc_11_10 rfl rfl ?_
                  refine xi_goto (pc' := 15) kc_11_11 rfl ?_
                  refine xi_ireturn kc_11_15 mr_11 rfl ?_
                  show xw J ov 99 32 (11, [(0, .ref 115), (1, .int a23), (2, .int a25), (3, .int a27), (4, .int a29)], [.int 1], hh583) _
                  refine xi_ift (pc' := 21) kc_32_11 rfl rfl ?_
                  refine xi_iload_n (pc' := 22) (x := a23) kc_32_21 rfl rfl ?_
                  refine xi_iconst (pc' := 23) (v := 3) kc_32_22 rfl rfl ?_
                  refine xi_cmt (pc' := 36) kc_32_23 rfl (xc_ne_t (X := a23.toInt) (Y := 3) rfl (by decide) (by omega)) ?_
                  refine xi_aload_n (pc' := 37) (x := 115) kc_32_36 rfl rfl ?_
                  refine xi_iload_n (pc' := 38) (x := a25) kc_32_37 rfl rfl ?_
                  refine xi_virtual (mj := 31) (as := [.int a25]) (st1 := []) (lv0 := [(0, .ref 115), (1, .int a25)]) kc_32_38 rfl rfl rfl rfl rfl eh582.1 (Nat.le_of_ble_eq_true rfl) (hJ _ _ _ _ (by decide)) (xm_le ml_31 rfl) rfl ?_
                  refine xi_iload_n (pc' := 1) (x := a25) kc_31_0 rfl rfl ?_
                  refine xi_static (mj := 24) (as := [.int a25]) (st1 := []) (lv0 := [(0, .int a25)]) kc_31_1 rfl rfl (Nat.le_of_ble_eq_true rfl) rfl rfl (Nat.le_of_ble_eq_true rfl) (hJ _ _ _ _ (by decide)) (xm_le ml_24 rfl) rfl ?_
                  refine xi_iload_n (pc' := 1) (x := a25) kc_24_0 rfl rfl ?_
                  refine xi_iconst (pc' := 2) (v := 0) kc_24_1 rfl rfl ?_
                  refine xi_bipush (pc' := 4) (v := 11) kc_24_2 rfl rfl ?_
                  refine xi_static (mj := 11) (as := [.int a25, .int 0, .int 11]) (st1 := []) (lv0 := [(0, .int a25), (1, .int 0), (2, .int 11)]) kc_24_4 rfl rfl (Nat.le_of_ble_eq_true rfl) rfl rfl (Nat.le_of_ble_eq_true rfl) (hJ _ _ _ _ (by decide)) (xm_le ml_11 rfl) rfl ?_
                  refine xi_iload_n (pc' := 1) (x := a25) kc_11_0 rfl rfl ?_
                  refine xi_iload_n (pc' := 2) (x := 0) kc_11_1 rfl rfl ?_
                  refine xi_cmf (pc' := 5) kc_11_2 rfl (xc_lt_f (X := a25.toInt) (Y := 0) rfl (by decide) (by omega)) ?_
                  refine xi_iload_n (pc' := 6) (x := a25) kc_11_5 rfl rfl ?_
                  refine xi_iload_n (pc' := 7) (x := 11) kc_11_6 rfl rfl ?_
                  refine xi_cmf (pc' := 10) kc_11_7 rfl (xc_gt_f (X := a25.toInt) (Y := 11) rfl (by decide) (by omega)) ?_
                  refine xi_iconst (pc' := 11) (v := 1) kc_11_10 rfl rfl ?_
                  refine xi_goto (pc' := 15) kc_11_11 rfl ?_
                  refine xi_ireturn kc_11_15 mr_11 rfl ?_
                  show xw J ov 97 24 (7, [(0, .int a25)], [.int 1], hh583) _
                  refine xi_ireturn kc_24_7 mr_24 rfl ?_
                  show xw J ov 98 31 (4, [(0, .ref 115), (1, .int a25)], [.int 1], hh583) _
                  refine xi_iff (pc' := 7) kc_31_4 rfl rfl ?_
                  refine xi_aload_n (pc' := 8) (x := 115) kc_31_7 rfl rfl ?_
                  refine xi_getfield (pc' := 11) (v := .ref 125) kc_31_8 rfl rfl rfl eh582.1 rfl ?_
                  refine xi_iload_n (pc' := 12) (x := a25) kc_31_11 rfl rfl ?_
                  have A586 := ((eh582.2.1 125 (by decide)).trans ((eh578.2.1 125 (by decide)).trans A338))
                  refine xi_iaload (pc' := 13) (v := u332) kc_31_12 rfl A586 (by decide) rfl (xi_in (by omega) (by rw [hy338]; omega)) HG339 ?_
                  refine xi_iff (pc' := 16) kc_31_13 rfl (xc_lt_f (X := u332.toInt) (Y := 0) rfl (by decide) (by omega)) ?_
                  refine xi_iconst (pc' := 17) (v := 1) kc_31_16 rfl rfl ?_
                  refine xi_goto (pc' := 21) kc_31_17 rfl ?_
                  refine xi_ireturn kc_31_21 mr_31 rfl ?_
                  show xw J ov 99 32 (41, [(0, .ref 115), (1, .int a23), (2, .int a25), (3, .int a27), (4, .int a29)], [.int 1], hh583) _
                  refine xi_iff (pc' := 44) kc_32_41 rfl rfl ?_
                  refine xi_iload_n (pc' := 45) (x := a23) kc_32_44 rfl rfl ?_
                  refine xi_ift (pc' := 63) kc_32_45 rfl (xc_ne_t (X := a23.toInt) (Y := 0) rfl (by decide) (by omega)) ?_
                  refine xi_iload_n (pc' := 64) (x := a27) kc_32_63 rfl rfl ?_
                  refine xi_iconst (pc' := 65) (v := 1) kc_32_64 rfl rfl ?_
                  refine xi_cmt (pc' := 73) kc_32_65 rfl (xc_lt_t (X := a27.toInt) (Y := 1) rfl (by decide) (by omega)) ?_
                  refine xi_aload_n (pc' := 74) (x := 115) kc_32_73 rfl rfl ?_
                  refine xi_bipush (pc' := 76) (v := (-4)) kc_32_74 rfl rfl ?_
                  refine xi_virtual (mj := 12) (as := [.int (-4)]) (st1 := []) (lv0 := [(0, .ref 115), (1, .int (-4))]) kc_32_76 rfl rfl rfl rfl rfl eh582.1 (Nat.le_of_ble_eq_true rfl) (hJ _ _ _ _ (by decide)) (xm_le ml_12 rfl) rfl ?_
                  refine xi_aload_n (pc' := 1) (x := 115) kc_12_0 rfl rfl ?_
                  refine xi_getfield (pc' := 4) (v := .ref 140) kc_12_1 rfl rfl rfl eh582.1 rfl ?_
                  refine xi_iload_n (pc' := 5) (x := (-4)) kc_12_4 rfl rfl ?_
                  refine xi_ineg (pc' := 6) (v := 4) kc_12_5 rfl rfl ?_
                  refine xi_dup2 (pc' := 7) kc_12_6 rfl ⟨rfl, rfl⟩ ?_
                  obtain ⟨y587, A587, hy587, ry587⟩ := xk_arr K.1 xD_140
                  obtain ⟨v588, ev588, bv588, dv588⟩ := xj_get hy587 ry587 (i := 4) (by decide) (by decide)
                  have A589 := ((eh582.2.1 140 (by decide)).trans ((eh578.2.1 140 (by decide)).trans A587))
                  refine xi_iaload (pc' := 8) (v := v588) kc_12_7 rfl A589 (by decide) rfl (xi_in (by decide) (by rw [hy587]; decide)) ev588 ?_
                  refine xi_iconst (pc' := 9) (v := 1) kc_12_8 rfl rfl ?_
                  obtain ⟨v590, ev590⟩ : ∃ q : Int32, (v588 : Int32) + 1 = q := ⟨_, rfl⟩
                  have rv590 := xc_rng v590
                  refine xi_iadd (pc' := 10) (v := v590) kc_12_9 rfl ev590 ?_
                  obtain ⟨y591, s591, hy591, ry591⟩ := xj_set (v := v590) hy587 ry587 4 (by first | omega | decide) (by first | omega | decide)
                  refine xi_iastore (pc' := 11) (x' := y591) kc_12_10 rfl A589 rfl (xi_in (by decide) (by rw [hy587]; decide)) s591 (fun hh591 eh591 => ?_)
                  have K592 := xk_pa K584 (xk_wa (by decide +kernel)) xD_140 hy591 ry591 eh591
                  have KR593 := xk_pa KR585 (xk_wa (by decide +kernel)) xD_140 hy591 ry591 eh591
                  refine xi_iload_n (pc' := 12) (x := (-4)) kc_12_11 rfl rfl ?_
                  refine xi_ireturn kc_12_12 mr_12 rfl ?_
                  show xw J ov 99 32 (79, [(0, .ref 115), (1, .int a23), (2, .int a25), (3, .int a27), (4, .int a29)], [.int (-4)], hh591) _
                  refine xi_ireturn kc_32_79 mr_32 rfl ?_
                  show xw J ov 100 195 (708, [(4, .int x4), (3, .ref 167), (2, .ref 115), (1, .ref 0), (0, .ref 1000000)], [.int (-4)], hh591) _
                  refine xi_pop (pc' := 709) kc_195_708 rfl rfl ?_
                  refine xi_goto (pc' := 1501) kc_195_709 rfl ?_
                  obtain ⟨v594, ev594⟩ : ∃ q : Int32, x4 + 6 = q := ⟨_, rfl⟩
                  have zv594 : v594.toInt = (x4.toInt + 6) := by rw [← ev594]; exact (xz_add (X := x4.toInt) (Y := 6) rfl (by decide) (by omega) (by omega)).trans (by omega)
                  refine xi_iinc (pc' := 1504) (x := x4) (v := v594) (lv' := [(4, .int v594), (3, .ref 167), (2, .ref 115), (1, .ref 0), (0, .ref 1000000)]) kc_195_1501 rfl rfl ev594 rfl (xm_lt ml_195 rfl) ?_
                  refine xi_goto (pc' := 23) kc_195_1504 rfl ?_
                  exact kk v594 hh591 (by omega) K592 (xI_kept I KR593.2.1)
                · refine xi_cmf (pc' := 37) kc_116_34 rfl (xc_lt_f (X := a27.toInt) (Y := 1) rfl (by decide) (by omega)) ?_
                  refine xi_iload (pc' := 39) (x := a29) kc_116_37 rfl rfl ?_
                  by_cases c595 : 0 ≤ a29.toInt
                  · refine xi_ift (pc' := 49) kc_116_39 rfl (xc_ge_t (X := a29.toInt) (Y := 0) rfl (by decide) (by omega)) ?_
                    refine xi_iload_n (pc' := 50) (x := a27) kc_116_49 rfl rfl ?_
                    refine xi_bipush (pc' := 52) (v := 99) kc_116_50 rfl rfl ?_
                    by_cases c596 : 99 < a27.toInt
                    · refine xi_cmt (pc' := 75) kc_116_52 rfl (xc_gt_t (X := a27.toInt) (Y := 99) rfl (by decide) (by omega)) ?_
                      refine xi_aload_n (pc' := 76) (x := 0) kc_116_75 rfl rfl ?_
                      refine xi_bipush (pc' := 78) (v := (-6)) kc_116_76 rfl rfl ?_
                      refine xi_virtual (mj := 90) (as := [.int (-6)]) (st1 := []) (lv0 := [(0, .ref 0), (1, .int (-6))]) kc_116_78 rfl rfl rfl rfl rfl A32 (Nat.le_of_ble_eq_true rfl) (hJ _ _ _ _ (by decide)) (xm_le ml_90 rfl) rfl ?_
                      refine xi_iload_n (pc' := 1) (x := (-6)) kc_90_0 rfl rfl ?_
                      refine xi_ineg (pc' := 2) (v := 6) kc_90_1 rfl rfl ?_
                      refine xi_istore_n (pc' := 3) (lv' := [(2, .int 6), (0, .ref 0), (1, .int (-6))]) kc_90_2 rfl rfl (xm_lt ml_90 rfl) ?_
                      refine xi_iload_n (pc' := 4) (x := 6) kc_90_3 rfl rfl ?_
                      refine xi_iff (pc' := 7) kc_90_4 rfl rfl ?_
                      refine xi_iload_n (pc' := 8) (x := 6) kc_90_7 rfl rfl ?_
                      refine xi_aload_n (pc' := 9) (x := 0) kc_90_8 rfl rfl ?_
                      refine xi_getfield (pc' := 12) (v := .ref 94) kc_90_9 rfl rfl rfl A32 rfl ?_
                      obtain ⟨y597, A597, hy597, ry597⟩ := xk_arr K.1 xD_94
                      refine xi_arraylength (pc' := 13) (n := 7) (v := 7) kc_90_12 rfl (xl_lenI (by decide) (by decide) A597 hy597) rfl ?_
                      refine xi_cmf (pc' := 16) kc_90_13 rfl rfl ?_
                      refine xi_aload_n (pc' := 17) (x := 0) kc_90_16 rfl rfl ?_
                      refine xi_getfield (pc' := 20) (v := .ref 94) kc_90_17 rfl rfl rfl A32 rfl ?_
                      refine xi_iload_n (pc' := 21) (x := 6) kc_90_20 rfl rfl ?_
                      refine xi_dup2 (pc' := 22) kc_90_21 rfl ⟨rfl, rfl⟩ ?_
                      obtain ⟨v598, ev598, bv598, dv598⟩ := xj_get hy597 ry597 (i := 6) (by decide) (by decide)
                      refine xi_iaload (pc' := 23) (v := v598) kc_90_22 rfl A597 (by decide) rfl (xi_in (by decide) (by rw [hy597]; decide)) ev598 ?_
                      refine xi_iconst (pc' := 24) (v := 1) kc_90_23 rfl rfl ?_
                      obtain ⟨v599, ev599⟩ : ∃ q : Int32, (v598 : Int32) + 1 = q := ⟨_, rfl⟩
                      have rv599 := xc_rng v599
                      refine xi_iadd (pc' := 25) (v := v599) kc_90_24 rfl ev599 ?_
                      obtain ⟨y600, s600, hy600, ry600⟩ := xj_set (v := v599) hy597 ry597 6 (by first | omega | decide) (by first | omega | decide)
                      refine xi_iastore (pc' := 26) (x' := y600) kc_90_25 rfl A597 rfl (xi_in (by decide) (by rw [hy597]; decide)) s600 (fun hh600 eh600 => ?_)
                      have K601 := xk_pa K (xk_wa (by decide +kernel)) xD_94 hy600 ry600 eh600
                      have KR602 := xk_pa KR (xk_wa (by decide +kernel)) xD_94 hy600 ry600 eh600
                      refine xi_iload_n (pc' := 27) (x := (-6)) kc_90_26 rfl rfl ?_
                      refine xi_ireturn kc_90_27 mr_90 rfl ?_
                      show xw J ov 99 116 (81, [(0, .ref 0), (1, .int a23), (2, .int a25), (3, .int a27), (4, .int a29)], [.int (-6)], hh600) _
                      refine xi_ireturn kc_116_81 mr_116 rfl ?_
                      show xw J ov 100 195 (679, [(4, .int x4), (3, .ref 167), (2, .ref 115), (1, .ref 0), (0, .ref 1000000)], [.int (-6)], hh600) _
                      refine xi_pop (pc' := 680) kc_195_679 rfl rfl ?_
                      refine xi_aload_n (pc' := 681) (x := 115) kc_195_680 rfl rfl ?_
                      refine xi_aload_n (pc' := 682) (x := 1000000) kc_195_681 rfl rfl ?_
                      refine xi_iload (pc' := 684) (x := x4) kc_195_682 rfl rfl ?_
                      refine xi_iconst (pc' := 685) (v := 1) kc_195_684 rfl rfl ?_
                      refine xi_iadd (pc' := 686) (v := v22) kc_195_685 rfl ev22 ?_
                      refine xi_ialoadO (pc' := 687) (v := a23) kc_195_686 rfl (by decide) hov0 (xi_in (by omega) (by omega)) ea23 ?_
                      refine xi_aload_n (pc' := 688) (x := 1000000) kc_195_687 rfl rfl ?_
                      refine xi_iload (pc' := 690) (x := x4) kc_195_688 rfl rfl ?_
                      refine xi_iconst (pc' := 691) (v := 2) kc_195_690 rfl rfl ?_
                      refine xi_iadd (pc' := 692) (v := v24) kc_195_691 rfl ev24 ?_
                      refine xi_ialoadO (pc' := 693) (v := a25) kc_195_692 rfl (by decide) hov0 (xi_in (by omega) (by omega)) ea25 ?_
                      refine xi_aload_n (pc' := 694) (x := 1000000) kc_195_693 rfl rfl ?_
                      refine xi_iload (pc' := 696) (x := x4) kc_195_694 rfl rfl ?_
                      refine xi_iconst (pc' := 697) (v := 3) kc_195_696 rfl rfl ?_
                      refine xi_iadd (pc' := 698) (v := v26) kc_195_697 rfl ev26 ?_
                      refine xi_ialoadO (pc' := 699) (v := a27) kc_195_698 rfl (by decide) hov0 (xi_in (by omega) (by omega)) ea27 ?_
                      refine xi_aload_n (pc' := 700) (x := 1000000) kc_195_699 rfl rfl ?_
                      refine xi_iload (pc' := 702) (x := x4) kc_195_700 rfl rfl ?_
                      refine xi_iconst (pc' := 703) (v := 4) kc_195_702 rfl rfl ?_
                      refine xi_iadd (pc' := 704) (v := v28) kc_195_703 rfl ev28 ?_
                      refine xi_ialoadO (pc' := 705) (v := a29) kc_195_704 rfl (by decide) hov0 (xi_in (by omega) (by omega)) ea29 ?_
                      have A603 := ((eh600.2.1 115 (by decide)).trans A17)
                      refine xi_virtual (mj := 32) (as := [.int a23, .int a25, .int a27, .int a29]) (st1 := []) (lv0 := [(0, .ref 115), (1, .int a23), (2, .int a25), (3, .int a27), (4, .int a29)]) kc_195_705 rfl rfl rfl rfl rfl A603 (Nat.le_of_ble_eq_true rfl) (hJ _ _ _ _ (by decide)) (xm_le ml_32 rfl) rfl ?_
                      refine xi_aload_n (pc' := 1) (x := 115) kc_32_0 rfl rfl ?_
                      refine xi_iconst (pc' := 2) (v := 0) kc_32_1 rfl rfl ?_
                      refine xi_putfield (pc' := 5) (fs' := [.int 0, .int u5, .ref 116, .ref 117, .ref 118, .ref 119, .ref 120, .ref 121, .ref 122, .ref 123, .ref 124, .ref 125, .ref 126, .ref 127, .ref 128, .ref 129, .int u6, .ref 130, .int u7, .ref 131, .ref 132, .ref 133, .ref 134, .int u1, .ref 135, .ref 136, .ref 137, .ref 138, .ref 139, .ref 140, .ref 141, .ref 142, .int u9, .int u10, .int u11, .ref 143, .ref 144, .ref 145, .ref 146, .ref 147, .ref 148, .int u12, .ref 149, .ref 150, .ref 151, .int u13, .ref 152, .ref 153, .ref 154, .ref 155, .ref 156, .ref 157, .ref 158, .ref 159, .int u14, .ref 160, .int u15, .ref 161, .ref 162, .ref 163, .ref 164, .int u16, .ref 165, .ref 166]) kc_32_2 rfl rfl rfl A603 rfl rfl rfl (Nat.le_of_ble_eq_true rfl) rfl (fun hh605 eh604 => ?_)
                      have K606 := xk_pf (k := 0) (v := 0) K601 (xk_wf (by decide +kernel)) xD_115 A603 rfl (by first | omega | decide) (by first | omega | decide) eh604 rfl
                      have KR607 := xk_pf (k := 0) (v := 0) KR602 (xk_wf (by decide +kernel)) xD_115 A603 rfl (by first | omega | decide) (by first | omega | decide) eh604 rfl
                      refine xi_iload_n (pc' := 6) (x := a23) kc_32_5 rfl rfl ?_
                      refine xi_iconst (pc' := 7) (v := 0) kc_32_6 rfl rfl ?_
                      refine xi_iconst (pc' := 8) (v := 3) kc_32_7 rfl rfl ?_
                      refine xi_static (mj := 11) (as := [.int a23, .int 0, .int 3]) (st1 := []) (lv0 := [(0, .int a23), (1, .int 0), (2, .int 3)]) kc_32_8 rfl rfl (Nat.le_of_ble_eq_true rfl) rfl rfl (Nat.le_of_ble_eq_true rfl) (hJ _ _ _ _ (by decide)) (xm_le ml_11 rfl) rfl ?_
                      refine xi_iload_n (pc' := 1) (x := a23) kc_11_0 rfl rfl ?_
                      refine xi_iload_n (pc' := 2) (x := 0) kc_11_1 rfl rfl ?_
                      refine xi_cmf (pc' := 5) kc_11_2 rfl (xc_lt_f (X := a23.toInt) (Y := 0) rfl (by decide) (by omega)) ?_
                      refine xi_iload_n (pc' := 6) (x := a23) kc_11_5 rfl rfl ?_
                      refine xi_iload_n (pc' := 7) (x := 3) kc_11_6 rfl rfl ?_
                      refine xi_cmf (pc' := 10) kc_11_7 rfl (xc_gt_f (X := a23.toInt) (Y := 3) rfl (by decide) (by omega)) ?_
                      refine xi_iconst (pc' := 11) (v := 1) kc_11_10 rfl rfl ?_
                      refine xi_goto (pc' := 15) kc_11_11 rfl ?_
                      refine xi_ireturn kc_11_15 mr_11 rfl ?_
                      show xw J ov 99 32 (11, [(0, .ref 115), (1, .int a23), (2, .int a25), (3, .int a27), (4, .int a29)], [.int 1], hh605) _
                      refine xi_ift (pc' := 21) kc_32_11 rfl rfl ?_
                      refine xi_iload_n (pc' := 22) (x := a23) kc_32_21 rfl rfl ?_
                      refine xi_iconst (pc' := 23) (v := 3) kc_32_22 rfl rfl ?_
                      refine xi_cmt (pc' := 36) kc_32_23 rfl (xc_ne_t (X := a23.toInt) (Y := 3) rfl (by decide) (by omega)) ?_
                      refine xi_aload_n (pc' := 37) (x := 115) kc_32_36 rfl rfl ?_
                      refine xi_iload_n (pc' := 38) (x := a25) kc_32_37 rfl rfl ?_
                      refine xi_virtual (mj := 31) (as := [.int a25]) (st1 := []) (lv0 := [(0, .ref 115), (1, .int a25)]) kc_32_38 rfl rfl rfl rfl rfl eh604.1 (Nat.le_of_ble_eq_true rfl) (hJ _ _ _ _ (by decide)) (xm_le ml_31 rfl) rfl ?_
                      refine xi_iload_n (pc' := 1) (x := a25) kc_31_0 rfl rfl ?_
                      refine xi_static (mj := 24) (as := [.int a25]) (st1 := []) (lv0 := [(0, .int a25)]) kc_31_1 rfl rfl (Nat.le_of_ble_eq_true rfl) rfl rfl (Nat.le_of_ble_eq_true rfl) (hJ _ _ _ _ (by decide)) (xm_le ml_24 rfl) rfl ?_
                      refine xi_iload_n (pc' := 1) (x := a25) kc_24_0 rfl rfl ?_
                      refine xi_iconst (pc' := 2) (v := 0) kc_24_1 rfl rfl ?_
                      refine xi_bipush (pc' := 4) (v := 11) kc_24_2 rfl rfl ?_
                      refine xi_static (mj := 11) (as := [.int a25, .int 0, .int 11]) (st1 := []) (lv0 := [(0, .int a25), (1, .int 0), (2, .int 11)]) kc_24_4 rfl rfl (Nat.le_of_ble_eq_true rfl) rfl rfl (Nat.le_of_ble_eq_true rfl) (hJ _ _ _ _ (by decide)) (xm_le ml_11 rfl) rfl ?_
                      refine xi_iload_n (pc' := 1) (x := a25) kc_11_0 rfl rfl ?_
                      refine xi_iload_n (pc' := 2) (x := 0) kc_11_1 rfl rfl ?_
                      refine xi_cmf (pc' := 5) kc_11_2 rfl (xc_lt_f (X := a25.toInt) (Y := 0) rfl (by decide) (by omega)) ?_
                      refine xi_iload_n (pc' := 6) (x := a25) kc_11_5 rfl rfl ?_
                      refine xi_iload_n (pc' := 7) (x := 11) kc_11_6 rfl rfl ?_
                      refine xi_cmf (pc' := 10) kc_11_7 rfl (xc_gt_f (X := a25.toInt) (Y := 11) rfl (by decide) (by omega)) ?_
                      refine xi_iconst (pc' := 11) (v := 1) kc_11_10 rfl rfl ?_
                      refine xi_goto (pc' := 15) kc_11_11 rfl ?_
                      refine xi_ireturn kc_11_15 mr_11 rfl ?_
                      show xw J ov 97 24 (7, [(0, .int a25)], [.int 1], hh605) _
                      refine xi_ireturn kc_24_7 mr_24 rfl ?_
                      show xw J ov 98 31 (4, [(0, .ref 115), (1, .int a25)], [.int 1], hh605) _
                      refine xi_iff (pc' := 7) kc_31_4 rfl rfl ?_
                      refine xi_aload_n (pc' := 8) (x := 115) kc_31_7 rfl rfl ?_
                      refine xi_getfield (pc' := 11) (v := .ref 125) kc_31_8 rfl rfl rfl eh604.1 rfl ?_
                      refine xi_iload_n (pc' := 12) (x := a25) kc_31_11 rfl rfl ?_
                      have A608 := ((eh604.2.1 125 (by decide)).trans ((eh600.2.1 125 (by decide)).trans A338))
                      refine xi_iaload (pc' := 13) (v := u332) kc_31_12 rfl A608 (by decide) rfl (xi_in (by omega) (by rw [hy338]; omega)) HG339 ?_
                      refine xi_iff (pc' := 16) kc_31_13 rfl (xc_lt_f (X := u332.toInt) (Y := 0) rfl (by decide) (by omega)) ?_
                      refine xi_iconst (pc' := 17) (v := 1) kc_31_16 rfl rfl ?_
                      refine xi_goto (pc' := 21) kc_31_17 rfl ?_
                      refine xi_ireturn kc_31_21 mr_31 rfl ?_
                      show xw J ov 99 32 (41, [(0, .ref 115), (1, .int a23), (2, .int a25), (3, .int a27), (4, .int a29)], [.int 1], hh605) _
                      refine xi_iff (pc' := 44) kc_32_41 rfl rfl ?_
                      refine xi_iload_n (pc' := 45) (x := a23) kc_32_44 rfl rfl ?_
                      refine xi_ift (pc' := 63) kc_32_45 rfl (xc_ne_t (X := a23.toInt) (Y := 0) rfl (by decide) (by omega)) ?_
                      refine xi_iload_n (pc' := 64) (x := a27) kc_32_63 rfl rfl ?_
                      refine xi_iconst (pc' := 65) (v := 1) kc_32_64 rfl rfl ?_
                      refine xi_cmf (pc' := 68) kc_32_65 rfl (xc_lt_f (X := a27.toInt) (Y := 1) rfl (by decide) (by omega)) ?_
                      refine xi_iload (pc' := 70) (x := a29) kc_32_68 rfl rfl ?_
                      refine xi_ift (pc' := 80) kc_32_70 rfl (xc_ge_t (X := a29.toInt) (Y := 0) rfl (by decide) (by omega)) ?_
                      refine xi_iload_n (pc' := 81) (x := a27) kc_32_80 rfl rfl ?_
                      refine xi_bipush (pc' := 83) (v := 99) kc_32_81 rfl rfl ?_
                      refine xi_cmt (pc' := 103) kc_32_83 rfl (xc_gt_t (X := a27.toInt) (Y := 99) rfl (by decide) (by omega)) ?_
                      refine xi_aload_n (pc' := 104) (x := 115) kc_32_103 rfl rfl ?_
                      refine xi_bipush (pc' := 106) (v := (-6)) kc_32_104 rfl rfl ?_
                      refine xi_virtual (mj := 12) (as := [.int (-6)]) (st1 := []) (lv0 := [(0, .ref 115), (1, .int (-6))]) kc_32_106 rfl rfl rfl rfl rfl eh604.1 (Nat.le_of_ble_eq_true rfl) (hJ _ _ _ _ (by decide)) (xm_le ml_12 rfl) rfl ?_
                      refine xi_aload_n (pc' := 1) (x := 115) kc_12_0 rfl rfl ?_
                      refine xi_getfield (pc' := 4) (v := .ref 140) kc_12_1 rfl rfl rfl eh604.1 rfl ?_
                      refine xi_iload_n (pc' := 5) (x := (-6)) kc_12_4 rfl rfl ?_
                      refine xi_ineg (pc' := 6) (v := 6) kc_12_5 rfl rfl ?_
                      refine xi_dup2 (pc' := 7) kc_12_6 rfl ⟨rfl, rfl⟩ ?_
                      obtain ⟨y609, A609, hy609, ry609⟩ := xk_arr K.1 xD_140
                      obtain ⟨v610, ev610, bv610, dv610⟩ := xj_get hy609 ry609 (i := 6) (by decide) (by decide)
                      have A611 := ((eh604.2.1 140 (by decide)).trans ((eh600.2.1 140 (by decide)).trans A609))
                      refine xi_iaload (pc' := 8) (v := v610) kc_12_7 rfl A611 (by decide) rfl (xi_in (by decide) (by rw [hy609]; decide)) ev610 ?_
                      refine xi_iconst (pc' := 9) (v := 1) kc_12_8 rfl rfl ?_
                      obtain ⟨v612, ev612⟩ : ∃ q : Int32, (v610 : Int32) + 1 = q := ⟨_, rfl⟩
                      have rv612 := xc_rng v612
                      refine xi_iadd (pc' := 10) (v := v612) kc_12_9 rfl ev612 ?_
                      obtain ⟨y613, s613, hy613, ry613⟩ := xj_set (v := v612) hy609 ry609 6 (by first | omega | decide) (by first | omega | decide)
                      refine xi_iastore (pc' := 11) (x' := y613) kc_12_10 rfl A611 rfl (xi_in (by decide) (by rw [hy609]; decide)) s613 (fun hh613 eh613 => ?_)
                      have K614 := xk_pa K606 (xk_wa (by decide +kernel)) xD_140 hy613 ry613 eh613
                      have KR615 := xk_pa KR607 (xk_wa (by decide +kernel)) xD_140 hy613 ry613 eh613
                      refine xi_iload_n (pc' := 12) (x := (-6)) kc_12_11 rfl rfl ?_
                      refine xi_ireturn kc_12_12 mr_12 rfl ?_
                      show xw J ov 99 32 (109, [(0, .ref 115), (1, .int a23), (2, .int a25), (3, .int a27), (4, .int a29)], [.int (-6)], hh613) _
                      refine xi_ireturn kc_32_109 mr_32 rfl ?_
                      show xw J ov 100 195 (708, [(4, .int x4), (3, .ref 167), (2, .ref 115), (1, .ref 0), (0, .ref 1000000)], [.int (-6)], hh613) _
                      refine xi_pop (pc' := 709) kc_195_708 rfl rfl ?_
                      refine xi_goto (pc' := 1501) kc_195_709 rfl ?_
                      obtain ⟨v616, ev616⟩ : ∃ q : Int32, x4 + 6 = q := ⟨_, rfl⟩
                      have zv616 : v616.toInt = (x4.toInt + 6) := by rw [← ev616]; exact (xz_add (X := x4.toInt) (Y := 6) rfl (by decide) (by omega) (by omega)).trans (by omega)
                      refine xi_iinc (pc' := 1504) (x := x4) (v := v616) (lv' := [(4, .int v616), (3, .ref 167), (2, .ref 115), (1, .ref 0), (0, .ref 1000000)]) kc_195_1501 rfl rfl ev616 rfl (xm_lt ml_195 rfl) ?_
                      refine xi_goto (pc' := 23) kc_195_1504 rfl ?_
                      exact kk v616 hh613 (by omega) K614 (xI_kept I KR615.2.1)
                    · refine xi_cmf (pc' := 55) kc_116_52 rfl (xc_gt_f (X := a27.toInt) (Y := 99) rfl (by decide) (by omega)) ?_
                      refine xi_iload (pc' := 57) (x := a29) kc_116_55 rfl rfl ?_
                      refine xi_sipush (pc' := 60) (v := 600) kc_116_57 rfl rfl ?_
                      by_cases c617 : 600 < a29.toInt
                      · refine xi_cmt (pc' := 75) kc_116_60 rfl (xc_gt_t (X := a29.toInt) (Y := 600) rfl (by decide) (by omega)) ?_
                        refine xi_aload_n (pc' := 76) (x := 0) kc_116_75 rfl rfl ?_
                        refine xi_bipush (pc' := 78) (v := (-6)) kc_116_76 rfl rfl ?_
                        refine xi_virtual (mj := 90) (as := [.int (-6)]) (st1 := []) (lv0 := [(0, .ref 0), (1, .int (-6))]) kc_116_78 rfl rfl rfl rfl rfl A32 (Nat.le_of_ble_eq_true rfl) (hJ _ _ _ _ (by decide)) (xm_le ml_90 rfl) rfl ?_
                        refine xi_iload_n (pc' := 1) (x := (-6)) kc_90_0 rfl rfl ?_
                        refine xi_ineg (pc' := 2) (v := 6) kc_90_1 rfl rfl ?_
                        refine xi_istore_n (pc' := 3) (lv' := [(2, .int 6), (0, .ref 0), (1, .int (-6))]) kc_90_2 rfl rfl (xm_lt ml_90 rfl) ?_
                        refine xi_iload_n (pc' := 4) (x := 6) kc_90_3 rfl rfl ?_
                        refine xi_iff (pc' := 7) kc_90_4 rfl rfl ?_
                        refine xi_iload_n (pc' := 8) (x := 6) kc_90_7 rfl rfl ?_
                        refine xi_aload_n (pc' := 9) (x := 0) kc_90_8 rfl rfl ?_
                        refine xi_getfield (pc' := 12) (v := .ref 94) kc_90_9 rfl rfl rfl A32 rfl ?_
                        obtain ⟨y618, A618, hy618, ry618⟩ := xk_arr K.1 xD_94
                        refine xi_arraylength (pc' := 13) (n := 7) (v := 7) kc_90_12 rfl (xl_lenI (by decide) (by decide) A618 hy618) rfl ?_
                        refine xi_cmf (pc' := 16) kc_90_13 rfl rfl ?_
                        refine xi_aload_n (pc' := 17) (x := 0) kc_90_16 rfl rfl ?_
                        refine xi_getfield (pc' := 20) (v := .ref 94) kc_90_17 rfl rfl rfl A32 rfl ?_
                        refine xi_iload_n (pc' := 21) (x := 6) kc_90_20 rfl rfl ?_
                        refine xi_dup2 (pc' := 22) kc_90_21 rfl ⟨rfl, rfl⟩ ?_
                        obtain ⟨v619, ev619, bv619, dv619⟩ := xj_get hy618 ry618 (i := 6) (by decide) (by decide)
                        refine xi_iaload (pc' := 23) (v := v619) kc_90_22 rfl A618 (by decide) rfl (xi_in (by decide) (by rw [hy618]; decide)) ev619 ?_
                        refine xi_iconst (pc' := 24) (v := 1) kc_90_23 rfl rfl ?_
                        obtain ⟨v620, ev620⟩ : ∃ q : Int32, (v619 : Int32) + 1 = q := ⟨_, rfl⟩
                        have rv620 := xc_rng v620
                        refine xi_iadd (pc' := 25) (v := v620) kc_90_24 rfl ev620 ?_
                        obtain ⟨y621, s621, hy621, ry621⟩ := xj_set (v := v620) hy618 ry618 6 (by first | omega | decide) (by first | omega | decide)
                        refine xi_iastore (pc' := 26) (x' := y621) kc_90_25 rfl A618 rfl (xi_in (by decide) (by rw [hy618]; decide)) s621 (fun hh621 eh621 => ?_)
                        have K622 := xk_pa K (xk_wa (by decide +kernel)) xD_94 hy621 ry621 eh621
                        have KR623 := xk_pa KR (xk_wa (by decide +kernel)) xD_94 hy621 ry621 eh621
                        refine xi_iload_n (pc' := 27) (x := (-6)) kc_90_26 rfl rfl ?_
                        refine xi_ireturn kc_90_27 mr_90 rfl ?_
                        show xw J ov 99 116 (81, [(0, .ref 0), (1, .int a23), (2, .int a25), (3, .int a27), (4, .int a29)], [.int (-6)], hh621) _
                        refine xi_ireturn kc_116_81 mr_116 rfl ?_
                        show xw J ov 100 195 (679, [(4, .int x4), (3, .ref 167), (2, .ref 115), (1, .ref 0), (0, .ref 1000000)], [.int (-6)], hh621) _
                        refine xi_pop (pc' := 680) kc_195_679 rfl rfl ?_
                        refine xi_aload_n (pc' := 681) (x := 115) kc_195_680 rfl rfl ?_
                        refine xi_aload_n (pc' := 682) (x := 1000000) kc_195_681 rfl rfl ?_
                        refine xi_iload (pc' := 684) (x := x4) kc_195_682 rfl rfl ?_
                        refine xi_iconst (pc' := 685) (v := 1) kc_195_684 rfl rfl ?_
                        refine xi_iadd (pc' := 686) (v := v22) kc_195_685 rfl ev22 ?_
                        refine xi_ialoadO (pc' := 687) (v := a23) kc_195_686 rfl (by decide) hov0 (xi_in (by omega) (by omega)) ea23 ?_
                        refine xi_aload_n (pc' := 688) (x := 1000000) kc_195_687 rfl rfl ?_
                        refine xi_iload (pc' := 690) (x := x4) kc_195_688 rfl rfl ?_
                        refine xi_iconst (pc' := 691) (v := 2) kc_195_690 rfl rfl ?_
                        refine xi_iadd (pc' := 692) (v := v24) kc_195_691 rfl ev24 ?_
                        refine xi_ialoadO (pc' := 693) (v := a25) kc_195_692 rfl (by decide) hov0 (xi_in (by omega) (by omega)) ea25 ?_
                        refine xi_aload_n (pc' := 694) (x := 1000000) kc_195_693 rfl rfl ?_
                        refine xi_iload (pc' := 696) (x := x4) kc_195_694 rfl rfl ?_
                        refine xi_iconst (pc' := 697) (v := 3) kc_195_696 rfl rfl ?_
                        refine xi_iadd (pc' := 698) (v := v26) kc_195_697 rfl ev26 ?_
                        refine xi_ialoadO (pc' := 699) (v := a27) kc_195_698 rfl (by decide) hov0 (xi_in (by omega) (by omega)) ea27 ?_
                        refine xi_aload_n (pc' := 700) (x := 1000000) kc_195_699 rfl rfl ?_
                        refine xi_iload (pc' := 702) (x := x4) kc_195_700 rfl rfl ?_
                        refine xi_iconst (pc' := 703) (v := 4) kc_195_702 rfl rfl ?_
                        refine xi_iadd (pc' := 704) (v := v28) kc_195_703 rfl ev28 ?_
                        refine xi_ialoadO (pc' := 705) (v := a29) kc_195_704 rfl (by decide) hov0 (xi_in (by omega) (by omega)) ea29 ?_
                        have A624 := ((eh621.2.1 115 (by decide)).trans A17)
                        refine xi_virtual (mj := 32) (as := [.int a23, .int a25, .int a27, .int a29]) (st1 := []) (lv0 := [(0, .ref 115), (1, .int a23), (2, .int a25), (3, .int a27), (4, .int a29)]) kc_195_705 rfl rfl rfl rfl rfl A624 (Nat.le_of_ble_eq_true rfl) (hJ _ _ _ _ (by decide)) (xm_le ml_32 rfl) rfl ?_
                        refine xi_aload_n (pc' := 1) (x := 115) kc_32_0 rfl rfl ?_
                        refine xi_iconst (pc' := 2) (v := 0) kc_32_1 rfl rfl ?_
                        refine xi_putfield (pc' := 5) (fs' := [.int 0, .int u5, .ref 116, .ref 117, .ref 118, .ref 119, .ref 120, .ref 121, .ref 122, .ref 123, .ref 124, .ref 125, .ref 126, .ref 127, .ref 128, .ref 129, .int u6, .ref 130, .int u7, .ref 131, .ref 132, .ref 133, .ref 134, .int u1, .ref 135, .ref 136, .ref 137, .ref 138, .ref 139, .ref 140, .ref 141, .ref 142, .int u9, .int u10, .int u11, .ref 143, .ref 144, .ref 145, .ref 146, .ref 147, .ref 148, .int u12, .ref 149, .ref 150, .ref 151, .int u13, .ref 152, .ref 153, .ref 154, .ref 155, .ref 156, .ref 157, .ref 158, .ref 159, .int u14, .ref 160, .int u15, .ref 161, .ref 162, .ref 163, .ref 164, .int u16, .ref 165, .ref 166]) kc_32_2 rfl rfl rfl A624 rfl rfl rfl (Nat.le_of_ble_eq_true rfl) rfl (fun hh626 eh625 => ?_)
                        have K627 := xk_pf (k := 0) (v := 0) K622 (xk_wf (by decide +kernel)) xD_115 A624 rfl (by first | omega | decide) (by first | omega | decide) eh625 rfl
                        have KR628 := xk_pf (k := 0) (v := 0) KR623 (xk_wf (by decide +kernel)) xD_115 A624 rfl (by first | omega | decide) (by first | omega | decide) eh625 rfl
                        refine xi_iload_n (pc' := 6) (x := a23) kc_32_5 rfl rfl ?_
                        refine xi_iconst (pc' := 7) (v := 0) kc_32_6 rfl rfl ?_
                        refine xi_iconst (pc' := 8) (v := 3) kc_32_7 rfl rfl ?_
                        refine xi_static (mj := 11) (as := [.int a23, .int 0, .int 3]) (st1 := []) (lv0 := [(0, .int a23), (1, .int 0), (2, .int 3)]) kc_32_8 rfl rfl (Nat.le_of_ble_eq_true rfl) rfl rfl (Nat.le_of_ble_eq_true rfl) (hJ _ _ _ _ (by decide)) (xm_le ml_11 rfl) rfl ?_
                        refine xi_iload_n (pc' := 1) (x := a23) kc_11_0 rfl rfl ?_
                        refine xi_iload_n (pc' := 2) (x := 0) kc_11_1 rfl rfl ?_
                        refine xi_cmf (pc' := 5) kc_11_2 rfl (xc_lt_f (X := a23.toInt) (Y := 0) rfl (by decide) (by omega)) ?_
                        refine xi_iload_n (pc' := 6) (x := a23) kc_11_5 rfl rfl ?_
                        refine xi_iload_n (pc' := 7) (x := 3) kc_11_6 rfl rfl ?_
                        refine xi_cmf (pc' := 10) kc_11_7 rfl (xc_gt_f (X := a23.toInt) (Y := 3) rfl (by decide) (by omega)) ?_
                        refine xi_iconst (pc' := 11) (v := 1) kc_11_10 rfl rfl ?_
                        refine xi_goto (pc' := 15) kc_11_11 rfl ?_
                        refine xi_ireturn kc_11_15 mr_11 rfl ?_
                        show xw J ov 99 32 (11, [(0, .ref 115), (1, .int a23), (2, .int a25), (3, .int a27), (4, .int a29)], [.int 1], hh626) _
                        refine xi_ift (pc' := 21) kc_32_11 rfl rfl ?_
                        refine xi_iload_n (pc' := 22) (x := a23) kc_32_21 rfl rfl ?_
                        refine xi_iconst (pc' := 23) (v := 3) kc_32_22 rfl rfl ?_
                        refine xi_cmt (pc' := 36) kc_32_23 rfl (xc_ne_t (X := a23.toInt) (Y := 3) rfl (by decide) (by omega)) ?_
                        refine xi_aload_n (pc' := 37) (x := 115) kc_32_36 rfl rfl ?_
                        refine xi_iload_n (pc' := 38) (x := a25) kc_32_37 rfl rfl ?_
                        refine xi_virtual (mj := 31) (as := [.int a25]) (st1 := []) (lv0 := [(0, .ref 115), (1, .int a25)]) kc_32_38 rfl rfl rfl rfl rfl eh625.1 (Nat.le_of_ble_eq_true rfl) (hJ _ _ _ _ (by decide)) (xm_le ml_31 rfl) rfl ?_
                        refine xi_iload_n (pc' := 1) (x := a25) kc_31_0 rfl rfl ?_
                        refine xi_static (mj := 24) (as := [.int a25]) (st1 := []) (lv0 := [(0, .int a25)]) kc_31_1 rfl rfl (Nat.le_of_ble_eq_true rfl) rfl rfl (Nat.le_of_ble_eq_true rfl) (hJ _ _ _ _ (by decide)) (xm_le ml_24 rfl) rfl ?_
                        refine xi_iload_n (pc' := 1) (x := a25) kc_24_0 rfl rfl ?_
                        refine xi_iconst (pc' := 2) (v := 0) kc_24_1 rfl rfl ?_
                        refine xi_bipush (pc' := 4) (v := 11) kc_24_2 rfl rfl ?_
                        refine xi_static (mj := 11) (as := [.int a25, .int 0, .int 11]) (st1 := []) (lv0 := [(0, .int a25), (1, .int 0), (2, .int 11)]) kc_24_4 rfl rfl (Nat.le_of_ble_eq_true rfl) rfl rfl (Nat.le_of_ble_eq_true rfl) (hJ _ _ _ _ (by decide)) (xm_le ml_11 rfl) rfl ?_
                        refine xi_iload_n (pc' := 1) (x := a25) kc_11_0 rfl rfl ?_
                        refine xi_iload_n (pc' := 2) (x := 0) kc_11_1 rfl rfl ?_
                        refine xi_cmf (pc' := 5) kc_11_2 rfl (xc_lt_f (X := a25.toInt) (Y := 0) rfl (by decide) (by omega)) ?_
                        refine xi_iload_n (pc' := 6) (x := a25) kc_11_5 rfl rfl ?_
                        refine xi_iload_n (pc' := 7) (x := 11) kc_11_6 rfl rfl ?_
                        refine xi_cmf (pc' := 10) kc_11_7 rfl (xc_gt_f (X := a25.toInt) (Y := 11) rfl (by decide) (by omega)) ?_
                        refine xi_iconst (pc' := 11) (v := 1) kc_11_10 rfl rfl ?_
                        refine xi_goto (pc' := 15) kc_11_11 rfl ?_
                        refine xi_ireturn kc_11_15 mr_11 rfl ?_
                        show xw J ov 97 24 (7, [(0, .int a25)], [.int 1], hh626) _
                        refine xi_ireturn kc_24_7 mr_24 rfl ?_
                        show xw J ov 98 31 (4, [(0, .ref 115), (1, .int a25)], [.int 1], hh626) _
                        refine xi_iff (pc' := 7) kc_31_4 rfl rfl ?_
                        refine xi_aload_n (pc' := 8) (x := 115) kc_31_7 rfl rfl ?_
                        refine xi_getfield (pc' := 11) (v := .ref 125) kc_31_8 rfl rfl rfl eh625.1 rfl ?_
                        refine xi_iload_n (pc' := 12) (x := a25) kc_31_11 rfl rfl ?_
                        have A629 := ((eh625.2.1 125 (by decide)).trans ((eh621.2.1 125 (by decide)).trans A338))
                        refine xi_iaload (pc' := 13) (v := u332) kc_31_12 rfl A629 (by decide) rfl (xi_in (by omega) (by rw [hy338]; omega)) HG339 ?_
                        refine xi_iff (pc' := 16) kc_31_13 rfl (xc_lt_f (X := u332.toInt) (Y := 0) rfl (by decide) (by omega)) ?_
                        refine xi_iconst (pc' := 17) (v := 1) kc_31_16 rfl rfl ?_
                        refine xi_goto (pc' := 21) kc_31_17 rfl ?_
                        refine xi_ireturn kc_31_21 mr_31 rfl ?_
                        show xw J ov 99 32 (41, [(0, .ref 115), (1, .int a23), (2, .int a25), (3, .int a27), (4, .int a29)], [.int 1], hh626) _
                        refine xi_iff (pc' := 44) kc_32_41 rfl rfl ?_
                        refine xi_iload_n (pc' := 45) (x := a23) kc_32_44 rfl rfl ?_
                        refine xi_ift (pc' := 63) kc_32_45 rfl (xc_ne_t (X := a23.toInt) (Y := 0) rfl (by decide) (by omega)) ?_
                        refine xi_iload_n (pc' := 64) (x := a27) kc_32_63 rfl rfl ?_
                        refine xi_iconst (pc' := 65) (v := 1) kc_32_64 rfl rfl ?_
                        refine xi_cmf (pc' := 68) kc_32_65 rfl (xc_lt_f (X := a27.toInt) (Y := 1) rfl (by decide) (by omega)) ?_
                        refine xi_iload (pc' := 70) (x := a29) kc_32_68 rfl rfl ?_
                        refine xi_ift (pc' := 80) kc_32_70 rfl (xc_ge_t (X := a29.toInt) (Y := 0) rfl (by decide) (by omega)) ?_
                        refine xi_iload_n (pc' := 81) (x := a27) kc_32_80 rfl rfl ?_
                        refine xi_bipush (pc' := 83) (v := 99) kc_32_81 rfl rfl ?_
                        refine xi_cmf (pc' := 86) kc_32_83 rfl (xc_gt_f (X := a27.toInt) (Y := 99) rfl (by decide) (by omega)) ?_
                        refine xi_iload (pc' := 88) (x := a29) kc_32_86 rfl rfl ?_
                        refine xi_sipush (pc' := 91) (v := 600) kc_32_88 rfl rfl ?_
                        refine xi_cmt (pc' := 103) kc_32_91 rfl (xc_gt_t (X := a29.toInt) (Y := 600) rfl (by decide) (by omega)) ?_
                        refine xi_aload_n (pc' := 104) (x := 115) kc_32_103 rfl rfl ?_
                        refine xi_bipush (pc' := 106) (v := (-6)) kc_32_104 rfl rfl ?_
                        refine xi_virtual (mj := 12) (as := [.int (-6)]) (st1 := []) (lv0 := [(0, .ref 115), (1, .int (-6))]) kc_32_106 rfl rfl rfl rfl rfl eh625.1 (Nat.le_of_ble_eq_true rfl) (hJ _ _ _ _ (by decide)) (xm_le ml_12 rfl) rfl ?_
                        refine xi_aload_n (pc' := 1) (x := 115) kc_12_0 rfl rfl ?_
                        refine xi_getfield (pc' := 4) (v := .ref 140) kc_12_1 rfl rfl rfl eh625.1 rfl ?_
                        refine xi_iload_n (pc' := 5) (x := (-6)) kc_12_4 rfl rfl ?_
                        refine xi_ineg (pc' := 6) (v := 6) kc_12_5 rfl rfl ?_
                        refine xi_dup2 (pc' := 7) kc_12_6 rfl ⟨rfl, rfl⟩ ?_
                        obtain ⟨y630, A630, hy630, ry630⟩ := xk_arr K.1 xD_140
                        obtain ⟨v631, ev631, bv631, dv631⟩ := xj_get hy630 ry630 (i := 6) (by decide) (by decide)
                        have A632 := ((eh625.2.1 140 (by decide)).trans ((eh621.2.1 140 (by decide)).trans A630))
                        refine xi_iaload (pc' := 8) (v := v631) kc_12_7 rfl A632 (by decide) rfl (xi_in (by decide) (by rw [hy630]; decide)) ev631 ?_
                        refine xi_iconst (pc' := 9) (v := 1) kc_12_8 rfl rfl ?_
                        obtain ⟨v633, ev633⟩ : ∃ q : Int32, (v631 : Int32) + 1 = q := ⟨_, rfl⟩
                        have rv633 := xc_rng v633
                        refine xi_iadd (pc' := 10) (v := v633) kc_12_9 rfl ev633 ?_
                        obtain ⟨y634, s634, hy634, ry634⟩ := xj_set (v := v633) hy630 ry630 6 (by first | omega | decide) (by first | omega | decide)
                        refine xi_iastore (pc' := 11) (x' := y634) kc_12_10 rfl A632 rfl (xi_in (by decide) (by rw [hy630]; decide)) s634 (fun hh634 eh634 => ?_)
                        have K635 := xk_pa K627 (xk_wa (by decide +kernel)) xD_140 hy634 ry634 eh634
                        have KR636 := xk_pa KR628 (xk_wa (by decide +kernel)) xD_140 hy634 ry634 eh634
                        refine xi_iload_n (pc' := 12) (x := (-6)) kc_12_11 rfl rfl ?_
                        refine xi_ireturn kc_12_12 mr_12 rfl ?_
                        show xw J ov 99 32 (109, [(0, .ref 115), (1, .int a23), (2, .int a25), (3, .int a27), (4, .int a29)], [.int (-6)], hh634) _
                        refine xi_ireturn kc_32_109 mr_32 rfl ?_
                        show xw J ov 100 195 (708, [(4, .int x4), (3, .ref 167), (2, .ref 115), (1, .ref 0), (0, .ref 1000000)], [.int (-6)], hh634) _
                        refine xi_pop (pc' := 709) kc_195_708 rfl rfl ?_
                        refine xi_goto (pc' := 1501) kc_195_709 rfl ?_
                        obtain ⟨v637, ev637⟩ : ∃ q : Int32, x4 + 6 = q := ⟨_, rfl⟩
                        have zv637 : v637.toInt = (x4.toInt + 6) := by rw [← ev637]; exact (xz_add (X := x4.toInt) (Y := 6) rfl (by decide) (by omega) (by omega)).trans (by omega)
                        refine xi_iinc (pc' := 1504) (x := x4) (v := v637) (lv' := [(4, .int v637), (3, .ref 167), (2, .ref 115), (1, .ref 0), (0, .ref 1000000)]) kc_195_1501 rfl rfl ev637 rfl (xm_lt ml_195 rfl) ?_
                        refine xi_goto (pc' := 23) kc_195_1504 rfl ?_
                        exact kk v637 hh634 (by omega) K635 (xI_kept I KR636.2.1)
                      · refine xi_cmf (pc' := 63) kc_116_60 rfl (xc_gt_f (X := a29.toInt) (Y := 600) rfl (by decide) (by omega)) ?_
                        refine xi_aload_n (pc' := 64) (x := 0) kc_116_63 rfl rfl ?_
                        refine xi_getfield (pc' := 67) (v := .ref 1) kc_116_64 rfl rfl rfl A32 rfl ?_
                        refine xi_getfield (pc' := 70) (v := .int u1) kc_116_67 rfl rfl rfl A3 rfl ?_
                        refine xi_bipush (pc' := 72) (v := 10) kc_116_70 rfl rfl ?_
                        by_cases c638 : u1.toInt < 10
                        · refine xi_cmt (pc' := 82) kc_116_72 rfl (xc_lt_t (X := u1.toInt) (Y := 10) rfl (by decide) (by omega)) ?_
                          refine xi_aload_n (pc' := 83) (x := 0) kc_116_82 rfl rfl ?_
                          refine xi_getfield (pc' := 86) (v := .ref 1) kc_116_83 rfl rfl rfl A32 rfl ?_
                          refine xi_iload_n (pc' := 87) (x := a23) kc_116_86 rfl rfl ?_
                          refine xi_iload_n (pc' := 88) (x := a25) kc_116_87 rfl rfl ?_
                          refine xi_iload_n (pc' := 89) (x := a27) kc_116_88 rfl rfl ?_
                          refine xi_iload (pc' := 91) (x := a29) kc_116_89 rfl rfl ?_
                          refine xi_virtual (mj := 119) (as := [.int a23, .int a25, .int a27, .int a29]) (st1 := []) (lv0 := [(0, .ref 1), (1, .int a23), (2, .int a25), (3, .int a27), (4, .int a29)]) kc_116_91 rfl rfl rfl rfl rfl A3 (Nat.le_of_ble_eq_true rfl) (hJ _ _ _ _ (by decide)) (xm_le ml_119 rfl) rfl ?_
                          refine xi_aload_n (pc' := 1) (x := 1) kc_119_0 rfl rfl ?_
                          refine xi_getfield (pc' := 4) (v := .int u1) kc_119_1 rfl rfl rfl A3 rfl ?_
                          refine xi_bipush (pc' := 6) (v := 10) kc_119_4 rfl rfl ?_
                          refine xi_cmt (pc' := 12) kc_119_6 rfl (xc_lt_t (X := u1.toInt) (Y := 10) rfl (by decide) (by omega)) ?_
                          refine xi_aload_n (pc' := 13) (x := 1) kc_119_12 rfl rfl ?_
                          refine xi_getfield (pc' := 16) (v := .ref 4) kc_119_13 rfl rfl rfl A3 rfl ?_
                          refine xi_aload_n (pc' := 17) (x := 1) kc_119_16 rfl rfl ?_
                          refine xi_getfield (pc' := 20) (v := .int u1) kc_119_17 rfl rfl rfl A3 rfl ?_
                          have A639 := xk_ex K.1 xD_4
                          obtain ⟨pt640, ept640, mpt640⟩ := xR_4 (i := u1) (by omega) (by omega)
                          refine xj_aaload (pc' := 21) (b := pt640) kc_119_20 rfl A639 rfl (xi_in (n := 10) (by omega) (by omega)) ept640 ?_
                          refine xi_astore (pc' := 23) (lv' := [(5, .ref pt640), (0, .ref 1), (1, .int a23), (2, .int a25), (3, .int a27), (4, .int a29)]) kc_119_21 rfl rfl (xm_lt ml_119 rfl) ?_
                          refine xi_aload (pc' := 25) (x := pt640) kc_119_23 rfl rfl ?_
                          refine xi_iload_n (pc' := 26) (x := a23) kc_119_25 rfl rfl ?_
                          obtain ⟨u641, u642, u643, u644, bu641, bu642, bu643, bu644, A645⟩ := xg_cause K.1 mpt640
                          obtain ⟨y646, A646, hy646, ry646⟩ := xk_arr K.1 xD_135
                          have HG647 : y646.getD (Int32.toNatClampNeg u1) 0 = u641 := xGR_ld (Lo := [some 53, some 54, some 55, some 56, some 57, some 58, some 59, some 60, some 61, some 62]) I.2.2.2.2.2.2.2.2.2.2.2.2.2.2.2.2.2.2.1 rfl ept640 (by omega) (by show _ < ((10 : Nat) : Int); omega) A645 rfl A646
                          have bHG647 : 0 ≤ u641.toInt ∧ u641.toInt ≤ 3 := by rw [← HG647]; exact ry646 _ (xj_nat (n := 10) (by omega) (by omega))
                          obtain ⟨y648, A648, hy648, ry648⟩ := xk_arr K.1 xD_136
                          have HG649 : y648.getD (Int32.toNatClampNeg u1) 0 = u642 := xGR_ld (Lo := [some 53, some 54, some 55, some 56, some 57, some 58, some 59, some 60, some 61, some 62]) I.2.2.2.2.2.2.2.2.2.2.2.2.2.2.2.2.2.2.2.1 rfl ept640 (by omega) (by show _ < ((10 : Nat) : Int); omega) A645 rfl A648
                          have bHG649 : 0 ≤ u642.toInt ∧ u642.toInt ≤ 11 := by rw [← HG649]; exact ry648 _ (xj_nat (n := 10) (by omega) (by omega))
                          obtain ⟨y650, A650, hy650, ry650⟩ := xk_arr K.1 xD_137
                          have HG651 : y650.getD (Int32.toNatClampNeg u1) 0 = u643 := xGR_ld (Lo := [some 53, some 54, some 55, some 56, some 57, some 58, some 59, some 60, some 61, some 62]) I.2.2.2.2.2.2.2.2.2.2.2.2.2.2.2.2.2.2.2.2.1 rfl ept640 (by omega) (by show _ < ((10 : Nat) : Int); omega) A645 rfl A650
                          have bHG651 : 0 ≤ u643.toInt ∧ u643.toInt ≤ 99 := by rw [← HG651]; exact ry650 _ (xj_nat (n := 10) (by omega) (by omega))
                          obtain ⟨y652, A652, hy652, ry652⟩ := xk_arr K.1 xD_138
                          have HG653 : y652.getD (Int32.toNatClampNeg u1) 0 = u644 := xGR_ld (Lo := [some 53, some 54, some 55, some 56, some 57, some 58, some 59, some 60, some 61, some 62]) I.2.2.2.2.2.2.2.2.2.2.2.2.2.2.2.2.2.2.2.2.2.1 rfl ept640 (by omega) (by show _ < ((10 : Nat) : Int); omega) A645 rfl A652
                          have bHG653 : (-2147483648) ≤ u644.toInt ∧ u644.toInt ≤ 2147483647 := by rw [← HG653]; exact ry652 _ (xj_nat (n := 10) (by omega) (by omega))
                          refine xi_putfield (pc' := 29) (fs' := [.int a23, .int u642, .int u643, .int u644]) kc_119_26 rfl rfl rfl A645 rfl rfl rfl (Nat.le_of_ble_eq_true rfl) rfl (fun hh655 eh654 => ?_)
                          obtain ⟨ds656, Dds656, dds656_0, dds656_1, dds656_2, dds656_3⟩ := xGo_cause mpt640
                          have K657 := xk_pf (k := 0) (v := a23) K (xk_gf mpt640 (by decide +kernel)) Dds656 A645 dds656_0 (by first | omega | decide) (by first | omega | decide) eh654 rfl
                          refine xi_aload (pc' := 31) (x := pt640) kc_119_29 rfl rfl ?_
                          refine xi_iload_n (pc' := 32) (x := a25) kc_119_31 rfl rfl ?_
                          refine xi_putfield (pc' := 35) (fs' := [.int a23, .int a25, .int u643, .int u644]) kc_119_32 rfl rfl rfl eh654.1 rfl rfl rfl (Nat.le_of_ble_eq_true rfl) rfl (fun hh659 eh658 => ?_)
                          obtain ⟨ds660, Dds660, dds660_0, dds660_1, dds660_2, dds660_3⟩ := xGo_cause mpt640
                          have K661 := xk_pf (k := 1) (v := a25) K657 (xk_gf mpt640 (by decide +kernel)) Dds660 eh654.1 dds660_1 (by first | omega | decide) (by first | omega | decide) eh658 rfl
                          refine xi_aload (pc' := 37) (x := pt640) kc_119_35 rfl rfl ?_
                          refine xi_iload_n (pc' := 38) (x := a27) kc_119_37 rfl rfl ?_
                          refine xi_putfield (pc' := 41) (fs' := [.int a23, .int a25, .int a27, .int u644]) kc_119_38 rfl rfl rfl eh658.1 rfl rfl rfl (Nat.le_of_ble_eq_true rfl) rfl (fun hh663 eh662 => ?_)
                          obtain ⟨ds664, Dds664, dds664_0, dds664_1, dds664_2, dds664_3⟩ := xGo_cause mpt640
                          have K665 := xk_pf (k := 2) (v := a27) K661 (xk_gf mpt640 (by decide +kernel)) Dds664 eh658.1 dds664_2 (by first | omega | decide) (by first | omega | decide) eh662 rfl
                          refine xi_aload (pc' := 43) (x := pt640) kc_119_41 rfl rfl ?_
                          refine xi_iload (pc' := 45) (x := a29) kc_119_43 rfl rfl ?_
                          refine xi_putfield (pc' := 48) (fs' := [.int a23, .int a25, .int a27, .int a29]) kc_119_45 rfl rfl rfl eh662.1 rfl rfl rfl (Nat.le_of_ble_eq_true rfl) rfl (fun hh667 eh666 => ?_)
                          obtain ⟨ds668, Dds668, dds668_0, dds668_1, dds668_2, dds668_3⟩ := xGo_cause mpt640
                          have K669 := xk_pf (k := 3) (v := a29) K665 (xk_gf mpt640 (by decide +kernel)) Dds668 eh662.1 dds668_3 (by first | omega | decide) (by first | omega | decide) eh666 rfl
                          refine xi_aload_n (pc' := 49) (x := 1) kc_119_48 rfl rfl ?_
                          refine xi_dup (pc' := 50) kc_119_49 rfl rfl ?_
                          have A670 := ((eh666.2.1 1 (xk_nc mpt640 rfl)).trans ((eh662.2.1 1 (xk_nc mpt640 rfl)).trans ((eh658.2.1 1 (xk_nc mpt640 rfl)).trans ((eh654.2.1 1 (xk_nc mpt640 rfl)).trans A3))))
                          refine xi_getfield (pc' := 53) (v := .int u1) kc_119_50 rfl rfl rfl A670 rfl ?_
                          refine xi_iconst (pc' := 54) (v := 1) kc_119_53 rfl rfl ?_
                          obtain ⟨v671, ev671⟩ : ∃ q : Int32, u1 + 1 = q := ⟨_, rfl⟩
                          have zv671 : v671.toInt = (u1.toInt + 1) := by rw [← ev671]; exact (xz_add (X := u1.toInt) (Y := 1) rfl (by decide) (by omega) (by omega)).trans (by omega)
                          refine xi_iadd (pc' := 55) (v := v671) kc_119_54 rfl ev671 ?_
                          refine xi_putfield (pc' := 58) (fs' := [.ref 2, .ref 3, .ref 4, .ref 5, .ref 8, .int v671, .int u2]) kc_119_55 rfl rfl rfl A670 rfl rfl rfl (Nat.le_of_ble_eq_true rfl) rfl (fun hh673 eh672 => ?_)
                          have K674 := xk_pf (k := 5) (v := v671) K669 (xk_wf (by decide +kernel)) xD_1 A670 rfl (by first | omega | decide) (by first | omega | decide) eh672 rfl
                          refine xi_aload_n (pc' := 59) (x := 1) kc_119_58 rfl rfl ?_
                          refine xi_getfield (pc' := 62) (v := .int v671) kc_119_59 rfl rfl rfl eh672.1 rfl ?_
                          refine xi_iconst (pc' := 63) (v := 1) kc_119_62 rfl rfl ?_
                          obtain ⟨v675, ev675⟩ : ∃ q : Int32, v671 - 1 = q := ⟨_, rfl⟩
                          have zv675 : v675.toInt = u1.toInt := by rw [← ev675]; exact (xz_sub (X := (u1.toInt + 1)) (Y := 1) zv671 (by decide) (by omega) (by omega)).trans (by omega)
                          refine xi_isub (pc' := 64) (v := v675) kc_119_63 rfl ev675 ?_
                          refine xi_ireturn kc_119_64 mr_119 rfl ?_
                          show xw J ov 99 116 (94, [(0, .ref 0), (1, .int a23), (2, .int a25), (3, .int a27), (4, .int a29)], [.int v675], hh673) _
                          refine xi_ireturn kc_116_94 mr_116 rfl ?_
                          show xw J ov 100 195 (679, [(4, .int x4), (3, .ref 167), (2, .ref 115), (1, .ref 0), (0, .ref 1000000)], [.int v675], hh673) _
                          refine xi_pop (pc' := 680) kc_195_679 rfl rfl ?_
                          refine xi_aload_n (pc' := 681) (x := 115) kc_195_680 rfl rfl ?_
                          refine xi_aload_n (pc' := 682) (x := 1000000) kc_195_681 rfl rfl ?_
                          refine xi_iload (pc' := 684) (x := x4) kc_195_682 rfl rfl ?_
                          refine xi_iconst (pc' := 685) (v := 1) kc_195_684 rfl rfl ?_
                          refine xi_iadd (pc' := 686) (v := v22) kc_195_685 rfl ev22 ?_
                          refine xi_ialoadO (pc' := 687) (v := a23) kc_195_686 rfl (by decide) hov0 (xi_in (by omega) (by omega)) ea23 ?_
                          refine xi_aload_n (pc' := 688) (x := 1000000) kc_195_687 rfl rfl ?_
                          refine xi_iload (pc' := 690) (x := x4) kc_195_688 rfl rfl ?_
                          refine xi_iconst (pc' := 691) (v := 2) kc_195_690 rfl rfl ?_
                          refine xi_iadd (pc' := 692) (v := v24) kc_195_691 rfl ev24 ?_
                          refine xi_ialoadO (pc' := 693) (v := a25) kc_195_692 rfl (by decide) hov0 (xi_in (by omega) (by omega)) ea25 ?_
                          refine xi_aload_n (pc' := 694) (x := 1000000) kc_195_693 rfl rfl ?_
                          refine xi_iload (pc' := 696) (x := x4) kc_195_694 rfl rfl ?_
                          refine xi_iconst (pc' := 697) (v := 3) kc_195_696 rfl rfl ?_
                          refine xi_iadd (pc' := 698) (v := v26) kc_195_697 rfl ev26 ?_
                          refine xi_ialoadO (pc' := 699) (v := a27) kc_195_698 rfl (by decide) hov0 (xi_in (by omega) (by omega)) ea27 ?_
                          refine xi_aload_n (pc' := 700) (x := 1000000) kc_195_699 rfl rfl ?_
                          refine xi_iload (pc' := 702) (x := x4) kc_195_700 rfl rfl ?_
                          refine xi_iconst (pc' := 703) (v := 4) kc_195_702 rfl rfl ?_
                          refine xi_iadd (pc' := 704) (v := v28) kc_195_703 rfl ev28 ?_
                          refine xi_ialoadO (pc' := 705) (v := a29) kc_195_704 rfl (by decide) hov0 (xi_in (by omega) (by omega)) ea29 ?_
                          have A676 := ((eh672.2.1 115 (by decide)).trans ((eh666.2.1 115 (xk_nc mpt640 rfl)).trans ((eh662.2.1 115 (xk_nc mpt640 rfl)).trans ((eh658.2.1 115 (xk_nc mpt640 rfl)).trans ((eh654.2.1 115 (xk_nc mpt640 rfl)).trans A17)))))
                          refine xi_virtual (mj := 32) (as := [.int a23, .int a25, .int a27, .int a29]) (st1 := []) (lv0 := [(0, .ref 115), (1, .int a23), (2, .int a25), (3, .int a27), (4, .int a29)]) kc_195_705 rfl rfl rfl rfl rfl A676 (Nat.le_of_ble_eq_true rfl) (hJ _ _ _ _ (by decide)) (xm_le ml_32 rfl) rfl ?_
                          refine xi_aload_n (pc' := 1) (x := 115) kc_32_0 rfl rfl ?_
                          refine xi_iconst (pc' := 2) (v := 0) kc_32_1 rfl rfl ?_
                          refine xi_putfield (pc' := 5) (fs' := [.int 0, .int u5, .ref 116, .ref 117, .ref 118, .ref 119, .ref 120, .ref 121, .ref 122, .ref 123, .ref 124, .ref 125, .ref 126, .ref 127, .ref 128, .ref 129, .int u6, .ref 130, .int u7, .ref 131, .ref 132, .ref 133, .ref 134, .int u1, .ref 135, .ref 136, .ref 137, .ref 138, .ref 139, .ref 140, .ref 141, .ref 142, .int u9, .int u10, .int u11, .ref 143, .ref 144, .ref 145, .ref 146, .ref 147, .ref 148, .int u12, .ref 149, .ref 150, .ref 151, .int u13, .ref 152, .ref 153, .ref 154, .ref 155, .ref 156, .ref 157, .ref 158, .ref 159, .int u14, .ref 160, .int u15, .ref 161, .ref 162, .ref 163, .ref 164, .int u16, .ref 165, .ref 166]) kc_32_2 rfl rfl rfl A676 rfl rfl rfl (Nat.le_of_ble_eq_true rfl) rfl (fun hh678 eh677 => ?_)
                          have K679 := xk_pf (k := 0) (v := 0) K674 (xk_wf (by decide +kernel)) xD_115 A676 rfl (by first | omega | decide) (by first | omega | decide) eh677 rfl
                          refine xi_iload_n (pc' := 6) (x := a23) kc_32_5 rfl rfl ?_
                          refine xi_iconst (pc' := 7) (v := 0) kc_32_6 rfl rfl ?_
                          refine xi_iconst (pc' := 8) (v := 3) kc_32_7 rfl rfl ?_
                          refine xi_static (mj := 11) (as := [.int a23, .int 0, .int 3]) (st1 := []) (lv0 := [(0, .int a23), (1, .int 0), (2, .int 3)]) kc_32_8 rfl rfl (Nat.le_of_ble_eq_true rfl) rfl rfl (Nat.le_of_ble_eq_true rfl) (hJ _ _ _ _ (by decide)) (xm_le ml_11 rfl) rfl ?_
                          refine xi_iload_n (pc' := 1) (x := a23) kc_11_0 rfl rfl ?_
                          refine xi_iload_n (pc' := 2) (x := 0) kc_11_1 rfl rfl ?_
                          refine xi_cmf (pc' := 5) kc_11_2 rfl (xc_lt_f (X := a23.toInt) (Y := 0) rfl (by decide) (by omega)) ?_
                          refine xi_iload_n (pc' := 6) (x := a23) kc_11_5 rfl rfl ?_
                          refine xi_iload_n (pc' := 7) (x := 3) kc_11_6 rfl rfl ?_
                          refine xi_cmf (pc' := 10) kc_11_7 rfl (xc_gt_f (X := a23.toInt) (Y := 3) rfl (by decide) (by omega)) ?_
                          refine xi_iconst (pc' := 11) (v := 1) kc_11_10 rfl rfl ?_
                          refine xi_goto (pc' := 15) kc_11_11 rfl ?_
                          refine xi_ireturn kc_11_15 mr_11 rfl ?_
                          show xw J ov 99 32 (11, [(0, .ref 115), (1, .int a23), (2, .int a25), (3, .int a27), (4, .int a29)], [.int 1], hh678) _
                          refine xi_ift (pc' := 21) kc_32_11 rfl rfl ?_
                          refine xi_iload_n (pc' := 22) (x := a23) kc_32_21 rfl rfl ?_
                          refine xi_iconst (pc' := 23) (v := 3) kc_32_22 rfl rfl ?_
                          refine xi_cmt (pc' := 36) kc_32_23 rfl (xc_ne_t (X := a23.toInt) (Y := 3) rfl (by decide) (by omega)) ?_
                          refine xi_aload_n (pc' := 37) (x := 115) kc_32_36 rfl rfl ?_
                          refine xi_iload_n (pc' := 38) (x := a25) kc_32_37 rfl rfl ?_
                          refine xi_virtual (mj := 31) (as := [.int a25]) (st1 := []) (lv0 := [(0, .ref 115), (1, .int a25)]) kc_32_38 rfl rfl rfl rfl rfl eh677.1 (Nat.le_of_ble_eq_true rfl) (hJ _ _ _ _ (by decide)) (xm_le ml_31 rfl) rfl ?_
                          refine xi_iload_n (pc' := 1) (x := a25) kc_31_0 rfl rfl ?_
                          refine xi_static (mj := 24) (as := [.int a25]) (st1 := []) (lv0 := [(0, .int a25)]) kc_31_1 rfl rfl (Nat.le_of_ble_eq_true rfl) rfl rfl (Nat.le_of_ble_eq_true rfl) (hJ _ _ _ _ (by decide)) (xm_le ml_24 rfl) rfl ?_
                          refine xi_iload_n (pc' := 1) (x := a25) kc_24_0 rfl rfl ?_
                          refine xi_iconst (pc' := 2) (v := 0) kc_24_1 rfl rfl ?_
                          refine xi_bipush (pc' := 4) (v := 11) kc_24_2 rfl rfl ?_
                          refine xi_static (mj := 11) (as := [.int a25, .int 0, .int 11]) (st1 := []) (lv0 := [(0, .int a25), (1, .int 0), (2, .int 11)]) kc_24_4 rfl rfl (Nat.le_of_ble_eq_true rfl) rfl rfl (Nat.le_of_ble_eq_true rfl) (hJ _ _ _ _ (by decide)) (xm_le ml_11 rfl) rfl ?_
                          refine xi_iload_n (pc' := 1) (x := a25) kc_11_0 rfl rfl ?_
                          refine xi_iload_n (pc' := 2) (x := 0) kc_11_1 rfl rfl ?_
                          refine xi_cmf (pc' := 5) kc_11_2 rfl (xc_lt_f (X := a25.toInt) (Y := 0) rfl (by decide) (by omega)) ?_
                          refine xi_iload_n (pc' := 6) (x := a25) kc_11_5 rfl rfl ?_
                          refine xi_iload_n (pc' := 7) (x := 11) kc_11_6 rfl rfl ?_
                          refine xi_cmf (pc' := 10) kc_11_7 rfl (xc_gt_f (X := a25.toInt) (Y := 11) rfl (by decide) (by omega)) ?_
                          refine xi_iconst (pc' := 11) (v := 1) kc_11_10 rfl rfl ?_
                          refine xi_goto (pc' := 15) kc_11_11 rfl ?_
                          refine xi_ireturn kc_11_15 mr_11 rfl ?_
                          show xw J ov 97 24 (7, [(0, .int a25)], [.int 1], hh678) _
                          refine xi_ireturn kc_24_7 mr_24 rfl ?_
                          show xw J ov 98 31 (4, [(0, .ref 115), (1, .int a25)], [.int 1], hh678) _
                          refine xi_iff (pc' := 7) kc_31_4 rfl rfl ?_
                          refine xi_aload_n (pc' := 8) (x := 115) kc_31_7 rfl rfl ?_
                          refine xi_getfield (pc' := 11) (v := .ref 125) kc_31_8 rfl rfl rfl eh677.1 rfl ?_
                          refine xi_iload_n (pc' := 12) (x := a25) kc_31_11 rfl rfl ?_
                          have A680 := ((eh677.2.1 125 (by decide)).trans ((eh672.2.1 125 (by decide)).trans ((eh666.2.1 125 (xk_nc mpt640 rfl)).trans ((eh662.2.1 125 (xk_nc mpt640 rfl)).trans ((eh658.2.1 125 (xk_nc mpt640 rfl)).trans ((eh654.2.1 125 (xk_nc mpt640 rfl)).trans A338))))))
                          refine xi_iaload (pc' := 13) (v := u332) kc_31_12 rfl A680 (by decide) rfl (xi_in (by omega) (by rw [hy338]; omega)) HG339 ?_
                          refine xi_iff (pc' := 16) kc_31_13 rfl (xc_lt_f (X := u332.toInt) (Y := 0) rfl (by decide) (by omega)) ?_
                          refine xi_iconst (pc' := 17) (v := 1) kc_31_16 rfl rfl ?_
                          refine xi_goto (pc' := 21) kc_31_17 rfl ?_
                          refine xi_ireturn kc_31_21 mr_31 rfl ?_
                          show xw J ov 99 32 (41, [(0, .ref 115), (1, .int a23), (2, .int a25), (3, .int a27), (4, .int a29)], [.int 1], hh678) _
                          refine xi_iff (pc' := 44) kc_32_41 rfl rfl ?_
                          refine xi_iload_n (pc' := 45) (x := a23) kc_32_44 rfl rfl ?_
                          refine xi_ift (pc' := 63) kc_32_45 rfl (xc_ne_t (X := a23.toInt) (Y := 0) rfl (by decide) (by omega)) ?_
                          refine xi_iload_n (pc' := 64) (x := a27) kc_32_63 rfl rfl ?_
                          refine xi_iconst (pc' := 65) (v := 1) kc_32_64 rfl rfl ?_
                          refine xi_cmf (pc' := 68) kc_32_65 rfl (xc_lt_f (X := a27.toInt) (Y := 1) rfl (by decide) (by omega)) ?_
                          refine xi_iload (pc' := 70) (x := a29) kc_32_68 rfl rfl ?_
                          refine xi_ift (pc' := 80) kc_32_70 rfl (xc_ge_t (X := a29.toInt) (Y := 0) rfl (by decide) (by omega)) ?_
                          refine xi_iload_n (pc' := 81) (x := a27) kc_32_80 rfl rfl ?_
                          refine xi_bipush (pc' := 83) (v := 99) kc_32_81 rfl rfl ?_
                          refine xi_cmf (pc' := 86) kc_32_83 rfl (xc_gt_f (X := a27.toInt) (Y := 99) rfl (by decide) (by omega)) ?_
                          refine xi_iload (pc' := 88) (x := a29) kc_32_86 rfl rfl ?_
                          refine xi_sipush (pc' := 91) (v := 600) kc_32_88 rfl rfl ?_
                          refine xi_cmf (pc' := 94) kc_32_91 rfl (xc_gt_f (X := a29.toInt) (Y := 600) rfl (by decide) (by omega)) ?_
                          refine xi_aload_n (pc' := 95) (x := 115) kc_32_94 rfl rfl ?_
                          refine xi_getfield (pc' := 98) (v := .int u1) kc_32_95 rfl rfl rfl eh677.1 rfl ?_
                          refine xi_bipush (pc' := 100) (v := 10) kc_32_98 rfl rfl ?_
                          refine xi_cmt (pc' := 110) kc_32_100 rfl (xc_ne_t (X := u1.toInt) (Y := 10) rfl (by decide) (by omega)) ?_
                          refine xi_aload_n (pc' := 111) (x := 115) kc_32_110 rfl rfl ?_
                          refine xi_getfield (pc' := 114) (v := .ref 135) kc_32_111 rfl rfl rfl eh677.1 rfl ?_
                          refine xi_aload_n (pc' := 115) (x := 115) kc_32_114 rfl rfl ?_
                          refine xi_getfield (pc' := 118) (v := .int u1) kc_32_115 rfl rfl rfl eh677.1 rfl ?_
                          refine xi_iload_n (pc' := 119) (x := a23) kc_32_118 rfl rfl ?_
                          have A681 := ((eh677.2.1 135 (by decide)).trans ((eh672.2.1 135 (by decide)).trans ((eh666.2.1 135 (xk_nc mpt640 rfl)).trans ((eh662.2.1 135 (xk_nc mpt640 rfl)).trans ((eh658.2.1 135 (xk_nc mpt640 rfl)).trans ((eh654.2.1 135 (xk_nc mpt640 rfl)).trans A646))))))
                          obtain ⟨y682, s682, hy682, ry682⟩ := xj_set (v := a23) hy646 ry646 u1 (by first | omega | decide) (by first | omega | decide)
                          refine xi_iastore (pc' := 120) (x' := y682) kc_32_119 rfl A681 rfl (xi_in (by omega) (by rw [hy646]; omega)) s682 (fun hh682 eh682 => ?_)
                          have K683 := xk_pa K679 (xk_wa (by decide +kernel)) xD_135 hy682 ry682 eh682
                          refine xi_aload_n (pc' := 121) (x := 115) kc_32_120 rfl rfl ?_
                          have A684 := ((eh682.2.1 115 (by decide)).trans eh677.1)
                          refine xi_getfield (pc' := 124) (v := .ref 136) kc_32_121 rfl rfl rfl A684 rfl ?_
                          refine xi_aload_n (pc' := 125) (x := 115) kc_32_124 rfl rfl ?_
                          refine xi_getfield (pc' := 128) (v := .int u1) kc_32_125 rfl rfl rfl A684 rfl ?_
                          refine xi_iload_n (pc' := 129) (x := a25) kc_32_128 rfl rfl ?_
                          have A685 := ((eh682.2.1 136 (by decide)).trans ((eh677.2.1 136 (by decide)).trans ((eh672.2.1 136 (by decide)).trans ((eh666.2.1 136 (xk_nc mpt640 rfl)).trans ((eh662.2.1 136 (xk_nc mpt640 rfl)).trans ((eh658.2.1 136 (xk_nc mpt640 rfl)).trans ((eh654.2.1 136 (xk_nc mpt640 rfl)).trans A648)))))))
                          obtain ⟨y686, s686, hy686, ry686⟩ := xj_set (v := a25) hy648 ry648 u1 (by first | omega | decide) (by first | omega | decide)
                          refine xi_iastore (pc' := 130) (x' := y686) kc_32_129 rfl A685 rfl (xi_in (by omega) (by rw [hy648]; omega)) s686 (fun hh686 eh686 => ?_)
                          have K687 := xk_pa K683 (xk_wa (by decide +kernel)) xD_136 hy686 ry686 eh686
                          refine xi_aload_n (pc' := 131) (x := 115) kc_32_130 rfl rfl ?_
                          have A688 := ((eh686.2.1 115 (by decide)).trans A684)
                          refine xi_getfield (pc' := 134) (v := .ref 137) kc_32_131 rfl rfl rfl A688 rfl ?_
                          refine xi_aload_n (pc' := 135) (x := 115) kc_32_134 rfl rfl ?_
                          refine xi_getfield (pc' := 138) (v := .int u1) kc_32_135 rfl rfl rfl A688 rfl ?_
                          refine xi_iload_n (pc' := 139) (x := a27) kc_32_138 rfl rfl ?_
                          have A689 := ((eh686.2.1 137 (by decide)).trans ((eh682.2.1 137 (by decide)).trans ((eh677.2.1 137 (by decide)).trans ((eh672.2.1 137 (by decide)).trans ((eh666.2.1 137 (xk_nc mpt640 rfl)).trans ((eh662.2.1 137 (xk_nc mpt640 rfl)).trans ((eh658.2.1 137 (xk_nc mpt640 rfl)).trans ((eh654.2.1 137 (xk_nc mpt640 rfl)).trans A650))))))))
                          obtain ⟨y690, s690, hy690, ry690⟩ := xj_set (v := a27) hy650 ry650 u1 (by first | omega | decide) (by first | omega | decide)
                          refine xi_iastore (pc' := 140) (x' := y690) kc_32_139 rfl A689 rfl (xi_in (by omega) (by rw [hy650]; omega)) s690 (fun hh690 eh690 => ?_)
                          have K691 := xk_pa K687 (xk_wa (by decide +kernel)) xD_137 hy690 ry690 eh690
                          refine xi_aload_n (pc' := 141) (x := 115) kc_32_140 rfl rfl ?_
                          have A692 := ((eh690.2.1 115 (by decide)).trans A688)
                          refine xi_getfield (pc' := 144) (v := .ref 138) kc_32_141 rfl rfl rfl A692 rfl ?_
                          refine xi_aload_n (pc' := 145) (x := 115) kc_32_144 rfl rfl ?_
                          refine xi_getfield (pc' := 148) (v := .int u1) kc_32_145 rfl rfl rfl A692 rfl ?_
                          refine xi_iload (pc' := 150) (x := a29) kc_32_148 rfl rfl ?_
                          have A693 := ((eh690.2.1 138 (by decide)).trans ((eh686.2.1 138 (by decide)).trans ((eh682.2.1 138 (by decide)).trans ((eh677.2.1 138 (by decide)).trans ((eh672.2.1 138 (by decide)).trans ((eh666.2.1 138 (xk_nc mpt640 rfl)).trans ((eh662.2.1 138 (xk_nc mpt640 rfl)).trans ((eh658.2.1 138 (xk_nc mpt640 rfl)).trans ((eh654.2.1 138 (xk_nc mpt640 rfl)).trans A652)))))))))
                          obtain ⟨y694, s694, hy694, ry694⟩ := xj_set (v := a29) hy652 ry652 u1 (by first | omega | decide) (by first | omega | decide)
                          refine xi_iastore (pc' := 151) (x' := y694) kc_32_150 rfl A693 rfl (xi_in (by omega) (by rw [hy652]; omega)) s694 (fun hh694 eh694 => ?_)
                          have K695 := xk_pa K691 (xk_wa (by decide +kernel)) xD_138 hy694 ry694 eh694
                          refine xi_aload_n (pc' := 152) (x := 115) kc_32_151 rfl rfl ?_
                          have A696 := ((eh694.2.1 115 (by decide)).trans A692)
                          refine xi_getfield (pc' := 155) (v := .ref 139) kc_32_152 rfl rfl rfl A696 rfl ?_
                          refine xi_aload_n (pc' := 156) (x := 115) kc_32_155 rfl rfl ?_
                          refine xi_getfield (pc' := 159) (v := .int u1) kc_32_156 rfl rfl rfl A696 rfl ?_
                          refine xi_iconst (pc' := 160) (v := 0) kc_32_159 rfl rfl ?_
                          have A697 := ((eh694.2.1 139 (by decide)).trans ((eh690.2.1 139 (by decide)).trans ((eh686.2.1 139 (by decide)).trans ((eh682.2.1 139 (by decide)).trans ((eh677.2.1 139 (by decide)).trans ((eh672.2.1 139 (by decide)).trans ((eh666.2.1 139 (xk_nc mpt640 rfl)).trans ((eh662.2.1 139 (xk_nc mpt640 rfl)).trans ((eh658.2.1 139 (xk_nc mpt640 rfl)).trans ((eh654.2.1 139 (xk_nc mpt640 rfl)).trans A21))))))))))
                          obtain ⟨y698, s698, hy698, ry698⟩ := xj_set (v := 0) hy21 ry21 u1 (by first | omega | decide) (by first | omega | decide)
                          refine xi_bastore (pc' := 161) (x' := y698) kc_32_160 rfl A697 rfl (xi_in (by omega) (by rw [hy21]; omega)) s698 (fun hh698 eh698 => ?_)
                          have K699 := xk_pa K695 (xk_wa (by decide +kernel)) xD_139 hy698 ry698 eh698
                          refine xi_aload_n (pc' := 162) (x := 115) kc_32_161 rfl rfl ?_
                          refine xi_dup (pc' := 163) kc_32_162 rfl rfl ?_
                          have A700 := ((eh698.2.1 115 (by decide)).trans A696)
                          refine xi_getfield (pc' := 166) (v := .int u1) kc_32_163 rfl rfl rfl A700 rfl ?_
                          refine xi_iconst (pc' := 167) (v := 1) kc_32_166 rfl rfl ?_
                          refine xi_iadd (pc' := 168) (v := v671) kc_32_167 rfl ev671 ?_
                          refine xi_putfield (pc' := 171) (fs' := [.int 0, .int u5, .ref 116, .ref 117, .ref 118, .ref 119, .ref 120, .ref 121, .ref 122, .ref 123, .ref 124, .ref 125, .ref 126, .ref 127, .ref 128, .ref 129, .int u6, .ref 130, .int u7, .ref 131, .ref 132, .ref 133, .ref 134, .int v671, .ref 135, .ref 136, .ref 137, .ref 138, .ref 139, .ref 140, .ref 141, .ref 142, .int u9, .int u10, .int u11, .ref 143, .ref 144, .ref 145, .ref 146, .ref 147, .ref 148, .int u12, .ref 149, .ref 150, .ref 151, .int u13, .ref 152, .ref 153, .ref 154, .ref 155, .ref 156, .ref 157, .ref 158, .ref 159, .int u14, .ref 160, .int u15, .ref 161, .ref 162, .ref 163, .ref 164, .int u16, .ref 165, .ref 166]) kc_32_168 rfl rfl rfl A700 rfl rfl rfl (Nat.le_of_ble_eq_true rfl) rfl (fun hh702 eh701 => ?_)
                          have K703 := xk_pf (k := 23) (v := v671) K699 (xk_wf (by decide +kernel)) xD_115 A700 rfl (by first | omega | decide) (by first | omega | decide) eh701 rfl
                          refine xi_aload_n (pc' := 172) (x := 115) kc_32_171 rfl rfl ?_
                          refine xi_iconst (pc' := 173) (v := 0) kc_32_172 rfl rfl ?_
                          refine xi_putfield (pc' := 176) (fs' := [.int 0, .int u5, .ref 116, .ref 117, .ref 118, .ref 119, .ref 120, .ref 121, .ref 122, .ref 123, .ref 124, .ref 125, .ref 126, .ref 127, .ref 128, .ref 129, .int u6, .ref 130, .int u7, .ref 131, .ref 132, .ref 133, .ref 134, .int v671, .ref 135, .ref 136, .ref 137, .ref 138, .ref 139, .ref 140, .ref 141, .ref 142, .int u9, .int u10, .int u11, .ref 143, .ref 144, .ref 145, .ref 146, .ref 147, .ref 148, .int 0, .ref 149, .ref 150, .ref 151, .int u13, .ref 152, .ref 153, .ref 154, .ref 155, .ref 156, .ref 157, .ref 158, .ref 159, .int u14, .ref 160, .int u15, .ref 161, .ref 162, .ref 163, .ref 164, .int u16, .ref 165, .ref 166]) kc_32_173 rfl rfl rfl eh701.1 rfl rfl rfl (Nat.le_of_ble_eq_true rfl) rfl (fun hh705 eh704 => ?_)
                          have K706 := xk_pf (k := 41) (v := 0) K703 (xk_wf (by decide +kernel)) xD_115 eh701.1 rfl (by first | omega | decide) (by first | omega | decide) eh704 rfl
                          refine xi_aload_n (pc' := 177) (x := 115) kc_32_176 rfl rfl ?_
                          refine xi_getfield (pc' := 180) (v := .int v671) kc_32_177 rfl rfl rfl eh704.1 rfl ?_
                          refine xi_iconst (pc' := 181) (v := 1) kc_32_180 rfl rfl ?_
                          refine xi_isub (pc' := 182) (v := v675) kc_32_181 rfl ev675 ?_
                          refine xi_ireturn kc_32_182 mr_32 rfl ?_
                          show xw J ov 100 195 (708, [(4, .int x4), (3, .ref 167), (2, .ref 115), (1, .ref 0), (0, .ref 1000000)], [.int v675], hh705) _
                          refine xi_pop (pc' := 709) kc_195_708 rfl rfl ?_
                          refine xi_goto (pc' := 1501) kc_195_709 rfl ?_
                          obtain ⟨v707, ev707⟩ : ∃ q : Int32, x4 + 6 = q := ⟨_, rfl⟩
                          have zv707 : v707.toInt = (x4.toInt + 6) := by rw [← ev707]; exact (xz_add (X := x4.toInt) (Y := 6) rfl (by decide) (by omega) (by omega)).trans (by omega)
                          refine xi_iinc (pc' := 1504) (x := x4) (v := v707) (lv' := [(4, .int v707), (3, .ref 167), (2, .ref 115), (1, .ref 0), (0, .ref 1000000)]) kc_195_1501 rfl rfl ev707 rfl (xm_lt ml_195 rfl) ?_
                          refine xi_goto (pc' := 23) kc_195_1504 rfl ?_
                          have A708 := ((eh704.2.1 1 (by decide)).trans ((eh701.2.1 1 (by decide)).trans ((eh698.2.1 1 (by decide)).trans ((eh694.2.1 1 (by decide)).trans ((eh690.2.1 1 (by decide)).trans ((eh686.2.1 1 (by decide)).trans ((eh682.2.1 1 (by decide)).trans ((eh677.2.1 1 (by decide)).trans eh672.1))))))))
                          have A709 := ((eh704.2.1 pt640 (Ne.symm (xk_nc mpt640 rfl))).trans ((eh701.2.1 pt640 (Ne.symm (xk_nc mpt640 rfl))).trans ((eh698.2.1 pt640 (Ne.symm (xk_nc mpt640 rfl))).trans ((eh694.2.1 pt640 (Ne.symm (xk_nc mpt640 rfl))).trans ((eh690.2.1 pt640 (Ne.symm (xk_nc mpt640 rfl))).trans ((eh686.2.1 pt640 (Ne.symm (xk_nc mpt640 rfl))).trans ((eh682.2.1 pt640 (Ne.symm (xk_nc mpt640 rfl))).trans ((eh677.2.1 pt640 (Ne.symm (xk_nc mpt640 rfl))).trans ((eh672.2.1 pt640 (Ne.symm (xk_nc mpt640 rfl))).trans eh666.1)))))))))
                          have A710 := ((eh704.2.1 135 (by decide)).trans ((eh701.2.1 135 (by decide)).trans ((eh698.2.1 135 (by decide)).trans ((eh694.2.1 135 (by decide)).trans ((eh690.2.1 135 (by decide)).trans ((eh686.2.1 135 (by decide)).trans eh682.1))))))
                          have A711 := ((eh704.2.1 136 (by decide)).trans ((eh701.2.1 136 (by decide)).trans ((eh698.2.1 136 (by decide)).trans ((eh694.2.1 136 (by decide)).trans ((eh690.2.1 136 (by decide)).trans eh686.1)))))
                          have A712 := ((eh704.2.1 137 (by decide)).trans ((eh701.2.1 137 (by decide)).trans ((eh698.2.1 137 (by decide)).trans ((eh694.2.1 137 (by decide)).trans eh690.1))))
                          have A713 := ((eh704.2.1 138 (by decide)).trans ((eh701.2.1 138 (by decide)).trans ((eh698.2.1 138 (by decide)).trans eh694.1)))
                          have A714 := ((eh704.2.1 63 (by decide)).trans ((eh701.2.1 63 (by decide)).trans ((eh698.2.1 63 (by decide)).trans ((eh694.2.1 63 (by decide)).trans ((eh690.2.1 63 (by decide)).trans ((eh686.2.1 63 (by decide)).trans ((eh682.2.1 63 (by decide)).trans ((eh677.2.1 63 (by decide)).trans ((eh672.2.1 63 (by decide)).trans ((eh666.2.1 63 (xk_nc mpt640 rfl)).trans ((eh662.2.1 63 (xk_nc mpt640 rfl)).trans ((eh658.2.1 63 (xk_nc mpt640 rfl)).trans ((eh654.2.1 63 (xk_nc mpt640 rfl)).trans A20)))))))))))))
                          have A715 := ((eh704.2.1 139 (by decide)).trans ((eh701.2.1 139 (by decide)).trans eh698.1))
                          exact kk v707 hh705 (by omega) K706 ⟨((K706.2.1 (0, 9) (by decide +kernel)).trans (I.1.trans (K706.2.1 (115, 1) (by decide +kernel)).symm)), (xWW_fr I.2.1 (K706.2.1 (64, 0) (by decide +kernel)) (K706.2.1 (121, 0) (by decide +kernel))), (xSG_fr I.2.2.1 (fun l hl => K706.2.1 l (xk_el (by decide +kernel) hl))), (by rw [(K706.2.1 (13, 0) (by decide +kernel)), (K706.2.1 (122, 0) (by decide +kernel))]; exact I.2.2.2.1), (by rw [(K706.2.1 (16, 0) (by decide +kernel)), (K706.2.1 (122, 0) (by decide +kernel))]; exact I.2.2.2.2.1), (by rw [(K706.2.1 (19, 0) (by decide +kernel)), (K706.2.1 (122, 0) (by decide +kernel))]; exact I.2.2.2.2.2.1), (by rw [(K706.2.1 (22, 0) (by decide +kernel)), (K706.2.1 (122, 0) (by decide +kernel))]; exact I.2.2.2.2.2.2.1), (by rw [(K706.2.1 (25, 0) (by decide +kernel)), (K706.2.1 (122, 0) (by decide +kernel))]; exact I.2.2.2.2.2.2.2.1), (by rw [(K706.2.1 (28, 0) (by decide +kernel)), (K706.2.1 (122, 0) (by decide +kernel))]; exact I.2.2.2.2.2.2.2.2.1), (by rw [(K706.2.1 (6, 0) (by decide +kernel)), (K706.2.1 (123, 0) (by decide +kernel))]; exact I.2.2.2.2.2.2.2.2.2.1), (by rw [(K706.2.1 (9, 0) (by decide +kernel)), (K706.2.1 (124, 0) (by decide +kernel))]; exact I.2.2.2.2.2.2.2.2.2.2.1), (by rw [(K706.2.1 (7, 0) (by decide +kernel)), (K706.2.1 (6, 0) (by decide +kernel))]; exact I.2.2.2.2.2.2.2.2.2.2.2.1), (by rw [(K706.2.1 (10, 0) (by decide +kernel)), (K706.2.1 (9, 0) (by decide +kernel))]; exact I.2.2.2.2.2.2.2.2.2.2.2.2.1), ((K706.2.1 (5, 0) (by decide +kernel)).trans I.2.2.2.2.2.2.2.2.2.2.2.2.2.1), ((K706.2.1 (8, 0) (by decide +kernel)).trans I.2.2.2.2.2.2.2.2.2.2.2.2.2.2.1), (xGR_kept I.2.2.2.2.2.2.2.2.2.2.2.2.2.2.2.1 (fun c hc => ((eh704.2.1 c (Ne.symm (xk_nc hc rfl))).trans ((eh701.2.1 c (Ne.symm (xk_nc hc rfl))).trans ((eh698.2.1 c (Ne.symm (xk_nc hc rfl))).trans ((eh694.2.1 c (Ne.symm (xk_nc hc rfl))).trans ((eh690.2.1 c (Ne.symm (xk_nc hc rfl))).trans ((eh686.2.1 c (Ne.symm (xk_nc hc rfl))).trans ((eh682.2.1 c (Ne.symm (xk_nc hc rfl))).trans ((eh677.2.1 c (Ne.symm (xk_nc hc rfl))).trans ((eh672.2.1 c (Ne.symm (xk_nc hc rfl))).trans ((eh666.2.1 c (xk_nn hc mpt640 rfl)).trans ((eh662.2.1 c (xk_nn hc mpt640 rfl)).trans ((eh658.2.1 c (xk_nn hc mpt640 rfl)).trans (eh654.2.1 c (xk_nn hc mpt640 rfl))))))))))))))) ((eh704.2.1 125 (by decide)).trans ((eh701.2.1 125 (by decide)).trans ((eh698.2.1 125 (by decide)).trans ((eh694.2.1 125 (by decide)).trans ((eh690.2.1 125 (by decide)).trans ((eh686.2.1 125 (by decide)).trans ((eh682.2.1 125 (by decide)).trans ((eh677.2.1 125 (by decide)).trans ((eh672.2.1 125 (by decide)).trans ((eh666.2.1 125 (xk_nc mpt640 rfl)).trans ((eh662.2.1 125 (xk_nc mpt640 rfl)).trans ((eh658.2.1 125 (xk_nc mpt640 rfl)).trans (eh654.2.1 125 (xk_nc mpt640 rfl))))))))))))))), (xGR_kept I.2.2.2.2.2.2.2.2.2.2.2.2.2.2.2.2.1 (fun c hc => ((eh704.2.1 c (Ne.symm (xk_nc hc rfl))).trans ((eh701.2.1 c (Ne.symm (xk_nc hc rfl))).trans ((eh698.2.1 c (Ne.symm (xk_nc hc rfl))).trans ((eh694.2.1 c (Ne.symm (xk_nc hc rfl))).trans ((eh690.2.1 c (Ne.symm (xk_nc hc rfl))).trans ((eh686.2.1 c (Ne.symm (xk_nc hc rfl))).trans ((eh682.2.1 c (Ne.symm (xk_nc hc rfl))).trans ((eh677.2.1 c (Ne.symm (xk_nc hc rfl))).trans ((eh672.2.1 c (Ne.symm (xk_nc hc rfl))).trans ((eh666.2.1 c (xk_nn hc mpt640 rfl)).trans ((eh662.2.1 c (xk_nn hc mpt640 rfl)).trans ((eh658.2.1 c (xk_nn hc mpt640 rfl)).trans (eh654.2.1 c (xk_nn hc mpt640 rfl))))))))))))))) ((eh704.2.1 127 (by decide)).trans ((eh701.2.1 127 (by decide)).trans ((eh698.2.1 127 (by decide)).trans ((eh694.2.1 127 (by decide)).trans ((eh690.2.1 127 (by decide)).trans ((eh686.2.1 127 (by decide)).trans ((eh682.2.1 127 (by decide)).trans ((eh677.2.1 127 (by decide)).trans ((eh672.2.1 127 (by decide)).trans ((eh666.2.1 127 (xk_nc mpt640 rfl)).trans ((eh662.2.1 127 (xk_nc mpt640 rfl)).trans ((eh658.2.1 127 (xk_nc mpt640 rfl)).trans (eh654.2.1 127 (xk_nc mpt640 rfl))))))))))))))), ((xl_of A708 rfl).trans (xl_of eh704.1 rfl).symm), (xGR_set (Lo := [some 53, some 54, some 55, some 56, some 57, some 58, some 59, some 60, some 61, some 62]) I.2.2.2.2.2.2.2.2.2.2.2.2.2.2.2.2.2.2.1 (by decide) rfl ept640 (by omega) (by show _ < ((10 : Nat) : Int); omega) A646 (by rw [hy646]; decide) A709 rfl A710 s682 (fun c hc hne => ((eh704.2.1 c (Ne.symm (xk_nc hc rfl))).trans ((eh701.2.1 c (Ne.symm (xk_nc hc rfl))).trans ((eh698.2.1 c (Ne.symm (xk_nc hc rfl))).trans ((eh694.2.1 c (Ne.symm (xk_nc hc rfl))).trans ((eh690.2.1 c (Ne.symm (xk_nc hc rfl))).trans ((eh686.2.1 c (Ne.symm (xk_nc hc rfl))).trans ((eh682.2.1 c (Ne.symm (xk_nc hc rfl))).trans ((eh677.2.1 c (Ne.symm (xk_nc hc rfl))).trans ((eh672.2.1 c (Ne.symm (xk_nc hc rfl))).trans ((eh666.2.1 c hne).trans ((eh662.2.1 c hne).trans ((eh658.2.1 c hne).trans (eh654.2.1 c hne))))))))))))))), (xGR_set (Lo := [some 53, some 54, some 55, some 56, some 57, some 58, some 59, some 60, some 61, some 62]) I.2.2.2.2.2.2.2.2.2.2.2.2.2.2.2.2.2.2.2.1 (by decide) rfl ept640 (by omega) (by show _ < ((10 : Nat) : Int); omega) A648 (by rw [hy648]; decide) A709 rfl A711 s686 (fun c hc hne => ((eh704.2.1 c (Ne.symm (xk_nc hc rfl))).trans ((eh701.2.1 c (Ne.symm (xk_nc hc rfl))).trans ((eh698.2.1 c (Ne.symm (xk_nc hc rfl))).trans ((eh694.2.1 c (Ne.symm (xk_nc hc rfl))).trans ((eh690.2.1 c (Ne.symm (xk_nc hc rfl))).trans ((eh686.2.1 c (Ne.symm (xk_nc hc rfl))).trans ((eh682.2.1 c (Ne.symm (xk_nc hc rfl))).trans ((eh677.2.1 c (Ne.symm (xk_nc hc rfl))).trans ((eh672.2.1 c (Ne.symm (xk_nc hc rfl))).trans ((eh666.2.1 c hne).trans ((eh662.2.1 c hne).trans ((eh658.2.1 c hne).trans (eh654.2.1 c hne))))))))))))))), (xGR_set (Lo := [some 53, some 54, some 55, some 56, some 57, some 58, some 59, some 60, some 61, some 62]) I.2.2.2.2.2.2.2.2.2.2.2.2.2.2.2.2.2.2.2.2.1 (by decide) rfl ept640 (by omega) (by show _ < ((10 : Nat) : Int); omega) A650 (by rw [hy650]; decide) A709 rfl A712 s690 (fun c hc hne => ((eh704.2.1 c (Ne.symm (xk_nc hc rfl))).trans ((eh701.2.1 c (Ne.symm (xk_nc hc rfl))).trans ((eh698.2.1 c (Ne.symm (xk_nc hc rfl))).trans ((eh694.2.1 c (Ne.symm (xk_nc hc rfl))).trans ((eh690.2.1 c (Ne.symm (xk_nc hc rfl))).trans ((eh686.2.1 c (Ne.symm (xk_nc hc rfl))).trans ((eh682.2.1 c (Ne.symm (xk_nc hc rfl))).trans ((eh677.2.1 c (Ne.symm (xk_nc hc rfl))).trans ((eh672.2.1 c (Ne.symm (xk_nc hc rfl))).trans ((eh666.2.1 c hne).trans ((eh662.2.1 c hne).trans ((eh658.2.1 c hne).trans (eh654.2.1 c hne))))))))))))))), (xGR_set (Lo := [some 53, some 54, some 55, some 56, some 57, some 58, some 59, some 60, some 61, some 62]) I.2.2.2.2.2.2.2.2.2.2.2.2.2.2.2.2.2.2.2.2.2.1 (by decide) rfl ept640 (by omega) (by show _ < ((10 : Nat) : Int); omega) A652 (by rw [hy652]; decide) A709 rfl A713 s694 (fun c hc hne => ((eh704.2.1 c (Ne.symm (xk_nc hc rfl))).trans ((eh701.2.1 c (Ne.symm (xk_nc hc rfl))).trans ((eh698.2.1 c (Ne.symm (xk_nc hc rfl))).trans ((eh694.2.1 c (Ne.symm (xk_nc hc rfl))).trans ((eh690.2.1 c (Ne.symm (xk_nc hc rfl))).trans ((eh686.2.1 c (Ne.symm (xk_nc hc rfl))).trans ((eh682.2.1 c (Ne.symm (xk_nc hc rfl))).trans ((eh677.2.1 c (Ne.symm (xk_nc hc rfl))).trans ((eh672.2.1 c (Ne.symm (xk_nc hc rfl))).trans ((eh666.2.1 c hne).trans ((eh662.2.1 c hne).trans ((eh658.2.1 c hne).trans (eh654.2.1 c hne))))))))))))))), (xB_mk A714 A715 A708 rfl rfl (xB_new (on := 0) H22 (by first | omega | decide) (by first | omega | decide) (by omega) (by omega) hy21 s698 (by decide))), ((K706.2.1 (0, 8) (by decide +kernel)).trans (I.2.2.2.2.2.2.2.2.2.2.2.2.2.2.2.2.2.2.2.2.2.2.2.1.trans (K706.2.1 (115, 34) (by decide +kernel)).symm)), (xGR_fr I.2.2.2.2.2.2.2.2.2.2.2.2.2.2.2.2.2.2.2.2.2.2.2.2.1 K706.2.1 (by decide +kernel) (by decide +kernel)), (xGR_fr I.2.2.2.2.2.2.2.2.2.2.2.2.2.2.2.2.2.2.2.2.2.2.2.2.2.1 K706.2.1 (by decide +kernel) (by decide +kernel)), (xGR_fr I.2.2.2.2.2.2.2.2.2.2.2.2.2.2.2.2.2.2.2.2.2.2.2.2.2.2.1 K706.2.1 (by decide +kernel) (by decide +kernel)), (xGR_fr I.2.2.2.2.2.2.2.2.2.2.2.2.2.2.2.2.2.2.2.2.2.2.2.2.2.2.2.1 K706.2.1 (by decide +kernel) (by decide +kernel)), (xts_fr I.2.2.2.2.2.2.2.2.2.2.2.2.2.2.2.2.2.2.2.2.2.2.2.2.2.2.2.2.1 (fun l hl => K706.2.1 l (xk_el (by decide +kernel) hl))), ((K706.2.1 (63, 3) (by decide +kernel)).trans I.2.2.2.2.2.2.2.2.2.2.2.2.2.2.2.2.2.2.2.2.2.2.2.2.2.2.2.2.2)⟩
                        · refine xi_cmf (pc' := 75) kc_116_72 rfl (xc_lt_f (X := u1.toInt) (Y := 10) rfl (by decide) (by omega)) ?_
                          refine xi_aload_n (pc' := 76) (x := 0) kc_116_75 rfl rfl ?_
                          refine xi_bipush (pc' := 78) (v := (-6)) kc_116_76 rfl rfl ?_
                          refine xi_virtual (mj := 90) (as := [.int (-6)]) (st1 := []) (lv0 := [(0, .ref 0), (1, .int (-6))]) kc_116_78 rfl rfl rfl rfl rfl A32 (Nat.le_of_ble_eq_true rfl) (hJ _ _ _ _ (by decide)) (xm_le ml_90 rfl) rfl ?_
                          refine xi_iload_n (pc' := 1) (x := (-6)) kc_90_0 rfl rfl ?_
                          refine xi_ineg (pc' := 2) (v := 6) kc_90_1 rfl rfl ?_
                          refine xi_istore_n (pc' := 3) (lv' := [(2, .int 6), (0, .ref 0), (1, .int (-6))]) kc_90_2 rfl rfl (xm_lt ml_90 rfl) ?_
                          refine xi_iload_n (pc' := 4) (x := 6) kc_90_3 rfl rfl ?_
                          refine xi_iff (pc' := 7) kc_90_4 rfl rfl ?_
                          refine xi_iload_n (pc' := 8) (x := 6) kc_90_7 rfl rfl ?_
                          refine xi_aload_n (pc' := 9) (x := 0) kc_90_8 rfl rfl ?_
                          refine xi_getfield (pc' := 12) (v := .ref 94) kc_90_9 rfl rfl rfl A32 rfl ?_
                          obtain ⟨y716, A716, hy716, ry716⟩ := xk_arr K.1 xD_94
                          refine xi_arraylength (pc' := 13) (n := 7) (v := 7) kc_90_12 rfl (xl_lenI (by decide) (by decide) A716 hy716) rfl ?_
                          refine xi_cmf (pc' := 16) kc_90_13 rfl rfl ?_
                          refine xi_aload_n (pc' := 17) (x := 0) kc_90_16 rfl rfl ?_
                          refine xi_getfield (pc' := 20) (v := .ref 94) kc_90_17 rfl rfl rfl A32 rfl ?_
                          refine xi_iload_n (pc' := 21) (x := 6) kc_90_20 rfl rfl ?_
                          refine xi_dup2 (pc' := 22) kc_90_21 rfl ⟨rfl, rfl⟩ ?_
                          obtain ⟨v717, ev717, bv717, dv717⟩ := xj_get hy716 ry716 (i := 6) (by decide) (by decide)
                          refine xi_iaload (pc' := 23) (v := v717) kc_90_22 rfl A716 (by decide) rfl (xi_in (by decide) (by rw [hy716]; decide)) ev717 ?_
                          refine xi_iconst (pc' := 24) (v := 1) kc_90_23 rfl rfl ?_
                          obtain ⟨v718, ev718⟩ : ∃ q : Int32, (v717 : Int32) + 1 = q := ⟨_, rfl⟩
                          have rv718 := xc_rng v718
                          refine xi_iadd (pc' := 25) (v := v718) kc_90_24 rfl ev718 ?_
                          obtain ⟨y719, s719, hy719, ry719⟩ := xj_set (v := v718) hy716 ry716 6 (by first | omega | decide) (by first | omega | decide)
                          refine xi_iastore (pc' := 26) (x' := y719) kc_90_25 rfl A716 rfl (xi_in (by decide) (by rw [hy716]; decide)) s719 (fun hh719 eh719 => ?_)
                          have K720 := xk_pa K (xk_wa (by decide +kernel)) xD_94 hy719 ry719 eh719
                          have KR721 := xk_pa KR (xk_wa (by decide +kernel)) xD_94 hy719 ry719 eh719
                          refine xi_iload_n (pc' := 27) (x := (-6)) kc_90_26 rfl rfl ?_
                          refine xi_ireturn kc_90_27 mr_90 rfl ?_
                          show xw J ov 99 116 (81, [(0, .ref 0), (1, .int a23), (2, .int a25), (3, .int a27), (4, .int a29)], [.int (-6)], hh719) _
                          refine xi_ireturn kc_116_81 mr_116 rfl ?_
                          show xw J ov 100 195 (679, [(4, .int x4), (3, .ref 167), (2, .ref 115), (1, .ref 0), (0, .ref 1000000)], [.int (-6)], hh719) _
                          refine xi_pop (pc' := 680) kc_195_679 rfl rfl ?_
                          refine xi_aload_n (pc' := 681) (x := 115) kc_195_680 rfl rfl ?_
                          refine xi_aload_n (pc' := 682) (x := 1000000) kc_195_681 rfl rfl ?_
                          refine xi_iload (pc' := 684) (x := x4) kc_195_682 rfl rfl ?_
                          refine xi_iconst (pc' := 685) (v := 1) kc_195_684 rfl rfl ?_
                          refine xi_iadd (pc' := 686) (v := v22) kc_195_685 rfl ev22 ?_
                          refine xi_ialoadO (pc' := 687) (v := a23) kc_195_686 rfl (by decide) hov0 (xi_in (by omega) (by omega)) ea23 ?_
                          refine xi_aload_n (pc' := 688) (x := 1000000) kc_195_687 rfl rfl ?_
                          refine xi_iload (pc' := 690) (x := x4) kc_195_688 rfl rfl ?_
                          refine xi_iconst (pc' := 691) (v := 2) kc_195_690 rfl rfl ?_
                          refine xi_iadd (pc' := 692) (v := v24) kc_195_691 rfl ev24 ?_
                          refine xi_ialoadO (pc' := 693) (v := a25) kc_195_692 rfl (by decide) hov0 (xi_in (by omega) (by omega)) ea25 ?_
                          refine xi_aload_n (pc' := 694) (x := 1000000) kc_195_693 rfl rfl ?_
                          refine xi_iload (pc' := 696) (x := x4) kc_195_694 rfl rfl ?_
                          refine xi_iconst (pc' := 697) (v := 3) kc_195_696 rfl rfl ?_
                          refine xi_iadd (pc' := 698) (v := v26) kc_195_697 rfl ev26 ?_
                          refine xi_ialoadO (pc' := 699) (v := a27) kc_195_698 rfl (by decide) hov0 (xi_in (by omega) (by omega)) ea27 ?_
                          refine xi_aload_n (pc' := 700) (x := 1000000) kc_195_699 rfl rfl ?_
                          refine xi_iload (pc' := 702) (x := x4) kc_195_700 rfl rfl ?_
                          refine xi_iconst (pc' := 703) (v := 4) kc_195_702 rfl rfl ?_
                          refine xi_iadd (pc' := 704) (v := v28) kc_195_703 rfl ev28 ?_
                          refine xi_ialoadO (pc' := 705) (v := a29) kc_195_704 rfl (by decide) hov0 (xi_in (by omega) (by omega)) ea29 ?_
                          have A722 := ((eh719.2.1 115 (by decide)).trans A17)
                          refine xi_virtual (mj := 32) (as := [.int a23, .int a25, .int a27, .int a29]) (st1 := []) (lv0 := [(0, .ref 115), (1, .int a23), (2, .int a25), (3, .int a27), (4, .int a29)]) kc_195_705 rfl rfl rfl rfl rfl A722 (Nat.le_of_ble_eq_true rfl) (hJ _ _ _ _ (by decide)) (xm_le ml_32 rfl) rfl ?_
                          refine xi_aload_n (pc' := 1) (x := 115) kc_32_0 rfl rfl ?_
                          refine xi_iconst (pc' := 2) (v := 0) kc_32_1 rfl rfl ?_
                          refine xi_putfield (pc' := 5) (fs' := [.int 0, .int u5, .ref 116, .ref 117, .ref 118, .ref 119, .ref 120, .ref 121, .ref 122, .ref 123, .ref 124, .ref 125, .ref 126, .ref 127, .ref 128, .ref 129, .int u6, .ref 130, .int u7, .ref 131, .ref 132, .ref 133, .ref 134, .int u1, .ref 135, .ref 136, .ref 137, .ref 138, .ref 139, .ref 140, .ref 141, .ref 142, .int u9, .int u10, .int u11, .ref 143, .ref 144, .ref 145, .ref 146, .ref 147, .ref 148, .int u12, .ref 149, .ref 150, .ref 151, .int u13, .ref 152, .ref 153, .ref 154, .ref 155, .ref 156, .ref 157, .ref 158, .ref 159, .int u14, .ref 160, .int u15, .ref 161, .ref 162, .ref 163, .ref 164, .int u16, .ref 165, .ref 166]) kc_32_2 rfl rfl rfl A722 rfl rfl rfl (Nat.le_of_ble_eq_true rfl) rfl (fun hh724 eh723 => ?_)
                          have K725 := xk_pf (k := 0) (v := 0) K720 (xk_wf (by decide +kernel)) xD_115 A722 rfl (by first | omega | decide) (by first | omega | decide) eh723 rfl
                          have KR726 := xk_pf (k := 0) (v := 0) KR721 (xk_wf (by decide +kernel)) xD_115 A722 rfl (by first | omega | decide) (by first | omega | decide) eh723 rfl
                          refine xi_iload_n (pc' := 6) (x := a23) kc_32_5 rfl rfl ?_
                          refine xi_iconst (pc' := 7) (v := 0) kc_32_6 rfl rfl ?_
                          refine xi_iconst (pc' := 8) (v := 3) kc_32_7 rfl rfl ?_
                          refine xi_static (mj := 11) (as := [.int a23, .int 0, .int 3]) (st1 := []) (lv0 := [(0, .int a23), (1, .int 0), (2, .int 3)]) kc_32_8 rfl rfl (Nat.le_of_ble_eq_true rfl) rfl rfl (Nat.le_of_ble_eq_true rfl) (hJ _ _ _ _ (by decide)) (xm_le ml_11 rfl) rfl ?_
                          refine xi_iload_n (pc' := 1) (x := a23) kc_11_0 rfl rfl ?_
                          refine xi_iload_n (pc' := 2) (x := 0) kc_11_1 rfl rfl ?_
                          refine xi_cmf (pc' := 5) kc_11_2 rfl (xc_lt_f (X := a23.toInt) (Y := 0) rfl (by decide) (by omega)) ?_
                          refine xi_iload_n (pc' := 6) (x := a23) kc_11_5 rfl rfl ?_
                          refine xi_iload_n (pc' := 7) (x := 3) kc_11_6 rfl rfl ?_
                          refine xi_cmf (pc' := 10) kc_11_7 rfl (xc_gt_f (X := a23.toInt) (Y := 3) rfl (by decide) (by omega)) ?_
                          refine xi_iconst (pc' := 11) (v := 1) kc_11_10 rfl rfl ?_
                          refine xi_goto (pc' := 15) kc_11_11 rfl ?_
                          refine xi_ireturn kc_11_15 mr_11 rfl ?_
                          show xw J ov 99 32 (11, [(0, .ref 115), (1, .int a23), (2, .int a25), (3, .int a27), (4, .int a29)], [.int 1], hh724) _
                          refine xi_ift (pc' := 21) kc_32_11 rfl rfl ?_
                          refine xi_iload_n (pc' := 22) (x := a23) kc_32_21 rfl rfl ?_
                          refine xi_iconst (pc' := 23) (v := 3) kc_32_22 rfl rfl ?_
                          refine xi_cmt (pc' := 36) kc_32_23 rfl (xc_ne_t (X := a23.toInt) (Y := 3) rfl (by decide) (by omega)) ?_
                          refine xi_aload_n (pc' := 37) (x := 115) kc_32_36 rfl rfl ?_
                          refine xi_iload_n (pc' := 38) (x := a25) kc_32_37 rfl rfl ?_
                          refine xi_virtual (mj := 31) (as := [.int a25]) (st1 := []) (lv0 := [(0, .ref 115), (1, .int a25)]) kc_32_38 rfl rfl rfl rfl rfl eh723.1 (Nat.le_of_ble_eq_true rfl) (hJ _ _ _ _ (by decide)) (xm_le ml_31 rfl) rfl ?_
                          refine xi_iload_n (pc' := 1) (x := a25) kc_31_0 rfl rfl ?_
                          refine xi_static (mj := 24) (as := [.int a25]) (st1 := []) (lv0 := [(0, .int a25)]) kc_31_1 rfl rfl (Nat.le_of_ble_eq_true rfl) rfl rfl (Nat.le_of_ble_eq_true rfl) (hJ _ _ _ _ (by decide)) (xm_le ml_24 rfl) rfl ?_
                          refine xi_iload_n (pc' := 1) (x := a25) kc_24_0 rfl rfl ?_
                          refine xi_iconst (pc' := 2) (v := 0) kc_24_1 rfl rfl ?_
                          refine xi_bipush (pc' := 4) (v := 11) kc_24_2 rfl rfl ?_
                          refine xi_static (mj := 11) (as := [.int a25, .int 0, .int 11]) (st1 := []) (lv0 := [(0, .int a25), (1, .int 0), (2, .int 11)]) kc_24_4 rfl rfl (Nat.le_of_ble_eq_true rfl) rfl rfl (Nat.le_of_ble_eq_true rfl) (hJ _ _ _ _ (by decide)) (xm_le ml_11 rfl) rfl ?_
                          refine xi_iload_n (pc' := 1) (x := a25) kc_11_0 rfl rfl ?_
                          refine xi_iload_n (pc' := 2) (x := 0) kc_11_1 rfl rfl ?_
                          refine xi_cmf (pc' := 5) kc_11_2 rfl (xc_lt_f (X := a25.toInt) (Y := 0) rfl (by decide) (by omega)) ?_
                          refine xi_iload_n (pc' := 6) (x := a25) kc_11_5 rfl rfl ?_
                          refine xi_iload_n (pc' := 7) (x := 11) kc_11_6 rfl rfl ?_
                          refine xi_cmf (pc' := 10) kc_11_7 rfl (xc_gt_f (X := a25.toInt) (Y := 11) rfl (by decide) (by omega)) ?_
                          refine xi_iconst (pc' := 11) (v := 1) kc_11_10 rfl rfl ?_
                          refine xi_goto (pc' := 15) kc_11_11 rfl ?_
                          refine xi_ireturn kc_11_15 mr_11 rfl ?_
                          show xw J ov 97 24 (7, [(0, .int a25)], [.int 1], hh724) _
                          refine xi_ireturn kc_24_7 mr_24 rfl ?_
                          show xw J ov 98 31 (4, [(0, .ref 115), (1, .int a25)], [.int 1], hh724) _
                          refine xi_iff (pc' := 7) kc_31_4 rfl rfl ?_
                          refine xi_aload_n (pc' := 8) (x := 115) kc_31_7 rfl rfl ?_
                          refine xi_getfield (pc' := 11) (v := .ref 125) kc_31_8 rfl rfl rfl eh723.1 rfl ?_
                          refine xi_iload_n (pc' := 12) (x := a25) kc_31_11 rfl rfl ?_
                          have A727 := ((eh723.2.1 125 (by decide)).trans ((eh719.2.1 125 (by decide)).trans A338))
                          refine xi_iaload (pc' := 13) (v := u332) kc_31_12 rfl A727 (by decide) rfl (xi_in (by omega) (by rw [hy338]; omega)) HG339 ?_
                          refine xi_iff (pc' := 16) kc_31_13 rfl (xc_lt_f (X := u332.toInt) (Y := 0) rfl (by decide) (by omega)) ?_
                          refine xi_iconst (pc' := 17) (v := 1) kc_31_16 rfl rfl ?_
                          refine xi_goto (pc' := 21) kc_31_17 rfl ?_
                          refine xi_ireturn kc_31_21 mr_31 rfl ?_
                          show xw J ov 99 32 (41, [(0, .ref 115), (1, .int a23), (2, .int a25), (3, .int a27), (4, .int a29)], [.int 1], hh724) _
                          refine xi_iff (pc' := 44) kc_32_41 rfl rfl ?_
                          refine xi_iload_n (pc' := 45) (x := a23) kc_32_44 rfl rfl ?_
                          refine xi_ift (pc' := 63) kc_32_45 rfl (xc_ne_t (X := a23.toInt) (Y := 0) rfl (by decide) (by omega)) ?_
                          refine xi_iload_n (pc' := 64) (x := a27) kc_32_63 rfl rfl ?_
                          refine xi_iconst (pc' := 65) (v := 1) kc_32_64 rfl rfl ?_
                          refine xi_cmf (pc' := 68) kc_32_65 rfl (xc_lt_f (X := a27.toInt) (Y := 1) rfl (by decide) (by omega)) ?_
                          refine xi_iload (pc' := 70) (x := a29) kc_32_68 rfl rfl ?_
                          refine xi_ift (pc' := 80) kc_32_70 rfl (xc_ge_t (X := a29.toInt) (Y := 0) rfl (by decide) (by omega)) ?_
                          refine xi_iload_n (pc' := 81) (x := a27) kc_32_80 rfl rfl ?_
                          refine xi_bipush (pc' := 83) (v := 99) kc_32_81 rfl rfl ?_
                          refine xi_cmf (pc' := 86) kc_32_83 rfl (xc_gt_f (X := a27.toInt) (Y := 99) rfl (by decide) (by omega)) ?_
                          refine xi_iload (pc' := 88) (x := a29) kc_32_86 rfl rfl ?_
                          refine xi_sipush (pc' := 91) (v := 600) kc_32_88 rfl rfl ?_
                          refine xi_cmf (pc' := 94) kc_32_91 rfl (xc_gt_f (X := a29.toInt) (Y := 600) rfl (by decide) (by omega)) ?_
                          refine xi_aload_n (pc' := 95) (x := 115) kc_32_94 rfl rfl ?_
                          refine xi_getfield (pc' := 98) (v := .int u1) kc_32_95 rfl rfl rfl eh723.1 rfl ?_
                          refine xi_bipush (pc' := 100) (v := 10) kc_32_98 rfl rfl ?_
                          refine xi_cmf (pc' := 103) kc_32_100 rfl (xc_ne_f (X := u1.toInt) (Y := 10) rfl (by decide) (by omega)) ?_
                          refine xi_aload_n (pc' := 104) (x := 115) kc_32_103 rfl rfl ?_
                          refine xi_bipush (pc' := 106) (v := (-6)) kc_32_104 rfl rfl ?_
                          refine xi_virtual (mj := 12) (as := [.int (-6)]) (st1 := []) (lv0 := [(0, .ref 115), (1, .int (-6))]) kc_32_106 rfl rfl rfl rfl rfl eh723.1 (Nat.le_of_ble_eq_true rfl) (hJ _ _ _ _ (by decide)) (xm_le ml_12 rfl) rfl ?_
                          refine xi_aload_n (pc' := 1) (x := 115) kc_12_0 rfl rfl ?_
                          refine xi_getfield (pc' := 4) (v := .ref 140) kc_12_1 rfl rfl rfl eh723.1 rfl ?_
                          refine xi_iload_n (pc' := 5) (x := (-6)) kc_12_4 rfl rfl ?_
                          refine xi_ineg (pc' := 6) (v := 6) kc_12_5 rfl rfl ?_
                          refine xi_dup2 (pc' := 7) kc_12_6 rfl ⟨rfl, rfl⟩ ?_
                          obtain ⟨y728, A728, hy728, ry728⟩ := xk_arr K.1 xD_140
                          obtain ⟨v729, ev729, bv729, dv729⟩ := xj_get hy728 ry728 (i := 6) (by decide) (by decide)
                          have A730 := ((eh723.2.1 140 (by decide)).trans ((eh719.2.1 140 (by decide)).trans A728))
                          refine xi_iaload (pc' := 8) (v := v729) kc_12_7 rfl A730 (by decide) rfl (xi_in (by decide) (by rw [hy728]; decide)) ev729 ?_
                          refine xi_iconst (pc' := 9) (v := 1) kc_12_8 rfl rfl ?_
                          obtain ⟨v731, ev731⟩ : ∃ q : Int32, (v729 : Int32) + 1 = q := ⟨_, rfl⟩
                          have rv731 := xc_rng v731
                          refine xi_iadd (pc' := 10) (v := v731) kc_12_9 rfl ev731 ?_
                          obtain ⟨y732, s732, hy732, ry732⟩ := xj_set (v := v731) hy728 ry728 6 (by first | omega | decide) (by first | omega | decide)
                          refine xi_iastore (pc' := 11) (x' := y732) kc_12_10 rfl A730 rfl (xi_in (by decide) (by rw [hy728]; decide)) s732 (fun hh732 eh732 => ?_)
                          have K733 := xk_pa K725 (xk_wa (by decide +kernel)) xD_140 hy732 ry732 eh732
                          have KR734 := xk_pa KR726 (xk_wa (by decide +kernel)) xD_140 hy732 ry732 eh732
                          refine xi_iload_n (pc' := 12) (x := (-6)) kc_12_11 rfl rfl ?_
                          refine xi_ireturn kc_12_12 mr_12 rfl ?_
                          show xw J ov 99 32 (109, [(0, .ref 115), (1, .int a23), (2, .int a25), (3, .int a27), (4, .int a29)], [.int (-6)], hh732) _
                          refine xi_ireturn kc_32_109 mr_32 rfl ?_
                          show xw J ov 100 195 (708, [(4, .int x4), (3, .ref 167), (2, .ref 115), (1, .ref 0), (0, .ref 1000000)], [.int (-6)], hh732) _
                          refine xi_pop (pc' := 709) kc_195_708 rfl rfl ?_
                          refine xi_goto (pc' := 1501) kc_195_709 rfl ?_
                          obtain ⟨v735, ev735⟩ : ∃ q : Int32, x4 + 6 = q := ⟨_, rfl⟩
                          have zv735 : v735.toInt = (x4.toInt + 6) := by rw [← ev735]; exact (xz_add (X := x4.toInt) (Y := 6) rfl (by decide) (by omega) (by omega)).trans (by omega)
                          refine xi_iinc (pc' := 1504) (x := x4) (v := v735) (lv' := [(4, .int v735), (3, .ref 167), (2, .ref 115), (1, .ref 0), (0, .ref 1000000)]) kc_195_1501 rfl rfl ev735 rfl (xm_lt ml_195 rfl) ?_
                          refine xi_goto (pc' := 23) kc_195_1504 rfl ?_
                          exact kk v735 hh732 (by omega) K733 (xI_kept I KR734.2.1)
                  · refine xi_iff (pc' := 42) kc_116_39 rfl (xc_ge_f (X := a29.toInt) (Y := 0) rfl (by decide) (by omega)) ?_
                    refine xi_aload_n (pc' := 43) (x := 0) kc_116_42 rfl rfl ?_
                    refine xi_bipush (pc' := 45) (v := (-4)) kc_116_43 rfl rfl ?_
                    refine xi_virtual (mj := 90) (as := [.int (-4)]) (st1 := []) (lv0 := [(0, .ref 0), (1, .int (-4))]) kc_116_45 rfl rfl rfl rfl rfl A32 (Nat.le_of_ble_eq_true rfl) (hJ _ _ _ _ (by decide)) (xm_le ml_90 rfl) rfl ?_
                    refine xi_iload_n (pc' := 1) (x := (-4)) kc_90_0 rfl rfl ?_
                    refine xi_ineg (pc' := 2) (v := 4) kc_90_1 rfl rfl ?_
                    refine xi_istore_n (pc' := 3) (lv' := [(2, .int 4), (0, .ref 0), (1, .int (-4))]) kc_90_2 rfl rfl (xm_lt ml_90 rfl) ?_
                    refine xi_iload_n (pc' := 4) (x := 4) kc_90_3 rfl rfl ?_
                    refine xi_iff (pc' := 7) kc_90_4 rfl rfl ?_
                    refine xi_iload_n (pc' := 8) (x := 4) kc_90_7 rfl rfl ?_
                    refine xi_aload_n (pc' := 9) (x := 0) kc_90_8 rfl rfl ?_
                    refine xi_getfield (pc' := 12) (v := .ref 94) kc_90_9 rfl rfl rfl A32 rfl ?_
                    obtain ⟨y736, A736, hy736, ry736⟩ := xk_arr K.1 xD_94
                    refine xi_arraylength (pc' := 13) (n := 7) (v := 7) kc_90_12 rfl (xl_lenI (by decide) (by decide) A736 hy736) rfl ?_
                    refine xi_cmf (pc' := 16) kc_90_13 rfl rfl ?_
                    refine xi_aload_n (pc' := 17) (x := 0) kc_90_16 rfl rfl ?_
                    refine xi_getfield (pc' := 20) (v := .ref 94) kc_90_17 rfl rfl rfl A32 rfl ?_
                    refine xi_iload_n (pc' := 21) (x := 4) kc_90_20 rfl rfl ?_
                    refine xi_dup2 (pc' := 22) kc_90_21 rfl ⟨rfl, rfl⟩ ?_
                    obtain ⟨v737, ev737, bv737, dv737⟩ := xj_get hy736 ry736 (i := 4) (by decide) (by decide)
                    refine xi_iaload (pc' := 23) (v := v737) kc_90_22 rfl A736 (by decide) rfl (xi_in (by decide) (by rw [hy736]; decide)) ev737 ?_
                    refine xi_iconst (pc' := 24) (v := 1) kc_90_23 rfl rfl ?_
                    obtain ⟨v738, ev738⟩ : ∃ q : Int32, (v737 : Int32) + 1 = q := ⟨_, rfl⟩
                    have rv738 := xc_rng v738
                    refine xi_iadd (pc' := 25) (v := v738) kc_90_24 rfl ev738 ?_
                    obtain ⟨y739, s739, hy739, ry739⟩ := xj_set (v := v738) hy736 ry736 4 (by first | omega | decide) (by first | omega | decide)
                    refine xi_iastore (pc' := 26) (x' := y739) kc_90_25 rfl A736 rfl (xi_in (by decide) (by rw [hy736]; decide)) s739 (fun hh739 eh739 => ?_)
                    have K740 := xk_pa K (xk_wa (by decide +kernel)) xD_94 hy739 ry739 eh739
                    have KR741 := xk_pa KR (xk_wa (by decide +kernel)) xD_94 hy739 ry739 eh739
                    refine xi_iload_n (pc' := 27) (x := (-4)) kc_90_26 rfl rfl ?_
                    refine xi_ireturn kc_90_27 mr_90 rfl ?_
                    show xw J ov 99 116 (48, [(0, .ref 0), (1, .int a23), (2, .int a25), (3, .int a27), (4, .int a29)], [.int (-4)], hh739) _
                    refine xi_ireturn kc_116_48 mr_116 rfl ?_
                    show xw J ov 100 195 (679, [(4, .int x4), (3, .ref 167), (2, .ref 115), (1, .ref 0), (0, .ref 1000000)], [.int (-4)], hh739) _
                    refine xi_pop (pc' := 680) kc_195_679 rfl rfl ?_
                    refine xi_aload_n (pc' := 681) (x := 115) kc_195_680 rfl rfl ?_
                    refine xi_aload_n (pc' := 682) (x := 1000000) kc_195_681 rfl rfl ?_
                    refine xi_iload (pc' := 684) (x := x4) kc_195_682 rfl rfl ?_
                    refine xi_iconst (pc' := 685) (v := 1) kc_195_684 rfl rfl ?_
                    refine xi_iadd (pc' := 686) (v := v22) kc_195_685 rfl ev22 ?_
                    refine xi_ialoadO (pc' := 687) (v := a23) kc_195_686 rfl (by decide) hov0 (xi_in (by omega) (by omega)) ea23 ?_
                    refine xi_aload_n (pc' := 688) (x := 1000000) kc_195_687 rfl rfl ?_
                    refine xi_iload (pc' := 690) (x := x4) kc_195_688 rfl rfl ?_
                    refine xi_iconst (pc' := 691) (v := 2) kc_195_690 rfl rfl ?_
                    refine xi_iadd (pc' := 692) (v := v24) kc_195_691 rfl ev24 ?_
                    refine xi_ialoadO (pc' := 693) (v := a25) kc_195_692 rfl (by decide) hov0 (xi_in (by omega) (by omega)) ea25 ?_
                    refine xi_aload_n (pc' := 694) (x := 1000000) kc_195_693 rfl rfl ?_
                    refine xi_iload (pc' := 696) (x := x4) kc_195_694 rfl rfl ?_
                    refine xi_iconst (pc' := 697) (v := 3) kc_195_696 rfl rfl ?_
                    refine xi_iadd (pc' := 698) (v := v26) kc_195_697 rfl ev26 ?_
                    refine xi_ialoadO (pc' := 699) (v := a27) kc_195_698 rfl (by decide) hov0 (xi_in (by omega) (by omega)) ea27 ?_
                    refine xi_aload_n (pc' := 700) (x := 1000000) kc_195_699 rfl rfl ?_
                    refine xi_iload (pc' := 702) (x := x4) kc_195_700 rfl rfl ?_
                    refine xi_iconst (pc' := 703) (v := 4) kc_195_702 rfl rfl ?_
                    refine xi_iadd (pc' := 704) (v := v28) kc_195_703 rfl ev28 ?_
                    refine xi_ialoadO (pc' := 705) (v := a29) kc_195_704 rfl (by decide) hov0 (xi_in (by omega) (by omega)) ea29 ?_
                    have A742 := ((eh739.2.1 115 (by decide)).trans A17)
                    refine xi_virtual (mj := 32) (as := [.int a23, .int a25, .int a27, .int a29]) (st1 := []) (lv0 := [(0, .ref 115), (1, .int a23), (2, .int a25), (3, .int a27), (4, .int a29)]) kc_195_705 rfl rfl rfl rfl rfl A742 (Nat.le_of_ble_eq_true rfl) (hJ _ _ _ _ (by decide)) (xm_le ml_32 rfl) rfl ?_
                    refine xi_aload_n (pc' := 1) (x := 115) kc_32_0 rfl rfl ?_
                    refine xi_iconst (pc' := 2) (v := 0) kc_32_1 rfl rfl ?_
                    refine xi_putfield (pc' := 5) (fs' := [.int 0, .int u5, .ref 116, .ref 117, .ref 118, .ref 119, .ref 120, .ref 121, .ref 122, .ref 123, .ref 124, .ref 125, .ref 126, .ref 127, .ref 128, .ref 129, .int u6, .ref 130, .int u7, .ref 131, .ref 132, .ref 133, .ref 134, .int u1, .ref 135, .ref 136, .ref 137, .ref 138, .ref 139, .ref 140, .ref 141, .ref 142, .int u9, .int u10, .int u11, .ref 143, .ref 144, .ref 145, .ref 146, .ref 147, .ref 148, .int u12, .ref 149, .ref 150, .ref 151, .int u13, .ref 152, .ref 153, .ref 154, .ref 155, .ref 156, .ref 157, .ref 158, .ref 159, .int u14, .ref 160, .int u15, .ref 161, .ref 162, .ref 163, .ref 164, .int u16, .ref 165, .ref 166]) kc_32_2 rfl rfl rfl A742 rfl rfl rfl (Nat.le_of_ble_eq_true rfl) rfl (fun hh744 eh743 => ?_)
                    have K745 := xk_pf (k := 0) (v := 0) K740 (xk_wf (by decide +kernel)) xD_115 A742 rfl (by first | omega | decide) (by first | omega | decide) eh743 rfl
                    have KR746 := xk_pf (k := 0) (v := 0) KR741 (xk_wf (by decide +kernel)) xD_115 A742 rfl (by first | omega | decide) (by first | omega | decide) eh743 rfl
                    refine xi_iload_n (pc' := 6) (x := a23) kc_32_5 rfl rfl ?_
                    refine xi_iconst (pc' := 7) (v := 0) kc_32_6 rfl rfl ?_
                    refine xi_iconst (pc' := 8) (v := 3) kc_32_7 rfl rfl ?_
                    refine xi_static (mj := 11) (as := [.int a23, .int 0, .int 3]) (st1 := []) (lv0 := [(0, .int a23), (1, .int 0), (2, .int 3)]) kc_32_8 rfl rfl (Nat.le_of_ble_eq_true rfl) rfl rfl (Nat.le_of_ble_eq_true rfl) (hJ _ _ _ _ (by decide)) (xm_le ml_11 rfl) rfl ?_
                    refine xi_iload_n (pc' := 1) (x := a23) kc_11_0 rfl rfl ?_
                    refine xi_iload_n (pc' := 2) (x := 0) kc_11_1 rfl rfl ?_
                    refine xi_cmf (pc' := 5) kc_11_2 rfl (xc_lt_f (X := a23.toInt) (Y := 0) rfl (by decide) (by omega)) ?_
                    refine xi_iload_n (pc' := 6) (x := a23) kc_11_5 rfl rfl ?_
                    refine xi_iload_n (pc' := 7) (x := 3) kc_11_6 rfl rfl ?_
                    refine xi_cmf (pc' := 10) kc_11_7 rfl (xc_gt_f (X := a23.toInt) (Y := 3) rfl (by decide) (by omega)) ?_
                    refine xi_iconst (pc' := 11) (v := 1) kc_11_10 rfl rfl ?_
                    refine xi_goto (pc' := 15) kc_11_11 rfl ?_
                    refine xi_ireturn kc_11_15 mr_11 rfl ?_
                    show xw J ov 99 32 (11, [(0, .ref 115), (1, .int a23), (2, .int a25), (3, .int a27), (4, .int a29)], [.int 1], hh744) _
                    refine xi_ift (pc' := 21) kc_32_11 rfl rfl ?_
                    refine xi_iload_n (pc' := 22) (x := a23) kc_32_21 rfl rfl ?_
                    refine xi_iconst (pc' := 23) (v := 3) kc_32_22 rfl rfl ?_
                    refine xi_cmt (pc' := 36) kc_32_23 rfl (xc_ne_t (X := a23.toInt) (Y := 3) rfl (by decide) (by omega)) ?_
                    refine xi_aload_n (pc' := 37) (x := 115) kc_32_36 rfl rfl ?_
                    refine xi_iload_n (pc' := 38) (x := a25) kc_32_37 rfl rfl ?_
                    refine xi_virtual (mj := 31) (as := [.int a25]) (st1 := []) (lv0 := [(0, .ref 115), (1, .int a25)]) kc_32_38 rfl rfl rfl rfl rfl eh743.1 (Nat.le_of_ble_eq_true rfl) (hJ _ _ _ _ (by decide)) (xm_le ml_31 rfl) rfl ?_
                    refine xi_iload_n (pc' := 1) (x := a25) kc_31_0 rfl rfl ?_
                    refine xi_static (mj := 24) (as := [.int a25]) (st1 := []) (lv0 := [(0, .int a25)]) kc_31_1 rfl rfl (Nat.le_of_ble_eq_true rfl) rfl rfl (Nat.le_of_ble_eq_true rfl) (hJ _ _ _ _ (by decide)) (xm_le ml_24 rfl) rfl ?_
                    refine xi_iload_n (pc' := 1) (x := a25) kc_24_0 rfl rfl ?_
                    refine xi_iconst (pc' := 2) (v := 0) kc_24_1 rfl rfl ?_
                    refine xi_bipush (pc' := 4) (v := 11) kc_24_2 rfl rfl ?_
                    refine xi_static (mj := 11) (as := [.int a25, .int 0, .int 11]) (st1 := []) (lv0 := [(0, .int a25), (1, .int 0), (2, .int 11)]) kc_24_4 rfl rfl (Nat.le_of_ble_eq_true rfl) rfl rfl (Nat.le_of_ble_eq_true rfl) (hJ _ _ _ _ (by decide)) (xm_le ml_11 rfl) rfl ?_
                    refine xi_iload_n (pc' := 1) (x := a25) kc_11_0 rfl rfl ?_
                    refine xi_iload_n (pc' := 2) (x := 0) kc_11_1 rfl rfl ?_
                    refine xi_cmf (pc' := 5) kc_11_2 rfl (xc_lt_f (X := a25.toInt) (Y := 0) rfl (by decide) (by omega)) ?_
                    refine xi_iload_n (pc' := 6) (x := a25) kc_11_5 rfl rfl ?_
                    refine xi_iload_n (pc' := 7) (x := 11) kc_11_6 rfl rfl ?_
                    refine xi_cmf (pc' := 10) kc_11_7 rfl (xc_gt_f (X := a25.toInt) (Y := 11) rfl (by decide) (by omega)) ?_
                    refine xi_iconst (pc' := 11) (v := 1) kc_11_10 rfl rfl ?_
                    refine xi_goto (pc' := 15) kc_11_11 rfl ?_
                    refine xi_ireturn kc_11_15 mr_11 rfl ?_
                    show xw J ov 97 24 (7, [(0, .int a25)], [.int 1], hh744) _
                    refine xi_ireturn kc_24_7 mr_24 rfl ?_
                    show xw J ov 98 31 (4, [(0, .ref 115), (1, .int a25)], [.int 1], hh744) _
                    refine xi_iff (pc' := 7) kc_31_4 rfl rfl ?_
                    refine xi_aload_n (pc' := 8) (x := 115) kc_31_7 rfl rfl ?_
                    refine xi_getfield (pc' := 11) (v := .ref 125) kc_31_8 rfl rfl rfl eh743.1 rfl ?_
                    refine xi_iload_n (pc' := 12) (x := a25) kc_31_11 rfl rfl ?_
                    have A747 := ((eh743.2.1 125 (by decide)).trans ((eh739.2.1 125 (by decide)).trans A338))
                    refine xi_iaload (pc' := 13) (v := u332) kc_31_12 rfl A747 (by decide) rfl (xi_in (by omega) (by rw [hy338]; omega)) HG339 ?_
                    refine xi_iff (pc' := 16) kc_31_13 rfl (xc_lt_f (X := u332.toInt) (Y := 0) rfl (by decide) (by omega)) ?_
                    refine xi_iconst (pc' := 17) (v := 1) kc_31_16 rfl rfl ?_
                    refine xi_goto (pc' := 21) kc_31_17 rfl ?_
                    refine xi_ireturn kc_31_21 mr_31 rfl ?_
                    show xw J ov 99 32 (41, [(0, .ref 115), (1, .int a23), (2, .int a25), (3, .int a27), (4, .int a29)], [.int 1], hh744) _
                    refine xi_iff (pc' := 44) kc_32_41 rfl rfl ?_
                    refine xi_iload_n (pc' := 45) (x := a23) kc_32_44 rfl rfl ?_
                    refine xi_ift (pc' := 63) kc_32_45 rfl (xc_ne_t (X := a23.toInt) (Y := 0) rfl (by decide) (by omega)) ?_
                    refine xi_iload_n (pc' := 64) (x := a27) kc_32_63 rfl rfl ?_
                    refine xi_iconst (pc' := 65) (v := 1) kc_32_64 rfl rfl ?_
                    refine xi_cmf (pc' := 68) kc_32_65 rfl (xc_lt_f (X := a27.toInt) (Y := 1) rfl (by decide) (by omega)) ?_
                    refine xi_iload (pc' := 70) (x := a29) kc_32_68 rfl rfl ?_
                    refine xi_iff (pc' := 73) kc_32_70 rfl (xc_ge_f (X := a29.toInt) (Y := 0) rfl (by decide) (by omega)) ?_
                    refine xi_aload_n (pc' := 74) (x := 115) kc_32_73 rfl rfl ?_
                    refine xi_bipush (pc' := 76) (v := (-4)) kc_32_74 rfl rfl ?_
                    refine xi_virtual (mj := 12) (as := [.int (-4)]) (st1 := []) (lv0 := [(0, .ref 115), (1, .int (-4))]) kc_32_76 rfl rfl rfl rfl rfl eh743.1 (Nat.le_of_ble_eq_true rfl) (hJ _ _ _ _ (by decide)) (xm_le ml_12 rfl) rfl ?_
                    refine xi_aload_n (pc' := 1) (x := 115) kc_12_0 rfl rfl ?_
                    refine xi_getfield (pc' := 4) (v := .ref 140) kc_12_1 rfl rfl rfl eh743.1 rfl ?_
                    refine xi_iload_n (pc' := 5) (x := (-4)) kc_12_4 rfl rfl ?_
                    refine xi_ineg (pc' := 6) (v := 4) kc_12_5 rfl rfl ?_
                    refine xi_dup2 (pc' := 7) kc_12_6 rfl ⟨rfl, rfl⟩ ?_
                    obtain ⟨y748, A748, hy748, ry748⟩ := xk_arr K.1 xD_140
                    obtain ⟨v749, ev749, bv749, dv749⟩ := xj_get hy748 ry748 (i := 4) (by decide) (by decide)
                    have A750 := ((eh743.2.1 140 (by decide)).trans ((eh739.2.1 140 (by decide)).trans A748))
                    refine xi_iaload (pc' := 8) (v := v749) kc_12_7 rfl A750 (by decide) rfl (xi_in (by decide) (by rw [hy748]; decide)) ev749 ?_
                    refine xi_iconst (pc' := 9) (v := 1) kc_12_8 rfl rfl ?_
                    obtain ⟨v751, ev751⟩ : ∃ q : Int32, (v749 : Int32) + 1 = q := ⟨_, rfl⟩
                    have rv751 := xc_rng v751
                    refine xi_iadd (pc' := 10) (v := v751) kc_12_9 rfl ev751 ?_
                    obtain ⟨y752, s752, hy752, ry752⟩ := xj_set (v := v751) hy748 ry748 4 (by first | omega | decide) (by first | omega | decide)
                    refine xi_iastore (pc' := 11) (x' := y752) kc_12_10 rfl A750 rfl (xi_in (by decide) (by rw [hy748]; decide)) s752 (fun hh752 eh752 => ?_)
                    have K753 := xk_pa K745 (xk_wa (by decide +kernel)) xD_140 hy752 ry752 eh752
                    have KR754 := xk_pa KR746 (xk_wa (by decide +kernel)) xD_140 hy752 ry752 eh752
                    refine xi_iload_n (pc' := 12) (x := (-4)) kc_12_11 rfl rfl ?_
                    refine xi_ireturn kc_12_12 mr_12 rfl ?_
                    show xw J ov 99 32 (79, [(0, .ref 115), (1, .int a23), (2, .int a25), (3, .int a27), (4, .int a29)], [.int (-4)], hh752) _
                    refine xi_ireturn kc_32_79 mr_32 rfl ?_
                    show xw J ov 100 195 (708, [(4, .int x4), (3, .ref 167), (2, .ref 115), (1, .ref 0), (0, .ref 1000000)], [.int (-4)], hh752) _
                    refine xi_pop (pc' := 709) kc_195_708 rfl rfl ?_
                    refine xi_goto (pc' := 1501) kc_195_709 rfl ?_
                    obtain ⟨v755, ev755⟩ : ∃ q : Int32, x4 + 6 = q := ⟨_, rfl⟩
                    have zv755 : v755.toInt = (x4.toInt + 6) := by rw [← ev755]; exact (xz_add (X := x4.toInt) (Y := 6) rfl (by decide) (by omega) (by omega)).trans (by omega)
                    refine xi_iinc (pc' := 1504) (x := x4) (v := v755) (lv' := [(4, .int v755), (3, .ref 167), (2, .ref 115), (1, .ref 0), (0, .ref 1000000)]) kc_195_1501 rfl rfl ev755 rfl (xm_lt ml_195 rfl) ?_
                    refine xi_goto (pc' := 23) kc_195_1504 rfl ?_
                    exact kk v755 hh752 (by omega) K753 (xI_kept I KR754.2.1)
