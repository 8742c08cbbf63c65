set_option maxHeartbeats 8000000 in
theorem lc_11 {J : xe_J} {ov : List (List Int32)} (hJ : ∀ d mj as h, mj ≠ xe_loff → J d mj as h = none) {a0 a1 a2 a3 a4 a5 : Int32} (hov0 : ov[0]? = some [a0, a1, a2, a3, a4, a5]) (hov1 : ov[1]? = some [10, 0, 0, 0, 0, 0]) (hov2 : ov[2]? = some [99, 30, 50, 50, 1, 99999]) {h0 : xe_H} (F : xf_fr h0) (hn0 : h0.length ≤ 600002) (hz0 : xe_sz h0 ≤ 7302232) : xw J ov 100 196 (651, [(4, .int 0), (3, .ref 167), (2, .ref 115), (1, .ref 0), (0, .ref 1000000)], [], h0) xf_Q := by
  have rr1 := xc_rng a1
  have rr2 := xc_rng a2
  have rr3 := xc_rng a3
  have rr4 := xc_rng a4
  have rr5 := xc_rng a5
  refine xi_aload_n (pc' := 652) (x := 0) kc_196_651 rfl rfl ?_
  refine xi_aload_n (pc' := 653) (x := 1000000) kc_196_652 rfl rfl ?_
  refine xi_iload (pc' := 655) (x := 0) kc_196_653 rfl rfl ?_
  refine xi_iconst (pc' := 656) (v := 1) kc_196_655 rfl rfl ?_
  refine xi_iadd (pc' := 657) (v := 1) kc_196_656 rfl rfl ?_
  refine xi_ialoadO (pc' := 658) (v := a1) kc_196_657 rfl (by decide) hov0 (xi_in (n := 6) (by decide) (by decide)) rfl ?_
  refine xi_aload_n (pc' := 659) (x := 1000000) kc_196_658 rfl rfl ?_
  refine xi_iload (pc' := 661) (x := 0) kc_196_659 rfl rfl ?_
  refine xi_iconst (pc' := 662) (v := 2) kc_196_661 rfl rfl ?_
  refine xi_iadd (pc' := 663) (v := 2) kc_196_662 rfl rfl ?_
  refine xi_ialoadO (pc' := 664) (v := a2) kc_196_663 rfl (by decide) hov0 (xi_in (n := 6) (by decide) (by decide)) rfl ?_
  refine xi_aload_n (pc' := 665) (x := 1000000) kc_196_664 rfl rfl ?_
  refine xi_iload (pc' := 667) (x := 0) kc_196_665 rfl rfl ?_
  refine xi_iconst (pc' := 668) (v := 3) kc_196_667 rfl rfl ?_
  refine xi_iadd (pc' := 669) (v := 3) kc_196_668 rfl rfl ?_
  refine xi_ialoadO (pc' := 670) (v := a3) kc_196_669 rfl (by decide) hov0 (xi_in (n := 6) (by decide) (by decide)) rfl ?_
  refine xi_aload_n (pc' := 671) (x := 1000000) kc_196_670 rfl rfl ?_
  refine xi_iload (pc' := 673) (x := 0) kc_196_671 rfl rfl ?_
  refine xi_iconst (pc' := 674) (v := 4) kc_196_673 rfl rfl ?_
  refine xi_iadd (pc' := 675) (v := 4) kc_196_674 rfl rfl ?_
  refine xi_ialoadO (pc' := 676) (v := a4) kc_196_675 rfl (by decide) hov0 (xi_in (n := 6) (by decide) (by decide)) rfl ?_
  refine xi_virtual (mj := 117) (as := [.int a1, .int a2, .int a3, .int a4]) (st1 := []) (lv0 := [(0, .ref 0), (1, .int a1), (2, .int a2), (3, .int a3), (4, .int a4)]) kc_196_676 rfl rfl rfl rfl rfl (F 0 _ hl_0) (Nat.le_of_ble_eq_true rfl) (hJ _ _ _ _ (by decide)) (xm_le ml_117 rfl) rfl ?_
  refine xi_iload_n (pc' := 1) (x := a1) kc_117_0 rfl rfl ?_
  refine xi_static (mj := 118) (as := [.int a1]) (st1 := []) (lv0 := [(0, .int a1)]) kc_117_1 rfl rfl (Nat.le_of_ble_eq_true rfl) rfl rfl (Nat.le_of_ble_eq_true rfl) (hJ _ _ _ _ (by decide)) (xm_le ml_118 rfl) rfl ?_
  refine xi_iload_n (pc' := 1) (x := a1) kc_118_0 rfl rfl ?_
  by_cases c1 : a1.toInt < 0
  · refine xi_ift (pc' := 13) kc_118_1 rfl (xc_lt_t (X := a1.toInt) (Y := 0) rfl (by decide) (by omega)) ?_
    refine xi_iconst (pc' := 14) (v := 0) kc_118_13 rfl rfl ?_
    refine xi_ireturn kc_118_14 mr_118 rfl ?_
    show xw J ov 99 117 (4, [(0, .ref 0), (1, .int a1), (2, .int a2), (3, .int a3), (4, .int a4)], [.int 0], h0) _
    refine xi_iff (pc' := 7) kc_117_4 rfl rfl ?_
    refine xi_aload_n (pc' := 8) (x := 0) kc_117_7 rfl rfl ?_
    refine xi_bipush (pc' := 10) (v := (-2)) kc_117_8 rfl rfl ?_
    refine xi_virtual (mj := 91) (as := [.int (-2)]) (st1 := []) (lv0 := [(0, .ref 0), (1, .int (-2))]) kc_117_10 rfl rfl rfl rfl rfl (F 0 _ hl_0) (Nat.le_of_ble_eq_true rfl) (hJ _ _ _ _ (by decide)) (xm_le ml_91 rfl) rfl ?_
    refine xi_iload_n (pc' := 1) (x := (-2)) kc_91_0 rfl rfl ?_
    refine xi_ineg (pc' := 2) (v := 2) kc_91_1 rfl rfl ?_
    refine xi_istore_n (pc' := 3) (lv' := [(2, .int 2), (0, .ref 0), (1, .int (-2))]) kc_91_2 rfl rfl (xm_lt ml_91 rfl) ?_
    refine xi_iload_n (pc' := 4) (x := 2) kc_91_3 rfl rfl ?_
    refine xi_iff (pc' := 7) kc_91_4 rfl rfl ?_
    refine xi_iload_n (pc' := 8) (x := 2) kc_91_7 rfl rfl ?_
    refine xi_aload_n (pc' := 9) (x := 0) kc_91_8 rfl rfl ?_
    refine xi_getfield (pc' := 12) (v := .ref 94) kc_91_9 rfl rfl rfl (F 0 _ hl_0) rfl ?_
    refine xi_arraylength (pc' := 13) (n := 7) (v := 7) kc_91_12 rfl (xl_lenI (by decide) (by decide) (F 94 _ hl_94) (by simp only [List.length_replicate, List.length_cons, List.length_nil])) rfl ?_
    refine xi_cmf (pc' := 16) kc_91_13 rfl rfl ?_
    refine xi_aload_n (pc' := 17) (x := 0) kc_91_16 rfl rfl ?_
    refine xi_getfield (pc' := 20) (v := .ref 94) kc_91_17 rfl rfl rfl (F 0 _ hl_0) rfl ?_
    refine xi_iload_n (pc' := 21) (x := 2) kc_91_20 rfl rfl ?_
    refine xi_dup2 (pc' := 22) kc_91_21 rfl ⟨rfl, rfl⟩ ?_
    refine xi_iaload (pc' := 23) (v := 0) kc_91_22 rfl (F 94 _ hl_94) (by decide) rfl (xi_in (n := 7) (by decide) (by decide)) rfl ?_
    refine xi_iconst (pc' := 24) (v := 1) kc_91_23 rfl rfl ?_
    refine xi_iadd (pc' := 25) (v := 1) kc_91_24 rfl rfl ?_
    refine xi_iastore (pc' := 26) (x' := [0, 0, 1, 0, 0, 0, 0]) kc_91_25 rfl (F 94 _ hl_94) rfl (xi_in (n := 7) (by decide) (by decide)) rfl (fun hh1 eh1 => ?_)
    refine xi_iload_n (pc' := 27) (x := (-2)) kc_91_26 rfl rfl ?_
    refine xi_ireturn kc_91_27 mr_91 rfl ?_
    show xw J ov 99 117 (13, [(0, .ref 0), (1, .int a1), (2, .int a2), (3, .int a3), (4, .int a4)], [.int (-2)], hh1) _
    refine xi_ireturn kc_117_13 mr_117 rfl ?_
    show xw J ov 100 196 (679, [(4, .int 0), (3, .ref 167), (2, .ref 115), (1, .ref 0), (0, .ref 1000000)], [.int (-2)], hh1) _
    refine xi_aload_n (pc' := 680) (x := 115) kc_196_679 rfl rfl ?_
    refine xi_aload_n (pc' := 681) (x := 1000000) kc_196_680 rfl rfl ?_
    refine xi_iload (pc' := 683) (x := 0) kc_196_681 rfl rfl ?_
    refine xi_iconst (pc' := 684) (v := 1) kc_196_683 rfl rfl ?_
    refine xi_iadd (pc' := 685) (v := 1) kc_196_684 rfl rfl ?_
    refine xi_ialoadO (pc' := 686) (v := a1) kc_196_685 rfl (by decide) hov0 (xi_in (n := 6) (by decide) (by decide)) rfl ?_
    refine xi_aload_n (pc' := 687) (x := 1000000) kc_196_686 rfl rfl ?_
    refine xi_iload (pc' := 689) (x := 0) kc_196_687 rfl rfl ?_
    refine xi_iconst (pc' := 690) (v := 2) kc_196_689 rfl rfl ?_
    refine xi_iadd (pc' := 691) (v := 2) kc_196_690 rfl rfl ?_
    refine xi_ialoadO (pc' := 692) (v := a2) kc_196_691 rfl (by decide) hov0 (xi_in (n := 6) (by decide) (by decide)) rfl ?_
    refine xi_aload_n (pc' := 693) (x := 1000000) kc_196_692 rfl rfl ?_
    refine xi_iload (pc' := 695) (x := 0) kc_196_693 rfl rfl ?_
    refine xi_iconst (pc' := 696) (v := 3) kc_196_695 rfl rfl ?_
    refine xi_iadd (pc' := 697) (v := 3) kc_196_696 rfl rfl ?_
    refine xi_ialoadO (pc' := 698) (v := a3) kc_196_697 rfl (by decide) hov0 (xi_in (n := 6) (by decide) (by decide)) rfl ?_
    refine xi_aload_n (pc' := 699) (x := 1000000) kc_196_698 rfl rfl ?_
    refine xi_iload (pc' := 701) (x := 0) kc_196_699 rfl rfl ?_
    refine xi_iconst (pc' := 702) (v := 4) kc_196_701 rfl rfl ?_
    refine xi_iadd (pc' := 703) (v := 4) kc_196_702 rfl rfl ?_
    refine xi_ialoadO (pc' := 704) (v := a4) kc_196_703 rfl (by decide) hov0 (xi_in (n := 6) (by decide) (by decide)) rfl ?_
    refine xi_virtual (mj := 33) (as := [.int a1, .int a2, .int a3, .int a4]) (st1 := [.int (-2)]) (lv0 := [(0, .ref 115), (1, .int a1), (2, .int a2), (3, .int a3), (4, .int a4)]) kc_196_704 rfl rfl rfl rfl rfl ((eh1.2.1 115 (by decide)).trans (F 115 _ hl_115)) (Nat.le_of_ble_eq_true rfl) (hJ _ _ _ _ (by decide)) (xm_le ml_33 rfl) rfl ?_
    refine xi_aload_n (pc' := 1) (x := 115) kc_33_0 rfl rfl ?_
    refine xi_iconst (pc' := 2) (v := 0) kc_33_1 rfl rfl ?_
    refine xi_putfield (pc' := 5) (fs' := [.int 0, .int 0, .ref 116, .ref 117, .ref 118, .ref 119, .ref 120, .ref 121, .ref 122, .ref 123, .ref 124, .ref 125, .ref 126, .ref 127, .ref 128, .ref 129, .int 4, .ref 130, .int 0, .ref 131, .ref 132, .ref 133, .ref 134, .int 0, .ref 135, .ref 136, .ref 137, .ref 138, .ref 139, .ref 140, .ref 141, .ref 142, .int 0, .int 0, .int 0, .ref 143, .ref 144, .ref 145, .ref 146, .ref 147, .ref 148, .int 0, .ref 149, .ref 150, .ref 151, .int 0, .ref 152, .ref 153, .ref 154, .ref 155, .ref 156, .ref 157, .ref 158, .ref 159, .int 0, .ref 160, .int 0, .ref 161, .ref 162, .ref 163, .ref 164, .int 0, .ref 165, .ref 166]) kc_33_2 rfl rfl rfl ((eh1.2.1 115 (by decide)).trans (F 115 _ hl_115)) rfl rfl rfl (Nat.le_of_ble_eq_true rfl) rfl (fun hh2 eh2 => ?_)
    refine xi_iload_n (pc' := 6) (x := a1) kc_33_5 rfl rfl ?_
    refine xi_iconst (pc' := 7) (v := 0) kc_33_6 rfl rfl ?_
    refine xi_iconst (pc' := 8) (v := 3) kc_33_7 rfl rfl ?_
    refine xi_static (mj := 12) (as := [.int a1, .int 0, .int 3]) (st1 := []) (lv0 := [(0, .int a1), (1, .int 0), (2, .int 3)]) kc_33_8 rfl rfl (Nat.le_of_ble_eq_true rfl) rfl rfl (Nat.le_of_ble_eq_true rfl) (hJ _ _ _ _ (by decide)) (xm_le ml_12 rfl) rfl ?_
    refine xi_iload_n (pc' := 1) (x := a1) kc_12_0 rfl rfl ?_
    refine xi_iload_n (pc' := 2) (x := 0) kc_12_1 rfl rfl ?_
    refine xi_cmt (pc' := 14) kc_12_2 rfl (xc_lt_t (X := a1.toInt) (Y := 0) rfl (by decide) (by omega)) ?_
    refine xi_iconst (pc' := 15) (v := 0) kc_12_14 rfl rfl ?_
    refine xi_ireturn kc_12_15 mr_12 rfl ?_
    show xw J ov 99 33 (11, [(0, .ref 115), (1, .int a1), (2, .int a2), (3, .int a3), (4, .int a4)], [.int 0], hh2) _
    refine xi_iff (pc' := 14) kc_33_11 rfl rfl ?_
    refine xi_aload_n (pc' := 15) (x := 115) kc_33_14 rfl rfl ?_
    refine xi_bipush (pc' := 17) (v := (-2)) kc_33_15 rfl rfl ?_
    refine xi_virtual (mj := 13) (as := [.int (-2)]) (st1 := []) (lv0 := [(0, .ref 115), (1, .int (-2))]) kc_33_17 rfl rfl rfl rfl rfl eh2.1 (Nat.le_of_ble_eq_true rfl) (hJ _ _ _ _ (by decide)) (xm_le ml_13 rfl) rfl ?_
    refine xi_aload_n (pc' := 1) (x := 115) kc_13_0 rfl rfl ?_
    refine xi_getfield (pc' := 4) (v := .ref 140) kc_13_1 rfl rfl rfl eh2.1 rfl ?_
    refine xi_iload_n (pc' := 5) (x := (-2)) kc_13_4 rfl rfl ?_
    refine xi_ineg (pc' := 6) (v := 2) kc_13_5 rfl rfl ?_
    refine xi_dup2 (pc' := 7) kc_13_6 rfl ⟨rfl, rfl⟩ ?_
    refine xi_iaload (pc' := 8) (v := 0) kc_13_7 rfl ((eh2.2.1 140 (by decide)).trans ((eh1.2.1 140 (by decide)).trans (F 140 _ hl_140))) (by decide) rfl (xi_in (n := 7) (by decide) (by decide)) rfl ?_
    refine xi_iconst (pc' := 9) (v := 1) kc_13_8 rfl rfl ?_
    refine xi_iadd (pc' := 10) (v := 1) kc_13_9 rfl rfl ?_
    refine xi_iastore (pc' := 11) (x' := [0, 0, 1, 0, 0, 0, 0]) kc_13_10 rfl ((eh2.2.1 140 (by decide)).trans ((eh1.2.1 140 (by decide)).trans (F 140 _ hl_140))) rfl (xi_in (n := 7) (by decide) (by decide)) rfl (fun hh3 eh3 => ?_)
    refine xi_iload_n (pc' := 12) (x := (-2)) kc_13_11 rfl rfl ?_
    refine xi_ireturn kc_13_12 mr_13 rfl ?_
    show xw J ov 99 33 (20, [(0, .ref 115), (1, .int a1), (2, .int a2), (3, .int a3), (4, .int a4)], [.int (-2)], hh3) _
    refine xi_ireturn kc_33_20 mr_33 rfl ?_
    show xw J ov 100 196 (707, [(4, .int 0), (3, .ref 167), (2, .ref 115), (1, .ref 0), (0, .ref 1000000)], [.int (-2), .int (-2)], hh3) _
    refine xi_cmt (pc' := 1528) kc_196_707 rfl rfl ?_
    refine xi_iinc (pc' := 1531) (x := 0) (v := 6) (lv' := [(4, .int 6), (3, .ref 167), (2, .ref 115), (1, .ref 0), (0, .ref 1000000)]) kc_196_1528 rfl rfl rfl rfl (xm_lt ml_196 rfl) ?_
    refine xi_goto (pc' := 23) kc_196_1531 rfl ?_
    refine xi_iload (pc' := 25) (x := 6) kc_196_23 rfl rfl ?_
    refine xi_aload_n (pc' := 26) (x := 1000000) kc_196_25 rfl rfl ?_
    refine xi_arraylength (pc' := 27) (n := 6) (v := 6) kc_196_26 rfl (xl_lenO (by decide) hov0 rfl) rfl ?_
    refine xi_bipush (pc' := 29) (v := 6) kc_196_27 rfl rfl ?_
    refine xi_isub (pc' := 30) (v := 0) kc_196_29 rfl rfl ?_
    refine xi_cmt (pc' := 1534) kc_196_30 rfl rfl ?_
    refine xi_iconst (pc' := 1535) (v := 1) kc_196_1534 rfl rfl ?_
    refine xi_ireturn kc_196_1535 mr_196 rfl ?_
    refine ⟨rfl, ?_, ?_⟩
    · rw [eh3.2.2.1, eh2.2.2.1, eh1.2.2.1]; exact hn0
    · rw [eh3.2.2.2, eh2.2.2.2, eh1.2.2.2]; exact hz0
  · refine xi_iff (pc' := 4) kc_118_1 rfl (xc_lt_f (X := a1.toInt) (Y := 0) rfl (by decide) (by omega)) ?_
    refine xi_iload_n (pc' := 5) (x := a1) kc_118_4 rfl rfl ?_
    refine xi_iconst (pc' := 6) (v := 4) kc_118_5 rfl rfl ?_
    by_cases c2 : 4 ≤ a1.toInt
    · refine xi_cmt (pc' := 13) kc_118_6 rfl (xc_ge_t (X := a1.toInt) (Y := 4) rfl (by decide) (by omega)) ?_
      refine xi_iconst (pc' := 14) (v := 0) kc_118_13 rfl rfl ?_
      refine xi_ireturn kc_118_14 mr_118 rfl ?_
      show xw J ov 99 117 (4, [(0, .ref 0), (1, .int a1), (2, .int a2), (3, .int a3), (4, .int a4)], [.int 0], h0) _
      refine xi_iff (pc' := 7) kc_117_4 rfl rfl ?_
      refine xi_aload_n (pc' := 8) (x := 0) kc_117_7 rfl rfl ?_
      refine xi_bipush (pc' := 10) (v := (-2)) kc_117_8 rfl rfl ?_
      refine xi_virtual (mj := 91) (as := [.int (-2)]) (st1 := []) (lv0 := [(0, .ref 0), (1, .int (-2))]) kc_117_10 rfl rfl rfl rfl rfl (F 0 _ hl_0) (Nat.le_of_ble_eq_true rfl) (hJ _ _ _ _ (by decide)) (xm_le ml_91 rfl) rfl ?_
      refine xi_iload_n (pc' := 1) (x := (-2)) kc_91_0 rfl rfl ?_
      refine xi_ineg (pc' := 2) (v := 2) kc_91_1 rfl rfl ?_
      refine xi_istore_n (pc' := 3) (lv' := [(2, .int 2), (0, .ref 0), (1, .int (-2))]) kc_91_2 rfl rfl (xm_lt ml_91 rfl) ?_
      refine xi_iload_n (pc' := 4) (x := 2) kc_91_3 rfl rfl ?_
      refine xi_iff (pc' := 7) kc_91_4 rfl rfl ?_
      refine xi_iload_n (pc' := 8) (x := 2) kc_91_7 rfl rfl ?_
      refine xi_aload_n (pc' := 9) (x := 0) kc_91_8 rfl rfl ?_
      refine xi_getfield (pc' := 12) (v := .ref 94) kc_91_9 rfl rfl rfl (F 0 _ hl_0) rfl ?_
      refine xi_arraylength (pc' := 13) (n := 7) (v := 7) kc_91_12 rfl (xl_lenI (by decide) (by decide) (F 94 _ hl_94) (by simp only [List.length_replicate, List.length_cons, List.length_nil])) rfl ?_
      refine xi_cmf (pc' := 16) kc_91_13 rfl rfl ?_
      refine xi_aload_n (pc' := 17) (x := 0) kc_91_16 rfl rfl ?_
      refine xi_getfield (pc' := 20) (v := .ref 94) kc_91_17 rfl rfl rfl (F 0 _ hl_0) rfl ?_
      refine xi_iload_n (pc' := 21) (x := 2) kc_91_20 rfl rfl ?_
      refine xi_dup2 (pc' := 22) kc_91_21 rfl ⟨rfl, rfl⟩ ?_
      refine xi_iaload (pc' := 23) (v := 0) kc_91_22 rfl (F 94 _ hl_94) (by decide) rfl (xi_in (n := 7) (by decide) (by decide)) rfl ?_
      refine xi_iconst (pc' := 24) (v := 1) kc_91_23 rfl rfl ?_
      refine xi_iadd (pc' := 25) (v := 1) kc_91_24 rfl rfl ?_
      refine xi_iastore (pc' := 26) (x' := [0, 0, 1, 0, 0, 0, 0]) kc_91_25 rfl (F 94 _ hl_94) rfl (xi_in (n := 7) (by decide) (by decide)) rfl (fun hh1 eh1 => ?_)
      refine xi_iload_n (pc' := 27) (x := (-2)) kc_91_26 rfl rfl ?_
      refine xi_ireturn kc_91_27 mr_91 rfl ?_
      show xw J ov 99 117 (13, [(0, .ref 0), (1, .int a1), (2, .int a2), (3, .int a3), (4, .int a4)], [.int (-2)], hh1) _
      refine xi_ireturn kc_117_13 mr_117 rfl ?_
      show xw J ov 100 196 (679, [(4, .int 0), (3, .ref 167), (2, .ref 115), (1, .ref 0), (0, .ref 1000000)], [.int (-2)], hh1) _
      refine xi_aload_n (pc' := 680) (x := 115) kc_196_679 rfl rfl ?_
      refine xi_aload_n (pc' := 681) (x := 1000000) kc_196_680 rfl rfl ?_
      refine xi_iload (pc' := 683) (x := 0) kc_196_681 rfl rfl ?_
      refine xi_iconst (pc' := 684) (v := 1) kc_196_683 rfl rfl ?_
      refine xi_iadd (pc' := 685) (v := 1) kc_196_684 rfl rfl ?_
      refine xi_ialoadO (pc' := 686) (v := a1) kc_196_685 rfl (by decide) hov0 (xi_in (n := 6) (by decide) (by decide)) rfl ?_
      refine xi_aload_n (pc' := 687) (x := 1000000) kc_196_686 rfl rfl ?_
      refine xi_iload (pc' := 689) (x := 0) kc_196_687 rfl rfl ?_
      refine xi_iconst (pc' := 690) (v := 2) kc_196_689 rfl rfl ?_
      refine xi_iadd (pc' := 691) (v := 2) kc_196_690 rfl rfl ?_
      refine xi_ialoadO (pc' := 692) (v := a2) kc_196_691 rfl (by decide) hov0 (xi_in (n := 6) (by decide) (by decide)) rfl ?_
      refine xi_aload_n (pc' := 693) (x := 1000000) kc_196_692 rfl rfl ?_
      refine xi_iload (pc' := 695) (x := 0) kc_196_693 rfl rfl ?_
      refine xi_iconst (pc' := 696) (v := 3) kc_196_695 rfl rfl ?_
      refine xi_iadd (pc' := 697) (v := 3) kc_196_696 rfl rfl ?_
      refine xi_ialoadO (pc' := 698) (v := a3) kc_196_697 rfl (by decide) hov0 (xi_in (n := 6) (by decide) (by decide)) rfl ?_
      refine xi_aload_n (pc' := 699) (x := 1000000) kc_196_698 rfl rfl ?_
      refine xi_iload (pc' := 701) (x := 0) kc_196_699 rfl rfl ?_
      refine xi_iconst (pc' := 702) (v := 4) kc_196_701 rfl rfl ?_
      refine xi_iadd (pc' := 703) (v := 4) kc_196_702 rfl rfl ?_
      refine xi_ialoadO (pc' := 704) (v := a4) kc_196_703 rfl (by decide) hov0 (xi_in (n := 6) (by decide) (by decide)) rfl ?_
      refine xi_virtual (mj := 33) (as := [.int a1, .int a2, .int a3, .int a4]) (st1 := [.int (-2)]) (lv0 := [(0, .ref 115), (1, .int a1), (2, .int a2), (3, .int a3), (4, .int a4)]) kc_196_704 rfl rfl rfl rfl rfl ((eh1.2.1 115 (by decide)).trans (F 115 _ hl_115)) (Nat.le_of_ble_eq_true rfl) (hJ _ _ _ _ (by decide)) (xm_le ml_33 rfl) rfl ?_
      refine xi_aload_n (pc' := 1) (x := 115) kc_33_0 rfl rfl ?_
      refine xi_iconst (pc' := 2) (v := 0) kc_33_1 rfl rfl ?_
      refine xi_putfield (pc' := 5) (fs' := [.int 0, .int 0, .ref 116, .ref 117, .ref 118, .ref 119, .ref 120, .ref 121, .ref 122, .ref 123, .ref 124, .ref 125, .ref 126, .ref 127, .ref 128, .ref 129, .int 4, .ref 130, .int 0, .ref 131, .ref 132, .ref 133, .ref 134, .int 0, .ref 135, .ref 136, .ref 137, .ref 138, .ref 139, .ref 140, .ref 141, .ref 142, .int 0, .int 0, .int 0, .ref 143, .ref 144, .ref 145, .ref 146, .ref 147, .ref 148, .int 0, .ref 149, .ref 150, .ref 151, .int 0, .ref 152, .ref 153, .ref 154, .ref 155, .ref 156, .ref 157, .ref 158, .ref 159, .int 0, .ref 160, .int 0, .ref 161, .ref 162, .ref 163, .ref 164, .int 0, .ref 165, .ref 166]) kc_33_2 rfl rfl rfl ((eh1.2.1 115 (by decide)).trans (F 115 _ hl_115)) rfl rfl rfl (Nat.le_of_ble_eq_true rfl) rfl (fun hh2 eh2 => ?_)
      refine xi_iload_n (pc' := 6) (x := a1) kc_33_5 rfl rfl ?_
      refine xi_iconst (pc' := 7) (v := 0) kc_33_6 rfl rfl ?_
      refine xi_iconst (pc' := 8) (v := 3) kc_33_7 rfl rfl ?_
      refine xi_static (mj := 12) (as := [.int a1, .int 0, .int 3]) (st1 := []) (lv0 := [(0, .int a1), (1, .int 0), (2, .int 3)]) kc_33_8 rfl rfl (Nat.le_of_ble_eq_true rfl) rfl rfl (Nat.le_of_ble_eq_true rfl) (hJ _ _ _ _ (by decide)) (xm_le ml_12 rfl) rfl ?_
      refine xi_iload_n (pc' := 1) (x := a1) kc_12_0 rfl rfl ?_
      refine xi_iload_n (pc' := 2) (x := 0) kc_12_1 rfl rfl ?_
      refine xi_cmf (pc' := 5) kc_12_2 rfl (xc_lt_f (X := a1.toInt) (Y := 0) rfl (by decide) (by omega)) ?_
      refine xi_iload_n (pc' := 6) (x := a1) kc_12_5 rfl rfl ?_
      refine xi_iload_n (pc' := 7) (x := 3) kc_12_6 rfl rfl ?_
      refine xi_cmt (pc' := 14) kc_12_7 rfl (xc_gt_t (X := a1.toInt) (Y := 3) rfl (by decide) (by omega)) ?_
      refine xi_iconst (pc' := 15) (v := 0) kc_12_14 rfl rfl ?_
      refine xi_ireturn kc_12_15 mr_12 rfl ?_
      show xw J ov 99 33 (11, [(0, .ref 115), (1, .int a1), (2, .int a2), (3, .int a3), (4, .int a4)], [.int 0], hh2) _
      refine xi_iff (pc' := 14) kc_33_11 rfl rfl ?_
      refine xi_aload_n (pc' := 15) (x := 115) kc_33_14 rfl rfl ?_
      refine xi_bipush (pc' := 17) (v := (-2)) kc_33_15 rfl rfl ?_
      refine xi_virtual (mj := 13) (as := [.int (-2)]) (st1 := []) (lv0 := [(0, .ref 115), (1, .int (-2))]) kc_33_17 rfl rfl rfl rfl rfl eh2.1 (Nat.le_of_ble_eq_true rfl) (hJ _ _ _ _ (by decide)) (xm_le ml_13 rfl) rfl ?_
      refine xi_aload_n (pc' := 1) (x := 115) kc_13_0 rfl rfl ?_
      refine xi_getfield (pc' := 4) (v := .ref 140) kc_13_1 rfl rfl rfl eh2.1 rfl ?_
      refine xi_iload_n (pc' := 5) (x := (-2)) kc_13_4 rfl rfl ?_
      refine xi_ineg (pc' := 6) (v := 2) kc_13_5 rfl rfl ?_
      refine xi_dup2 (pc' := 7) kc_13_6 rfl ⟨rfl, rfl⟩ ?_
      refine xi_iaload (pc' := 8) (v := 0) kc_13_7 rfl ((eh2.2.1 140 (by decide)).trans ((eh1.2.1 140 (by decide)).trans (F 140 _ hl_140))) (by decide) rfl (xi_in (n := 7) (by decide) (by decide)) rfl ?_
      refine xi_iconst (pc' := 9) (v := 1) kc_13_8 rfl rfl ?_
      refine xi_iadd (pc' := 10) (v := 1) kc_13_9 rfl rfl ?_
      refine xi_iastore (pc' := 11) (x' := [0, 0, 1, 0, 0, 0, 0]) kc_13_10 rfl ((eh2.2.1 140 (by decide)).trans ((eh1.2.1 140 (by decide)).trans (F 140 _ hl_140))) rfl (xi_in (n := 7) (by decide) (by decide)) rfl (fun hh3 eh3 => ?_)
      refine xi_iload_n (pc' := 12) (x := (-2)) kc_13_11 rfl rfl ?_
      refine xi_ireturn kc_13_12 mr_13 rfl ?_
      show xw J ov 99 33 (20, [(0, .ref 115), (1, .int a1), (2, .int a2), (3, .int a3), (4, .int a4)], [.int (-2)], hh3) _
      refine xi_ireturn kc_33_20 mr_33 rfl ?_
      show xw J ov 100 196 (707, [(4, .int 0), (3, .ref 167), (2, .ref 115), (1, .ref 0), (0, .ref 1000000)], [.int (-2), .int (-2)], hh3) _
      refine xi_cmt (pc' := 1528) kc_196_707 rfl rfl ?_
      refine xi_iinc (pc' := 1531) (x := 0) (v := 6) (lv' := [(4, .int 6), (3, .ref 167), (2, .ref 115), (1, .ref 0), (0, .ref 1000000)]) kc_196_1528 rfl rfl rfl rfl (xm_lt ml_196 rfl) ?_
      refine xi_goto (pc' := 23) kc_196_1531 rfl ?_
      refine xi_iload (pc' := 25) (x := 6) kc_196_23 rfl rfl ?_
      refine xi_aload_n (pc' := 26) (x := 1000000) kc_196_25 rfl rfl ?_
      refine xi_arraylength (pc' := 27) (n := 6) (v := 6) kc_196_26 rfl (xl_lenO (by decide) hov0 rfl) rfl ?_
      refine xi_bipush (pc' := 29) (v := 6) kc_196_27 rfl rfl ?_
      refine xi_isub (pc' := 30) (v := 0) kc_196_29 rfl rfl ?_
      refine xi_cmt (pc' := 1534) kc_196_30 rfl rfl ?_
      refine xi_iconst (pc' := 1535) (v := 1) kc_196_1534 rfl rfl ?_
      refine xi_ireturn kc_196_1535 mr_196 rfl ?_
      refine ⟨rfl, ?_, ?_⟩
      · rw [eh3.2.2.1, eh2.2.2.1, eh1.2.2.1]; exact hn0
      · rw [eh3.2.2.2, eh2.2.2.2, eh1.2.2.2]; exact hz0
    · refine xi_cmf (pc' := 9) kc_118_6 rfl (xc_ge_f (X := a1.toInt) (Y := 4) rfl (by decide) (by omega)) ?_
      refine xi_iconst (pc' := 10) (v := 1) kc_118_9 rfl rfl ?_
      refine xi_goto (pc' := 14) kc_118_10 rfl ?_
      refine xi_ireturn kc_118_14 mr_118 rfl ?_
      show xw J ov 99 117 (4, [(0, .ref 0), (1, .int a1), (2, .int a2), (3, .int a3), (4, .int a4)], [.int 1], h0) _
      refine xi_ift (pc' := 14) kc_117_4 rfl rfl ?_
      refine xi_aload_n (pc' := 15) (x := 0) kc_117_14 rfl rfl ?_
      refine xi_getfield (pc' := 18) (v := .ref 1) kc_117_15 rfl rfl rfl (F 0 _ hl_0) rfl ?_
      refine xi_iload_n (pc' := 19) (x := a1) kc_117_18 rfl rfl ?_
      refine xi_iload_n (pc' := 20) (x := a2) kc_117_19 rfl rfl ?_
      refine xi_virtual (mj := 119) (as := [.int a1, .int a2]) (st1 := []) (lv0 := [(0, .ref 1), (1, .int a1), (2, .int a2)]) kc_117_20 rfl rfl rfl rfl rfl (F 1 _ hl_1) (Nat.le_of_ble_eq_true rfl) (hJ _ _ _ _ (by decide)) (xm_le ml_119 rfl) rfl ?_
      refine xi_iload_n (pc' := 1) (x := a1) kc_119_0 rfl rfl ?_
      refine xi_iconst (pc' := 2) (v := 3) kc_119_1 rfl rfl ?_
      by_cases c3 : a1.toInt = 3
      · refine xi_cmf (pc' := 5) kc_119_2 rfl (xc_ne_f (X := a1.toInt) (Y := 3) rfl (by decide) (by omega)) ?_
        refine xi_iload_n (pc' := 6) (x := a2) kc_119_5 rfl rfl ?_
        refine xi_static (mj := 90) (as := [.int a2]) (st1 := []) (lv0 := [(0, .int a2)]) kc_119_6 rfl rfl (Nat.le_of_ble_eq_true rfl) rfl rfl (Nat.le_of_ble_eq_true rfl) (hJ _ _ _ _ (by decide)) (xm_le ml_90 rfl) rfl ?_
        refine xi_iload_n (pc' := 1) (x := a2) kc_90_0 rfl rfl ?_
        by_cases c4 : a2.toInt < 0
        · refine xi_ift (pc' := 14) kc_90_1 rfl (xc_lt_t (X := a2.toInt) (Y := 0) rfl (by decide) (by omega)) ?_
          refine xi_iconst (pc' := 15) (v := 0) kc_90_14 rfl rfl ?_
          refine xi_ireturn kc_90_15 mr_90 rfl ?_
          show xw J ov 98 119 (9, [(0, .ref 1), (1, .int a1), (2, .int a2)], [.int 0], h0) _
          refine xi_ireturn kc_119_9 mr_119 rfl ?_
          show xw J ov 99 117 (23, [(0, .ref 0), (1, .int a1), (2, .int a2), (3, .int a3), (4, .int a4)], [.int 0], h0) _
          refine xi_iff (pc' := 26) kc_117_23 rfl rfl ?_
          refine xi_aload_n (pc' := 27) (x := 0) kc_117_26 rfl rfl ?_
          refine xi_iconst (pc' := 28) (v := (-1)) kc_117_27 rfl rfl ?_
          refine xi_virtual (mj := 91) (as := [.int (-1)]) (st1 := []) (lv0 := [(0, .ref 0), (1, .int (-1))]) kc_117_28 rfl rfl rfl rfl rfl (F 0 _ hl_0) (Nat.le_of_ble_eq_true rfl) (hJ _ _ _ _ (by decide)) (xm_le ml_91 rfl) rfl ?_
          refine xi_iload_n (pc' := 1) (x := (-1)) kc_91_0 rfl rfl ?_
          refine xi_ineg (pc' := 2) (v := 1) kc_91_1 rfl rfl ?_
          refine xi_istore_n (pc' := 3) (lv' := [(2, .int 1), (0, .ref 0), (1, .int (-1))]) kc_91_2 rfl rfl (xm_lt ml_91 rfl) ?_
          refine xi_iload_n (pc' := 4) (x := 1) kc_91_3 rfl rfl ?_
          refine xi_iff (pc' := 7) kc_91_4 rfl rfl ?_
          refine xi_iload_n (pc' := 8) (x := 1) kc_91_7 rfl rfl ?_
          refine xi_aload_n (pc' := 9) (x := 0) kc_91_8 rfl rfl ?_
          refine xi_getfield (pc' := 12) (v := .ref 94) kc_91_9 rfl rfl rfl (F 0 _ hl_0) rfl ?_
          refine xi_arraylength (pc' := 13) (n := 7) (v := 7) kc_91_12 rfl (xl_lenI (by decide) (by decide) (F 94 _ hl_94) (by simp only [List.length_replicate, List.length_cons, List.length_nil])) rfl ?_
          refine xi_cmf (pc' := 16) kc_91_13 rfl rfl ?_
          refine xi_aload_n (pc' := 17) (x := 0) kc_91_16 rfl rfl ?_
          refine xi_getfield (pc' := 20) (v := .ref 94) kc_91_17 rfl rfl rfl (F 0 _ hl_0) rfl ?_
          refine xi_iload_n (pc' := 21) (x := 1) kc_91_20 rfl rfl ?_
          refine xi_dup2 (pc' := 22) kc_91_21 rfl ⟨rfl, rfl⟩ ?_
          refine xi_iaload (pc' := 23) (v := 0) kc_91_22 rfl (F 94 _ hl_94) (by decide) rfl (xi_in (n := 7) (by decide) (by decide)) rfl ?_
          refine xi_iconst (pc' := 24) (v := 1) kc_91_23 rfl rfl ?_
          refine xi_iadd (pc' := 25) (v := 1) kc_91_24 rfl rfl ?_
          refine xi_iastore (pc' := 26) (x' := [0, 1, 0, 0, 0, 0, 0]) kc_91_25 rfl (F 94 _ hl_94) rfl (xi_in (n := 7) (by decide) (by decide)) rfl (fun hh1 eh1 => ?_)
          refine xi_iload_n (pc' := 27) (x := (-1)) kc_91_26 rfl rfl ?_
          refine xi_ireturn kc_91_27 mr_91 rfl ?_
          show xw J ov 99 117 (31, [(0, .ref 0), (1, .int a1), (2, .int a2), (3, .int a3), (4, .int a4)], [.int (-1)], hh1) _
          refine xi_ireturn kc_117_31 mr_117 rfl ?_
          show xw J ov 100 196 (679, [(4, .int 0), (3, .ref 167), (2, .ref 115), (1, .ref 0), (0, .ref 1000000)], [.int (-1)], hh1) _
          refine xi_aload_n (pc' := 680) (x := 115) kc_196_679 rfl rfl ?_
          refine xi_aload_n (pc' := 681) (x := 1000000) kc_196_680 rfl rfl ?_
          refine xi_iload (pc' := 683) (x := 0) kc_196_681 rfl rfl ?_
          refine xi_iconst (pc' := 684) (v := 1) kc_196_683 rfl rfl ?_
          refine xi_iadd (pc' := 685) (v := 1) kc_196_684 rfl rfl ?_
          refine xi_ialoadO (pc' := 686) (v := a1) kc_196_685 rfl (by decide) hov0 (xi_in (n := 6) (by decide) (by decide)) rfl ?_
          refine xi_aload_n (pc' := 687) (x := 1000000) kc_196_686 rfl rfl ?_
          refine xi_iload (pc' := 689) (x := 0) kc_196_687 rfl rfl ?_
          refine xi_iconst (pc' := 690) (v := 2) kc_196_689 rfl rfl ?_
          refine xi_iadd (pc' := 691) (v := 2) kc_196_690 rfl rfl ?_
          refine xi_ialoadO (pc' := 692) (v := a2) kc_196_691 rfl (by decide) hov0 (xi_in (n := 6) (by decide) (by decide)) rfl ?_
          refine xi_aload_n (pc' := 693) (x := 1000000) kc_196_692 rfl rfl ?_
          refine xi_iload (pc' := 695) (x := 0) kc_196_693 rfl rfl ?_
          refine xi_iconst (pc' := 696) (v := 3) kc_196_695 rfl rfl ?_
          refine xi_iadd (pc' := 697) (v := 3) kc_196_696 rfl rfl ?_
          refine xi_ialoadO (pc' := 698) (v := a3) kc_196_697 rfl (by decide) hov0 (xi_in (n := 6) (by decide) (by decide)) rfl ?_
          refine xi_aload_n (pc' := 699) (x := 1000000) kc_196_698 rfl rfl ?_
          refine xi_iload (pc' := 701) (x := 0) kc_196_699 rfl rfl ?_
          refine xi_iconst (pc' := 702) (v := 4) kc_196_701 rfl rfl ?_
          refine xi_iadd (pc' := 703) (v := 4) kc_196_702 rfl rfl ?_
          refine xi_ialoadO (pc' := 704) (v := a4) kc_196_703 rfl (by decide) hov0 (xi_in (n := 6) (by decide) (by decide)) rfl ?_
          refine xi_virtual (mj := 33) (as := [.int a1, .int a2, .int a3, .int a4]) (st1 := [.int (-1)]) (lv0 := [(0, .ref 115), (1, .int a1), (2, .int a2), (3, .int a3), (4, .int a4)]) kc_196_704 rfl rfl rfl rfl rfl ((eh1.2.1 115 (by decide)).trans (F 115 _ hl_115)) (Nat.le_of_ble_eq_true rfl) (hJ _ _ _ _ (by decide)) (xm_le ml_33 rfl) rfl ?_
          refine xi_aload_n (pc' := 1) (x := 115) kc_33_0 rfl rfl ?_
          refine xi_iconst (pc' := 2) (v := 0) kc_33_1 rfl rfl ?_
          refine xi_putfield (pc' := 5) (fs' := [.int 0, .int 0, .ref 116, .ref 117, .ref 118, .ref 119, .ref 120, .ref 121, .ref 122, .ref 123, .ref 124, .ref 125, .ref 126, .ref 127, .ref 128, .ref 129, .int 4, .ref 130, .int 0, .ref 131, .ref 132, .ref 133, .ref 134, .int 0, .ref 135, .ref 136, .ref 137, .ref 138, .ref 139, .ref 140, .ref 141, .ref 142, .int 0, .int 0, .int 0, .ref 143, .ref 144, .ref 145, .ref 146, .ref 147, .ref 148, .int 0, .ref 149, .ref 150, .ref 151, .int 0, .ref 152, .ref 153, .ref 154, .ref 155, .ref 156, .ref 157, .ref 158, .ref 159, .int 0, .ref 160, .int 0, .ref 161, .ref 162, .ref 163, .ref 164, .int 0, .ref 165, .ref 166]) kc_33_2 rfl rfl rfl ((eh1.2.1 115 (by decide)).trans (F 115 _ hl_115)) rfl rfl rfl (Nat.le_of_ble_eq_true rfl) rfl (fun hh2 eh2 => ?_)
          refine xi_iload_n (pc' := 6) (x := a1) kc_33_5 rfl rfl ?_
          refine xi_iconst (pc' := 7) (v := 0) kc_33_6 rfl rfl ?_
          refine xi_iconst (pc' := 8) (v := 3) kc_33_7 rfl rfl ?_
          refine xi_static (mj := 12) (as := [.int a1, .int 0, .int 3]) (st1 := []) (lv0 := [(0, .int a1), (1, .int 0), (2, .int 3)]) kc_33_8 rfl rfl (Nat.le_of_ble_eq_true rfl) rfl rfl (Nat.le_of_ble_eq_true rfl) (hJ _ _ _ _ (by decide)) (xm_le ml_12 rfl) rfl ?_
          refine xi_iload_n (pc' := 1) (x := a1) kc_12_0 rfl rfl ?_
          refine xi_iload_n (pc' := 2) (x := 0) kc_12_1 rfl rfl ?_
          refine xi_cmf (pc' := 5) kc_12_2 rfl (xc_lt_f (X := a1.toInt) (Y := 0) rfl (by decide) (by omega)) ?_
          refine xi_iload_n (pc' := 6) (x := a1) kc_12_5 rfl rfl ?_
          refine xi_iload_n (pc' := 7) (x := 3) kc_12_6 rfl rfl ?_
          refine xi_cmf (pc' := 10) kc_12_7 rfl (xc_gt_f (X := a1.toInt) (Y := 3) rfl (by decide) (by omega)) ?_
          refine xi_iconst (pc' := 11) (v := 1) kc_12_10 rfl rfl ?_
          refine xi_goto (pc' := 15) kc_12_11 rfl ?_
          refine xi_ireturn kc_12_15 mr_12 rfl ?_
          show xw J ov 99 33 (11, [(0, .ref 115), (1, .int a1), (2, .int a2), (3, .int a3), (4, .int a4)], [.int 1], hh2) _
          refine xi_ift (pc' := 21) kc_33_11 rfl rfl ?_
          refine xi_iload_n (pc' := 22) (x := a1) kc_33_21 rfl rfl ?_
          refine xi_iconst (pc' := 23) (v := 3) kc_33_22 rfl rfl ?_
          refine xi_cmf (pc' := 26) kc_33_23 rfl (xc_ne_f (X := a1.toInt) (Y := 3) rfl (by decide) (by omega)) ?_
          refine xi_iload_n (pc' := 27) (x := a2) kc_33_26 rfl rfl ?_
          refine xi_static (mj := 11) (as := [.int a2]) (st1 := []) (lv0 := [(0, .int a2)]) kc_33_27 rfl rfl (Nat.le_of_ble_eq_true rfl) rfl rfl (Nat.le_of_ble_eq_true rfl) (hJ _ _ _ _ (by decide)) (xm_le ml_11 rfl) rfl ?_
          refine xi_iload_n (pc' := 1) (x := a2) kc_11_0 rfl rfl ?_
          refine xi_iconst (pc' := 2) (v := 0) kc_11_1 rfl rfl ?_
          refine xi_iconst (pc' := 3) (v := 5) kc_11_2 rfl rfl ?_
          refine xi_static (mj := 12) (as := [.int a2, .int 0, .int 5]) (st1 := []) (lv0 := [(0, .int a2), (1, .int 0), (2, .int 5)]) kc_11_3 rfl rfl (Nat.le_of_ble_eq_true rfl) rfl rfl (Nat.le_of_ble_eq_true rfl) (hJ _ _ _ _ (by decide)) (xm_le ml_12 rfl) rfl ?_
          refine xi_iload_n (pc' := 1) (x := a2) kc_12_0 rfl rfl ?_
          refine xi_iload_n (pc' := 2) (x := 0) kc_12_1 rfl rfl ?_
          refine xi_cmt (pc' := 14) kc_12_2 rfl (xc_lt_t (X := a2.toInt) (Y := 0) rfl (by decide) (by omega)) ?_
          refine xi_iconst (pc' := 15) (v := 0) kc_12_14 rfl rfl ?_
          refine xi_ireturn kc_12_15 mr_12 rfl ?_
          show xw J ov 98 11 (6, [(0, .int a2)], [.int 0], hh2) _
          refine xi_ireturn kc_11_6 mr_11 rfl ?_
          show xw J ov 99 33 (30, [(0, .ref 115), (1, .int a1), (2, .int a2), (3, .int a3), (4, .int a4)], [.int 0], hh2) _
          refine xi_iff (pc' := 33) kc_33_30 rfl rfl ?_
          refine xi_goto (pc' := 57) kc_33_33 rfl ?_
          refine xi_aload_n (pc' := 58) (x := 115) kc_33_57 rfl rfl ?_
          refine xi_iconst (pc' := 59) (v := (-1)) kc_33_58 rfl rfl ?_
          refine xi_virtual (mj := 13) (as := [.int (-1)]) (st1 := []) (lv0 := [(0, .ref 115), (1, .int (-1))]) kc_33_59 rfl rfl rfl rfl rfl eh2.1 (Nat.le_of_ble_eq_true rfl) (hJ _ _ _ _ (by decide)) (xm_le ml_13 rfl) rfl ?_
          refine xi_aload_n (pc' := 1) (x := 115) kc_13_0 rfl rfl ?_
          refine xi_getfield (pc' := 4) (v := .ref 140) kc_13_1 rfl rfl rfl eh2.1 rfl ?_
          refine xi_iload_n (pc' := 5) (x := (-1)) kc_13_4 rfl rfl ?_
          refine xi_ineg (pc' := 6) (v := 1) kc_13_5 rfl rfl ?_
          refine xi_dup2 (pc' := 7) kc_13_6 rfl ⟨rfl, rfl⟩ ?_
          refine xi_iaload (pc' := 8) (v := 0) kc_13_7 rfl ((eh2.2.1 140 (by decide)).trans ((eh1.2.1 140 (by decide)).trans (F 140 _ hl_140))) (by decide) rfl (xi_in (n := 7) (by decide) (by decide)) rfl ?_
          refine xi_iconst (pc' := 9) (v := 1) kc_13_8 rfl rfl ?_
          refine xi_iadd (pc' := 10) (v := 1) kc_13_9 rfl rfl ?_
          refine xi_iastore (pc' := 11) (x' := [0, 1, 0, 0, 0, 0, 0]) kc_13_10 rfl ((eh2.2.1 140 (by decide)).trans ((eh1.2.1 140 (by decide)).trans (F 140 _ hl_140))) rfl (xi_in (n := 7) (by decide) (by decide)) rfl (fun hh3 eh3 => ?_)
          refine xi_iload_n (pc' := 12) (x := (-1)) kc_13_11 rfl rfl ?_
          refine xi_ireturn kc_13_12 mr_13 rfl ?_
          show xw J ov 99 33 (62, [(0, .ref 115), (1, .int a1), (2, .int a2), (3, .int a3), (4, .int a4)], [.int (-1)], hh3) _
          refine xi_ireturn kc_33_62 mr_33 rfl ?_
          show xw J ov 100 196 (707, [(4, .int 0), (3, .ref 167), (2, .ref 115), (1, .ref 0), (0, .ref 1000000)], [.int (-1), .int (-1)], hh3) _
          refine xi_cmt (pc' := 1528) kc_196_707 rfl rfl ?_
          refine xi_iinc (pc' := 1531) (x := 0) (v := 6) (lv' := [(4, .int 6), (3, .ref 167), (2, .ref 115), (1, .ref 0), (0, .ref 1000000)]) kc_196_1528 rfl rfl rfl rfl (xm_lt ml_196 rfl) ?_
          refine xi_goto (pc' := 23) kc_196_1531 rfl ?_
          refine xi_iload (pc' := 25) (x := 6) kc_196_23 rfl rfl ?_
          refine xi_aload_n (pc' := 26) (x := 1000000) kc_196_25 rfl rfl ?_
          refine xi_arraylength (pc' := 27) (n := 6) (v := 6) kc_196_26 rfl (xl_lenO (by decide) hov0 rfl) rfl ?_
          refine xi_bipush (pc' := 29) (v := 6) kc_196_27 rfl rfl ?_
          refine xi_isub (pc' := 30) (v := 0) kc_196_29 rfl rfl ?_
          refine xi_cmt (pc' := 1534) kc_196_30 rfl rfl ?_
          refine xi_iconst (pc' := 1535) (v := 1) kc_196_1534 rfl rfl ?_
          refine xi_ireturn kc_196_1535 mr_196 rfl ?_
          refine ⟨rfl, ?_, ?_⟩
          · rw [eh3.2.2.1, eh2.2.2.1, eh1.2.2.1]; exact hn0
          · rw [eh3.2.2.2, eh2.2.2.2, eh1.2.2.2]; exact hz0
        · refine xi_iff (pc' := 4) kc_90_1 rfl (xc_lt_f (X := a2.toInt) (Y := 0) rfl (by decide) (by omega)) ?_
          refine xi_iload_n (pc' := 5) (x := a2) kc_90_4 rfl rfl ?_
          refine xi_bipush (pc' := 7) (v := 6) kc_90_5 rfl rfl ?_
          by_cases c5 : 6 ≤ a2.toInt
          · refine xi_cmt (pc' := 14) kc_90_7 rfl (xc_ge_t (X := a2.toInt) (Y := 6) rfl (by decide) (by omega)) ?_
            refine xi_iconst (pc' := 15) (v := 0) kc_90_14 rfl rfl ?_
            refine xi_ireturn kc_90_15 mr_90 rfl ?_
            show xw J ov 98 119 (9, [(0, .ref 1), (1, .int a1), (2, .int a2)], [.int 0], h0) _
            refine xi_ireturn kc_119_9 mr_119 rfl ?_
            show xw J ov 99 117 (23, [(0, .ref 0), (1, .int a1), (2, .int a2), (3, .int a3), (4, .int a4)], [.int 0], h0) _
            refine xi_iff (pc' := 26) kc_117_23 rfl rfl ?_
            refine xi_aload_n (pc' := 27) (x := 0) kc_117_26 rfl rfl ?_
            refine xi_iconst (pc' := 28) (v := (-1)) kc_117_27 rfl rfl ?_
            refine xi_virtual (mj := 91) (as := [.int (-1)]) (st1 := []) (lv0 := [(0, .ref 0), (1, .int (-1))]) kc_117_28 rfl rfl rfl rfl rfl (F 0 _ hl_0) (Nat.le_of_ble_eq_true rfl) (hJ _ _ _ _ (by decide)) (xm_le ml_91 rfl) rfl ?_
            refine xi_iload_n (pc' := 1) (x := (-1)) kc_91_0 rfl rfl ?_
            refine xi_ineg (pc' := 2) (v := 1) kc_91_1 rfl rfl ?_
            refine xi_istore_n (pc' := 3) (lv' := [(2, .int 1), (0, .ref 0), (1, .int (-1))]) kc_91_2 rfl rfl (xm_lt ml_91 rfl) ?_
            refine xi_iload_n (pc' := 4) (x := 1) kc_91_3 rfl rfl ?_
            refine xi_iff (pc' := 7) kc_91_4 rfl rfl ?_
            refine xi_iload_n (pc' := 8) (x := 1) kc_91_7 rfl rfl ?_
            refine xi_aload_n (pc' := 9) (x := 0) kc_91_8 rfl rfl ?_
            refine xi_getfield (pc' := 12) (v := .ref 94) kc_91_9 rfl rfl rfl (F 0 _ hl_0) rfl ?_
            refine xi_arraylength (pc' := 13) (n := 7) (v := 7) kc_91_12 rfl (xl_lenI (by decide) (by decide) (F 94 _ hl_94) (by simp only [List.length_replicate, List.length_cons, List.length_nil])) rfl ?_
            refine xi_cmf (pc' := 16) kc_91_13 rfl rfl ?_
            refine xi_aload_n (pc' := 17) (x := 0) kc_91_16 rfl rfl ?_
            refine xi_getfield (pc' := 20) (v := .ref 94) kc_91_17 rfl rfl rfl (F 0 _ hl_0) rfl ?_
            refine xi_iload_n (pc' := 21) (x := 1) kc_91_20 rfl rfl ?_
            refine xi_dup2 (pc' := 22) kc_91_21 rfl ⟨rfl, rfl⟩ ?_
            refine xi_iaload (pc' := 23) (v := 0) kc_91_22 rfl (F 94 _ hl_94) (by decide) rfl (xi_in (n := 7) (by decide) (by decide)) rfl ?_
            refine xi_iconst (pc' := 24) (v := 1) kc_91_23 rfl rfl ?_
            refine xi_iadd (pc' := 25) (v := 1) kc_91_24 rfl rfl ?_
            refine xi_iastore (pc' := 26) (x' := [0, 1, 0, 0, 0, 0, 0]) kc_91_25 rfl (F 94 _ hl_94) rfl (xi_in (n := 7) (by decide) (by decide)) rfl (fun hh1 eh1 => ?_)
            refine xi_iload_n (pc' := 27) (x := (-1)) kc_91_26 rfl rfl ?_
            refine xi_ireturn kc_91_27 mr_91 rfl ?_
            show xw J ov 99 117 (31, [(0, .ref 0), (1, .int a1), (2, .int a2), (3, .int a3), (4, .int a4)], [.int (-1)], hh1) _
            refine xi_ireturn kc_117_31 mr_117 rfl ?_
            show xw J ov 100 196 (679, [(4, .int 0), (3, .ref 167), (2, .ref 115), (1, .ref 0), (0, .ref 1000000)], [.int (-1)], hh1) _
            refine xi_aload_n (pc' := 680) (x := 115) kc_196_679 rfl rfl ?_
            refine xi_aload_n (pc' := 681) (x := 1000000) kc_196_680 rfl rfl ?_
            refine xi_iload (pc' := 683) (x := 0) kc_196_681 rfl rfl ?_
            refine xi_iconst (pc' := 684) (v := 1) kc_196_683 rfl rfl ?_
            refine xi_iadd (pc' := 685) (v := 1) kc_196_684 rfl rfl ?_
            refine xi_ialoadO (pc' := 686) (v := a1) kc_196_685 rfl (by decide) hov0 (xi_in (n := 6) (by decide) (by decide)) rfl ?_
            refine xi_aload_n (pc' := 687) (x := 1000000) kc_196_686 rfl rfl ?_
            refine xi_iload (pc' := 689) (x := 0) kc_196_687 rfl rfl ?_
            refine xi_iconst (pc' := 690) (v := 2) kc_196_689 rfl rfl ?_
            refine xi_iadd (pc' := 691) (v := 2) kc_196_690 rfl rfl ?_
            refine xi_ialoadO (pc' := 692) (v := a2) kc_196_691 rfl (by decide) hov0 (xi_in (n := 6) (by decide) (by decide)) rfl ?_
            refine xi_aload_n (pc' := 693) (x := 1000000) kc_196_692 rfl rfl ?_
            refine xi_iload (pc' := 695) (x := 0) kc_196_693 rfl rfl ?_
            refine xi_iconst (pc' := 696) (v := 3) kc_196_695 rfl rfl ?_
            refine xi_iadd (pc' := 697) (v := 3) kc_196_696 rfl rfl ?_
            refine xi_ialoadO (pc' := 698) (v := a3) kc_196_697 rfl (by decide) hov0 (xi_in (n := 6) (by decide) (by decide)) rfl ?_
            refine xi_aload_n (pc' := 699) (x := 1000000) kc_196_698 rfl rfl ?_
            refine xi_iload (pc' := 701) (x := 0) kc_196_699 rfl rfl ?_
            refine xi_iconst (pc' := 702) (v := 4) kc_196_701 rfl rfl ?_
            refine xi_iadd (pc' := 703) (v := 4) kc_196_702 rfl rfl ?_
            refine xi_ialoadO (pc' := 704) (v := a4) kc_196_703 rfl (by decide) hov0 (xi_in (n := 6) (by decide) (by decide)) rfl ?_
            refine xi_virtual (mj := 33) (as := [.int a1, .int a2, .int a3, .int a4]) (st1 := [.int (-1)]) (lv0 := [(0, .ref 115), (1, .int a1), (2, .int a2), (3, .int a3), (4, .int a4)]) kc_196_704 rfl rfl rfl rfl rfl ((eh1.2.1 115 (by decide)).trans (F 115 _ hl_115)) (Nat.le_of_ble_eq_true rfl) (hJ _ _ _ _ (by decide)) (xm_le ml_33 rfl) rfl ?_
            refine xi_aload_n (pc' := 1) (x := 115) kc_33_0 rfl rfl ?_
            refine xi_iconst (pc' := 2) (v := 0) kc_33_1 rfl rfl ?_
            refine xi_putfield (pc' := 5) (fs' := [.int 0, .int 0, .ref 116, .ref 117, .ref 118, .ref 119, .ref 120, .ref 121, .ref 122, .ref 123, .ref 124, .ref 125, .ref 126, .ref 127, .ref 128, .ref 129, .int 4, .ref 130, .int 0, .ref 131, .ref 132, .ref 133, .ref 134, .int 0, .ref 135, .ref 136, .ref 137, .ref 138, .ref 139, .ref 140, .ref 141, .ref 142, .int 0, .int 0, .int 0, .ref 143, .ref 144, .ref 145, .ref 146, .ref 147, .ref 148, .int 0, .ref 149, .ref 150, .ref 151, .int 0, .ref 152, .ref 153, .ref 154, .ref 155, .ref 156, .ref 157, .ref 158, .ref 159, .int 0, .ref 160, .int 0, .ref 161, .ref 162, .ref 163, .ref 164, .int 0, .ref 165, .ref 166]) kc_33_2 rfl rfl rfl ((eh1.2.1 115 (by decide)).trans (F 115 _ hl_115)) rfl rfl rfl (Nat.le_of_ble_eq_true rfl) rfl (fun hh2 eh2 => ?_)
            refine xi_iload_n (pc' := 6) (x := a1) kc_33_5 rfl rfl ?_
            refine xi_iconst (pc' := 7) (v := 0) kc_33_6 rfl rfl ?_
            refine xi_iconst (pc' := 8) (v := 3) kc_33_7 rfl rfl ?_
            refine xi_static (mj := 12) (as := [.int a1, .int 0, .int 3]) (st1 := []) (lv0 := [(0, .int a1), (1, .int 0), (2, .int 3)]) kc_33_8 rfl rfl (Nat.le_of_ble_eq_true rfl) rfl rfl (Nat.le_of_ble_eq_true rfl) (hJ _ _ _ _ (by decide)) (xm_le ml_12 rfl) rfl ?_
            refine xi_iload_n (pc' := 1) (x := a1) kc_12_0 rfl rfl ?_
            refine xi_iload_n (pc' := 2) (x := 0) kc_12_1 rfl rfl ?_
            refine xi_cmf (pc' := 5) kc_12_2 rfl (xc_lt_f (X := a1.toInt) (Y := 0) rfl (by decide) (by omega)) ?_
            refine xi_iload_n (pc' := 6) (x := a1) kc_12_5 rfl rfl ?_
            refine xi_iload_n (pc' := 7) (x := 3) kc_12_6 rfl rfl ?_
            refine xi_cmf (pc' := 10) kc_12_7 rfl (xc_gt_f (X := a1.toInt) (Y := 3) rfl (by decide) (by omega)) ?_
            refine xi_iconst (pc' := 11) (v := 1) kc_12_10 rfl rfl ?_
            refine xi_goto (pc' := 15) kc_12_11 rfl ?_
            refine xi_ireturn kc_12_15 mr_12 rfl ?_
            show xw J ov 99 33 (11, [(0, .ref 115), (1, .int a1), (2, .int a2), (3, .int a3), (4, .int a4)], [.int 1], hh2) _
            refine xi_ift (pc' := 21) kc_33_11 rfl rfl ?_
            refine xi_iload_n (pc' := 22) (x := a1) kc_33_21 rfl rfl ?_
            refine xi_iconst (pc' := 23) (v := 3) kc_33_22 rfl rfl ?_
            refine xi_cmf (pc' := 26) kc_33_23 rfl (xc_ne_f (X := a1.toInt) (Y := 3) rfl (by decide) (by omega)) ?_
            refine xi_iload_n (pc' := 27) (x := a2) kc_33_26 rfl rfl ?_
            refine xi_static (mj := 11) (as := [.int a2]) (st1 := []) (lv0 := [(0, .int a2)]) kc_33_27 rfl rfl (Nat.le_of_ble_eq_true rfl) rfl rfl (Nat.le_of_ble_eq_true rfl) (hJ _ _ _ _ (by decide)) (xm_le ml_11 rfl) rfl ?_
            refine xi_iload_n (pc' := 1) (x := a2) kc_11_0 rfl rfl ?_
            refine xi_iconst (pc' := 2) (v := 0) kc_11_1 rfl rfl ?_
            refine xi_iconst (pc' := 3) (v := 5) kc_11_2 rfl rfl ?_
            refine xi_static (mj := 12) (as := [.int a2, .int 0, .int 5]) (st1 := []) (lv0 := [(0, .int a2), (1, .int 0), (2, .int 5)]) kc_11_3 rfl rfl (Nat.le_of_ble_eq_true rfl) rfl rfl (Nat.le_of_ble_eq_true rfl) (hJ _ _ _ _ (by decide)) (xm_le ml_12 rfl) rfl ?_
            refine xi_iload_n (pc' := 1) (x := a2) kc_12_0 rfl rfl ?_
            refine xi_iload_n (pc' := 2) (x := 0) kc_12_1 rfl rfl ?_
            refine xi_cmf (pc' := 5) kc_12_2 rfl (xc_lt_f (X := a2.toInt) (Y := 0) rfl (by decide) (by omega)) ?_
            refine xi_iload_n (pc' := 6) (x := a2) kc_12_5 rfl rfl ?_
            refine xi_iload_n (pc' := 7) (x := 5) kc_12_6 rfl rfl ?_
            refine xi_cmt (pc' := 14) kc_12_7 rfl (xc_gt_t (X := a2.toInt) (Y := 5) rfl (by decide) (by omega)) ?_
            refine xi_iconst (pc' := 15) (v := 0) kc_12_14 rfl rfl ?_
            refine xi_ireturn kc_12_15 mr_12 rfl ?_
            show xw J ov 98 11 (6, [(0, .int a2)], [.int 0], hh2) _
            refine xi_ireturn kc_11_6 mr_11 rfl ?_
            show xw J ov 99 33 (30, [(0, .ref 115), (1, .int a1), (2, .int a2), (3, .int a3), (4, .int a4)], [.int 0], hh2) _
            refine xi_iff (pc' := 33) kc_33_30 rfl rfl ?_
            refine xi_goto (pc' := 57) kc_33_33 rfl ?_
            refine xi_aload_n (pc' := 58) (x := 115) kc_33_57 rfl rfl ?_
            refine xi_iconst (pc' := 59) (v := (-1)) kc_33_58 rfl rfl ?_
            refine xi_virtual (mj := 13) (as := [.int (-1)]) (st1 := []) (lv0 := [(0, .ref 115), (1, .int (-1))]) kc_33_59 rfl rfl rfl rfl rfl eh2.1 (Nat.le_of_ble_eq_true rfl) (hJ _ _ _ _ (by decide)) (xm_le ml_13 rfl) rfl ?_
            refine xi_aload_n (pc' := 1) (x := 115) kc_13_0 rfl rfl ?_
            refine xi_getfield (pc' := 4) (v := .ref 140) kc_13_1 rfl rfl rfl eh2.1 rfl ?_
            refine xi_iload_n (pc' := 5) (x := (-1)) kc_13_4 rfl rfl ?_
            refine xi_ineg (pc' := 6) (v := 1) kc_13_5 rfl rfl ?_
            refine xi_dup2 (pc' := 7) kc_13_6 rfl ⟨rfl, rfl⟩ ?_
            refine xi_iaload (pc' := 8) (v := 0) kc_13_7 rfl ((eh2.2.1 140 (by decide)).trans ((eh1.2.1 140 (by decide)).trans (F 140 _ hl_140))) (by decide) rfl (xi_in (n := 7) (by decide) (by decide)) rfl ?_
            refine xi_iconst (pc' := 9) (v := 1) kc_13_8 rfl rfl ?_
            refine xi_iadd (pc' := 10) (v := 1) kc_13_9 rfl rfl ?_
            refine xi_iastore (pc' := 11) (x' := [0, 1, 0, 0, 0, 0, 0]) kc_13_10 rfl ((eh2.2.1 140 (by decide)).trans ((eh1.2.1 140 (by decide)).trans (F 140 _ hl_140))) rfl (xi_in (n := 7) (by decide) (by decide)) rfl (fun hh3 eh3 => ?_)
            refine xi_iload_n (pc' := 12) (x := (-1)) kc_13_11 rfl rfl ?_
            refine xi_ireturn kc_13_12 mr_13 rfl ?_
            show xw J ov 99 33 (62, [(0, .ref 115), (1, .int a1), (2, .int a2), (3, .int a3), (4, .int a4)], [.int (-1)], hh3) _
            refine xi_ireturn kc_33_62 mr_33 rfl ?_
            show xw J ov 100 196 (707, [(4, .int 0), (3, .ref 167), (2, .ref 115), (1, .ref 0), (0, .ref 1000000)], [.int (-1), .int (-1)], hh3) _
            refine xi_cmt (pc' := 1528) kc_196_707 rfl rfl ?_
            refine xi_iinc (pc' := 1531) (x := 0) (v := 6) (lv' := [(4, .int 6), (3, .ref 167), (2, .ref 115), (1, .ref 0), (0, .ref 1000000)]) kc_196_1528 rfl rfl rfl rfl (xm_lt ml_196 rfl) ?_
            refine xi_goto (pc' := 23) kc_196_1531 rfl ?_
            refine xi_iload (pc' := 25) (x := 6) kc_196_23 rfl rfl ?_
            refine xi_aload_n (pc' := 26) (x := 1000000) kc_196_25 rfl rfl ?_
            refine xi_arraylength (pc' := 27) (n := 6) (v := 6) kc_196_26 rfl (xl_lenO (by decide) hov0 rfl) rfl ?_
            refine xi_bipush (pc' := 29) (v := 6) kc_196_27 rfl rfl ?_
            refine xi_isub (pc' := 30) (v := 0) kc_196_29 rfl rfl ?_
            refine xi_cmt (pc' := 1534) kc_196_30 rfl rfl ?_
            refine xi_iconst (pc' := 1535) (v := 1) kc_196_1534 rfl rfl ?_
            refine xi_ireturn kc_196_1535 mr_196 rfl ?_
            refine ⟨rfl, ?_, ?_⟩
            · rw [eh3.2.2.1, eh2.2.2.1, eh1.2.2.1]; exact hn0
            · rw [eh3.2.2.2, eh2.2.2.2, eh1.2.2.2]; exact hz0
          · refine xi_cmf (pc' := 10) kc_90_7 rfl (xc_ge_f (X := a2.toInt) (Y := 6) rfl (by decide) (by omega)) ?_
            refine xi_iconst (pc' := 11) (v := 1) kc_90_10 rfl rfl ?_
            refine xi_goto (pc' := 15) kc_90_11 rfl ?_
            refine xi_ireturn kc_90_15 mr_90 rfl ?_
            show xw J ov 98 119 (9, [(0, .ref 1), (1, .int a1), (2, .int a2)], [.int 1], h0) _
            refine xi_ireturn kc_119_9 mr_119 rfl ?_
            show xw J ov 99 117 (23, [(0, .ref 0), (1, .int a1), (2, .int a2), (3, .int a3), (4, .int a4)], [.int 1], h0) _
            refine xi_ift (pc' := 32) kc_117_23 rfl rfl ?_
            refine xi_iload_n (pc' := 33) (x := a3) kc_117_32 rfl rfl ?_
            refine xi_iconst (pc' := 34) (v := 1) kc_117_33 rfl rfl ?_
            by_cases c6 : a3.toInt < 1
            · refine xi_cmt (pc' := 42) kc_117_34 rfl (xc_lt_t (X := a3.toInt) (Y := 1) rfl (by decide) (by omega)) ?_
              refine xi_aload_n (pc' := 43) (x := 0) kc_117_42 rfl rfl ?_
              refine xi_bipush (pc' := 45) (v := (-4)) kc_117_43 rfl rfl ?_
              refine xi_virtual (mj := 91) (as := [.int (-4)]) (st1 := []) (lv0 := [(0, .ref 0), (1, .int (-4))]) kc_117_45 rfl rfl rfl rfl rfl (F 0 _ hl_0) (Nat.le_of_ble_eq_true rfl) (hJ _ _ _ _ (by decide)) (xm_le ml_91 rfl) rfl ?_
              refine xi_iload_n (pc' := 1) (x := (-4)) kc_91_0 rfl rfl ?_
              refine xi_ineg (pc' := 2) (v := 4) kc_91_1 rfl rfl ?_
              refine xi_istore_n (pc' := 3) (lv' := [(2, .int 4), (0, .ref 0), (1, .int (-4))]) kc_91_2 rfl rfl (xm_lt ml_91 rfl) ?_
              refine xi_iload_n (pc' := 4) (x := 4) kc_91_3 rfl rfl ?_
              refine xi_iff (pc' := 7) kc_91_4 rfl rfl ?_
              refine xi_iload_n (pc' := 8) (x := 4) kc_91_7 rfl rfl ?_
              refine xi_aload_n (pc' := 9) (x := 0) kc_91_8 rfl rfl ?_
              refine xi_getfield (pc' := 12) (v := .ref 94) kc_91_9 rfl rfl rfl (F 0 _ hl_0) rfl ?_
              refine xi_arraylength (pc' := 13) (n := 7) (v := 7) kc_91_12 rfl (xl_lenI (by decide) (by decide) (F 94 _ hl_94) (by simp only [List.length_replicate, List.length_cons, List.length_nil])) rfl ?_
              refine xi_cmf (pc' := 16) kc_91_13 rfl rfl ?_
              refine xi_aload_n (pc' := 17) (x := 0) kc_91_16 rfl rfl ?_
              refine xi_getfield (pc' := 20) (v := .ref 94) kc_91_17 rfl rfl rfl (F 0 _ hl_0) rfl ?_
              refine xi_iload_n (pc' := 21) (x := 4) kc_91_20 rfl rfl ?_
              refine xi_dup2 (pc' := 22) kc_91_21 rfl ⟨rfl, rfl⟩ ?_
              refine xi_iaload (pc' := 23) (v := 0) kc_91_22 rfl (F 94 _ hl_94) (by decide) rfl (xi_in (n := 7) (by decide) (by decide)) rfl ?_
              refine xi_iconst (pc' := 24) (v := 1) kc_91_23 rfl rfl ?_
              refine xi_iadd (pc' := 25) (v := 1) kc_91_24 rfl rfl ?_
              refine xi_iastore (pc' := 26) (x' := [0, 0, 0, 0, 1, 0, 0]) kc_91_25 rfl (F 94 _ hl_94) rfl (xi_in (n := 7) (by decide) (by decide)) rfl (fun hh1 eh1 => ?_)
              refine xi_iload_n (pc' := 27) (x := (-4)) kc_91_26 rfl rfl ?_
              refine xi_ireturn kc_91_27 mr_91 rfl ?_
              show xw J ov 99 117 (48, [(0, .ref 0), (1, .int a1), (2, .int a2), (3, .int a3), (4, .int a4)], [.int (-4)], hh1) _
              refine xi_ireturn kc_117_48 mr_117 rfl ?_
              show xw J ov 100 196 (679, [(4, .int 0), (3, .ref 167), (2, .ref 115), (1, .ref 0), (0, .ref 1000000)], [.int (-4)], hh1) _
              refine xi_aload_n (pc' := 680) (x := 115) kc_196_679 rfl rfl ?_
              refine xi_aload_n (pc' := 681) (x := 1000000) kc_196_680 rfl rfl ?_
              refine xi_iload (pc' := 683) (x := 0) kc_196_681 rfl rfl ?_
              refine xi_iconst (pc' := 684) (v := 1) kc_196_683 rfl rfl ?_
              refine xi_iadd (pc' := 685) (v := 1) kc_196_684 rfl rfl ?_
              refine xi_ialoadO (pc' := 686) (v := a1) kc_196_685 rfl (by decide) hov0 (xi_in (n := 6) (by decide) (by decide)) rfl ?_
              refine xi_aload_n (pc' := 687) (x := 1000000) kc_196_686 rfl rfl ?_
              refine xi_iload (pc' := 689) (x := 0) kc_196_687 rfl rfl ?_
              refine xi_iconst (pc' := 690) (v := 2) kc_196_689 rfl rfl ?_
              refine xi_iadd (pc' := 691) (v := 2) kc_196_690 rfl rfl ?_
              refine xi_ialoadO (pc' := 692) (v := a2) kc_196_691 rfl (by decide) hov0 (xi_in (n := 6) (by decide) (by decide)) rfl ?_
              refine xi_aload_n (pc' := 693) (x := 1000000) kc_196_692 rfl rfl ?_
              refine xi_iload (pc' := 695) (x := 0) kc_196_693 rfl rfl ?_
              refine xi_iconst (pc' := 696) (v := 3) kc_196_695 rfl rfl ?_
              refine xi_iadd (pc' := 697) (v := 3) kc_196_696 rfl rfl ?_
              refine xi_ialoadO (pc' := 698) (v := a3) kc_196_697 rfl (by decide) hov0 (xi_in (n := 6) (by decide) (by decide)) rfl ?_
              refine xi_aload_n (pc' := 699) (x := 1000000) kc_196_698 rfl rfl ?_
              refine xi_iload (pc' := 701) (x := 0) kc_196_699 rfl rfl ?_
              refine xi_iconst (pc' := 702) (v := 4) kc_196_701 rfl rfl ?_
              refine xi_iadd (pc' := 703) (v := 4) kc_196_702 rfl rfl ?_
              refine xi_ialoadO (pc' := 704) (v := a4) kc_196_703 rfl (by decide) hov0 (xi_in (n := 6) (by decide) (by decide)) rfl ?_
              refine xi_virtual (mj := 33) (as := [.int a1, .int a2, .int a3, .int a4]) (st1 := [.int (-4)]) (lv0 := [(0, .ref 115), (1, .int a1), (2, .int a2), (3, .int a3), (4, .int a4)]) kc_196_704 rfl rfl rfl rfl rfl ((eh1.2.1 115 (by decide)).trans (F 115 _ hl_115)) (Nat.le_of_ble_eq_true rfl) (hJ _ _ _ _ (by decide)) (xm_le ml_33 rfl) rfl ?_
              refine xi_aload_n (pc' := 1) (x := 115) kc_33_0 rfl rfl ?_
              refine xi_iconst (pc' := 2) (v := 0) kc_33_1 rfl rfl ?_
              refine xi_putfield (pc' := 5) (fs' := [.int 0, .int 0, .ref 116, .ref 117, .ref 118, .ref 119, .ref 120, .ref 121, .ref 122, .ref 123, .ref 124, .ref 125, .ref 126, .ref 127, .ref 128, .ref 129, .int 4, .ref 130, .int 0, .ref 131, .ref 132, .ref 133, .ref 134, .int 0, .ref 135, .ref 136, .ref 137, .ref 138, .ref 139, .ref 140, .ref 141, .ref 142, .int 0, .int 0, .int 0, .ref 143, .ref 144, .ref 145, .ref 146, .ref 147, .ref 148, .int 0, .ref 149, .ref 150, .ref 151, .int 0, .ref 152, .ref 153, .ref 154, .ref 155, .ref 156, .ref 157, .ref 158, .ref 159, .int 0, .ref 160, .int 0, .ref 161, .ref 162, .ref 163, .ref 164, .int 0, .ref 165, .ref 166]) kc_33_2 rfl rfl rfl ((eh1.2.1 115 (by decide)).trans (F 115 _ hl_115)) rfl rfl rfl (Nat.le_of_ble_eq_true rfl) rfl (fun hh2 eh2 => ?_)
              refine xi_iload_n (pc' := 6) (x := a1) kc_33_5 rfl rfl ?_
              refine xi_iconst (pc' := 7) (v := 0) kc_33_6 rfl rfl ?_
              refine xi_iconst (pc' := 8) (v := 3) kc_33_7 rfl rfl ?_
              refine xi_static (mj := 12) (as := [.int a1, .int 0, .int 3]) (st1 := []) (lv0 := [(0, .int a1), (1, .int 0), (2, .int 3)]) kc_33_8 rfl rfl (Nat.le_of_ble_eq_true rfl) rfl rfl (Nat.le_of_ble_eq_true rfl) (hJ _ _ _ _ (by decide)) (xm_le ml_12 rfl) rfl ?_
              refine xi_iload_n (pc' := 1) (x := a1) kc_12_0 rfl rfl ?_
              refine xi_iload_n (pc' := 2) (x := 0) kc_12_1 rfl rfl ?_
              refine xi_cmf (pc' := 5) kc_12_2 rfl (xc_lt_f (X := a1.toInt) (Y := 0) rfl (by decide) (by omega)) ?_
              refine xi_iload_n (pc' := 6) (x := a1) kc_12_5 rfl rfl ?_
              refine xi_iload_n (pc' := 7) (x := 3) kc_12_6 rfl rfl ?_
              refine xi_cmf (pc' := 10) kc_12_7 rfl (xc_gt_f (X := a1.toInt) (Y := 3) rfl (by decide) (by omega)) ?_
              refine xi_iconst (pc' := 11) (v := 1) kc_12_10 rfl rfl ?_
              refine xi_goto (pc' := 15) kc_12_11 rfl ?_
              refine xi_ireturn kc_12_15 mr_12 rfl ?_
              show xw J ov 99 33 (11, [(0, .ref 115), (1, .int a1), (2, .int a2), (3, .int a3), (4, .int a4)], [.int 1], hh2) _
              refine xi_ift (pc' := 21) kc_33_11 rfl rfl ?_
              refine xi_iload_n (pc' := 22) (x := a1) kc_33_21 rfl rfl ?_
              refine xi_iconst (pc' := 23) (v := 3) kc_33_22 rfl rfl ?_
              refine xi_cmf (pc' := 26) kc_33_23 rfl (xc_ne_f (X := a1.toInt) (Y := 3) rfl (by decide) (by omega)) ?_
              refine xi_iload_n (pc' := 27) (x := a2) kc_33_26 rfl rfl ?_
              refine xi_static (mj := 11) (as := [.int a2]) (st1 := []) (lv0 := [(0, .int a2)]) kc_33_27 rfl rfl (Nat.le_of_ble_eq_true rfl) rfl rfl (Nat.le_of_ble_eq_true rfl) (hJ _ _ _ _ (by decide)) (xm_le ml_11 rfl) rfl ?_
              refine xi_iload_n (pc' := 1) (x := a2) kc_11_0 rfl rfl ?_
              refine xi_iconst (pc' := 2) (v := 0) kc_11_1 rfl rfl ?_
              refine xi_iconst (pc' := 3) (v := 5) kc_11_2 rfl rfl ?_
              refine xi_static (mj := 12) (as := [.int a2, .int 0, .int 5]) (st1 := []) (lv0 := [(0, .int a2), (1, .int 0), (2, .int 5)]) kc_11_3 rfl rfl (Nat.le_of_ble_eq_true rfl) rfl rfl (Nat.le_of_ble_eq_true rfl) (hJ _ _ _ _ (by decide)) (xm_le ml_12 rfl) rfl ?_
              refine xi_iload_n (pc' := 1) (x := a2) kc_12_0 rfl rfl ?_
              refine xi_iload_n (pc' := 2) (x := 0) kc_12_1 rfl rfl ?_
              refine xi_cmf (pc' := 5) kc_12_2 rfl (xc_lt_f (X := a2.toInt) (Y := 0) rfl (by decide) (by omega)) ?_
              refine xi_iload_n (pc' := 6) (x := a2) kc_12_5 rfl rfl ?_
              refine xi_iload_n (pc' := 7) (x := 5) kc_12_6 rfl rfl ?_
              refine xi_cmf (pc' := 10) kc_12_7 rfl (xc_gt_f (X := a2.toInt) (Y := 5) rfl (by decide) (by omega)) ?_
              refine xi_iconst (pc' := 11) (v := 1) kc_12_10 rfl rfl ?_
              refine xi_goto (pc' := 15) kc_12_11 rfl ?_
              refine xi_ireturn kc_12_15 mr_12 rfl ?_
              show xw J ov 98 11 (6, [(0, .int a2)], [.int 1], hh2) _
              refine xi_ireturn kc_11_6 mr_11 rfl ?_
              show xw J ov 99 33 (30, [(0, .ref 115), (1, .int a1), (2, .int a2), (3, .int a3), (4, .int a4)], [.int 1], hh2) _
              refine xi_ift (pc' := 63) kc_33_30 rfl rfl ?_
              refine xi_iload_n (pc' := 64) (x := a3) kc_33_63 rfl rfl ?_
              refine xi_iconst (pc' := 65) (v := 1) kc_33_64 rfl rfl ?_
              refine xi_cmt (pc' := 73) kc_33_65 rfl (xc_lt_t (X := a3.toInt) (Y := 1) rfl (by decide) (by omega)) ?_
              refine xi_aload_n (pc' := 74) (x := 115) kc_33_73 rfl rfl ?_
              refine xi_bipush (pc' := 76) (v := (-4)) kc_33_74 rfl rfl ?_
              refine xi_virtual (mj := 13) (as := [.int (-4)]) (st1 := []) (lv0 := [(0, .ref 115), (1, .int (-4))]) kc_33_76 rfl rfl rfl rfl rfl eh2.1 (Nat.le_of_ble_eq_true rfl) (hJ _ _ _ _ (by decide)) (xm_le ml_13 rfl) rfl ?_
              refine xi_aload_n (pc' := 1) (x := 115) kc_13_0 rfl rfl ?_
              refine xi_getfield (pc' := 4) (v := .ref 140) kc_13_1 rfl rfl rfl eh2.1 rfl ?_
              refine xi_iload_n (pc' := 5) (x := (-4)) kc_13_4 rfl rfl ?_
              refine xi_ineg (pc' := 6) (v := 4) kc_13_5 rfl rfl ?_
              refine xi_dup2 (pc' := 7) kc_13_6 rfl ⟨rfl, rfl⟩ ?_
              refine xi_iaload (pc' := 8) (v := 0) kc_13_7 rfl ((eh2.2.1 140 (by decide)).trans ((eh1.2.1 140 (by decide)).trans (F 140 _ hl_140))) (by decide) rfl (xi_in (n := 7) (by decide) (by decide)) rfl ?_
              refine xi_iconst (pc' := 9) (v := 1) kc_13_8 rfl rfl ?_
              refine xi_iadd (pc' := 10) (v := 1) kc_13_9 rfl rfl ?_
              refine xi_iastore (pc' := 11) (x' := [0, 0, 0, 0, 1, 0, 0]) kc_13_10 rfl ((eh2.2.1 140 (by decide)).trans ((eh1.2.1 140 (by decide)).trans (F 140 _ hl_140))) rfl (xi_in (n := 7) (by decide) (by decide)) rfl (fun hh3 eh3 => ?_)
              refine xi_iload_n (pc' := 12) (x := (-4)) kc_13_11 rfl rfl ?_
              refine xi_ireturn kc_13_12 mr_13 rfl ?_
              show xw J ov 99 33 (79, [(0, .ref 115), (1, .int a1), (2, .int a2), (3, .int a3), (4, .int a4)], [.int (-4)], hh3) _
              refine xi_ireturn kc_33_79 mr_33 rfl ?_
              show xw J ov 100 196 (707, [(4, .int 0), (3, .ref 167), (2, .ref 115), (1, .ref 0), (0, .ref 1000000)], [.int (-4), .int (-4)], hh3) _
              refine xi_cmt (pc' := 1528) kc_196_707 rfl rfl ?_
              refine xi_iinc (pc' := 1531) (x := 0) (v := 6) (lv' := [(4, .int 6), (3, .ref 167), (2, .ref 115), (1, .ref 0), (0, .ref 1000000)]) kc_196_1528 rfl rfl rfl rfl (xm_lt ml_196 rfl) ?_
              refine xi_goto (pc' := 23) kc_196_1531 rfl ?_
              refine xi_iload (pc' := 25) (x := 6) kc_196_23 rfl rfl ?_
              refine xi_aload_n (pc' := 26) (x := 1000000) kc_196_25 rfl rfl ?_
              refine xi_arraylength (pc' := 27) (n := 6) (v := 6) kc_196_26 rfl (xl_lenO (by decide) hov0 rfl) rfl ?_
              refine xi_bipush (pc' := 29) (v := 6) kc_196_27 rfl rfl ?_
              refine xi_isub (pc' := 30) (v := 0) kc_196_29 rfl rfl ?_
              refine xi_cmt (pc' := 1534) kc_196_30 rfl rfl ?_
              refine xi_iconst (pc' := 1535) (v := 1) kc_196_1534 rfl rfl ?_
              refine xi_ireturn kc_196_1535 mr_196 rfl ?_
              refine ⟨rfl, ?_, ?_⟩
              · rw [eh3.2.2.1, eh2.2.2.1, eh1.2.2.1]; exact hn0
              · rw [eh3.2.2.2, eh2.2.2.2, eh1.2.2.2]; exact hz0
            · refine xi_cmf (pc' := 37) kc_117_34 rfl (xc_lt_f (X := a3.toInt) (Y := 1) rfl (by decide) (by omega)) ?_
              refine xi_iload (pc' := 39) (x := a4) kc_117_37 rfl rfl ?_
              by_cases c7 : 0 ≤ a4.toInt
              · refine xi_ift (pc' := 49) kc_117_39 rfl (xc_ge_t (X := a4.toInt) (Y := 0) rfl (by decide) (by omega)) ?_
                refine xi_iload_n (pc' := 50) (x := a3) kc_117_49 rfl rfl ?_
                refine xi_bipush (pc' := 52) (v := 99) kc_117_50 rfl rfl ?_
                by_cases c8 : 99 < a3.toInt
                · refine xi_cmt (pc' := 75) kc_117_52 rfl (xc_gt_t (X := a3.toInt) (Y := 99) rfl (by decide) (by omega)) ?_
                  refine xi_aload_n (pc' := 76) (x := 0) kc_117_75 rfl rfl ?_
                  refine xi_bipush (pc' := 78) (v := (-6)) kc_117_76 rfl rfl ?_
                  refine xi_virtual (mj := 91) (as := [.int (-6)]) (st1 := []) (lv0 := [(0, .ref 0), (1, .int (-6))]) kc_117_78 rfl rfl rfl rfl rfl (F 0 _ hl_0) (Nat.le_of_ble_eq_true rfl) (hJ _ _ _ _ (by decide)) (xm_le ml_91 rfl) rfl ?_
                  refine xi_iload_n (pc' := 1) (x := (-6)) kc_91_0 rfl rfl ?_
                  refine xi_ineg (pc' := 2) (v := 6) kc_91_1 rfl rfl ?_
                  refine xi_istore_n (pc' := 3) (lv' := [(2, .int 6), (0, .ref 0), (1, .int (-6))]) kc_91_2 rfl rfl (xm_lt ml_91 rfl) ?_
                  refine xi_iload_n (pc' := 4) (x := 6) kc_91_3 rfl rfl ?_
                  refine xi_iff (pc' := 7) kc_91_4 rfl rfl ?_
                  refine xi_iload_n (pc' := 8) (x := 6) kc_91_7 rfl rfl ?_
                  refine xi_aload_n (pc' := 9) (x := 0) kc_91_8 rfl rfl ?_
                  refine xi_getfield (pc' := 12) (v := .ref 94) kc_91_9 rfl rfl rfl (F 0 _ hl_0) rfl ?_
                  refine xi_arraylength (pc' := 13) (n := 7) (v := 7) kc_91_12 rfl (xl_lenI (by decide) (by decide) (F 94 _ hl_94) (by simp only [List.length_replicate, List.length_cons, List.length_nil])) rfl ?_
                  refine xi_cmf (pc' := 16) kc_91_13 rfl rfl ?_
                  refine xi_aload_n (pc' := 17) (x := 0) kc_91_16 rfl rfl ?_
                  refine xi_getfield (pc' := 20) (v := .ref 94) kc_91_17 rfl rfl rfl (F 0 _ hl_0) rfl ?_
                  refine xi_iload_n (pc' := 21) (x := 6) kc_91_20 rfl rfl ?_
                  refine xi_dup2 (pc' := 22) kc_91_21 rfl ⟨rfl, rfl⟩ ?_
                  refine xi_iaload (pc' := 23) (v := 0) kc_91_22 rfl (F 94 _ hl_94) (by decide) rfl (xi_in (n := 7) (by decide) (by decide)) rfl ?_
                  refine xi_iconst (pc' := 24) (v := 1) kc_91_23 rfl rfl ?_
                  refine xi_iadd (pc' := 25) (v := 1) kc_91_24 rfl rfl ?_
                  refine xi_iastore (pc' := 26) (x' := [0, 0, 0, 0, 0, 0, 1]) kc_91_25 rfl (F 94 _ hl_94) rfl (xi_in (n := 7) (by decide) (by decide)) rfl (fun hh1 eh1 => ?_)
                  refine xi_iload_n (pc' := 27) (x := (-6)) kc_91_26 rfl rfl ?_
                  refine xi_ireturn kc_91_27 mr_91 rfl ?_
                  show xw J ov 99 117 (81, [(0, .ref 0), (1, .int a1), (2, .int a2), (3, .int a3), (4, .int a4)], [.int (-6)], hh1) _
                  refine xi_ireturn kc_117_81 mr_117 rfl ?_
                  show xw J ov 100 196 (679, [(4, .int 0), (3, .ref 167), (2, .ref 115), (1, .ref 0), (0, .ref 1000000)], [.int (-6)], hh1) _
                  refine xi_aload_n (pc' := 680) (x := 115) kc_196_679 rfl rfl ?_
                  refine xi_aload_n (pc' := 681) (x := 1000000) kc_196_680 rfl rfl ?_
                  refine xi_iload (pc' := 683) (x := 0) kc_196_681 rfl rfl ?_
                  refine xi_iconst (pc' := 684) (v := 1) kc_196_683 rfl rfl ?_
                  refine xi_iadd (pc' := 685) (v := 1) kc_196_684 rfl rfl ?_
                  refine xi_ialoadO (pc' := 686) (v := a1) kc_196_685 rfl (by decide) hov0 (xi_in (n := 6) (by decide) (by decide)) rfl ?_
                  refine xi_aload_n (pc' := 687) (x := 1000000) kc_196_686 rfl rfl ?_
                  refine xi_iload (pc' := 689) (x := 0) kc_196_687 rfl rfl ?_
                  refine xi_iconst (pc' := 690) (v := 2) kc_196_689 rfl rfl ?_
                  refine xi_iadd (pc' := 691) (v := 2) kc_196_690 rfl rfl ?_
                  refine xi_ialoadO (pc' := 692) (v := a2) kc_196_691 rfl (by decide) hov0 (xi_in (n := 6) (by decide) (by decide)) rfl ?_
                  refine xi_aload_n (pc' := 693) (x := 1000000) kc_196_692 rfl rfl ?_
                  refine xi_iload (pc' := 695) (x := 0) kc_196_693 rfl rfl ?_
                  refine xi_iconst (pc' := 696) (v := 3) kc_196_695 rfl rfl ?_
                  refine xi_iadd (pc' := 697) (v := 3) kc_196_696 rfl rfl ?_
                  refine xi_ialoadO (pc' := 698) (v := a3) kc_196_697 rfl (by decide) hov0 (xi_in (n := 6) (by decide) (by decide)) rfl ?_
                  refine xi_aload_n (pc' := 699) (x := 1000000) kc_196_698 rfl rfl ?_
                  refine xi_iload (pc' := 701) (x := 0) kc_196_699 rfl rfl ?_
                  refine xi_iconst (pc' := 702) (v := 4) kc_196_701 rfl rfl ?_
                  refine xi_iadd (pc' := 703) (v := 4) kc_196_702 rfl rfl ?_
                  refine xi_ialoadO (pc' := 704) (v := a4) kc_196_703 rfl (by decide) hov0 (xi_in (n := 6) (by decide) (by decide)) rfl ?_
                  refine xi_virtual (mj := 33) (as := [.int a1, .int a2, .int a3, .int a4]) (st1 := [.int (-6)]) (lv0 := [(0, .ref 115), (1, .int a1), (2, .int a2), (3, .int a3), (4, .int a4)]) kc_196_704 rfl rfl rfl rfl rfl ((eh1.2.1 115 (by decide)).trans (F 115 _ hl_115)) (Nat.le_of_ble_eq_true rfl) (hJ _ _ _ _ (by decide)) (xm_le ml_33 rfl) rfl ?_
                  refine xi_aload_n (pc' := 1) (x := 115) kc_33_0 rfl rfl ?_
                  refine xi_iconst (pc' := 2) (v := 0) kc_33_1 rfl rfl ?_
                  refine xi_putfield (pc' := 5) (fs' := [.int 0, .int 0, .ref 116, .ref 117, .ref 118, .ref 119, .ref 120, .ref 121, .ref 122, .ref 123, .ref 124, .ref 125, .ref 126, .ref 127, .ref 128, .ref 129, .int 4, .ref 130, .int 0, .ref 131, .ref 132, .ref 133, .ref 134, .int 0, .ref 135, .ref 136, .ref 137, .ref 138, .ref 139, .ref 140, .ref 141, .ref 142, .int 0, .int 0, .int 0, .ref 143, .ref 144, .ref 145, .ref 146, .ref 147, .ref 148, .int 0, .ref 149, .ref 150, .ref 151, .int 0, .ref 152, .ref 153, .ref 154, .ref 155, .ref 156, .ref 157, .ref 158, .ref 159, .int 0, .ref 160, .int 0, .ref 161, .ref 162, .ref 163, .ref 164, .int 0, .ref 165, .ref 166]) kc_33_2 rfl rfl rfl ((eh1.2.1 115 (by decide)).trans (F 115 _ hl_115)) rfl rfl rfl (Nat.le_of_ble_eq_true rfl) rfl (fun hh2 eh2 => ?_)
                  refine xi_iload_n (pc' := 6) (x := a1) kc_33_5 rfl rfl ?_
                  refine xi_iconst (pc' := 7) (v := 0) kc_33_6 rfl rfl ?_
                  refine xi_iconst (pc' := 8) (v := 3) kc_33_7 rfl rfl ?_
                  refine xi_static (mj := 12) (as := [.int a1, .int 0, .int 3]) (st1 := []) (lv0 := [(0, .int a1), (1, .int 0), (2, .int 3)]) kc_33_8 rfl rfl (Nat.le_of_ble_eq_true rfl) rfl rfl (Nat.le_of_ble_eq_true rfl) (hJ _ _ _ _ (by decide)) (xm_le ml_12 rfl) rfl ?_
                  refine xi_iload_n (pc' := 1) (x := a1) kc_12_0 rfl rfl ?_
                  refine xi_iload_n (pc' := 2) (x := 0) kc_12_1 rfl rfl ?_
                  refine xi_cmf (pc' := 5) kc_12_2 rfl (xc_lt_f (X := a1.toInt) (Y := 0) rfl (by decide) (by omega)) ?_
                  refine xi_iload_n (pc' := 6) (x := a1) kc_12_5 rfl rfl ?_
                  refine xi_iload_n (pc' := 7) (x := 3) kc_12_6 rfl rfl ?_
                  refine xi_cmf (pc' := 10) kc_12_7 rfl (xc_gt_f (X := a1.toInt) (Y := 3) rfl (by decide) (by omega)) ?_
                  refine xi_iconst (pc' := 11) (v := 1) kc_12_10 rfl rfl ?_
                  refine xi_goto (pc' := 15) kc_12_11 rfl ?_
                  refine xi_ireturn kc_12_15 mr_12 rfl ?_
                  show xw J ov 99 33 (11, [(0, .ref 115), (1, .int a1), (2, .int a2), (3, .int a3), (4, .int a4)], [.int 1], hh2) _
                  refine xi_ift (pc' := 21) kc_33_11 rfl rfl ?_
                  refine xi_iload_n (pc' := 22) (x := a1) kc_33_21 rfl rfl ?_
                  refine xi_iconst (pc' := 23) (v := 3) kc_33_22 rfl rfl ?_
                  refine xi_cmf (pc' := 26) kc_33_23 rfl (xc_ne_f (X := a1.toInt) (Y := 3) rfl (by decide) (by omega)) ?_
                  refine xi_iload_n (pc' := 27) (x := a2) kc_33_26 rfl rfl ?_
                  refine xi_static (mj := 11) (as := [.int a2]) (st1 := []) (lv0 := [(0, .int a2)]) kc_33_27 rfl rfl (Nat.le_of_ble_eq_true rfl) rfl rfl (Nat.le_of_ble_eq_true rfl) (hJ _ _ _ _ (by decide)) (xm_le ml_11 rfl) rfl ?_
                  refine xi_iload_n (pc' := 1) (x := a2) kc_11_0 rfl rfl ?_
                  refine xi_iconst (pc' := 2) (v := 0) kc_11_1 rfl rfl ?_
                  refine xi_iconst (pc' := 3) (v := 5) kc_11_2 rfl rfl ?_
                  refine xi_static (mj := 12) (as := [.int a2, .int 0, .int 5]) (st1 := []) (lv0 := [(0, .int a2), (1, .int 0), (2, .int 5)]) kc_11_3 rfl rfl (Nat.le_of_ble_eq_true rfl) rfl rfl (Nat.le_of_ble_eq_true rfl) (hJ _ _ _ _ (by decide)) (xm_le ml_12 rfl) rfl ?_
                  refine xi_iload_n (pc' := 1) (x := a2) kc_12_0 rfl rfl ?_
                  refine xi_iload_n (pc' := 2) (x := 0) kc_12_1 rfl rfl ?_
                  refine xi_cmf (pc' := 5) kc_12_2 rfl (xc_lt_f (X := a2.toInt) (Y := 0) rfl (by decide) (by omega)) ?_
                  refine xi_iload_n (pc' := 6) (x := a2) kc_12_5 rfl rfl ?_
                  refine xi_iload_n (pc' := 7) (x := 5) kc_12_6 rfl rfl ?_
                  refine xi_cmf (pc' := 10) kc_12_7 rfl (xc_gt_f (X := a2.toInt) (Y := 5) rfl (by decide) (by omega)) ?_
                  refine xi_iconst (pc' := 11) (v := 1) kc_12_10 rfl rfl ?_
                  refine xi_goto (pc' := 15) kc_12_11 rfl ?_
                  refine xi_ireturn kc_12_15 mr_12 rfl ?_
                  show xw J ov 98 11 (6, [(0, .int a2)], [.int 1], hh2) _
                  refine xi_ireturn kc_11_6 mr_11 rfl ?_
                  show xw J ov 99 33 (30, [(0, .ref 115), (1, .int a1), (2, .int a2), (3, .int a3), (4, .int a4)], [.int 1], hh2) _
                  refine xi_ift (pc' := 63) kc_33_30 rfl rfl ?_
                  refine xi_iload_n (pc' := 64) (x := a3) kc_33_63 rfl rfl ?_
                  refine xi_iconst (pc' := 65) (v := 1) kc_33_64 rfl rfl ?_
                  refine xi_cmf (pc' := 68) kc_33_65 rfl (xc_lt_f (X := a3.toInt) (Y := 1) rfl (by decide) (by omega)) ?_
                  refine xi_iload (pc' := 70) (x := a4) kc_33_68 rfl rfl ?_
                  refine xi_ift (pc' := 80) kc_33_70 rfl (xc_ge_t (X := a4.toInt) (Y := 0) rfl (by decide) (by omega)) ?_
                  refine xi_iload_n (pc' := 81) (x := a3) kc_33_80 rfl rfl ?_
                  refine xi_bipush (pc' := 83) (v := 99) kc_33_81 rfl rfl ?_
                  refine xi_cmt (pc' := 103) kc_33_83 rfl (xc_gt_t (X := a3.toInt) (Y := 99) rfl (by decide) (by omega)) ?_
                  refine xi_aload_n (pc' := 104) (x := 115) kc_33_103 rfl rfl ?_
                  refine xi_bipush (pc' := 106) (v := (-6)) kc_33_104 rfl rfl ?_
                  refine xi_virtual (mj := 13) (as := [.int (-6)]) (st1 := []) (lv0 := [(0, .ref 115), (1, .int (-6))]) kc_33_106 rfl rfl rfl rfl rfl eh2.1 (Nat.le_of_ble_eq_true rfl) (hJ _ _ _ _ (by decide)) (xm_le ml_13 rfl) rfl ?_
                  refine xi_aload_n (pc' := 1) (x := 115) kc_13_0 rfl rfl ?_
                  refine xi_getfield (pc' := 4) (v := .ref 140) kc_13_1 rfl rfl rfl eh2.1 rfl ?_
                  refine xi_iload_n (pc' := 5) (x := (-6)) kc_13_4 rfl rfl ?_
                  refine xi_ineg (pc' := 6) (v := 6) kc_13_5 rfl rfl ?_
                  refine xi_dup2 (pc' := 7) kc_13_6 rfl ⟨rfl, rfl⟩ ?_
                  refine xi_iaload (pc' := 8) (v := 0) kc_13_7 rfl ((eh2.2.1 140 (by decide)).trans ((eh1.2.1 140 (by decide)).trans (F 140 _ hl_140))) (by decide) rfl (xi_in (n := 7) (by decide) (by decide)) rfl ?_
                  refine xi_iconst (pc' := 9) (v := 1) kc_13_8 rfl rfl ?_
                  refine xi_iadd (pc' := 10) (v := 1) kc_13_9 rfl rfl ?_
                  refine xi_iastore (pc' := 11) (x' := [0, 0, 0, 0, 0, 0, 1]) kc_13_10 rfl ((eh2.2.1 140 (by decide)).trans ((eh1.2.1 140 (by decide)).trans (F 140 _ hl_140))) rfl (xi_in (n := 7) (by decide) (by decide)) rfl (fun hh3 eh3 => ?_)
                  refine xi_iload_n (pc' := 12) (x := (-6)) kc_13_11 rfl rfl ?_
                  refine xi_ireturn kc_13_12 mr_13 rfl ?_
                  show xw J ov 99 33 (109, [(0, .ref 115), (1, .int a1), (2, .int a2), (3, .int a3), (4, .int a4)], [.int (-6)], hh3) _
                  refine xi_ireturn kc_33_109 mr_33 rfl ?_
                  show xw J ov 100 196 (707, [(4, .int 0), (3, .ref 167), (2, .ref 115), (1, .ref 0), (0, .ref 1000000)], [.int (-6), .int (-6)], hh3) _
                  refine xi_cmt (pc' := 1528) kc_196_707 rfl rfl ?_
                  refine xi_iinc (pc' := 1531) (x := 0) (v := 6) (lv' := [(4, .int 6), (3, .ref 167), (2, .ref 115), (1, .ref 0), (0, .ref 1000000)]) kc_196_1528 rfl rfl rfl rfl (xm_lt ml_196 rfl) ?_
                  refine xi_goto (pc' := 23) kc_196_1531 rfl ?_
                  refine xi_iload (pc' := 25) (x := 6) kc_196_23 rfl rfl ?_
                  refine xi_aload_n (pc' := 26) (x := 1000000) kc_196_25 rfl rfl ?_
                  refine xi_arraylength (pc' := 27) (n := 6) (v := 6) kc_196_26 rfl (xl_lenO (by decide) hov0 rfl) rfl ?_
                  refine xi_bipush (pc' := 29) (v := 6) kc_196_27 rfl rfl ?_
                  refine xi_isub (pc' := 30) (v := 0) kc_196_29 rfl rfl ?_
                  refine xi_cmt (pc' := 1534) kc_196_30 rfl rfl ?_
                  refine xi_iconst (pc' := 1535) (v := 1) kc_196_1534 rfl rfl ?_
                  refine xi_ireturn kc_196_1535 mr_196 rfl ?_
                  refine ⟨rfl, ?_, ?_⟩
                  · rw [eh3.2.2.1, eh2.2.2.1, eh1.2.2.1]; exact hn0
                  · rw [eh3.2.2.2, eh2.2.2.2, eh1.2.2.2]; exact hz0
                · refine xi_cmf (pc' := 55) kc_117_52 rfl (xc_gt_f (X := a3.toInt) (Y := 99) rfl (by decide) (by omega)) ?_
                  refine xi_iload (pc' := 57) (x := a4) kc_117_55 rfl rfl ?_
                  refine xi_sipush (pc' := 60) (v := 600) kc_117_57 rfl rfl ?_
                  by_cases c9 : 600 < a4.toInt
                  · refine xi_cmt (pc' := 75) kc_117_60 rfl (xc_gt_t (X := a4.toInt) (Y := 600) rfl (by decide) (by omega)) ?_
                    refine xi_aload_n (pc' := 76) (x := 0) kc_117_75 rfl rfl ?_
                    refine xi_bipush (pc' := 78) (v := (-6)) kc_117_76 rfl rfl ?_
                    refine xi_virtual (mj := 91) (as := [.int (-6)]) (st1 := []) (lv0 := [(0, .ref 0), (1, .int (-6))]) kc_117_78 rfl rfl rfl rfl rfl (F 0 _ hl_0) (Nat.le_of_ble_eq_true rfl) (hJ _ _ _ _ (by decide)) (xm_le ml_91 rfl) rfl ?_
                    refine xi_iload_n (pc' := 1) (x := (-6)) kc_91_0 rfl rfl ?_
                    refine xi_ineg (pc' := 2) (v := 6) kc_91_1 rfl rfl ?_
                    refine xi_istore_n (pc' := 3) (lv' := [(2, .int 6), (0, .ref 0), (1, .int (-6))]) kc_91_2 rfl rfl (xm_lt ml_91 rfl) ?_
                    refine xi_iload_n (pc' := 4) (x := 6) kc_91_3 rfl rfl ?_
                    refine xi_iff (pc' := 7) kc_91_4 rfl rfl ?_
                    refine xi_iload_n (pc' := 8) (x := 6) kc_91_7 rfl rfl ?_
                    refine xi_aload_n (pc' := 9) (x := 0) kc_91_8 rfl rfl ?_
                    refine xi_getfield (pc' := 12) (v := .ref 94) kc_91_9 rfl rfl rfl (F 0 _ hl_0) rfl ?_
                    refine xi_arraylength (pc' := 13) (n := 7) (v := 7) kc_91_12 rfl (xl_lenI (by decide) (by decide) (F 94 _ hl_94) (by simp only [List.length_replicate, List.length_cons, List.length_nil])) rfl ?_
                    refine xi_cmf (pc' := 16) kc_91_13 rfl rfl ?_
                    refine xi_aload_n (pc' := 17) (x := 0) kc_91_16 rfl rfl ?_
                    refine xi_getfield (pc' := 20) (v := .ref 94) kc_91_17 rfl rfl rfl (F 0 _ hl_0) rfl ?_
                    refine xi_iload_n (pc' := 21) (x := 6) kc_91_20 rfl rfl ?_
                    refine xi_dup2 (pc' := 22) kc_91_21 rfl ⟨rfl, rfl⟩ ?_
                    refine xi_iaload (pc' := 23) (v := 0) kc_91_22 rfl (F 94 _ hl_94) (by decide) rfl (xi_in (n := 7) (by decide) (by decide)) rfl ?_
                    refine xi_iconst (pc' := 24) (v := 1) kc_91_23 rfl rfl ?_
                    refine xi_iadd (pc' := 25) (v := 1) kc_91_24 rfl rfl ?_
                    refine xi_iastore (pc' := 26) (x' := [0, 0, 0, 0, 0, 0, 1]) kc_91_25 rfl (F 94 _ hl_94) rfl (xi_in (n := 7) (by decide) (by decide)) rfl (fun hh1 eh1 => ?_)
                    refine xi_iload_n (pc' := 27) (x := (-6)) kc_91_26 rfl rfl ?_
                    refine xi_ireturn kc_91_27 mr_91 rfl ?_
                    show xw J ov 99 117 (81, [(0, .ref 0), (1, .int a1), (2, .int a2), (3, .int a3), (4, .int a4)], [.int (-6)], hh1) _
                    refine xi_ireturn kc_117_81 mr_117 rfl ?_
                    show xw J ov 100 196 (679, [(4, .int 0), (3, .ref 167), (2, .ref 115), (1, .ref 0), (0, .ref 1000000)], [.int (-6)], hh1) _
                    refine xi_aload_n (pc' := 680) (x := 115) kc_196_679 rfl rfl ?_
                    refine xi_aload_n (pc' := 681) (x := 1000000) kc_196_680 rfl rfl ?_
                    refine xi_iload (pc' := 683) (x := 0) kc_196_681 rfl rfl ?_
                    refine xi_iconst (pc' := 684) (v := 1) kc_196_683 rfl rfl ?_
                    refine xi_iadd (pc' := 685) (v := 1) kc_196_684 rfl rfl ?_
                    refine xi_ialoadO (pc' := 686) (v := a1) kc_196_685 rfl (by decide) hov0 (xi_in (n := 6) (by decide) (by decide)) rfl ?_
                    refine xi_aload_n (pc' := 687) (x := 1000000) kc_196_686 rfl rfl ?_
                    refine xi_iload (pc' := 689) (x := 0) kc_196_687 rfl rfl ?_
                    refine xi_iconst (pc' := 690) (v := 2) kc_196_689 rfl rfl ?_
                    refine xi_iadd (pc' := 691) (v := 2) kc_196_690 rfl rfl ?_
                    refine xi_ialoadO (pc' := 692) (v := a2) kc_196_691 rfl (by decide) hov0 (xi_in (n := 6) (by decide) (by decide)) rfl ?_
                    refine xi_aload_n (pc' := 693) (x := 1000000) kc_196_692 rfl rfl ?_
                    refine xi_iload (pc' := 695) (x := 0) kc_196_693 rfl rfl ?_
                    refine xi_iconst (pc' := 696) (v := 3) kc_196_695 rfl rfl ?_
                    refine xi_iadd (pc' := 697) (v := 3) kc_196_696 rfl rfl ?_
                    refine xi_ialoadO (pc' := 698) (v := a3) kc_196_697 rfl (by decide) hov0 (xi_in (n := 6) (by decide) (by decide)) rfl ?_
                    refine xi_aload_n (pc' := 699) (x := 1000000) kc_196_698 rfl rfl ?_
                    refine xi_iload (pc' := 701) (x := 0) kc_196_699 rfl rfl ?_
                    refine xi_iconst (pc' := 702) (v := 4) kc_196_701 rfl rfl ?_
                    refine xi_iadd (pc' := 703) (v := 4) kc_196_702 rfl rfl ?_
                    refine xi_ialoadO (pc' := 704) (v := a4) kc_196_703 rfl (by decide) hov0 (xi_in (n := 6) (by decide) (by decide)) rfl ?_
                    refine xi_virtual (mj := 33) (as := [.int a1, .int a2, .int a3, .int a4]) (st1 := [.int (-6)]) (lv0 := [(0, .ref 115), (1, .int a1), (2, .int a2), (3, .int a3), (4, .int a4)]) kc_196_704 rfl rfl rfl rfl rfl ((eh1.2.1 115 (by decide)).trans (F 115 _ hl_115)) (Nat.le_of_ble_eq_true rfl) (hJ _ _ _ _ (by decide)) (xm_le ml_33 rfl) rfl ?_
                    refine xi_aload_n (pc' := 1) (x := 115) kc_33_0 rfl rfl ?_
                    refine xi_iconst (pc' := 2) (v := 0) kc_33_1 rfl rfl ?_
                    refine xi_putfield (pc' := 5) (fs' := [.int 0, .int 0, .ref 116, .ref 117, .ref 118, .ref 119, .ref 120, .ref 121, .ref 122, .ref 123, .ref 124, .ref 125, .ref 126, .ref 127, .ref 128, .ref 129, .int 4, .ref 130, .int 0, .ref 131, .ref 132, .ref 133, .ref 134, .int 0, .ref 135, .ref 136, .ref 137, .ref 138, .ref 139, .ref 140, .ref 141, .ref 142, .int 0, .int 0, .int 0, .ref 143, .ref 144, .ref 145, .ref 146, .ref 147, .ref 148, .int 0, .ref 149, .ref 150, .ref 151, .int 0, .ref 152, .ref 153, .ref 154, .ref 155, .ref 156, .ref 157, .ref 158, .ref 159, .int 0, .ref 160, .int 0, .ref 161, .ref 162, .ref 163, .ref 164, .int 0, .ref 165, .ref 166]) kc_33_2 rfl rfl rfl ((eh1.2.1 115 (by decide)).trans (F 115 _ hl_115)) rfl rfl rfl (Nat.le_of_ble_eq_true rfl) rfl (fun hh2 eh2 => ?_)
                    refine xi_iload_n (pc' := 6) (x := a1) kc_33_5 rfl rfl ?_
                    refine xi_iconst (pc' := 7) (v := 0) kc_33_6 rfl rfl ?_
                    refine xi_iconst (pc' := 8) (v := 3) kc_33_7 rfl rfl ?_
                    refine xi_static (mj := 12) (as := [.int a1, .int 0, .int 3]) (st1 := []) (lv0 := [(0, .int a1), (1, .int 0), (2, .int 3)]) kc_33_8 rfl rfl (Nat.le_of_ble_eq_true rfl) rfl rfl (Nat.le_of_ble_eq_true rfl) (hJ _ _ _ _ (by decide)) (xm_le ml_12 rfl) rfl ?_
                    refine xi_iload_n (pc' := 1) (x := a1) kc_12_0 rfl rfl ?_
                    refine xi_iload_n (pc' := 2) (x := 0) kc_12_1 rfl rfl ?_
                    refine xi_cmf (pc' := 5) kc_12_2 rfl (xc_lt_f (X := a1.toInt) (Y := 0) rfl (by decide) (by omega)) ?_
                    refine xi_iload_n (pc' := 6) (x := a1) kc_12_5 rfl rfl ?_
                    refine xi_iload_n (pc' := 7) (x := 3) kc_12_6 rfl rfl ?_
                    refine xi_cmf (pc' := 10) kc_12_7 rfl (xc_gt_f (X := a1.toInt) (Y := 3) rfl (by decide) (by omega)) ?_
                    refine xi_iconst (pc' := 11) (v := 1) kc_12_10 rfl rfl ?_
                    refine xi_goto (pc' := 15) kc_12_11 rfl ?_
                    refine xi_ireturn kc_12_15 mr_12 rfl ?_
                    show xw J ov 99 33 (11, [(0, .ref 115), (1, .int a1), (2, .int a2), (3, .int a3), (4, .int a4)], [.int 1], hh2) _
                    refine xi_ift (pc' := 21) kc_33_11 rfl rfl ?_
                    refine xi_iload_n (pc' := 22) (x := a1) kc_33_21 rfl rfl ?_
                    refine xi_iconst (pc' := 23) (v := 3) kc_33_22 rfl rfl ?_
                    refine xi_cmf (pc' := 26) kc_33_23 rfl (xc_ne_f (X := a1.toInt) (Y := 3) rfl (by decide) (by omega)) ?_
                    refine xi_iload_n (pc' := 27) (x := a2) kc_33_26 rfl rfl ?_
                    refine xi_static (mj := 11) (as := [.int a2]) (st1 := []) (lv0 := [(0, .int a2)]) kc_33_27 rfl rfl (Nat.le_of_ble_eq_true rfl) rfl rfl (Nat.le_of_ble_eq_true rfl) (hJ _ _ _ _ (by decide)) (xm_le ml_11 rfl) rfl ?_
                    refine xi_iload_n (pc' := 1) (x := a2) kc_11_0 rfl rfl ?_
                    refine xi_iconst (pc' := 2) (v := 0) kc_11_1 rfl rfl ?_
                    refine xi_iconst (pc' := 3) (v := 5) kc_11_2 rfl rfl ?_
                    refine xi_static (mj := 12) (as := [.int a2, .int 0, .int 5]) (st1 := []) (lv0 := [(0, .int a2), (1, .int 0), (2, .int 5)]) kc_11_3 rfl rfl (Nat.le_of_ble_eq_true rfl) rfl rfl (Nat.le_of_ble_eq_true rfl) (hJ _ _ _ _ (by decide)) (xm_le ml_12 rfl) rfl ?_
                    refine xi_iload_n (pc' := 1) (x := a2) kc_12_0 rfl rfl ?_
                    refine xi_iload_n (pc' := 2) (x := 0) kc_12_1 rfl rfl ?_
                    refine xi_cmf (pc' := 5) kc_12_2 rfl (xc_lt_f (X := a2.toInt) (Y := 0) rfl (by decide) (by omega)) ?_
                    refine xi_iload_n (pc' := 6) (x := a2) kc_12_5 rfl rfl ?_
                    refine xi_iload_n (pc' := 7) (x := 5) kc_12_6 rfl rfl ?_
                    refine xi_cmf (pc' := 10) kc_12_7 rfl (xc_gt_f (X := a2.toInt) (Y := 5) rfl (by decide) (by omega)) ?_
                    refine xi_iconst (pc' := 11) (v := 1) kc_12_10 rfl rfl ?_
                    refine xi_goto (pc' := 15) kc_12_11 rfl ?_
                    refine xi_ireturn kc_12_15 mr_12 rfl ?_
                    show xw J ov 98 11 (6, [(0, .int a2)], [.int 1], hh2) _
                    refine xi_ireturn kc_11_6 mr_11 rfl ?_
                    show xw J ov 99 33 (30, [(0, .ref 115), (1, .int a1), (2, .int a2), (3, .int a3), (4, .int a4)], [.int 1], hh2) _
                    refine xi_ift (pc' := 63) kc_33_30 rfl rfl ?_
                    refine xi_iload_n (pc' := 64) (x := a3) kc_33_63 rfl rfl ?_
                    refine xi_iconst (pc' := 65) (v := 1) kc_33_64 rfl rfl ?_
                    refine xi_cmf (pc' := 68) kc_33_65 rfl (xc_lt_f (X := a3.toInt) (Y := 1) rfl (by decide) (by omega)) ?_
                    refine xi_iload (pc' := 70) (x := a4) kc_33_68 rfl rfl ?_
                    refine xi_ift (pc' := 80) kc_33_70 rfl (xc_ge_t (X := a4.toInt) (Y := 0) rfl (by decide) (by omega)) ?_
                    refine xi_iload_n (pc' := 81) (x := a3) kc_33_80 rfl rfl ?_
                    refine xi_bipush (pc' := 83) (v := 99) kc_33_81 rfl rfl ?_
                    refine xi_cmf (pc' := 86) kc_33_83 rfl (xc_gt_f (X := a3.toInt) (Y := 99) rfl (by decide) (by omega)) ?_
                    refine xi_iload (pc' := 88) (x := a4) kc_33_86 rfl rfl ?_
                    refine xi_sipush (pc' := 91) (v := 600) kc_33_88 rfl rfl ?_
                    refine xi_cmt (pc' := 103) kc_33_91 rfl (xc_gt_t (X := a4.toInt) (Y := 600) rfl (by decide) (by omega)) ?_
                    refine xi_aload_n (pc' := 104) (x := 115) kc_33_103 rfl rfl ?_
                    refine xi_bipush (pc' := 106) (v := (-6)) kc_33_104 rfl rfl ?_
                    refine xi_virtual (mj := 13) (as := [.int (-6)]) (st1 := []) (lv0 := [(0, .ref 115), (1, .int (-6))]) kc_33_106 rfl rfl rfl rfl rfl eh2.1 (Nat.le_of_ble_eq_true rfl) (hJ _ _ _ _ (by decide)) (xm_le ml_13 rfl) rfl ?_
                    refine xi_aload_n (pc' := 1) (x := 115) kc_13_0 rfl rfl ?_
                    refine xi_getfield (pc' := 4) (v := .ref 140) kc_13_1 rfl rfl rfl eh2.1 rfl ?_
                    refine xi_iload_n (pc' := 5) (x := (-6)) kc_13_4 rfl rfl ?_
                    refine xi_ineg (pc' := 6) (v := 6) kc_13_5 rfl rfl ?_
                    refine xi_dup2 (pc' := 7) kc_13_6 rfl ⟨rfl, rfl⟩ ?_
                    refine xi_iaload (pc' := 8) (v := 0) kc_13_7 rfl ((eh2.2.1 140 (by decide)).trans ((eh1.2.1 140 (by decide)).trans (F 140 _ hl_140))) (by decide) rfl (xi_in (n := 7) (by decide) (by decide)) rfl ?_
                    refine xi_iconst (pc' := 9) (v := 1) kc_13_8 rfl rfl ?_
                    refine xi_iadd (pc' := 10) (v := 1) kc_13_9 rfl rfl ?_
                    refine xi_iastore (pc' := 11) (x' := [0, 0, 0, 0, 0, 0, 1]) kc_13_10 rfl ((eh2.2.1 140 (by decide)).trans ((eh1.2.1 140 (by decide)).trans (F 140 _ hl_140))) rfl (xi_in (n := 7) (by decide) (by decide)) rfl (fun hh3 eh3 => ?_)
                    refine xi_iload_n (pc' := 12) (x := (-6)) kc_13_11 rfl rfl ?_
                    refine xi_ireturn kc_13_12 mr_13 rfl ?_
                    show xw J ov 99 33 (109, [(0, .ref 115), (1, .int a1), (2, .int a2), (3, .int a3), (4, .int a4)], [.int (-6)], hh3) _
                    refine xi_ireturn kc_33_109 mr_33 rfl ?_
                    show xw J ov 100 196 (707, [(4, .int 0), (3, .ref 167), (2, .ref 115), (1, .ref 0), (0, .ref 1000000)], [.int (-6), .int (-6)], hh3) _
                    refine xi_cmt (pc' := 1528) kc_196_707 rfl rfl ?_
                    refine xi_iinc (pc' := 1531) (x := 0) (v := 6) (lv' := [(4, .int 6), (3, .ref 167), (2, .ref 115), (1, .ref 0), (0, .ref 1000000)]) kc_196_1528 rfl rfl rfl rfl (xm_lt ml_196 rfl) ?_
                    refine xi_goto (pc' := 23) kc_196_1531 rfl ?_
                    refine xi_iload (pc' := 25) (x := 6) kc_196_23 rfl rfl ?_
                    refine xi_aload_n (pc' := 26) (x := 1000000) kc_196_25 rfl rfl ?_
                    refine xi_arraylength (pc' := 27) (n := 6) (v := 6) kc_196_26 rfl (xl_lenO (by decide) hov0 rfl) rfl ?_
                    refine xi_bipush (pc' := 29) (v := 6) kc_196_27 rfl rfl ?_
                    refine xi_isub (pc' := 30) (v := 0) kc_196_29 rfl rfl ?_
                    refine xi_cmt (pc' := 1534) kc_196_30 rfl rfl ?_
                    refine xi_iconst (pc' := 1535) (v := 1) kc_196_1534 rfl rfl ?_
                    refine xi_ireturn kc_196_1535 mr_196 rfl ?_
                    refine ⟨rfl, ?_, ?_⟩
                    · rw [eh3.2.2.1, eh2.2.2.1, eh1.2.2.1]; exact hn0
                    · rw [eh3.2.2.2, eh2.2.2.2, eh1.2.2.2]; exact hz0
                  · refine xi_cmf (pc' := 63) kc_117_60 rfl (xc_gt_f (X := a4.toInt) (Y := 600) rfl (by decide) (by omega)) ?_
                    refine xi_aload_n (pc' := 64) (x := 0) kc_117_63 rfl rfl ?_
                    refine xi_getfield (pc' := 67) (v := .ref 1) kc_117_64 rfl rfl rfl (F 0 _ hl_0) rfl ?_
                    refine xi_getfield (pc' := 70) (v := .int 0) kc_117_67 rfl rfl rfl (F 1 _ hl_1) rfl ?_
                    refine xi_bipush (pc' := 72) (v := 10) kc_117_70 rfl rfl ?_
                    refine xi_cmt (pc' := 82) kc_117_72 rfl rfl ?_
                    refine xi_aload_n (pc' := 83) (x := 0) kc_117_82 rfl rfl ?_
                    refine xi_getfield (pc' := 86) (v := .ref 1) kc_117_83 rfl rfl rfl (F 0 _ hl_0) rfl ?_
                    refine xi_iload_n (pc' := 87) (x := a1) kc_117_86 rfl rfl ?_
                    refine xi_iload_n (pc' := 88) (x := a2) kc_117_87 rfl rfl ?_
                    refine xi_iload_n (pc' := 89) (x := a3) kc_117_88 rfl rfl ?_
                    refine xi_iload (pc' := 91) (x := a4) kc_117_89 rfl rfl ?_
                    refine xi_virtual (mj := 120) (as := [.int a1, .int a2, .int a3, .int a4]) (st1 := []) (lv0 := [(0, .ref 1), (1, .int a1), (2, .int a2), (3, .int a3), (4, .int a4)]) kc_117_91 rfl rfl rfl rfl rfl (F 1 _ hl_1) (Nat.le_of_ble_eq_true rfl) (hJ _ _ _ _ (by decide)) (xm_le ml_120 rfl) rfl ?_
                    refine xi_aload_n (pc' := 1) (x := 1) kc_120_0 rfl rfl ?_
                    refine xi_getfield (pc' := 4) (v := .int 0) kc_120_1 rfl rfl rfl (F 1 _ hl_1) rfl ?_
                    refine xi_bipush (pc' := 6) (v := 10) kc_120_4 rfl rfl ?_
                    refine xi_cmt (pc' := 12) kc_120_6 rfl rfl ?_
                    refine xi_aload_n (pc' := 13) (x := 1) kc_120_12 rfl rfl ?_
                    refine xi_getfield (pc' := 16) (v := .ref 4) kc_120_13 rfl rfl rfl (F 1 _ hl_1) rfl ?_
                    refine xi_aload_n (pc' := 17) (x := 1) kc_120_16 rfl rfl ?_
                    refine xi_getfield (pc' := 20) (v := .int 0) kc_120_17 rfl rfl rfl (F 1 _ hl_1) rfl ?_
                    refine xi_aaload (pc' := 21) (b := 53) kc_120_20 rfl (F 4 _ hl_4) rfl (xi_in (n := 10) (by decide) (by decide)) rfl ?_
                    refine xi_astore (pc' := 23) (lv' := [(5, .ref 53), (0, .ref 1), (1, .int a1), (2, .int a2), (3, .int a3), (4, .int a4)]) kc_120_21 rfl rfl (xm_lt ml_120 rfl) ?_
                    refine xi_aload (pc' := 25) (x := 53) kc_120_23 rfl rfl ?_
                    refine xi_iload_n (pc' := 26) (x := a1) kc_120_25 rfl rfl ?_
                    refine xi_putfield (pc' := 29) (fs' := [.int a1, .int 0, .int 0, .int 0]) kc_120_26 rfl rfl rfl (F 53 _ hl_53) rfl rfl rfl (Nat.le_of_ble_eq_true rfl) rfl (fun hh1 eh1 => ?_)
                    refine xi_aload (pc' := 31) (x := 53) kc_120_29 rfl rfl ?_
                    refine xi_iload_n (pc' := 32) (x := a2) kc_120_31 rfl rfl ?_
                    refine xi_putfield (pc' := 35) (fs' := [.int a1, .int a2, .int 0, .int 0]) kc_120_32 rfl rfl rfl eh1.1 rfl rfl rfl (Nat.le_of_ble_eq_true rfl) rfl (fun hh2 eh2 => ?_)
                    refine xi_aload (pc' := 37) (x := 53) kc_120_35 rfl rfl ?_
                    refine xi_iload_n (pc' := 38) (x := a3) kc_120_37 rfl rfl ?_
                    refine xi_putfield (pc' := 41) (fs' := [.int a1, .int a2, .int a3, .int 0]) kc_120_38 rfl rfl rfl eh2.1 rfl rfl rfl (Nat.le_of_ble_eq_true rfl) rfl (fun hh3 eh3 => ?_)
                    refine xi_aload (pc' := 43) (x := 53) kc_120_41 rfl rfl ?_
                    refine xi_iload (pc' := 45) (x := a4) kc_120_43 rfl rfl ?_
                    refine xi_putfield (pc' := 48) (fs' := [.int a1, .int a2, .int a3, .int a4]) kc_120_45 rfl rfl rfl eh3.1 rfl rfl rfl (Nat.le_of_ble_eq_true rfl) rfl (fun hh4 eh4 => ?_)
                    refine xi_aload_n (pc' := 49) (x := 1) kc_120_48 rfl rfl ?_
                    refine xi_dup (pc' := 50) kc_120_49 rfl rfl ?_
                    refine xi_getfield (pc' := 53) (v := .int 0) kc_120_50 rfl rfl rfl ((eh4.2.1 1 (by decide)).trans ((eh3.2.1 1 (by decide)).trans ((eh2.2.1 1 (by decide)).trans ((eh1.2.1 1 (by decide)).trans (F 1 _ hl_1))))) rfl ?_
                    refine xi_iconst (pc' := 54) (v := 1) kc_120_53 rfl rfl ?_
                    refine xi_iadd (pc' := 55) (v := 1) kc_120_54 rfl rfl ?_
                    refine xi_putfield (pc' := 58) (fs' := [.ref 2, .ref 3, .ref 4, .ref 5, .ref 8, .int 1, .int 4]) kc_120_55 rfl rfl rfl ((eh4.2.1 1 (by decide)).trans ((eh3.2.1 1 (by decide)).trans ((eh2.2.1 1 (by decide)).trans ((eh1.2.1 1 (by decide)).trans (F 1 _ hl_1))))) rfl rfl rfl (Nat.le_of_ble_eq_true rfl) rfl (fun hh5 eh5 => ?_)
                    refine xi_aload_n (pc' := 59) (x := 1) kc_120_58 rfl rfl ?_
                    refine xi_getfield (pc' := 62) (v := .int 1) kc_120_59 rfl rfl rfl eh5.1 rfl ?_
                    refine xi_iconst (pc' := 63) (v := 1) kc_120_62 rfl rfl ?_
                    refine xi_isub (pc' := 64) (v := 0) kc_120_63 rfl rfl ?_
                    refine xi_ireturn kc_120_64 mr_120 rfl ?_
                    show xw J ov 99 117 (94, [(0, .ref 0), (1, .int a1), (2, .int a2), (3, .int a3), (4, .int a4)], [.int 0], hh5) _
                    refine xi_ireturn kc_117_94 mr_117 rfl ?_
                    show xw J ov 100 196 (679, [(4, .int 0), (3, .ref 167), (2, .ref 115), (1, .ref 0), (0, .ref 1000000)], [.int 0], hh5) _
                    refine xi_aload_n (pc' := 680) (x := 115) kc_196_679 rfl rfl ?_
                    refine xi_aload_n (pc' := 681) (x := 1000000) kc_196_680 rfl rfl ?_
                    refine xi_iload (pc' := 683) (x := 0) kc_196_681 rfl rfl ?_
                    refine xi_iconst (pc' := 684) (v := 1) kc_196_683 rfl rfl ?_
                    refine xi_iadd (pc' := 685) (v := 1) kc_196_684 rfl rfl ?_
                    refine xi_ialoadO (pc' := 686) (v := a1) kc_196_685 rfl (by decide) hov0 (xi_in (n := 6) (by decide) (by decide)) rfl ?_
                    refine xi_aload_n (pc' := 687) (x := 1000000) kc_196_686 rfl rfl ?_
                    refine xi_iload (pc' := 689) (x := 0) kc_196_687 rfl rfl ?_
                    refine xi_iconst (pc' := 690) (v := 2) kc_196_689 rfl rfl ?_
                    refine xi_iadd (pc' := 691) (v := 2) kc_196_690 rfl rfl ?_
                    refine xi_ialoadO (pc' := 692) (v := a2) kc_196_691 rfl (by decide) hov0 (xi_in (n := 6) (by decide) (by decide)) rfl ?_
                    refine xi_aload_n (pc' := 693) (x := 1000000) kc_196_692 rfl rfl ?_
                    refine xi_iload (pc' := 695) (x := 0) kc_196_693 rfl rfl ?_
                    refine xi_iconst (pc' := 696) (v := 3) kc_196_695 rfl rfl ?_
                    refine xi_iadd (pc' := 697) (v := 3) kc_196_696 rfl rfl ?_
                    refine xi_ialoadO (pc' := 698) (v := a3) kc_196_697 rfl (by decide) hov0 (xi_in (n := 6) (by decide) (by decide)) rfl ?_
                    refine xi_aload_n (pc' := 699) (x := 1000000) kc_196_698 rfl rfl ?_
                    refine xi_iload (pc' := 701) (x := 0) kc_196_699 rfl rfl ?_
                    refine xi_iconst (pc' := 702) (v := 4) kc_196_701 rfl rfl ?_
                    refine xi_iadd (pc' := 703) (v := 4) kc_196_702 rfl rfl ?_
                    refine xi_ialoadO (pc' := 704) (v := a4) kc_196_703 rfl (by decide) hov0 (xi_in (n := 6) (by decide) (by decide)) rfl ?_
                    refine xi_virtual (mj := 33) (as := [.int a1, .int a2, .int a3, .int a4]) (st1 := [.int 0]) (lv0 := [(0, .ref 115), (1, .int a1), (2, .int a2), (3, .int a3), (4, .int a4)]) kc_196_704 rfl rfl rfl rfl rfl ((eh5.2.1 115 (by decide)).trans ((eh4.2.1 115 (by decide)).trans ((eh3.2.1 115 (by decide)).trans ((eh2.2.1 115 (by decide)).trans ((eh1.2.1 115 (by decide)).trans (F 115 _ hl_115)))))) (Nat.le_of_ble_eq_true rfl) (hJ _ _ _ _ (by decide)) (xm_le ml_33 rfl) rfl ?_
                    refine xi_aload_n (pc' := 1) (x := 115) kc_33_0 rfl rfl ?_
                    refine xi_iconst (pc' := 2) (v := 0) kc_33_1 rfl rfl ?_
                    refine xi_putfield (pc' := 5) (fs' := [.int 0, .int 0, .ref 116, .ref 117, .ref 118, .ref 119, .ref 120, .ref 121, .ref 122, .ref 123, .ref 124, .ref 125, .ref 126, .ref 127, .ref 128, .ref 129, .int 4, .ref 130, .int 0, .ref 131, .ref 132, .ref 133, .ref 134, .int 0, .ref 135, .ref 136, .ref 137, .ref 138, .ref 139, .ref 140, .ref 141, .ref 142, .int 0, .int 0, .int 0, .ref 143, .ref 144, .ref 145, .ref 146, .ref 147, .ref 148, .int 0, .ref 149, .ref 150, .ref 151, .int 0, .ref 152, .ref 153, .ref 154, .ref 155, .ref 156, .ref 157, .ref 158, .ref 159, .int 0, .ref 160, .int 0, .ref 161, .ref 162, .ref 163, .ref 164, .int 0, .ref 165, .ref 166]) kc_33_2 rfl rfl rfl ((eh5.2.1 115 (by decide)).trans ((eh4.2.1 115 (by decide)).trans ((eh3.2.1 115 (by decide)).trans ((eh2.2.1 115 (by decide)).trans ((eh1.2.1 115 (by decide)).trans (F 115 _ hl_115)))))) rfl rfl rfl (Nat.le_of_ble_eq_true rfl) rfl (fun hh6 eh6 => ?_)
                    refine xi_iload_n (pc' := 6) (x := a1) kc_33_5 rfl rfl ?_
                    refine xi_iconst (pc' := 7) (v := 0) kc_33_6 rfl rfl ?_
                    refine xi_iconst (pc' := 8) (v := 3) kc_33_7 rfl rfl ?_
                    refine xi_static (mj := 12) (as := [.int a1, .int 0, .int 3]) (st1 := []) (lv0 := [(0, .int a1), (1, .int 0), (2, .int 3)]) kc_33_8 rfl rfl (Nat.le_of_ble_eq_true rfl) rfl rfl (Nat.le_of_ble_eq_true rfl) (hJ _ _ _ _ (by decide)) (xm_le ml_12 rfl) rfl ?_
                    refine xi_iload_n (pc' := 1) (x := a1) kc_12_0 rfl rfl ?_
                    refine xi_iload_n (pc' := 2) (x := 0) kc_12_1 rfl rfl ?_
                    refine xi_cmf (pc' := 5) kc_12_2 rfl (xc_lt_f (X := a1.toInt) (Y := 0) rfl (by decide) (by omega)) ?_
                    refine xi_iload_n (pc' := 6) (x := a1) kc_12_5 rfl rfl ?_
                    refine xi_iload_n (pc' := 7) (x := 3) kc_12_6 rfl rfl ?_
                    refine xi_cmf (pc' := 10) kc_12_7 rfl (xc_gt_f (X := a1.toInt) (Y := 3) rfl (by decide) (by omega)) ?_
                    refine xi_iconst (pc' := 11) (v := 1) kc_12_10 rfl rfl ?_
                    refine xi_goto (pc' := 15) kc_12_11 rfl ?_
                    refine xi_ireturn kc_12_15 mr_12 rfl ?_
                    show xw J ov 99 33 (11, [(0, .ref 115), (1, .int a1), (2, .int a2), (3, .int a3), (4, .int a4)], [.int 1], hh6) _
                    refine xi_ift (pc' := 21) kc_33_11 rfl rfl ?_
                    refine xi_iload_n (pc' := 22) (x := a1) kc_33_21 rfl rfl ?_
                    refine xi_iconst (pc' := 23) (v := 3) kc_33_22 rfl rfl ?_
                    refine xi_cmf (pc' := 26) kc_33_23 rfl (xc_ne_f (X := a1.toInt) (Y := 3) rfl (by decide) (by omega)) ?_
                    refine xi_iload_n (pc' := 27) (x := a2) kc_33_26 rfl rfl ?_
                    refine xi_static (mj := 11) (as := [.int a2]) (st1 := []) (lv0 := [(0, .int a2)]) kc_33_27 rfl rfl (Nat.le_of_ble_eq_true rfl) rfl rfl (Nat.le_of_ble_eq_true rfl) (hJ _ _ _ _ (by decide)) (xm_le ml_11 rfl) rfl ?_
                    refine xi_iload_n (pc' := 1) (x := a2) kc_11_0 rfl rfl ?_
                    refine xi_iconst (pc' := 2) (v := 0) kc_11_1 rfl rfl ?_
                    refine xi_iconst (pc' := 3) (v := 5) kc_11_2 rfl rfl ?_
                    refine xi_static (mj := 12) (as := [.int a2, .int 0, .int 5]) (st1 := []) (lv0 := [(0, .int a2), (1, .int 0), (2, .int 5)]) kc_11_3 rfl rfl (Nat.le_of_ble_eq_true rfl) rfl rfl (Nat.le_of_ble_eq_true rfl) (hJ _ _ _ _ (by decide)) (xm_le ml_12 rfl) rfl ?_
                    refine xi_iload_n (pc' := 1) (x := a2) kc_12_0 rfl rfl ?_
                    refine xi_iload_n (pc' := 2) (x := 0) kc_12_1 rfl rfl ?_
                    refine xi_cmf (pc' := 5) kc_12_2 rfl (xc_lt_f (X := a2.toInt) (Y := 0) rfl (by decide) (by omega)) ?_
                    refine xi_iload_n (pc' := 6) (x := a2) kc_12_5 rfl rfl ?_
                    refine xi_iload_n (pc' := 7) (x := 5) kc_12_6 rfl rfl ?_
                    refine xi_cmf (pc' := 10) kc_12_7 rfl (xc_gt_f (X := a2.toInt) (Y := 5) rfl (by decide) (by omega)) ?_
                    refine xi_iconst (pc' := 11) (v := 1) kc_12_10 rfl rfl ?_
                    refine xi_goto (pc' := 15) kc_12_11 rfl ?_
                    refine xi_ireturn kc_12_15 mr_12 rfl ?_
                    show xw J ov 98 11 (6, [(0, .int a2)], [.int 1], hh6) _
                    refine xi_ireturn kc_11_6 mr_11 rfl ?_
                    show xw J ov 99 33 (30, [(0, .ref 115), (1, .int a1), (2, .int a2), (3, .int a3), (4, .int a4)], [.int 1], hh6) _
                    refine xi_ift (pc' := 63) kc_33_30 rfl rfl ?_
                    refine xi_iload_n (pc' := 64) (x := a3) kc_33_63 rfl rfl ?_
                    refine xi_iconst (pc' := 65) (v := 1) kc_33_64 rfl rfl ?_
                    refine xi_cmf (pc' := 68) kc_33_65 rfl (xc_lt_f (X := a3.toInt) (Y := 1) rfl (by decide) (by omega)) ?_
                    refine xi_iload (pc' := 70) (x := a4) kc_33_68 rfl rfl ?_
                    refine xi_ift (pc' := 80) kc_33_70 rfl (xc_ge_t (X := a4.toInt) (Y := 0) rfl (by decide) (by omega)) ?_
                    refine xi_iload_n (pc' := 81) (x := a3) kc_33_80 rfl rfl ?_
                    refine xi_bipush (pc' := 83) (v := 99) kc_33_81 rfl rfl ?_
                    refine xi_cmf (pc' := 86) kc_33_83 rfl (xc_gt_f (X := a3.toInt) (Y := 99) rfl (by decide) (by omega)) ?_
                    refine xi_iload (pc' := 88) (x := a4) kc_33_86 rfl rfl ?_
                    refine xi_sipush (pc' := 91) (v := 600) kc_33_88 rfl rfl ?_
                    refine xi_cmf (pc' := 94) kc_33_91 rfl (xc_gt_f (X := a4.toInt) (Y := 600) rfl (by decide) (by omega)) ?_
                    refine xi_aload_n (pc' := 95) (x := 115) kc_33_94 rfl rfl ?_
                    refine xi_getfield (pc' := 98) (v := .int 0) kc_33_95 rfl rfl rfl eh6.1 rfl ?_
                    refine xi_bipush (pc' := 100) (v := 10) kc_33_98 rfl rfl ?_
                    refine xi_cmt (pc' := 110) kc_33_100 rfl rfl ?_
                    refine xi_aload_n (pc' := 111) (x := 115) kc_33_110 rfl rfl ?_
                    refine xi_getfield (pc' := 114) (v := .ref 135) kc_33_111 rfl rfl rfl eh6.1 rfl ?_
                    refine xi_aload_n (pc' := 115) (x := 115) kc_33_114 rfl rfl ?_
                    refine xi_getfield (pc' := 118) (v := .int 0) kc_33_115 rfl rfl rfl eh6.1 rfl ?_
                    refine xi_iload_n (pc' := 119) (x := a1) kc_33_118 rfl rfl ?_
                    refine xi_iastore (pc' := 120) (x' := [a1, 0, 0, 0, 0, 0, 0, 0, 0, 0]) kc_33_119 rfl ((eh6.2.1 135 (by decide)).trans ((eh5.2.1 135 (by decide)).trans ((eh4.2.1 135 (by decide)).trans ((eh3.2.1 135 (by decide)).trans ((eh2.2.1 135 (by decide)).trans ((eh1.2.1 135 (by decide)).trans (F 135 _ hl_135))))))) rfl (xi_in (n := 10) (by decide) (by decide)) rfl (fun hh7 eh7 => ?_)
                    refine xi_aload_n (pc' := 121) (x := 115) kc_33_120 rfl rfl ?_
                    refine xi_getfield (pc' := 124) (v := .ref 136) kc_33_121 rfl rfl rfl ((eh7.2.1 115 (by decide)).trans eh6.1) rfl ?_
                    refine xi_aload_n (pc' := 125) (x := 115) kc_33_124 rfl rfl ?_
                    refine xi_getfield (pc' := 128) (v := .int 0) kc_33_125 rfl rfl rfl ((eh7.2.1 115 (by decide)).trans eh6.1) rfl ?_
                    refine xi_iload_n (pc' := 129) (x := a2) kc_33_128 rfl rfl ?_
                    refine xi_iastore (pc' := 130) (x' := [a2, 0, 0, 0, 0, 0, 0, 0, 0, 0]) kc_33_129 rfl ((eh7.2.1 136 (by decide)).trans ((eh6.2.1 136 (by decide)).trans ((eh5.2.1 136 (by decide)).trans ((eh4.2.1 136 (by decide)).trans ((eh3.2.1 136 (by decide)).trans ((eh2.2.1 136 (by decide)).trans ((eh1.2.1 136 (by decide)).trans (F 136 _ hl_136)))))))) rfl (xi_in (n := 10) (by decide) (by decide)) rfl (fun hh8 eh8 => ?_)
                    refine xi_aload_n (pc' := 131) (x := 115) kc_33_130 rfl rfl ?_
                    refine xi_getfield (pc' := 134) (v := .ref 137) kc_33_131 rfl rfl rfl ((eh8.2.1 115 (by decide)).trans ((eh7.2.1 115 (by decide)).trans eh6.1)) rfl ?_
                    refine xi_aload_n (pc' := 135) (x := 115) kc_33_134 rfl rfl ?_
                    refine xi_getfield (pc' := 138) (v := .int 0) kc_33_135 rfl rfl rfl ((eh8.2.1 115 (by decide)).trans ((eh7.2.1 115 (by decide)).trans eh6.1)) rfl ?_
                    refine xi_iload_n (pc' := 139) (x := a3) kc_33_138 rfl rfl ?_
                    refine xi_iastore (pc' := 140) (x' := [a3, 0, 0, 0, 0, 0, 0, 0, 0, 0]) kc_33_139 rfl ((eh8.2.1 137 (by decide)).trans ((eh7.2.1 137 (by decide)).trans ((eh6.2.1 137 (by decide)).trans ((eh5.2.1 137 (by decide)).trans ((eh4.2.1 137 (by decide)).trans ((eh3.2.1 137 (by decide)).trans ((eh2.2.1 137 (by decide)).trans ((eh1.2.1 137 (by decide)).trans (F 137 _ hl_137))))))))) rfl (xi_in (n := 10) (by decide) (by decide)) rfl (fun hh9 eh9 => ?_)
                    refine xi_aload_n (pc' := 141) (x := 115) kc_33_140 rfl rfl ?_
                    refine xi_getfield (pc' := 144) (v := .ref 138) kc_33_141 rfl rfl rfl ((eh9.2.1 115 (by decide)).trans ((eh8.2.1 115 (by decide)).trans ((eh7.2.1 115 (by decide)).trans eh6.1))) rfl ?_
                    refine xi_aload_n (pc' := 145) (x := 115) kc_33_144 rfl rfl ?_
                    refine xi_getfield (pc' := 148) (v := .int 0) kc_33_145 rfl rfl rfl ((eh9.2.1 115 (by decide)).trans ((eh8.2.1 115 (by decide)).trans ((eh7.2.1 115 (by decide)).trans eh6.1))) rfl ?_
                    refine xi_iload (pc' := 150) (x := a4) kc_33_148 rfl rfl ?_
                    refine xi_iastore (pc' := 151) (x' := [a4, 0, 0, 0, 0, 0, 0, 0, 0, 0]) kc_33_150 rfl ((eh9.2.1 138 (by decide)).trans ((eh8.2.1 138 (by decide)).trans ((eh7.2.1 138 (by decide)).trans ((eh6.2.1 138 (by decide)).trans ((eh5.2.1 138 (by decide)).trans ((eh4.2.1 138 (by decide)).trans ((eh3.2.1 138 (by decide)).trans ((eh2.2.1 138 (by decide)).trans ((eh1.2.1 138 (by decide)).trans (F 138 _ hl_138)))))))))) rfl (xi_in (n := 10) (by decide) (by decide)) rfl (fun hh10 eh10 => ?_)
                    refine xi_aload_n (pc' := 152) (x := 115) kc_33_151 rfl rfl ?_
                    refine xi_getfield (pc' := 155) (v := .ref 139) kc_33_152 rfl rfl rfl ((eh10.2.1 115 (by decide)).trans ((eh9.2.1 115 (by decide)).trans ((eh8.2.1 115 (by decide)).trans ((eh7.2.1 115 (by decide)).trans eh6.1)))) rfl ?_
                    refine xi_aload_n (pc' := 156) (x := 115) kc_33_155 rfl rfl ?_
                    refine xi_getfield (pc' := 159) (v := .int 0) kc_33_156 rfl rfl rfl ((eh10.2.1 115 (by decide)).trans ((eh9.2.1 115 (by decide)).trans ((eh8.2.1 115 (by decide)).trans ((eh7.2.1 115 (by decide)).trans eh6.1)))) rfl ?_
                    refine xi_iconst (pc' := 160) (v := 0) kc_33_159 rfl rfl ?_
                    refine xi_bastore (pc' := 161) (x' := [0, 0, 0, 0, 0, 0, 0, 0, 0, 0]) kc_33_160 rfl ((eh10.2.1 139 (by decide)).trans ((eh9.2.1 139 (by decide)).trans ((eh8.2.1 139 (by decide)).trans ((eh7.2.1 139 (by decide)).trans ((eh6.2.1 139 (by decide)).trans ((eh5.2.1 139 (by decide)).trans ((eh4.2.1 139 (by decide)).trans ((eh3.2.1 139 (by decide)).trans ((eh2.2.1 139 (by decide)).trans ((eh1.2.1 139 (by decide)).trans (F 139 _ hl_139))))))))))) rfl (xi_in (n := 10) (by decide) (by decide)) rfl (fun hh11 eh11 => ?_)
                    refine xi_aload_n (pc' := 162) (x := 115) kc_33_161 rfl rfl ?_
                    refine xi_dup (pc' := 163) kc_33_162 rfl rfl ?_
                    refine xi_getfield (pc' := 166) (v := .int 0) kc_33_163 rfl rfl rfl ((eh11.2.1 115 (by decide)).trans ((eh10.2.1 115 (by decide)).trans ((eh9.2.1 115 (by decide)).trans ((eh8.2.1 115 (by decide)).trans ((eh7.2.1 115 (by decide)).trans eh6.1))))) rfl ?_
                    refine xi_iconst (pc' := 167) (v := 1) kc_33_166 rfl rfl ?_
                    refine xi_iadd (pc' := 168) (v := 1) kc_33_167 rfl rfl ?_
                    refine xi_putfield (pc' := 171) (fs' := [.int 0, .int 0, .ref 116, .ref 117, .ref 118, .ref 119, .ref 120, .ref 121, .ref 122, .ref 123, .ref 124, .ref 125, .ref 126, .ref 127, .ref 128, .ref 129, .int 4, .ref 130, .int 0, .ref 131, .ref 132, .ref 133, .ref 134, .int 1, .ref 135, .ref 136, .ref 137, .ref 138, .ref 139, .ref 140, .ref 141, .ref 142, .int 0, .int 0, .int 0, .ref 143, .ref 144, .ref 145, .ref 146, .ref 147, .ref 148, .int 0, .ref 149, .ref 150, .ref 151, .int 0, .ref 152, .ref 153, .ref 154, .ref 155, .ref 156, .ref 157, .ref 158, .ref 159, .int 0, .ref 160, .int 0, .ref 161, .ref 162, .ref 163, .ref 164, .int 0, .ref 165, .ref 166]) kc_33_168 rfl rfl rfl ((eh11.2.1 115 (by decide)).trans ((eh10.2.1 115 (by decide)).trans ((eh9.2.1 115 (by decide)).trans ((eh8.2.1 115 (by decide)).trans ((eh7.2.1 115 (by decide)).trans eh6.1))))) rfl rfl rfl (Nat.le_of_ble_eq_true rfl) rfl (fun hh12 eh12 => ?_)
                    refine xi_aload_n (pc' := 172) (x := 115) kc_33_171 rfl rfl ?_
                    refine xi_iconst (pc' := 173) (v := 0) kc_33_172 rfl rfl ?_
                    refine xi_putfield (pc' := 176) (fs' := [.int 0, .int 0, .ref 116, .ref 117, .ref 118, .ref 119, .ref 120, .ref 121, .ref 122, .ref 123, .ref 124, .ref 125, .ref 126, .ref 127, .ref 128, .ref 129, .int 4, .ref 130, .int 0, .ref 131, .ref 132, .ref 133, .ref 134, .int 1, .ref 135, .ref 136, .ref 137, .ref 138, .ref 139, .ref 140, .ref 141, .ref 142, .int 0, .int 0, .int 0, .ref 143, .ref 144, .ref 145, .ref 146, .ref 147, .ref 148, .int 0, .ref 149, .ref 150, .ref 151, .int 0, .ref 152, .ref 153, .ref 154, .ref 155, .ref 156, .ref 157, .ref 158, .ref 159, .int 0, .ref 160, .int 0, .ref 161, .ref 162, .ref 163, .ref 164, .int 0, .ref 165, .ref 166]) kc_33_173 rfl rfl rfl eh12.1 rfl rfl rfl (Nat.le_of_ble_eq_true rfl) rfl (fun hh13 eh13 => ?_)
                    refine xi_aload_n (pc' := 177) (x := 115) kc_33_176 rfl rfl ?_
                    refine xi_getfield (pc' := 180) (v := .int 1) kc_33_177 rfl rfl rfl eh13.1 rfl ?_
                    refine xi_iconst (pc' := 181) (v := 1) kc_33_180 rfl rfl ?_
                    refine xi_isub (pc' := 182) (v := 0) kc_33_181 rfl rfl ?_
                    refine xi_ireturn kc_33_182 mr_33 rfl ?_
                    show xw J ov 100 196 (707, [(4, .int 0), (3, .ref 167), (2, .ref 115), (1, .ref 0), (0, .ref 1000000)], [.int 0, .int 0], hh13) _
                    refine xi_cmt (pc' := 1528) kc_196_707 rfl rfl ?_
                    refine xi_iinc (pc' := 1531) (x := 0) (v := 6) (lv' := [(4, .int 6), (3, .ref 167), (2, .ref 115), (1, .ref 0), (0, .ref 1000000)]) kc_196_1528 rfl rfl rfl rfl (xm_lt ml_196 rfl) ?_
                    refine xi_goto (pc' := 23) kc_196_1531 rfl ?_
                    refine xi_iload (pc' := 25) (x := 6) kc_196_23 rfl rfl ?_
                    refine xi_aload_n (pc' := 26) (x := 1000000) kc_196_25 rfl rfl ?_
                    refine xi_arraylength (pc' := 27) (n := 6) (v := 6) kc_196_26 rfl (xl_lenO (by decide) hov0 rfl) rfl ?_
                    refine xi_bipush (pc' := 29) (v := 6) kc_196_27 rfl rfl ?_
                    refine xi_isub (pc' := 30) (v := 0) kc_196_29 rfl rfl ?_
                    refine xi_cmt (pc' := 1534) kc_196_30 rfl rfl ?_
                    refine xi_iconst (pc' := 1535) (v := 1) kc_196_1534 rfl rfl ?_
                    refine xi_ireturn kc_196_1535 mr_196 rfl ?_
                    refine ⟨rfl, ?_, ?_⟩
                    · rw [eh13.2.2.1, eh12.2.2.1, eh11.2.2.1, eh10.2.2.1, eh9.2.2.1, eh8.2.2.1, eh7.2.2.1, eh6.2.2.1, eh5.2.2.1, eh4.2.2.1, eh3.2.2.1, eh2.2.2.1, eh1.2.2.1]; exact hn0
                    · rw [eh13.2.2.2, eh12.2.2.2, eh11.2.2.2, eh10.2.2.2, eh9.2.2.2, eh8.2.2.2, eh7.2.2.2, eh6.2.2.2, eh5.2.2.2, eh4.2.2.2, eh3.2.2.2, eh2.2.2.2, eh1.2.2.2]; exact hz0
              · refine xi_iff (pc' := 42) kc_117_39 rfl (xc_ge_f (X := a4.toInt) (Y := 0) rfl (by decide) (by omega)) ?_
                refine xi_aload_n (pc' := 43) (x := 0) kc_117_42 rfl rfl ?_
                refine xi_bipush (pc' := 45) (v := (-4)) kc_117_43 rfl rfl ?_
                refine xi_virtual (mj := 91) (as := [.int (-4)]) (st1 := []) (lv0 := [(0, .ref 0), (1, .int (-4))]) kc_117_45 rfl rfl rfl rfl rfl (F 0 _ hl_0) (Nat.le_of_ble_eq_true rfl) (hJ _ _ _ _ (by decide)) (xm_le ml_91 rfl) rfl ?_
                refine xi_iload_n (pc' := 1) (x := (-4)) kc_91_0 rfl rfl ?_
                refine xi_ineg (pc' := 2) (v := 4) kc_91_1 rfl rfl ?_
                refine xi_istore_n (pc' := 3) (lv' := [(2, .int 4), (0, .ref 0), (1, .int (-4))]) kc_91_2 rfl rfl (xm_lt ml_91 rfl) ?_
                refine xi_iload_n (pc' := 4) (x := 4) kc_91_3 rfl rfl ?_
                refine xi_iff (pc' := 7) kc_91_4 rfl rfl ?_
                refine xi_iload_n (pc' := 8) (x := 4) kc_91_7 rfl rfl ?_
                refine xi_aload_n (pc' := 9) (x := 0) kc_91_8 rfl rfl ?_
                refine xi_getfield (pc' := 12) (v := .ref 94) kc_91_9 rfl rfl rfl (F 0 _ hl_0) rfl ?_
                refine xi_arraylength (pc' := 13) (n := 7) (v := 7) kc_91_12 rfl (xl_lenI (by decide) (by decide) (F 94 _ hl_94) (by simp only [List.length_replicate, List.length_cons, List.length_nil])) rfl ?_
                refine xi_cmf (pc' := 16) kc_91_13 rfl rfl ?_
                refine xi_aload_n (pc' := 17) (x := 0) kc_91_16 rfl rfl ?_
                refine xi_getfield (pc' := 20) (v := .ref 94) kc_91_17 rfl rfl rfl (F 0 _ hl_0) rfl ?_
                refine xi_iload_n (pc' := 21) (x := 4) kc_91_20 rfl rfl ?_
                refine xi_dup2 (pc' := 22) kc_91_21 rfl ⟨rfl, rfl⟩ ?_
                refine xi_iaload (pc' := 23) (v := 0) kc_91_22 rfl (F 94 _ hl_94) (by decide) rfl (xi_in (n := 7) (by decide) (by decide)) rfl ?_
                refine xi_iconst (pc' := 24) (v := 1) kc_91_23 rfl rfl ?_
                refine xi_iadd (pc' := 25) (v := 1) kc_91_24 rfl rfl ?_
                refine xi_iastore (pc' := 26) (x' := [0, 0, 0, 0, 1, 0, 0]) kc_91_25 rfl (F 94 _ hl_94) rfl (xi_in (n := 7) (by decide) (by decide)) rfl (fun hh1 eh1 => ?_)
                refine xi_iload_n (pc' := 27) (x := (-4)) kc_91_26 rfl rfl ?_
                refine xi_ireturn kc_91_27 mr_91 rfl ?_
                show xw J ov 99 117 (48, [(0, .ref 0), (1, .int a1), (2, .int a2), (3, .int a3), (4, .int a4)], [.int (-4)], hh1) _
                refine xi_ireturn kc_117_48 mr_117 rfl ?_
                show xw J ov 100 196 (679, [(4, .int 0), (3, .ref 167), (2, .ref 115), (1, .ref 0), (0, .ref 1000000)], [.int (-4)], hh1) _
                refine xi_aload_n (pc' := 680) (x := 115) kc_196_679 rfl rfl ?_
                refine xi_aload_n (pc' := 681) (x := 1000000) kc_196_680 rfl rfl ?_
                refine xi_iload (pc' := 683) (x := 0) kc_196_681 rfl rfl ?_
                refine xi_iconst (pc' := 684) (v := 1) kc_196_683 rfl rfl ?_
                refine xi_iadd (pc' := 685) (v := 1) kc_196_684 rfl rfl ?_
                refine xi_ialoadO (pc' := 686) (v := a1) kc_196_685 rfl (by decide) hov0 (xi_in (n := 6) (by decide) (by decide)) rfl ?_
                refine xi_aload_n (pc' := 687) (x := 1000000) kc_196_686 rfl rfl ?_
                refine xi_iload (pc' := 689) (x := 0) kc_196_687 rfl rfl ?_
                refine xi_iconst (pc' := 690) (v := 2) kc_196_689 rfl rfl ?_
                refine xi_iadd (pc' := 691) (v := 2) kc_196_690 rfl rfl ?_
                refine xi_ialoadO (pc' := 692) (v := a2) kc_196_691 rfl (by decide) hov0 (xi_in (n := 6) (by decide) (by decide)) rfl ?_
                refine xi_aload_n (pc' := 693) (x := 1000000) kc_196_692 rfl rfl ?_
                refine xi_iload (pc' := 695) (x := 0) kc_196_693 rfl rfl ?_
                refine xi_iconst (pc' := 696) (v := 3) kc_196_695 rfl rfl ?_
                refine xi_iadd (pc' := 697) (v := 3) kc_196_696 rfl rfl ?_
                refine xi_ialoadO (pc' := 698) (v := a3) kc_196_697 rfl (by decide) hov0 (xi_in (n := 6) (by decide) (by decide)) rfl ?_
                refine xi_aload_n (pc' := 699) (x := 1000000) kc_196_698 rfl rfl ?_
                refine xi_iload (pc' := 701) (x := 0) kc_196_699 rfl rfl ?_
                refine xi_iconst (pc' := 702) (v := 4) kc_196_701 rfl rfl ?_
                refine xi_iadd (pc' := 703) (v := 4) kc_196_702 rfl rfl ?_
                refine xi_ialoadO (pc' := 704) (v := a4) kc_196_703 rfl (by decide) hov0 (xi_in (n := 6) (by decide) (by decide)) rfl ?_
                refine xi_virtual (mj := 33) (as := [.int a1, .int a2, .int a3, .int a4]) (st1 := [.int (-4)]) (lv0 := [(0, .ref 115), (1, .int a1), (2, .int a2), (3, .int a3), (4, .int a4)]) kc_196_704 rfl rfl rfl rfl rfl ((eh1.2.1 115 (by decide)).trans (F 115 _ hl_115)) (Nat.le_of_ble_eq_true rfl) (hJ _ _ _ _ (by decide)) (xm_le ml_33 rfl) rfl ?_
                refine xi_aload_n (pc' := 1) (x := 115) kc_33_0 rfl rfl ?_
                refine xi_iconst (pc' := 2) (v := 0) kc_33_1 rfl rfl ?_
                refine xi_putfield (pc' := 5) (fs' := [.int 0, .int 0, .ref 116, .ref 117, .ref 118, .ref 119, .ref 120, .ref 121, .ref 122, .ref 123, .ref 124, .ref 125, .ref 126, .ref 127, .ref 128, .ref 129, .int 4, .ref 130, .int 0, .ref 131, .ref 132, .ref 133, .ref 134, .int 0, .ref 135, .ref 136, .ref 137, .ref 138, .ref 139, .ref 140, .ref 141, .ref 142, .int 0, .int 0, .int 0, .ref 143, .ref 144, .ref 145, .ref 146, .ref 147, .ref 148, .int 0, .ref 149, .ref 150, .ref 151, .int 0, .ref 152, .ref 153, .ref 154, .ref 155, .ref 156, .ref 157, .ref 158, .ref 159, .int 0, .ref 160, .int 0, .ref 161, .ref 162, .ref 163, .ref 164, .int 0, .ref 165, .ref 166]) kc_33_2 rfl rfl rfl ((eh1.2.1 115 (by decide)).trans (F 115 _ hl_115)) rfl rfl rfl (Nat.le_of_ble_eq_true rfl) rfl (fun hh2 eh2 => ?_)
                refine xi_iload_n (pc' := 6) (x := a1) kc_33_5 rfl rfl ?_
                refine xi_iconst (pc' := 7) (v := 0) kc_33_6 rfl rfl ?_
                refine xi_iconst (pc' := 8) (v := 3) kc_33_7 rfl rfl ?_
                refine xi_static (mj := 12) (as := [.int a1, .int 0, .int 3]) (st1 := []) (lv0 := [(0, .int a1), (1, .int 0), (2, .int 3)]) kc_33_8 rfl rfl (Nat.le_of_ble_eq_true rfl) rfl rfl (Nat.le_of_ble_eq_true rfl) (hJ _ _ _ _ (by decide)) (xm_le ml_12 rfl) rfl ?_
                refine xi_iload_n (pc' := 1) (x := a1) kc_12_0 rfl rfl ?_
                refine xi_iload_n (pc' := 2) (x := 0) kc_12_1 rfl rfl ?_
                refine xi_cmf (pc' := 5) kc_12_2 rfl (xc_lt_f (X := a1.toInt) (Y := 0) rfl (by decide) (by omega)) ?_
                refine xi_iload_n (pc' := 6) (x := a1) kc_12_5 rfl rfl ?_
                refine xi_iload_n (pc' := 7) (x := 3) kc_12_6 rfl rfl ?_
                refine xi_cmf (pc' := 10) kc_12_7 rfl (xc_gt_f (X := a1.toInt) (Y := 3) rfl (by decide) (by omega)) ?_
                refine xi_iconst (pc' := 11) (v := 1) kc_12_10 rfl rfl ?_
                refine xi_goto (pc' := 15) kc_12_11 rfl ?_
                refine xi_ireturn kc_12_15 mr_12 rfl ?_
                show xw J ov 99 33 (11, [(0, .ref 115), (1, .int a1), (2, .int a2), (3, .int a3), (4, .int a4)], [.int 1], hh2) _
                refine xi_ift (pc' := 21) kc_33_11 rfl rfl ?_
                refine xi_iload_n (pc' := 22) (x := a1) kc_33_21 rfl rfl ?_
                refine xi_iconst (pc' := 23) (v := 3) kc_33_22 rfl rfl ?_
                refine xi_cmf (pc' := 26) kc_33_23 rfl (xc_ne_f (X := a1.toInt) (Y := 3) rfl (by decide) (by omega)) ?_
                refine xi_iload_n (pc' := 27) (x := a2) kc_33_26 rfl rfl ?_
                refine xi_static (mj := 11) (as := [.int a2]) (st1 := []) (lv0 := [(0, .int a2)]) kc_33_27 rfl rfl (Nat.le_of_ble_eq_true rfl) rfl rfl (Nat.le_of_ble_eq_true rfl) (hJ _ _ _ _ (by decide)) (xm_le ml_11 rfl) rfl ?_
                refine xi_iload_n (pc' := 1) (x := a2) kc_11_0 rfl rfl ?_
                refine xi_iconst (pc' := 2) (v := 0) kc_11_1 rfl rfl ?_
                refine xi_iconst (pc' := 3) (v := 5) kc_11_2 rfl rfl ?_
                refine xi_static (mj := 12) (as := [.int a2, .int 0, .int 5]) (st1 := []) (lv0 := [(0, .int a2), (1, .int 0), (2, .int 5)]) kc_11_3 rfl rfl (Nat.le_of_ble_eq_true rfl) rfl rfl (Nat.le_of_ble_eq_true rfl) (hJ _ _ _ _ (by decide)) (xm_le ml_12 rfl) rfl ?_
                refine xi_iload_n (pc' := 1) (x := a2) kc_12_0 rfl rfl ?_
                refine xi_iload_n (pc' := 2) (x := 0) kc_12_1 rfl rfl ?_
                refine xi_cmf (pc' := 5) kc_12_2 rfl (xc_lt_f (X := a2.toInt) (Y := 0) rfl (by decide) (by omega)) ?_
                refine xi_iload_n (pc' := 6) (x := a2) kc_12_5 rfl rfl ?_
                refine xi_iload_n (pc' := 7) (x := 5) kc_12_6 rfl rfl ?_
                refine xi_cmf (pc' := 10) kc_12_7 rfl (xc_gt_f (X := a2.toInt) (Y := 5) rfl (by decide) (by omega)) ?_
                refine xi_iconst (pc' := 11) (v := 1) kc_12_10 rfl rfl ?_
                refine xi_goto (pc' := 15) kc_12_11 rfl ?_
                refine xi_ireturn kc_12_15 mr_12 rfl ?_
                show xw J ov 98 11 (6, [(0, .int a2)], [.int 1], hh2) _
                refine xi_ireturn kc_11_6 mr_11 rfl ?_
                show xw J ov 99 33 (30, [(0, .ref 115), (1, .int a1), (2, .int a2), (3, .int a3), (4, .int a4)], [.int 1], hh2) _
                refine xi_ift (pc' := 63) kc_33_30 rfl rfl ?_
                refine xi_iload_n (pc' := 64) (x := a3) kc_33_63 rfl rfl ?_
                refine xi_iconst (pc' := 65) (v := 1) kc_33_64 rfl rfl ?_
                refine xi_cmf (pc' := 68) kc_33_65 rfl (xc_lt_f (X := a3.toInt) (Y := 1) rfl (by decide) (by omega)) ?_
                refine xi_iload (pc' := 70) (x := a4) kc_33_68 rfl rfl ?_
                refine xi_iff (pc' := 73) kc_33_70 rfl (xc_ge_f (X := a4.toInt) (Y := 0) rfl (by decide) (by omega)) ?_
                refine xi_aload_n (pc' := 74) (x := 115) kc_33_73 rfl rfl ?_
                refine xi_bipush (pc' := 76) (v := (-4)) kc_33_74 rfl rfl ?_
                refine xi_virtual (mj := 13) (as := [.int (-4)]) (st1 := []) (lv0 := [(0, .ref 115), (1, .int (-4))]) kc_33_76 rfl rfl rfl rfl rfl eh2.1 (Nat.le_of_ble_eq_true rfl) (hJ _ _ _ _ (by decide)) (xm_le ml_13 rfl) rfl ?_
                refine xi_aload_n (pc' := 1) (x := 115) kc_13_0 rfl rfl ?_
                refine xi_getfield (pc' := 4) (v := .ref 140) kc_13_1 rfl rfl rfl eh2.1 rfl ?_
                refine xi_iload_n (pc' := 5) (x := (-4)) kc_13_4 rfl rfl ?_
                refine xi_ineg (pc' := 6) (v := 4) kc_13_5 rfl rfl ?_
                refine xi_dup2 (pc' := 7) kc_13_6 rfl ⟨rfl, rfl⟩ ?_
                refine xi_iaload (pc' := 8) (v := 0) kc_13_7 rfl ((eh2.2.1 140 (by decide)).trans ((eh1.2.1 140 (by decide)).trans (F 140 _ hl_140))) (by decide) rfl (xi_in (n := 7) (by decide) (by decide)) rfl ?_
                refine xi_iconst (pc' := 9) (v := 1) kc_13_8 rfl rfl ?_
                refine xi_iadd (pc' := 10) (v := 1) kc_13_9 rfl rfl ?_
                refine xi_iastore (pc' := 11) (x' := [0, 0, 0, 0, 1, 0, 0]) kc_13_10 rfl ((eh2.2.1 140 (by decide)).trans ((eh1.2.1 140 (by decide)).trans (F 140 _ hl_140))) rfl (xi_in (n := 7) (by decide) (by decide)) rfl (fun hh3 eh3 => ?_)
                refine xi_iload_n (pc' := 12) (x := (-4)) kc_13_11 rfl rfl ?_
                refine xi_ireturn kc_13_12 mr_13 rfl ?_
                show xw J ov 99 33 (79, [(0, .ref 115), (1, .int a1), (2, .int a2), (3, .int a3), (4, .int a4)], [.int (-4)], hh3) _
                refine xi_ireturn kc_33_79 mr_33 rfl ?_
                show xw J ov 100 196 (707, [(4, .int 0), (3, .ref 167), (2, .ref 115), (1, .ref 0), (0, .ref 1000000)], [.int (-4), .int (-4)], hh3) _
                refine xi_cmt (pc' := 1528) kc_196_707 rfl rfl ?_
                refine xi_iinc (pc' := 1531) (x := 0) (v := 6) (lv' := [(4, .int 6), (3, .ref 167), (2, .ref 115), (1, .ref 0), (0, .ref 1000000)]) kc_196_1528 rfl rfl rfl rfl (xm_lt ml_196 rfl) ?_
                refine xi_goto (pc' := 23) kc_196_1531 rfl ?_
                refine xi_iload (pc' := 25) (x := 6) kc_196_23 rfl rfl ?_
                refine xi_aload_n (pc' := 26) (x := 1000000) kc_196_25 rfl rfl ?_
                refine xi_arraylength (pc' := 27) (n := 6) (v := 6) kc_196_26 rfl (xl_lenO (by decide) hov0 rfl) rfl ?_
                refine xi_bipush (pc' := 29) (v := 6) kc_196_27 rfl rfl ?_
                refine xi_isub (pc' := 30) (v := 0) kc_196_29 rfl rfl ?_
                refine xi_cmt (pc' := 1534) kc_196_30 rfl rfl ?_
                refine xi_iconst (pc' := 1535) (v := 1) kc_196_1534 rfl rfl ?_
                refine xi_ireturn kc_196_1535 mr_196 rfl ?_
                refine ⟨rfl, ?_, ?_⟩
                · rw [eh3.2.2.1, eh2.2.2.1, eh1.2.2.1]; exact hn0
                · rw [eh3.2.2.2, eh2.2.2.2, eh1.2.2.2]; exact hz0
      · refine xi_cmt (pc' := 10) kc_119_2 rfl (xc_ne_t (X := a1.toInt) (Y := 3) rfl (by decide) (by omega)) ?_
        refine xi_aload_n (pc' := 11) (x := 1) kc_119_10 rfl rfl ?_
        refine xi_iload_n (pc' := 12) (x := a2) kc_119_11 rfl rfl ?_
        refine xi_virtual (mj := 109) (as := [.int a2]) (st1 := []) (lv0 := [(0, .ref 1), (1, .int a2)]) kc_119_12 rfl rfl rfl rfl rfl (F 1 _ hl_1) (Nat.le_of_ble_eq_true rfl) (hJ _ _ _ _ (by decide)) (xm_le ml_109 rfl) rfl ?_
        refine xi_iload_n (pc' := 1) (x := a2) kc_109_0 rfl rfl ?_
        refine xi_static (mj := 105) (as := [.int a2]) (st1 := []) (lv0 := [(0, .int a2)]) kc_109_1 rfl rfl (Nat.le_of_ble_eq_true rfl) rfl rfl (Nat.le_of_ble_eq_true rfl) (hJ _ _ _ _ (by decide)) (xm_le ml_105 rfl) rfl ?_
        refine xi_iload_n (pc' := 1) (x := a2) kc_105_0 rfl rfl ?_
        by_cases c10 : a2.toInt < 0
        · refine xi_ift (pc' := 14) kc_105_1 rfl (xc_lt_t (X := a2.toInt) (Y := 0) rfl (by decide) (by omega)) ?_
          refine xi_iconst (pc' := 15) (v := 0) kc_105_14 rfl rfl ?_
          refine xi_ireturn kc_105_15 mr_105 rfl ?_
          show xw J ov 97 109 (4, [(0, .ref 1), (1, .int a2)], [.int 0], h0) _
          refine xi_ift (pc' := 23) kc_109_4 rfl rfl ?_
          refine xi_iconst (pc' := 24) (v := 0) kc_109_23 rfl rfl ?_
          refine xi_ireturn kc_109_24 mr_109 rfl ?_
          show xw J ov 98 119 (15, [(0, .ref 1), (1, .int a1), (2, .int a2)], [.int 0], h0) _
          refine xi_ift (pc' := 38) kc_119_15 rfl rfl ?_
          refine xi_iconst (pc' := 39) (v := 0) kc_119_38 rfl rfl ?_
          refine xi_ireturn kc_119_39 mr_119 rfl ?_
          show xw J ov 99 117 (23, [(0, .ref 0), (1, .int a1), (2, .int a2), (3, .int a3), (4, .int a4)], [.int 0], h0) _
          refine xi_iff (pc' := 26) kc_117_23 rfl rfl ?_
          refine xi_aload_n (pc' := 27) (x := 0) kc_117_26 rfl rfl ?_
          refine xi_iconst (pc' := 28) (v := (-1)) kc_117_27 rfl rfl ?_
          refine xi_virtual (mj := 91) (as := [.int (-1)]) (st1 := []) (lv0 := [(0, .ref 0), (1, .int (-1))]) kc_117_28 rfl rfl rfl rfl rfl (F 0 _ hl_0) (Nat.le_of_ble_eq_true rfl) (hJ _ _ _ _ (by decide)) (xm_le ml_91 rfl) rfl ?_
          refine xi_iload_n (pc' := 1) (x := (-1)) kc_91_0 rfl rfl ?_
          refine xi_ineg (pc' := 2) (v := 1) kc_91_1 rfl rfl ?_
          refine xi_istore_n (pc' := 3) (lv' := [(2, .int 1), (0, .ref 0), (1, .int (-1))]) kc_91_2 rfl rfl (xm_lt ml_91 rfl) ?_
          refine xi_iload_n (pc' := 4) (x := 1) kc_91_3 rfl rfl ?_
          refine xi_iff (pc' := 7) kc_91_4 rfl rfl ?_
          refine xi_iload_n (pc' := 8) (x := 1) kc_91_7 rfl rfl ?_
          refine xi_aload_n (pc' := 9) (x := 0) kc_91_8 rfl rfl ?_
          refine xi_getfield (pc' := 12) (v := .ref 94) kc_91_9 rfl rfl rfl (F 0 _ hl_0) rfl ?_
          refine xi_arraylength (pc' := 13) (n := 7) (v := 7) kc_91_12 rfl (xl_lenI (by decide) (by decide) (F 94 _ hl_94) (by simp only [List.length_replicate, List.length_cons, List.length_nil])) rfl ?_
          refine xi_cmf (pc' := 16) kc_91_13 rfl rfl ?_
          refine xi_aload_n (pc' := 17) (x := 0) kc_91_16 rfl rfl ?_
          refine xi_getfield (pc' := 20) (v := .ref 94) kc_91_17 rfl rfl rfl (F 0 _ hl_0) rfl ?_
          refine xi_iload_n (pc' := 21) (x := 1) kc_91_20 rfl rfl ?_
          refine xi_dup2 (pc' := 22) kc_91_21 rfl ⟨rfl, rfl⟩ ?_
          refine xi_iaload (pc' := 23) (v := 0) kc_91_22 rfl (F 94 _ hl_94) (by decide) rfl (xi_in (n := 7) (by decide) (by decide)) rfl ?_
          refine xi_iconst (pc' := 24) (v := 1) kc_91_23 rfl rfl ?_
          refine xi_iadd (pc' := 25) (v := 1) kc_91_24 rfl rfl ?_
          refine xi_iastore (pc' := 26) (x' := [0, 1, 0, 0, 0, 0, 0]) kc_91_25 rfl (F 94 _ hl_94) rfl (xi_in (n := 7) (by decide) (by decide)) rfl (fun hh1 eh1 => ?_)
          refine xi_iload_n (pc' := 27) (x := (-1)) kc_91_26 rfl rfl ?_
          refine xi_ireturn kc_91_27 mr_91 rfl ?_
          show xw J ov 99 117 (31, [(0, .ref 0), (1, .int a1), (2, .int a2), (3, .int a3), (4, .int a4)], [.int (-1)], hh1) _
          refine xi_ireturn kc_117_31 mr_117 rfl ?_
          show xw J ov 100 196 (679, [(4, .int 0), (3, .ref 167), (2, .ref 115), (1, .ref 0), (0, .ref 1000000)], [.int (-1)], hh1) _
          refine xi_aload_n (pc' := 680) (x := 115) kc_196_679 rfl rfl ?_
          refine xi_aload_n (pc' := 681) (x := 1000000) kc_196_680 rfl rfl ?_
          refine xi_iload (pc' := 683) (x := 0) kc_196_681 rfl rfl ?_
          refine xi_iconst (pc' := 684) (v := 1) kc_196_683 rfl rfl ?_
          refine xi_iadd (pc' := 685) (v := 1) kc_196_684 rfl rfl ?_
          refine xi_ialoadO (pc' := 686) (v := a1) kc_196_685 rfl (by decide) hov0 (xi_in (n := 6) (by decide) (by decide)) rfl ?_
          refine xi_aload_n (pc' := 687) (x := 1000000) kc_196_686 rfl rfl ?_
          refine xi_iload (pc' := 689) (x := 0) kc_196_687 rfl rfl ?_
          refine xi_iconst (pc' := 690) (v := 2) kc_196_689 rfl rfl ?_
          refine xi_iadd (pc' := 691) (v := 2) kc_196_690 rfl rfl ?_
          refine xi_ialoadO (pc' := 692) (v := a2) kc_196_691 rfl (by decide) hov0 (xi_in (n := 6) (by decide) (by decide)) rfl ?_
          refine xi_aload_n (pc' := 693) (x := 1000000) kc_196_692 rfl rfl ?_
          refine xi_iload (pc' := 695) (x := 0) kc_196_693 rfl rfl ?_
          refine xi_iconst (pc' := 696) (v := 3) kc_196_695 rfl rfl ?_
          refine xi_iadd (pc' := 697) (v := 3) kc_196_696 rfl rfl ?_
          refine xi_ialoadO (pc' := 698) (v := a3) kc_196_697 rfl (by decide) hov0 (xi_in (n := 6) (by decide) (by decide)) rfl ?_
          refine xi_aload_n (pc' := 699) (x := 1000000) kc_196_698 rfl rfl ?_
          refine xi_iload (pc' := 701) (x := 0) kc_196_699 rfl rfl ?_
          refine xi_iconst (pc' := 702) (v := 4) kc_196_701 rfl rfl ?_
          refine xi_iadd (pc' := 703) (v := 4) kc_196_702 rfl rfl ?_
          refine xi_ialoadO (pc' := 704) (v := a4) kc_196_703 rfl (by decide) hov0 (xi_in (n := 6) (by decide) (by decide)) rfl ?_
          refine xi_virtual (mj := 33) (as := [.int a1, .int a2, .int a3, .int a4]) (st1 := [.int (-1)]) (lv0 := [(0, .ref 115), (1, .int a1), (2, .int a2), (3, .int a3), (4, .int a4)]) kc_196_704 rfl rfl rfl rfl rfl ((eh1.2.1 115 (by decide)).trans (F 115 _ hl_115)) (Nat.le_of_ble_eq_true rfl) (hJ _ _ _ _ (by decide)) (xm_le ml_33 rfl) rfl ?_
          refine xi_aload_n (pc' := 1) (x := 115) kc_33_0 rfl rfl ?_
          refine xi_iconst (pc' := 2) (v := 0) kc_33_1 rfl rfl ?_
          refine xi_putfield (pc' := 5) (fs' := [.int 0, .int 0, .ref 116, .ref 117, .ref 118, .ref 119, .ref 120, .ref 121, .ref 122, .ref 123, .ref 124, .ref 125, .ref 126, .ref 127, .ref 128, .ref 129, .int 4, .ref 130, .int 0, .ref 131, .ref 132, .ref 133, .ref 134, .int 0, .ref 135, .ref 136, .ref 137, .ref 138, .ref 139, .ref 140, .ref 141, .ref 142, .int 0, .int 0, .int 0, .ref 143, .ref 144, .ref 145, .ref 146, .ref 147, .ref 148, .int 0, .ref 149, .ref 150, .ref 151, .int 0, .ref 152, .ref 153, .ref 154, .ref 155, .ref 156, .ref 157, .ref 158, .ref 159, .int 0, .ref 160, .int 0, .ref 161, .ref 162, .ref 163, .ref 164, .int 0, .ref 165, .ref 166]) kc_33_2 rfl rfl rfl ((eh1.2.1 115 (by decide)).trans (F 115 _ hl_115)) rfl rfl rfl (Nat.le_of_ble_eq_true rfl) rfl (fun hh2 eh2 => ?_)
          refine xi_iload_n (pc' := 6) (x := a1) kc_33_5 rfl rfl ?_
          refine xi_iconst (pc' := 7) (v := 0) kc_33_6 rfl rfl ?_
          refine xi_iconst (pc' := 8) (v := 3) kc_33_7 rfl rfl ?_
          refine xi_static (mj := 12) (as := [.int a1, .int 0, .int 3]) (st1 := []) (lv0 := [(0, .int a1), (1, .int 0), (2, .int 3)]) kc_33_8 rfl rfl (Nat.le_of_ble_eq_true rfl) rfl rfl (Nat.le_of_ble_eq_true rfl) (hJ _ _ _ _ (by decide)) (xm_le ml_12 rfl) rfl ?_
          refine xi_iload_n (pc' := 1) (x := a1) kc_12_0 rfl rfl ?_
          refine xi_iload_n (pc' := 2) (x := 0) kc_12_1 rfl rfl ?_
          refine xi_cmf (pc' := 5) kc_12_2 rfl (xc_lt_f (X := a1.toInt) (Y := 0) rfl (by decide) (by omega)) ?_
          refine xi_iload_n (pc' := 6) (x := a1) kc_12_5 rfl rfl ?_
          refine xi_iload_n (pc' := 7) (x := 3) kc_12_6 rfl rfl ?_
          refine xi_cmf (pc' := 10) kc_12_7 rfl (xc_gt_f (X := a1.toInt) (Y := 3) rfl (by decide) (by omega)) ?_
          refine xi_iconst (pc' := 11) (v := 1) kc_12_10 rfl rfl ?_
          refine xi_goto (pc' := 15) kc_12_11 rfl ?_
          refine xi_ireturn kc_12_15 mr_12 rfl ?_
          show xw J ov 99 33 (11, [(0, .ref 115), (1, .int a1), (2, .int a2), (3, .int a3), (4, .int a4)], [.int 1], hh2) _
          refine xi_ift (pc' := 21) kc_33_11 rfl rfl ?_
          refine xi_iload_n (pc' := 22) (x := a1) kc_33_21 rfl rfl ?_
          refine xi_iconst (pc' := 23) (v := 3) kc_33_22 rfl rfl ?_
          refine xi_cmt (pc' := 36) kc_33_23 rfl (xc_ne_t (X := a1.toInt) (Y := 3) rfl (by decide) (by omega)) ?_
          refine xi_aload_n (pc' := 37) (x := 115) kc_33_36 rfl rfl ?_
          refine xi_iload_n (pc' := 38) (x := a2) kc_33_37 rfl rfl ?_
          refine xi_virtual (mj := 32) (as := [.int a2]) (st1 := []) (lv0 := [(0, .ref 115), (1, .int a2)]) kc_33_38 rfl rfl rfl rfl rfl eh2.1 (Nat.le_of_ble_eq_true rfl) (hJ _ _ _ _ (by decide)) (xm_le ml_32 rfl) rfl ?_
          refine xi_iload_n (pc' := 1) (x := a2) kc_32_0 rfl rfl ?_
          refine xi_static (mj := 25) (as := [.int a2]) (st1 := []) (lv0 := [(0, .int a2)]) kc_32_1 rfl rfl (Nat.le_of_ble_eq_true rfl) rfl rfl (Nat.le_of_ble_eq_true rfl) (hJ _ _ _ _ (by decide)) (xm_le ml_25 rfl) rfl ?_
          refine xi_iload_n (pc' := 1) (x := a2) kc_25_0 rfl rfl ?_
          refine xi_iconst (pc' := 2) (v := 0) kc_25_1 rfl rfl ?_
          refine xi_bipush (pc' := 4) (v := 11) kc_25_2 rfl rfl ?_
          refine xi_static (mj := 12) (as := [.int a2, .int 0, .int 11]) (st1 := []) (lv0 := [(0, .int a2), (1, .int 0), (2, .int 11)]) kc_25_4 rfl rfl (Nat.le_of_ble_eq_true rfl) rfl rfl (Nat.le_of_ble_eq_true rfl) (hJ _ _ _ _ (by decide)) (xm_le ml_12 rfl) rfl ?_
          refine xi_iload_n (pc' := 1) (x := a2) kc_12_0 rfl rfl ?_
          refine xi_iload_n (pc' := 2) (x := 0) kc_12_1 rfl rfl ?_
          refine xi_cmt (pc' := 14) kc_12_2 rfl (xc_lt_t (X := a2.toInt) (Y := 0) rfl (by decide) (by omega)) ?_
          refine xi_iconst (pc' := 15) (v := 0) kc_12_14 rfl rfl ?_
          refine xi_ireturn kc_12_15 mr_12 rfl ?_
          show xw J ov 97 25 (7, [(0, .int a2)], [.int 0], hh2) _
          refine xi_ireturn kc_25_7 mr_25 rfl ?_
          show xw J ov 98 32 (4, [(0, .ref 115), (1, .int a2)], [.int 0], hh2) _
          refine xi_ift (pc' := 20) kc_32_4 rfl rfl ?_
          refine xi_iconst (pc' := 21) (v := 0) kc_32_20 rfl rfl ?_
          refine xi_ireturn kc_32_21 mr_32 rfl ?_
          show xw J ov 99 33 (41, [(0, .ref 115), (1, .int a1), (2, .int a2), (3, .int a3), (4, .int a4)], [.int 0], hh2) _
          refine xi_ift (pc' := 57) kc_33_41 rfl rfl ?_
          refine xi_aload_n (pc' := 58) (x := 115) kc_33_57 rfl rfl ?_
          refine xi_iconst (pc' := 59) (v := (-1)) kc_33_58 rfl rfl ?_
          refine xi_virtual (mj := 13) (as := [.int (-1)]) (st1 := []) (lv0 := [(0, .ref 115), (1, .int (-1))]) kc_33_59 rfl rfl rfl rfl rfl eh2.1 (Nat.le_of_ble_eq_true rfl) (hJ _ _ _ _ (by decide)) (xm_le ml_13 rfl) rfl ?_
          refine xi_aload_n (pc' := 1) (x := 115) kc_13_0 rfl rfl ?_
          refine xi_getfield (pc' := 4) (v := .ref 140) kc_13_1 rfl rfl rfl eh2.1 rfl ?_
          refine xi_iload_n (pc' := 5) (x := (-1)) kc_13_4 rfl rfl ?_
          refine xi_ineg (pc' := 6) (v := 1) kc_13_5 rfl rfl ?_
          refine xi_dup2 (pc' := 7) kc_13_6 rfl ⟨rfl, rfl⟩ ?_
          refine xi_iaload (pc' := 8) (v := 0) kc_13_7 rfl ((eh2.2.1 140 (by decide)).trans ((eh1.2.1 140 (by decide)).trans (F 140 _ hl_140))) (by decide) rfl (xi_in (n := 7) (by decide) (by decide)) rfl ?_
          refine xi_iconst (pc' := 9) (v := 1) kc_13_8 rfl rfl ?_
          refine xi_iadd (pc' := 10) (v := 1) kc_13_9 rfl rfl ?_
          refine xi_iastore (pc' := 11) (x' := [0, 1, 0, 0, 0, 0, 0]) kc_13_10 rfl ((eh2.2.1 140 (by decide)).trans ((eh1.2.1 140 (by decide)).trans (F 140 _ hl_140))) rfl (xi_in (n := 7) (by decide) (by decide)) rfl (fun hh3 eh3 => ?_)
          refine xi_iload_n (pc' := 12) (x := (-1)) kc_13_11 rfl rfl ?_
          refine xi_ireturn kc_13_12 mr_13 rfl ?_
          show xw J ov 99 33 (62, [(0, .ref 115), (1, .int a1), (2, .int a2), (3, .int a3), (4, .int a4)], [.int (-1)], hh3) _
          refine xi_ireturn kc_33_62 mr_33 rfl ?_
          show xw J ov 100 196 (707, [(4, .int 0), (3, .ref 167), (2, .ref 115), (1, .ref 0), (0, .ref 1000000)], [.int (-1), .int (-1)], hh3) _
          refine xi_cmt (pc' := 1528) kc_196_707 rfl rfl ?_
          refine xi_iinc (pc' := 1531) (x := 0) (v := 6) (lv' := [(4, .int 6), (3, .ref 167), (2, .ref 115), (1, .ref 0), (0, .ref 1000000)]) kc_196_1528 rfl rfl rfl rfl (xm_lt ml_196 rfl) ?_
          refine xi_goto (pc' := 23) kc_196_1531 rfl ?_
          refine xi_iload (pc' := 25) (x := 6) kc_196_23 rfl rfl ?_
          refine xi_aload_n (pc' := 26) (x := 1000000) kc_196_25 rfl rfl ?_
          refine xi_arraylength (pc' := 27) (n := 6) (v := 6) kc_196_26 rfl (xl_lenO (by decide) hov0 rfl) rfl ?_
          refine xi_bipush (pc' := 29) (v := 6) kc_196_27 rfl rfl ?_
          refine xi_isub (pc' := 30) (v := 0) kc_196_29 rfl rfl ?_
          refine xi_cmt (pc' := 1534) kc_196_30 rfl rfl ?_
          refine xi_iconst (pc' := 1535) (v := 1) kc_196_1534 rfl rfl ?_
          refine xi_ireturn kc_196_1535 mr_196 rfl ?_
          refine ⟨rfl, ?_, ?_⟩
          · rw [eh3.2.2.1, eh2.2.2.1, eh1.2.2.1]; exact hn0
          · rw [eh3.2.2.2, eh2.2.2.2, eh1.2.2.2]; exact hz0
        · refine xi_iff (pc' := 4) kc_105_1 rfl (xc_lt_f (X := a2.toInt) (Y := 0) rfl (by decide) (by omega)) ?_
          refine xi_iload_n (pc' := 5) (x := a2) kc_105_4 rfl rfl ?_
          refine xi_bipush (pc' := 7) (v := 12) kc_105_5 rfl rfl ?_
          by_cases c11 : 12 ≤ a2.toInt
          · refine xi_cmt (pc' := 14) kc_105_7 rfl (xc_ge_t (X := a2.toInt) (Y := 12) rfl (by decide) (by omega)) ?_
            refine xi_iconst (pc' := 15) (v := 0) kc_105_14 rfl rfl ?_
            refine xi_ireturn kc_105_15 mr_105 rfl ?_
            show xw J ov 97 109 (4, [(0, .ref 1), (1, .int a2)], [.int 0], h0) _
            refine xi_ift (pc' := 23) kc_109_4 rfl rfl ?_
            refine xi_iconst (pc' := 24) (v := 0) kc_109_23 rfl rfl ?_
            refine xi_ireturn kc_109_24 mr_109 rfl ?_
            show xw J ov 98 119 (15, [(0, .ref 1), (1, .int a1), (2, .int a2)], [.int 0], h0) _
            refine xi_ift (pc' := 38) kc_119_15 rfl rfl ?_
            refine xi_iconst (pc' := 39) (v := 0) kc_119_38 rfl rfl ?_
            refine xi_ireturn kc_119_39 mr_119 rfl ?_
            show xw J ov 99 117 (23, [(0, .ref 0), (1, .int a1), (2, .int a2), (3, .int a3), (4, .int a4)], [.int 0], h0) _
            refine xi_iff (pc' := 26) kc_117_23 rfl rfl ?_
            refine xi_aload_n (pc' := 27) (x := 0) kc_117_26 rfl rfl ?_
            refine xi_iconst (pc' := 28) (v := (-1)) kc_117_27 rfl rfl ?_
            refine xi_virtual (mj := 91) (as := [.int (-1)]) (st1 := []) (lv0 := [(0, .ref 0), (1, .int (-1))]) kc_117_28 rfl rfl rfl rfl rfl (F 0 _ hl_0) (Nat.le_of_ble_eq_true rfl) (hJ _ _ _ _ (by decide)) (xm_le ml_91 rfl) rfl ?_
            refine xi_iload_n (pc' := 1) (x := (-1)) kc_91_0 rfl rfl ?_
            refine xi_ineg (pc' := 2) (v := 1) kc_91_1 rfl rfl ?_
            refine xi_istore_n (pc' := 3) (lv' := [(2, .int 1), (0, .ref 0), (1, .int (-1))]) kc_91_2 rfl rfl (xm_lt ml_91 rfl) ?_
            refine xi_iload_n (pc' := 4) (x := 1) kc_91_3 rfl rfl ?_
            refine xi_iff (pc' := 7) kc_91_4 rfl rfl ?_
            refine xi_iload_n (pc' := 8) (x := 1) kc_91_7 rfl rfl ?_
            refine xi_aload_n (pc' := 9) (x := 0) kc_91_8 rfl rfl ?_
            refine xi_getfield (pc' := 12) (v := .ref 94) kc_91_9 rfl rfl rfl (F 0 _ hl_0) rfl ?_
            refine xi_arraylength (pc' := 13) (n := 7) (v := 7) kc_91_12 rfl (xl_lenI (by decide) (by decide) (F 94 _ hl_94) (by simp only [List.length_replicate, List.length_cons, List.length_nil])) rfl ?_
            refine xi_cmf (pc' := 16) kc_91_13 rfl rfl ?_
            refine xi_aload_n (pc' := 17) (x := 0) kc_91_16 rfl rfl ?_
            refine xi_getfield (pc' := 20) (v := .ref 94) kc_91_17 rfl rfl rfl (F 0 _ hl_0) rfl ?_
            refine xi_iload_n (pc' := 21) (x := 1) kc_91_20 rfl rfl ?_
            refine xi_dup2 (pc' := 22) kc_91_21 rfl ⟨rfl, rfl⟩ ?_
            refine xi_iaload (pc' := 23) (v := 0) kc_91_22 rfl (F 94 _ hl_94) (by decide) rfl (xi_in (n := 7) (by decide) (by decide)) rfl ?_
            refine xi_iconst (pc' := 24) (v := 1) kc_91_23 rfl rfl ?_
            refine xi_iadd (pc' := 25) (v := 1) kc_91_24 rfl rfl ?_
            refine xi_iastore (pc' := 26) (x' := [0, 1, 0, 0, 0, 0, 0]) kc_91_25 rfl (F 94 _ hl_94) rfl (xi_in (n := 7) (by decide) (by decide)) rfl (fun hh1 eh1 => ?_)
            refine xi_iload_n (pc' := 27) (x := (-1)) kc_91_26 rfl rfl ?_
            refine xi_ireturn kc_91_27 mr_91 rfl ?_
            show xw J ov 99 117 (31, [(0, .ref 0), (1, .int a1), (2, .int a2), (3, .int a3), (4, .int a4)], [.int (-1)], hh1) _
            refine xi_ireturn kc_117_31 mr_117 rfl ?_
            show xw J ov 100 196 (679, [(4, .int 0), (3, .ref 167), (2, .ref 115), (1, .ref 0), (0, .ref 1000000)], [.int (-1)], hh1) _
            refine xi_aload_n (pc' := 680) (x := 115) kc_196_679 rfl rfl ?_
            refine xi_aload_n (pc' := 681) (x := 1000000) kc_196_680 rfl rfl ?_
            refine xi_iload (pc' := 683) (x := 0) kc_196_681 rfl rfl ?_
            refine xi_iconst (pc' := 684) (v := 1) kc_196_683 rfl rfl ?_
            refine xi_iadd (pc' := 685) (v := 1) kc_196_684 rfl rfl ?_
            refine xi_ialoadO (pc' := 686) (v := a1) kc_196_685 rfl (by decide) hov0 (xi_in (n := 6) (by decide) (by decide)) rfl ?_
            refine xi_aload_n (pc' := 687) (x := 1000000) kc_196_686 rfl rfl ?_
            refine xi_iload (pc' := 689) (x := 0) kc_196_687 rfl rfl ?_
            refine xi_iconst (pc' := 690) (v := 2) kc_196_689 rfl rfl ?_
            refine xi_iadd (pc' := 691) (v := 2) kc_196_690 rfl rfl ?_
            refine xi_ialoadO (pc' := 692) (v := a2) kc_196_691 rfl (by decide) hov0 (xi_in (n := 6) (by decide) (by decide)) rfl ?_
            refine xi_aload_n (pc' := 693) (x := 1000000) kc_196_692 rfl rfl ?_
            refine xi_iload (pc' := 695) (x := 0) kc_196_693 rfl rfl ?_
            refine xi_iconst (pc' := 696) (v := 3) kc_196_695 rfl rfl ?_
            refine xi_iadd (pc' := 697) (v := 3) kc_196_696 rfl rfl ?_
            refine xi_ialoadO (pc' := 698) (v := a3) kc_196_697 rfl (by decide) hov0 (xi_in (n := 6) (by decide) (by decide)) rfl ?_
            refine xi_aload_n (pc' := 699) (x := 1000000) kc_196_698 rfl rfl ?_
            refine xi_iload (pc' := 701) (x := 0) kc_196_699 rfl rfl ?_
            refine xi_iconst (pc' := 702) (v := 4) kc_196_701 rfl rfl ?_
            refine xi_iadd (pc' := 703) (v := 4) kc_196_702 rfl rfl ?_
            refine xi_ialoadO (pc' := 704) (v := a4) kc_196_703 rfl (by decide) hov0 (xi_in (n := 6) (by decide) (by decide)) rfl ?_
            refine xi_virtual (mj := 33) (as := [.int a1, .int a2, .int a3, .int a4]) (st1 := [.int (-1)]) (lv0 := [(0, .ref 115), (1, .int a1), (2, .int a2), (3, .int a3), (4, .int a4)]) kc_196_704 rfl rfl rfl rfl rfl ((eh1.2.1 115 (by decide)).trans (F 115 _ hl_115)) (Nat.le_of_ble_eq_true rfl) (hJ _ _ _ _ (by decide)) (xm_le ml_33 rfl) rfl ?_
            refine xi_aload_n (pc' := 1) (x := 115) kc_33_0 rfl rfl ?_
            refine xi_iconst (pc' := 2) (v := 0) kc_33_1 rfl rfl ?_
            refine xi_putfield (pc' := 5) (fs' := [.int 0, .int 0, .ref 116, .ref 117, .ref 118, .ref 119, .ref 120, .ref 121, .ref 122, .ref 123, .ref 124, .ref 125, .ref 126, .ref 127, .ref 128, .ref 129, .int 4, .ref 130, .int 0, .ref 131, .ref 132, .ref 133, .ref 134, .int 0, .ref 135, .ref 136, .ref 137, .ref 138, .ref 139, .ref 140, .ref 141, .ref 142, .int 0, .int 0, .int 0, .ref 143, .ref 144, .ref 145, .ref 146, .ref 147, .ref 148, .int 0, .ref 149, .ref 150, .ref 151, .int 0, .ref 152, .ref 153, .ref 154, .ref 155, .ref 156, .ref 157, .ref 158, .ref 159, .int 0, .ref 160, .int 0, .ref 161, .ref 162, .ref 163, .ref 164, .int 0, .ref 165, .ref 166]) kc_33_2 rfl rfl rfl ((eh1.2.1 115 (by decide)).trans (F 115 _ hl_115)) rfl rfl rfl (Nat.le_of_ble_eq_true rfl) rfl (fun hh2 eh2 => ?_)
            refine xi_iload_n (pc' := 6) (x := a1) kc_33_5 rfl rfl ?_
            refine xi_iconst (pc' := 7) (v := 0) kc_33_6 rfl rfl ?_
            refine xi_iconst (pc' := 8) (v := 3) kc_33_7 rfl rfl ?_
            refine xi_static (mj := 12) (as := [.int a1, .int 0, .int 3]) (st1 := []) (lv0 := [(0, .int a1), (1, .int 0), (2, .int 3)]) kc_33_8 rfl rfl (Nat.le_of_ble_eq_true rfl) rfl rfl (Nat.le_of_ble_eq_true rfl) (hJ _ _ _ _ (by decide)) (xm_le ml_12 rfl) rfl ?_
            refine xi_iload_n (pc' := 1) (x := a1) kc_12_0 rfl rfl ?_
            refine xi_iload_n (pc' := 2) (x := 0) kc_12_1 rfl rfl ?_
            refine xi_cmf (pc' := 5) kc_12_2 rfl (xc_lt_f (X := a1.toInt) (Y := 0) rfl (by decide) (by omega)) ?_
            refine xi_iload_n (pc' := 6) (x := a1) kc_12_5 rfl rfl ?_
            refine xi_iload_n (pc' := 7) (x := 3) kc_12_6 rfl rfl ?_
            refine xi_cmf (pc' := 10) kc_12_7 rfl (xc_gt_f (X := a1.toInt) (Y := 3) rfl (by decide) (by omega)) ?_
            refine xi_iconst (pc' := 11) (v := 1) kc_12_10 rfl rfl ?_
            refine xi_goto (pc' := 15) kc_12_11 rfl ?_
            refine xi_ireturn kc_12_15 mr_12 rfl ?_
            show xw J ov 99 33 (11, [(0, .ref 115), (1, .int a1), (2, .int a2), (3, .int a3), (4, .int a4)], [.int 1], hh2) _
            refine xi_ift (pc' := 21) kc_33_11 rfl rfl ?_
            refine xi_iload_n (pc' := 22) (x := a1) kc_33_21 rfl rfl ?_
            refine xi_iconst (pc' := 23) (v := 3) kc_33_22 rfl rfl ?_
            refine xi_cmt (pc' := 36) kc_33_23 rfl (xc_ne_t (X := a1.toInt) (Y := 3) rfl (by decide) (by omega)) ?_
            refine xi_aload_n (pc' := 37) (x := 115) kc_33_36 rfl rfl ?_
            refine xi_iload_n (pc' := 38) (x := a2) kc_33_37 rfl rfl ?_
            refine xi_virtual (mj := 32) (as := [.int a2]) (st1 := []) (lv0 := [(0, .ref 115), (1, .int a2)]) kc_33_38 rfl rfl rfl rfl rfl eh2.1 (Nat.le_of_ble_eq_true rfl) (hJ _ _ _ _ (by decide)) (xm_le ml_32 rfl) rfl ?_
            refine xi_iload_n (pc' := 1) (x := a2) kc_32_0 rfl rfl ?_
            refine xi_static (mj := 25) (as := [.int a2]) (st1 := []) (lv0 := [(0, .int a2)]) kc_32_1 rfl rfl (Nat.le_of_ble_eq_true rfl) rfl rfl (Nat.le_of_ble_eq_true rfl) (hJ _ _ _ _ (by decide)) (xm_le ml_25 rfl) rfl ?_
            refine xi_iload_n (pc' := 1) (x := a2) kc_25_0 rfl rfl ?_
            refine xi_iconst (pc' := 2) (v := 0) kc_25_1 rfl rfl ?_
            refine xi_bipush (pc' := 4) (v := 11) kc_25_2 rfl rfl ?_
            refine xi_static (mj := 12) (as := [.int a2, .int 0, .int 11]) (st1 := []) (lv0 := [(0, .int a2), (1, .int 0), (2, .int 11)]) kc_25_4 rfl rfl (Nat.le_of_ble_eq_true rfl) rfl rfl (Nat.le_of_ble_eq_true rfl) (hJ _ _ _ _ (by decide)) (xm_le ml_12 rfl) rfl ?_
            refine xi_iload_n (pc' := 1) (x := a2) kc_12_0 rfl rfl ?_
            refine xi_iload_n (pc' := 2) (x := 0) kc_12_1 rfl rfl ?_
            refine xi_cmf (pc' := 5) kc_12_2 rfl (xc_lt_f (X := a2.toInt) (Y := 0) rfl (by decide) (by omega)) ?_
            refine xi_iload_n (pc' := 6) (x := a2) kc_12_5 rfl rfl ?_
            refine xi_iload_n (pc' := 7) (x := 11) kc_12_6 rfl rfl ?_
            refine xi_cmt (pc' := 14) kc_12_7 rfl (xc_gt_t (X := a2.toInt) (Y := 11) rfl (by decide) (by omega)) ?_
            refine xi_iconst (pc' := 15) (v := 0) kc_12_14 rfl rfl ?_
            refine xi_ireturn kc_12_15 mr_12 rfl ?_
            show xw J ov 97 25 (7, [(0, .int a2)], [.int 0], hh2) _
            refine xi_ireturn kc_25_7 mr_25 rfl ?_
            show xw J ov 98 32 (4, [(0, .ref 115), (1, .int a2)], [.int 0], hh2) _
            refine xi_ift (pc' := 20) kc_32_4 rfl rfl ?_
            refine xi_iconst (pc' := 21) (v := 0) kc_32_20 rfl rfl ?_
            refine xi_ireturn kc_32_21 mr_32 rfl ?_
            show xw J ov 99 33 (41, [(0, .ref 115), (1, .int a1), (2, .int a2), (3, .int a3), (4, .int a4)], [.int 0], hh2) _
            refine xi_ift (pc' := 57) kc_33_41 rfl rfl ?_
            refine xi_aload_n (pc' := 58) (x := 115) kc_33_57 rfl rfl ?_
            refine xi_iconst (pc' := 59) (v := (-1)) kc_33_58 rfl rfl ?_
            refine xi_virtual (mj := 13) (as := [.int (-1)]) (st1 := []) (lv0 := [(0, .ref 115), (1, .int (-1))]) kc_33_59 rfl rfl rfl rfl rfl eh2.1 (Nat.le_of_ble_eq_true rfl) (hJ _ _ _ _ (by decide)) (xm_le ml_13 rfl) rfl ?_
            refine xi_aload_n (pc' := 1) (x := 115) kc_13_0 rfl rfl ?_
            refine xi_getfield (pc' := 4) (v := .ref 140) kc_13_1 rfl rfl rfl eh2.1 rfl ?_
            refine xi_iload_n (pc' := 5) (x := (-1)) kc_13_4 rfl rfl ?_
            refine xi_ineg (pc' := 6) (v := 1) kc_13_5 rfl rfl ?_
            refine xi_dup2 (pc' := 7) kc_13_6 rfl ⟨rfl, rfl⟩ ?_
            refine xi_iaload (pc' := 8) (v := 0) kc_13_7 rfl ((eh2.2.1 140 (by decide)).trans ((eh1.2.1 140 (by decide)).trans (F 140 _ hl_140))) (by decide) rfl (xi_in (n := 7) (by decide) (by decide)) rfl ?_
            refine xi_iconst (pc' := 9) (v := 1) kc_13_8 rfl rfl ?_
            refine xi_iadd (pc' := 10) (v := 1) kc_13_9 rfl rfl ?_
            refine xi_iastore (pc' := 11) (x' := [0, 1, 0, 0, 0, 0, 0]) kc_13_10 rfl ((eh2.2.1 140 (by decide)).trans ((eh1.2.1 140 (by decide)).trans (F 140 _ hl_140))) rfl (xi_in (n := 7) (by decide) (by decide)) rfl (fun hh3 eh3 => ?_)
            refine xi_iload_n (pc' := 12) (x := (-1)) kc_13_11 rfl rfl ?_
            refine xi_ireturn kc_13_12 mr_13 rfl ?_
            show xw J ov 99 33 (62, [(0, .ref 115), (1, .int a1), (2, .int a2), (3, .int a3), (4, .int a4)], [.int (-1)], hh3) _
            refine xi_ireturn kc_33_62 mr_33 rfl ?_
            show xw J ov 100 196 (707, [(4, .int 0), (3, .ref 167), (2, .ref 115), (1, .ref 0), (0, .ref 1000000)], [.int (-1), .int (-1)], hh3) _
            refine xi_cmt (pc' := 1528) kc_196_707 rfl rfl ?_
            refine xi_iinc (pc' := 1531) (x := 0) (v := 6) (lv' := [(4, .int 6), (3, .ref 167), (2, .ref 115), (1, .ref 0), (0, .ref 1000000)]) kc_196_1528 rfl rfl rfl rfl (xm_lt ml_196 rfl) ?_
            refine xi_goto (pc' := 23) kc_196_1531 rfl ?_
            refine xi_iload (pc' := 25) (x := 6) kc_196_23 rfl rfl ?_
            refine xi_aload_n (pc' := 26) (x := 1000000) kc_196_25 rfl rfl ?_
            refine xi_arraylength (pc' := 27) (n := 6) (v := 6) kc_196_26 rfl (xl_lenO (by decide) hov0 rfl) rfl ?_
            refine xi_bipush (pc' := 29) (v := 6) kc_196_27 rfl rfl ?_
            refine xi_isub (pc' := 30) (v := 0) kc_196_29 rfl rfl ?_
            refine xi_cmt (pc' := 1534) kc_196_30 rfl rfl ?_
            refine xi_iconst (pc' := 1535) (v := 1) kc_196_1534 rfl rfl ?_
            refine xi_ireturn kc_196_1535 mr_196 rfl ?_
            refine ⟨rfl, ?_, ?_⟩
            · rw [eh3.2.2.1, eh2.2.2.1, eh1.2.2.1]; exact hn0
            · rw [eh3.2.2.2, eh2.2.2.2, eh1.2.2.2]; exact hz0
          · refine xi_cmf (pc' := 10) kc_105_7 rfl (xc_ge_f (X := a2.toInt) (Y := 12) rfl (by decide) (by omega)) ?_
            refine xi_iconst (pc' := 11) (v := 1) kc_105_10 rfl rfl ?_
            refine xi_goto (pc' := 15) kc_105_11 rfl ?_
            refine xi_ireturn kc_105_15 mr_105 rfl ?_
            show xw J ov 97 109 (4, [(0, .ref 1), (1, .int a2)], [.int 1], h0) _
            refine xi_iff (pc' := 7) kc_109_4 rfl rfl ?_
            refine xi_aload_n (pc' := 8) (x := 1) kc_109_7 rfl rfl ?_
            refine xi_getfield (pc' := 11) (v := .ref 3) kc_109_8 rfl rfl rfl (F 1 _ hl_1) rfl ?_
            refine xi_iload_n (pc' := 12) (x := a2) kc_109_11 rfl rfl ?_
            by_cases c12 : a2.toInt = 0
            · have qa2 : a2 = 0 := xc_of (Eq.trans (by omega) (show (0 : Int) = (0 : Int32).toInt by decide))
              subst qa2
              refine xi_aaload (pc' := 13) (b := 29) kc_109_12 rfl (F 3 _ hl_3) rfl (xi_in (n := 12) (by decide) (by decide)) rfl ?_
              refine xi_virtual (mj := 106) (as := []) (st1 := []) (lv0 := [(0, .ref 29)]) kc_109_13 rfl rfl rfl rfl rfl (F 29 _ hl_29) (Nat.le_of_ble_eq_true rfl) (hJ _ _ _ _ (by decide)) (xm_le ml_106 rfl) rfl ?_
              refine xi_aload_n (pc' := 1) (x := 29) kc_106_0 rfl rfl ?_
              refine xi_getfield (pc' := 4) (v := .int (-9)) kc_106_1 rfl rfl rfl (F 29 _ hl_29) rfl ?_
              refine xi_static (mj := 90) (as := [.int (-9)]) (st1 := []) (lv0 := [(0, .int (-9))]) kc_106_4 rfl rfl (Nat.le_of_ble_eq_true rfl) rfl rfl (Nat.le_of_ble_eq_true rfl) (hJ _ _ _ _ (by decide)) (xm_le ml_90 rfl) rfl ?_
              refine xi_iload_n (pc' := 1) (x := (-9)) kc_90_0 rfl rfl ?_
              refine xi_ift (pc' := 14) kc_90_1 rfl rfl ?_
              refine xi_iconst (pc' := 15) (v := 0) kc_90_14 rfl rfl ?_
              refine xi_ireturn kc_90_15 mr_90 rfl ?_
              show xw J ov 96 106 (7, [(0, .ref 29)], [.int 0], h0) _
              refine xi_ireturn kc_106_7 mr_106 rfl ?_
              show xw J ov 97 109 (16, [(0, .ref 1), (1, .int 0)], [.int 0], h0) _
              refine xi_ift (pc' := 23) kc_109_16 rfl rfl ?_
              refine xi_iconst (pc' := 24) (v := 0) kc_109_23 rfl rfl ?_
              refine xi_ireturn kc_109_24 mr_109 rfl ?_
              show xw J ov 98 119 (15, [(0, .ref 1), (1, .int a1), (2, .int 0)], [.int 0], h0) _
              refine xi_ift (pc' := 38) kc_119_15 rfl rfl ?_
              refine xi_iconst (pc' := 39) (v := 0) kc_119_38 rfl rfl ?_
              refine xi_ireturn kc_119_39 mr_119 rfl ?_
              show xw J ov 99 117 (23, [(0, .ref 0), (1, .int a1), (2, .int 0), (3, .int a3), (4, .int a4)], [.int 0], h0) _
              refine xi_iff (pc' := 26) kc_117_23 rfl rfl ?_
              refine xi_aload_n (pc' := 27) (x := 0) kc_117_26 rfl rfl ?_
              refine xi_iconst (pc' := 28) (v := (-1)) kc_117_27 rfl rfl ?_
              refine xi_virtual (mj := 91) (as := [.int (-1)]) (st1 := []) (lv0 := [(0, .ref 0), (1, .int (-1))]) kc_117_28 rfl rfl rfl rfl rfl (F 0 _ hl_0) (Nat.le_of_ble_eq_true rfl) (hJ _ _ _ _ (by decide)) (xm_le ml_91 rfl) rfl ?_
              refine xi_iload_n (pc' := 1) (x := (-1)) kc_91_0 rfl rfl ?_
              refine xi_ineg (pc' := 2) (v := 1) kc_91_1 rfl rfl ?_
              refine xi_istore_n (pc' := 3) (lv' := [(2, .int 1), (0, .ref 0), (1, .int (-1))]) kc_91_2 rfl rfl (xm_lt ml_91 rfl) ?_
              refine xi_iload_n (pc' := 4) (x := 1) kc_91_3 rfl rfl ?_
              refine xi_iff (pc' := 7) kc_91_4 rfl rfl ?_
              refine xi_iload_n (pc' := 8) (x := 1) kc_91_7 rfl rfl ?_
              refine xi_aload_n (pc' := 9) (x := 0) kc_91_8 rfl rfl ?_
              refine xi_getfield (pc' := 12) (v := .ref 94) kc_91_9 rfl rfl rfl (F 0 _ hl_0) rfl ?_
              refine xi_arraylength (pc' := 13) (n := 7) (v := 7) kc_91_12 rfl (xl_lenI (by decide) (by decide) (F 94 _ hl_94) (by simp only [List.length_replicate, List.length_cons, List.length_nil])) rfl ?_
              refine xi_cmf (pc' := 16) kc_91_13 rfl rfl ?_
              refine xi_aload_n (pc' := 17) (x := 0) kc_91_16 rfl rfl ?_
              refine xi_getfield (pc' := 20) (v := .ref 94) kc_91_17 rfl rfl rfl (F 0 _ hl_0) rfl ?_
              refine xi_iload_n (pc' := 21) (x := 1) kc_91_20 rfl rfl ?_
              refine xi_dup2 (pc' := 22) kc_91_21 rfl ⟨rfl, rfl⟩ ?_
              refine xi_iaload (pc' := 23) (v := 0) kc_91_22 rfl (F 94 _ hl_94) (by decide) rfl (xi_in (n := 7) (by decide) (by decide)) rfl ?_
              refine xi_iconst (pc' := 24) (v := 1) kc_91_23 rfl rfl ?_
              refine xi_iadd (pc' := 25) (v := 1) kc_91_24 rfl rfl ?_
              refine xi_iastore (pc' := 26) (x' := [0, 1, 0, 0, 0, 0, 0]) kc_91_25 rfl (F 94 _ hl_94) rfl (xi_in (n := 7) (by decide) (by decide)) rfl (fun hh1 eh1 => ?_)
              refine xi_iload_n (pc' := 27) (x := (-1)) kc_91_26 rfl rfl ?_
              refine xi_ireturn kc_91_27 mr_91 rfl ?_
              show xw J ov 99 117 (31, [(0, .ref 0), (1, .int a1), (2, .int 0), (3, .int a3), (4, .int a4)], [.int (-1)], hh1) _
              refine xi_ireturn kc_117_31 mr_117 rfl ?_
              show xw J ov 100 196 (679, [(4, .int 0), (3, .ref 167), (2, .ref 115), (1, .ref 0), (0, .ref 1000000)], [.int (-1)], hh1) _
              refine xi_aload_n (pc' := 680) (x := 115) kc_196_679 rfl rfl ?_
              refine xi_aload_n (pc' := 681) (x := 1000000) kc_196_680 rfl rfl ?_
              refine xi_iload (pc' := 683) (x := 0) kc_196_681 rfl rfl ?_
              refine xi_iconst (pc' := 684) (v := 1) kc_196_683 rfl rfl ?_
              refine xi_iadd (pc' := 685) (v := 1) kc_196_684 rfl rfl ?_
              refine xi_ialoadO (pc' := 686) (v := a1) kc_196_685 rfl (by decide) hov0 (xi_in (n := 6) (by decide) (by decide)) rfl ?_
              refine xi_aload_n (pc' := 687) (x := 1000000) kc_196_686 rfl rfl ?_
              refine xi_iload (pc' := 689) (x := 0) kc_196_687 rfl rfl ?_
              refine xi_iconst (pc' := 690) (v := 2) kc_196_689 rfl rfl ?_
              refine xi_iadd (pc' := 691) (v := 2) kc_196_690 rfl rfl ?_
              refine xi_ialoadO (pc' := 692) (v := 0) kc_196_691 rfl (by decide) hov0 (xi_in (n := 6) (by decide) (by decide)) rfl ?_
              refine xi_aload_n (pc' := 693) (x := 1000000) kc_196_692 rfl rfl ?_
              refine xi_iload (pc' := 695) (x := 0) kc_196_693 rfl rfl ?_
              refine xi_iconst (pc' := 696) (v := 3) kc_196_695 rfl rfl ?_
              refine xi_iadd (pc' := 697) (v := 3) kc_196_696 rfl rfl ?_
              refine xi_ialoadO (pc' := 698) (v := a3) kc_196_697 rfl (by decide) hov0 (xi_in (n := 6) (by decide) (by decide)) rfl ?_
              refine xi_aload_n (pc' := 699) (x := 1000000) kc_196_698 rfl rfl ?_
              refine xi_iload (pc' := 701) (x := 0) kc_196_699 rfl rfl ?_
              refine xi_iconst (pc' := 702) (v := 4) kc_196_701 rfl rfl ?_
              refine xi_iadd (pc' := 703) (v := 4) kc_196_702 rfl rfl ?_
              refine xi_ialoadO (pc' := 704) (v := a4) kc_196_703 rfl (by decide) hov0 (xi_in (n := 6) (by decide) (by decide)) rfl ?_
              refine xi_virtual (mj := 33) (as := [.int a1, .int 0, .int a3, .int a4]) (st1 := [.int (-1)]) (lv0 := [(0, .ref 115), (1, .int a1), (2, .int 0), (3, .int a3), (4, .int a4)]) kc_196_704 rfl rfl rfl rfl rfl ((eh1.2.1 115 (by decide)).trans (F 115 _ hl_115)) (Nat.le_of_ble_eq_true rfl) (hJ _ _ _ _ (by decide)) (xm_le ml_33 rfl) rfl ?_
              refine xi_aload_n (pc' := 1) (x := 115) kc_33_0 rfl rfl ?_
              refine xi_iconst (pc' := 2) (v := 0) kc_33_1 rfl rfl ?_
              refine xi_putfield (pc' := 5) (fs' := [.int 0, .int 0, .ref 116, .ref 117, .ref 118, .ref 119, .ref 120, .ref 121, .ref 122, .ref 123, .ref 124, .ref 125, .ref 126, .ref 127, .ref 128, .ref 129, .int 4, .ref 130, .int 0, .ref 131, .ref 132, .ref 133, .ref 134, .int 0, .ref 135, .ref 136, .ref 137, .ref 138, .ref 139, .ref 140, .ref 141, .ref 142, .int 0, .int 0, .int 0, .ref 143, .ref 144, .ref 145, .ref 146, .ref 147, .ref 148, .int 0, .ref 149, .ref 150, .ref 151, .int 0, .ref 152, .ref 153, .ref 154, .ref 155, .ref 156, .ref 157, .ref 158, .ref 159, .int 0, .ref 160, .int 0, .ref 161, .ref 162, .ref 163, .ref 164, .int 0, .ref 165, .ref 166]) kc_33_2 rfl rfl rfl ((eh1.2.1 115 (by decide)).trans (F 115 _ hl_115)) rfl rfl rfl (Nat.le_of_ble_eq_true rfl) rfl (fun hh2 eh2 => ?_)
              refine xi_iload_n (pc' := 6) (x := a1) kc_33_5 rfl rfl ?_
              refine xi_iconst (pc' := 7) (v := 0) kc_33_6 rfl rfl ?_
              refine xi_iconst (pc' := 8) (v := 3) kc_33_7 rfl rfl ?_
              refine xi_static (mj := 12) (as := [.int a1, .int 0, .int 3]) (st1 := []) (lv0 := [(0, .int a1), (1, .int 0), (2, .int 3)]) kc_33_8 rfl rfl (Nat.le_of_ble_eq_true rfl) rfl rfl (Nat.le_of_ble_eq_true rfl) (hJ _ _ _ _ (by decide)) (xm_le ml_12 rfl) rfl ?_
              refine xi_iload_n (pc' := 1) (x := a1) kc_12_0 rfl rfl ?_
              refine xi_iload_n (pc' := 2) (x := 0) kc_12_1 rfl rfl ?_
              refine xi_cmf (pc' := 5) kc_12_2 rfl (xc_lt_f (X := a1.toInt) (Y := 0) rfl (by decide) (by omega)) ?_
              refine xi_iload_n (pc' := 6) (x := a1) kc_12_5 rfl rfl ?_
              refine xi_iload_n (pc' := 7) (x := 3) kc_12_6 rfl rfl ?_
              refine xi_cmf (pc' := 10) kc_12_7 rfl (xc_gt_f (X := a1.toInt) (Y := 3) rfl (by decide) (by omega)) ?_
              refine xi_iconst (pc' := 11) (v := 1) kc_12_10 rfl rfl ?_
              refine xi_goto (pc' := 15) kc_12_11 rfl ?_
              refine xi_ireturn kc_12_15 mr_12 rfl ?_
              show xw J ov 99 33 (11, [(0, .ref 115), (1, .int a1), (2, .int 0), (3, .int a3), (4, .int a4)], [.int 1], hh2) _
              refine xi_ift (pc' := 21) kc_33_11 rfl rfl ?_
              refine xi_iload_n (pc' := 22) (x := a1) kc_33_21 rfl rfl ?_
              refine xi_iconst (pc' := 23) (v := 3) kc_33_22 rfl rfl ?_
              refine xi_cmt (pc' := 36) kc_33_23 rfl (xc_ne_t (X := a1.toInt) (Y := 3) rfl (by decide) (by omega)) ?_
              refine xi_aload_n (pc' := 37) (x := 115) kc_33_36 rfl rfl ?_
              refine xi_iload_n (pc' := 38) (x := 0) kc_33_37 rfl rfl ?_
              refine xi_virtual (mj := 32) (as := [.int 0]) (st1 := []) (lv0 := [(0, .ref 115), (1, .int 0)]) kc_33_38 rfl rfl rfl rfl rfl eh2.1 (Nat.le_of_ble_eq_true rfl) (hJ _ _ _ _ (by decide)) (xm_le ml_32 rfl) rfl ?_
              refine xi_iload_n (pc' := 1) (x := 0) kc_32_0 rfl rfl ?_
              refine xi_static (mj := 25) (as := [.int 0]) (st1 := []) (lv0 := [(0, .int 0)]) kc_32_1 rfl rfl (Nat.le_of_ble_eq_true rfl) rfl rfl (Nat.le_of_ble_eq_true rfl) (hJ _ _ _ _ (by decide)) (xm_le ml_25 rfl) rfl ?_
              refine xi_iload_n (pc' := 1) (x := 0) kc_25_0 rfl rfl ?_
              refine xi_iconst (pc' := 2) (v := 0) kc_25_1 rfl rfl ?_
              refine xi_bipush (pc' := 4) (v := 11) kc_25_2 rfl rfl ?_
              refine xi_static (mj := 12) (as := [.int 0, .int 0, .int 11]) (st1 := []) (lv0 := [(0, .int 0), (1, .int 0), (2, .int 11)]) kc_25_4 rfl rfl (Nat.le_of_ble_eq_true rfl) rfl rfl (Nat.le_of_ble_eq_true rfl) (hJ _ _ _ _ (by decide)) (xm_le ml_12 rfl) rfl ?_
              refine xi_iload_n (pc' := 1) (x := 0) kc_12_0 rfl rfl ?_
              refine xi_iload_n (pc' := 2) (x := 0) kc_12_1 rfl rfl ?_
              refine xi_cmf (pc' := 5) kc_12_2 rfl rfl ?_
              refine xi_iload_n (pc' := 6) (x := 0) kc_12_5 rfl rfl ?_
              refine xi_iload_n (pc' := 7) (x := 11) kc_12_6 rfl rfl ?_
              refine xi_cmf (pc' := 10) kc_12_7 rfl rfl ?_
              refine xi_iconst (pc' := 11) (v := 1) kc_12_10 rfl rfl ?_
              refine xi_goto (pc' := 15) kc_12_11 rfl ?_
              refine xi_ireturn kc_12_15 mr_12 rfl ?_
              show xw J ov 97 25 (7, [(0, .int 0)], [.int 1], hh2) _
              refine xi_ireturn kc_25_7 mr_25 rfl ?_
              show xw J ov 98 32 (4, [(0, .ref 115), (1, .int 0)], [.int 1], hh2) _
              refine xi_iff (pc' := 7) kc_32_4 rfl rfl ?_
              refine xi_aload_n (pc' := 8) (x := 115) kc_32_7 rfl rfl ?_
              refine xi_getfield (pc' := 11) (v := .ref 125) kc_32_8 rfl rfl rfl eh2.1 rfl ?_
              refine xi_iload_n (pc' := 12) (x := 0) kc_32_11 rfl rfl ?_
              refine xi_iaload (pc' := 13) (v := (-9)) kc_32_12 rfl ((eh2.2.1 125 (by decide)).trans ((eh1.2.1 125 (by decide)).trans (F 125 _ hl_125))) (by decide) rfl (xi_in (n := 12) (by decide) (by decide)) rfl ?_
              refine xi_ift (pc' := 20) kc_32_13 rfl rfl ?_
              refine xi_iconst (pc' := 21) (v := 0) kc_32_20 rfl rfl ?_
              refine xi_ireturn kc_32_21 mr_32 rfl ?_
              show xw J ov 99 33 (41, [(0, .ref 115), (1, .int a1), (2, .int 0), (3, .int a3), (4, .int a4)], [.int 0], hh2) _
              refine xi_ift (pc' := 57) kc_33_41 rfl rfl ?_
              refine xi_aload_n (pc' := 58) (x := 115) kc_33_57 rfl rfl ?_
              refine xi_iconst (pc' := 59) (v := (-1)) kc_33_58 rfl rfl ?_
              refine xi_virtual (mj := 13) (as := [.int (-1)]) (st1 := []) (lv0 := [(0, .ref 115), (1, .int (-1))]) kc_33_59 rfl rfl rfl rfl rfl eh2.1 (Nat.le_of_ble_eq_true rfl) (hJ _ _ _ _ (by decide)) (xm_le ml_13 rfl) rfl ?_
              refine xi_aload_n (pc' := 1) (x := 115) kc_13_0 rfl rfl ?_
              refine xi_getfield (pc' := 4) (v := .ref 140) kc_13_1 rfl rfl rfl eh2.1 rfl ?_
              refine xi_iload_n (pc' := 5) (x := (-1)) kc_13_4 rfl rfl ?_
              refine xi_ineg (pc' := 6) (v := 1) kc_13_5 rfl rfl ?_
              refine xi_dup2 (pc' := 7) kc_13_6 rfl ⟨rfl, rfl⟩ ?_
              refine xi_iaload (pc' := 8) (v := 0) kc_13_7 rfl ((eh2.2.1 140 (by decide)).trans ((eh1.2.1 140 (by decide)).trans (F 140 _ hl_140))) (by decide) rfl (xi_in (n := 7) (by decide) (by decide)) rfl ?_
              refine xi_iconst (pc' := 9) (v := 1) kc_13_8 rfl rfl ?_
              refine xi_iadd (pc' := 10) (v := 1) kc_13_9 rfl rfl ?_
              refine xi_iastore (pc' := 11) (x' := [0, 1, 0, 0, 0, 0, 0]) kc_13_10 rfl ((eh2.2.1 140 (by decide)).trans ((eh1.2.1 140 (by decide)).trans (F 140 _ hl_140))) rfl (xi_in (n := 7) (by decide) (by decide)) rfl (fun hh3 eh3 => ?_)
              refine xi_iload_n (pc' := 12) (x := (-1)) kc_13_11 rfl rfl ?_
              refine xi_ireturn kc_13_12 mr_13 rfl ?_
              show xw J ov 99 33 (62, [(0, .ref 115), (1, .int a1), (2, .int 0), (3, .int a3), (4, .int a4)], [.int (-1)], hh3) _
              refine xi_ireturn kc_33_62 mr_33 rfl ?_
              show xw J ov 100 196 (707, [(4, .int 0), (3, .ref 167), (2, .ref 115), (1, .ref 0), (0, .ref 1000000)], [.int (-1), .int (-1)], hh3) _
              refine xi_cmt (pc' := 1528) kc_196_707 rfl rfl ?_
              refine xi_iinc (pc' := 1531) (x := 0) (v := 6) (lv' := [(4, .int 6), (3, .ref 167), (2, .ref 115), (1, .ref 0), (0, .ref 1000000)]) kc_196_1528 rfl rfl rfl rfl (xm_lt ml_196 rfl) ?_
              refine xi_goto (pc' := 23) kc_196_1531 rfl ?_
              refine xi_iload (pc' := 25) (x := 6) kc_196_23 rfl rfl ?_
              refine xi_aload_n (pc' := 26) (x := 1000000) kc_196_25 rfl rfl ?_
              refine xi_arraylength (pc' := 27) (n := 6) (v := 6) kc_196_26 rfl (xl_lenO (by decide) hov0 rfl) rfl ?_
              refine xi_bipush (pc' := 29) (v := 6) kc_196_27 rfl rfl ?_
              refine xi_isub (pc' := 30) (v := 0) kc_196_29 rfl rfl ?_
              refine xi_cmt (pc' := 1534) kc_196_30 rfl rfl ?_
              refine xi_iconst (pc' := 1535) (v := 1) kc_196_1534 rfl rfl ?_
              refine xi_ireturn kc_196_1535 mr_196 rfl ?_
              refine ⟨rfl, ?_, ?_⟩
              · rw [eh3.2.2.1, eh2.2.2.1, eh1.2.2.1]; exact hn0
              · rw [eh3.2.2.2, eh2.2.2.2, eh1.2.2.2]; exact hz0
            by_cases c13 : a2.toInt = 1
            · have qa2 : a2 = 1 := xc_of (Eq.trans (by omega) (show (1 : Int) = (1 : Int32).toInt by decide))
              subst qa2
              refine xi_aaload (pc' := 13) (b := 31) kc_109_12 rfl (F 3 _ hl_3) rfl (xi_in (n := 12) (by decide) (by decide)) rfl ?_
              refine xi_virtual (mj := 106) (as := []) (st1 := []) (lv0 := [(0, .ref 31)]) kc_109_13 rfl rfl rfl rfl rfl (F 31 _ hl_31) (Nat.le_of_ble_eq_true rfl) (hJ _ _ _ _ (by decide)) (xm_le ml_106 rfl) rfl ?_
              refine xi_aload_n (pc' := 1) (x := 31) kc_106_0 rfl rfl ?_
              refine xi_getfield (pc' := 4) (v := .int (-9)) kc_106_1 rfl rfl rfl (F 31 _ hl_31) rfl ?_
              refine xi_static (mj := 90) (as := [.int (-9)]) (st1 := []) (lv0 := [(0, .int (-9))]) kc_106_4 rfl rfl (Nat.le_of_ble_eq_true rfl) rfl rfl (Nat.le_of_ble_eq_true rfl) (hJ _ _ _ _ (by decide)) (xm_le ml_90 rfl) rfl ?_
              refine xi_iload_n (pc' := 1) (x := (-9)) kc_90_0 rfl rfl ?_
              refine xi_ift (pc' := 14) kc_90_1 rfl rfl ?_
              refine xi_iconst (pc' := 15) (v := 0) kc_90_14 rfl rfl ?_
              refine xi_ireturn kc_90_15 mr_90 rfl ?_
              show xw J ov 96 106 (7, [(0, .ref 31)], [.int 0], h0) _
              refine xi_ireturn kc_106_7 mr_106 rfl ?_
              show xw J ov 97 109 (16, [(0, .ref 1), (1, .int 1)], [.int 0], h0) _
              refine xi_ift (pc' := 23) kc_109_16 rfl rfl ?_
              refine xi_iconst (pc' := 24) (v := 0) kc_109_23 rfl rfl ?_
              refine xi_ireturn kc_109_24 mr_109 rfl ?_
              show xw J ov 98 119 (15, [(0, .ref 1), (1, .int a1), (2, .int 1)], [.int 0], h0) _
              refine xi_ift (pc' := 38) kc_119_15 rfl rfl ?_
              refine xi_iconst (pc' := 39) (v := 0) kc_119_38 rfl rfl ?_
              refine xi_ireturn kc_119_39 mr_119 rfl ?_
              show xw J ov 99 117 (23, [(0, .ref 0), (1, .int a1), (2, .int 1), (3, .int a3), (4, .int a4)], [.int 0], h0) _
              refine xi_iff (pc' := 26) kc_117_23 rfl rfl ?_
              refine xi_aload_n (pc' := 27) (x := 0) kc_117_26 rfl rfl ?_
              refine xi_iconst (pc' := 28) (v := (-1)) kc_117_27 rfl rfl ?_
              refine xi_virtual (mj := 91) (as := [.int (-1)]) (st1 := []) (lv0 := [(0, .ref 0), (1, .int (-1))]) kc_117_28 rfl rfl rfl rfl rfl (F 0 _ hl_0) (Nat.le_of_ble_eq_true rfl) (hJ _ _ _ _ (by decide)) (xm_le ml_91 rfl) rfl ?_
              refine xi_iload_n (pc' := 1) (x := (-1)) kc_91_0 rfl rfl ?_
              refine xi_ineg (pc' := 2) (v := 1) kc_91_1 rfl rfl ?_
              refine xi_istore_n (pc' := 3) (lv' := [(2, .int 1), (0, .ref 0), (1, .int (-1))]) kc_91_2 rfl rfl (xm_lt ml_91 rfl) ?_
              refine xi_iload_n (pc' := 4) (x := 1) kc_91_3 rfl rfl ?_
              refine xi_iff (pc' := 7) kc_91_4 rfl rfl ?_
              refine xi_iload_n (pc' := 8) (x := 1) kc_91_7 rfl rfl ?_
              refine xi_aload_n (pc' := 9) (x := 0) kc_91_8 rfl rfl ?_
              refine xi_getfield (pc' := 12) (v := .ref 94) kc_91_9 rfl rfl rfl (F 0 _ hl_0) rfl ?_
              refine xi_arraylength (pc' := 13) (n := 7) (v := 7) kc_91_12 rfl (xl_lenI (by decide) (by decide) (F 94 _ hl_94) (by simp only [List.length_replicate, List.length_cons, List.length_nil])) rfl ?_
              refine xi_cmf (pc' := 16) kc_91_13 rfl rfl ?_
              refine xi_aload_n (pc' := 17) (x := 0) kc_91_16 rfl rfl ?_
              refine xi_getfield (pc' := 20) (v := .ref 94) kc_91_17 rfl rfl rfl (F 0 _ hl_0) rfl ?_
              refine xi_iload_n (pc' := 21) (x := 1) kc_91_20 rfl rfl ?_
              refine xi_dup2 (pc' := 22) kc_91_21 rfl ⟨rfl, rfl⟩ ?_
              refine xi_iaload (pc' := 23) (v := 0) kc_91_22 rfl (F 94 _ hl_94) (by decide) rfl (xi_in (n := 7) (by decide) (by decide)) rfl ?_
              refine xi_iconst (pc' := 24) (v := 1) kc_91_23 rfl rfl ?_
              refine xi_iadd (pc' := 25) (v := 1) kc_91_24 rfl rfl ?_
              refine xi_iastore (pc' := 26) (x' := [0, 1, 0, 0, 0, 0, 0]) kc_91_25 rfl (F 94 _ hl_94) rfl (xi_in (n := 7) (by decide) (by decide)) rfl (fun hh1 eh1 => ?_)
              refine xi_iload_n (pc' := 27) (x := (-1)) kc_91_26 rfl rfl ?_
              refine xi_ireturn kc_91_27 mr_91 rfl ?_
              show xw J ov 99 117 (31, [(0, .ref 0), (1, .int a1), (2, .int 1), (3, .int a3), (4, .int a4)], [.int (-1)], hh1) _
              refine xi_ireturn kc_117_31 mr_117 rfl ?_
              show xw J ov 100 196 (679, [(4, .int 0), (3, .ref 167), (2, .ref 115), (1, .ref 0), (0, .ref 1000000)], [.int (-1)], hh1) _
              refine xi_aload_n (pc' := 680) (x := 115) kc_196_679 rfl rfl ?_
              refine xi_aload_n (pc' := 681) (x := 1000000) kc_196_680 rfl rfl ?_
              refine xi_iload (pc' := 683) (x := 0) kc_196_681 rfl rfl ?_
              refine xi_iconst (pc' := 684) (v := 1) kc_196_683 rfl rfl ?_
              refine xi_iadd (pc' := 685) (v := 1) kc_196_684 rfl rfl ?_
              refine xi_ialoadO (pc' := 686) (v := a1) kc_196_685 rfl (by decide) hov0 (xi_in (n := 6) (by decide) (by decide)) rfl ?_
              refine xi_aload_n (pc' := 687) (x := 1000000) kc_196_686 rfl rfl ?_
              refine xi_iload (pc' := 689) (x := 0) kc_196_687 rfl rfl ?_
              refine xi_iconst (pc' := 690) (v := 2) kc_196_689 rfl rfl ?_
              refine xi_iadd (pc' := 691) (v := 2) kc_196_690 rfl rfl ?_
              refine xi_ialoadO (pc' := 692) (v := 1) kc_196_691 rfl (by decide) hov0 (xi_in (n := 6) (by decide) (by decide)) rfl ?_
              refine xi_aload_n (pc' := 693) (x := 1000000) kc_196_692 rfl rfl ?_
              refine xi_iload (pc' := 695) (x := 0) kc_196_693 rfl rfl ?_
              refine xi_iconst (pc' := 696) (v := 3) kc_196_695 rfl rfl ?_
              refine xi_iadd (pc' := 697) (v := 3) kc_196_696 rfl rfl ?_
              refine xi_ialoadO (pc' := 698) (v := a3) kc_196_697 rfl (by decide) hov0 (xi_in (n := 6) (by decide) (by decide)) rfl ?_
              refine xi_aload_n (pc' := 699) (x := 1000000) kc_196_698 rfl rfl ?_
              refine xi_iload (pc' := 701) (x := 0) kc_196_699 rfl rfl ?_
              refine xi_iconst (pc' := 702) (v := 4) kc_196_701 rfl rfl ?_
              refine xi_iadd (pc' := 703) (v := 4) kc_196_702 rfl rfl ?_
              refine xi_ialoadO (pc' := 704) (v := a4) kc_196_703 rfl (by decide) hov0 (xi_in (n := 6) (by decide) (by decide)) rfl ?_
              refine xi_virtual (mj := 33) (as := [.int a1, .int 1, .int a3, .int a4]) (st1 := [.int (-1)]) (lv0 := [(0, .ref 115), (1, .int a1), (2, .int 1), (3, .int a3), (4, .int a4)]) kc_196_704 rfl rfl rfl rfl rfl ((eh1.2.1 115 (by decide)).trans (F 115 _ hl_115)) (Nat.le_of_ble_eq_true rfl) (hJ _ _ _ _ (by decide)) (xm_le ml_33 rfl) rfl ?_
              refine xi_aload_n (pc' := 1) (x := 115) kc_33_0 rfl rfl ?_
              refine xi_iconst (pc' := 2) (v := 0) kc_33_1 rfl rfl ?_
              refine xi_putfield (pc' := 5) (fs' := [.int 0, .int 0, .ref 116, .ref 117, .ref 118, .ref 119, .ref 120, .ref 121, .ref 122, .ref 123, .ref 124, .ref 125, .ref 126, .ref 127, .ref 128, .ref 129, .int 4, .ref 130, .int 0, .ref 131, .ref 132, .ref 133, .ref 134, .int 0, .ref 135, .ref 136, .ref 137, .ref 138, .ref 139, .ref 140, .ref 141, .ref 142, .int 0, .int 0, .int 0, .ref 143, .ref 144, .ref 145, .ref 146, .ref 147, .ref 148, .int 0, .ref 149, .ref 150, .ref 151, .int 0, .ref 152, .ref 153, .ref 154, .ref 155, .ref 156, .ref 157, .ref 158, .ref 159, .int 0, .ref 160, .int 0, .ref 161, .ref 162, .ref 163, .ref 164, .int 0, .ref 165, .ref 166]) kc_33_2 rfl rfl rfl ((eh1.2.1 115 (by decide)).trans (F 115 _ hl_115)) rfl rfl rfl (Nat.le_of_ble_eq_true rfl) rfl (fun hh2 eh2 => ?_)
              refine xi_iload_n (pc' := 6) (x := a1) kc_33_5 rfl rfl ?_
              refine xi_iconst (pc' := 7) (v := 0) kc_33_6 rfl rfl ?_
              refine xi_iconst (pc' := 8) (v := 3) kc_33_7 rfl rfl ?_
              refine xi_static (mj := 12) (as := [.int a1, .int 0, .int 3]) (st1 := []) (lv0 := [(0, .int a1), (1, .int 0), (2, .int 3)]) kc_33_8 rfl rfl (Nat.le_of_ble_eq_true rfl) rfl rfl (Nat.le_of_ble_eq_true rfl) (hJ _ _ _ _ (by decide)) (xm_le ml_12 rfl) rfl ?_
              refine xi_iload_n (pc' := 1) (x := a1) kc_12_0 rfl rfl ?_
              refine xi_iload_n (pc' := 2) (x := 0) kc_12_1 rfl rfl ?_
              refine xi_cmf (pc' := 5) kc_12_2 rfl (xc_lt_f (X := a1.toInt) (Y := 0) rfl (by decide) (by omega)) ?_
              refine xi_iload_n (pc' := 6) (x := a1) kc_12_5 rfl rfl ?_
              refine xi_iload_n (pc' := 7) (x := 3) kc_12_6 rfl rfl ?_
              refine xi_cmf (pc' := 10) kc_12_7 rfl (xc_gt_f (X := a1.toInt) (Y := 3) rfl (by decide) (by omega)) ?_
              refine xi_iconst (pc' := 11) (v := 1) kc_12_10 rfl rfl ?_
              refine xi_goto (pc' := 15) kc_12_11 rfl ?_
              refine xi_ireturn kc_12_15 mr_12 rfl ?_
              show xw J ov 99 33 (11, [(0, .ref 115), (1, .int a1), (2, .int 1), (3, .int a3), (4, .int a4)], [.int 1], hh2) _
              refine xi_ift (pc' := 21) kc_33_11 rfl rfl ?_
              refine xi_iload_n (pc' := 22) (x := a1) kc_33_21 rfl rfl ?_
              refine xi_iconst (pc' := 23) (v := 3) kc_33_22 rfl rfl ?_
              refine xi_cmt (pc' := 36) kc_33_23 rfl (xc_ne_t (X := a1.toInt) (Y := 3) rfl (by decide) (by omega)) ?_
              refine xi_aload_n (pc' := 37) (x := 115) kc_33_36 rfl rfl ?_
              refine xi_iload_n (pc' := 38) (x := 1) kc_33_37 rfl rfl ?_
              refine xi_virtual (mj := 32) (as := [.int 1]) (st1 := []) (lv0 := [(0, .ref 115), (1, .int 1)]) kc_33_38 rfl rfl rfl rfl rfl eh2.1 (Nat.le_of_ble_eq_true rfl) (hJ _ _ _ _ (by decide)) (xm_le ml_32 rfl) rfl ?_
              refine xi_iload_n (pc' := 1) (x := 1) kc_32_0 rfl rfl ?_
              refine xi_static (mj := 25) (as := [.int 1]) (st1 := []) (lv0 := [(0, .int 1)]) kc_32_1 rfl rfl (Nat.le_of_ble_eq_true rfl) rfl rfl (Nat.le_of_ble_eq_true rfl) (hJ _ _ _ _ (by decide)) (xm_le ml_25 rfl) rfl ?_
              refine xi_iload_n (pc' := 1) (x := 1) kc_25_0 rfl rfl ?_
              refine xi_iconst (pc' := 2) (v := 0) kc_25_1 rfl rfl ?_
              refine xi_bipush (pc' := 4) (v := 11) kc_25_2 rfl rfl ?_
              refine xi_static (mj := 12) (as := [.int 1, .int 0, .int 11]) (st1 := []) (lv0 := [(0, .int 1), (1, .int 0), (2, .int 11)]) kc_25_4 rfl rfl (Nat.le_of_ble_eq_true rfl) rfl rfl (Nat.le_of_ble_eq_true rfl) (hJ _ _ _ _ (by decide)) (xm_le ml_12 rfl) rfl ?_
              refine xi_iload_n (pc' := 1) (x := 1) kc_12_0 rfl rfl ?_
              refine xi_iload_n (pc' := 2) (x := 0) kc_12_1 rfl rfl ?_
              refine xi_cmf (pc' := 5) kc_12_2 rfl rfl ?_
              refine xi_iload_n (pc' := 6) (x := 1) kc_12_5 rfl rfl ?_
              refine xi_iload_n (pc' := 7) (x := 11) kc_12_6 rfl rfl ?_
              refine xi_cmf (pc' := 10) kc_12_7 rfl rfl ?_
              refine xi_iconst (pc' := 11) (v := 1) kc_12_10 rfl rfl ?_
              refine xi_goto (pc' := 15) kc_12_11 rfl ?_
              refine xi_ireturn kc_12_15 mr_12 rfl ?_
              show xw J ov 97 25 (7, [(0, .int 1)], [.int 1], hh2) _
              refine xi_ireturn kc_25_7 mr_25 rfl ?_
              show xw J ov 98 32 (4, [(0, .ref 115), (1, .int 1)], [.int 1], hh2) _
              refine xi_iff (pc' := 7) kc_32_4 rfl rfl ?_
              refine xi_aload_n (pc' := 8) (x := 115) kc_32_7 rfl rfl ?_
              refine xi_getfield (pc' := 11) (v := .ref 125) kc_32_8 rfl rfl rfl eh2.1 rfl ?_
              refine xi_iload_n (pc' := 12) (x := 1) kc_32_11 rfl rfl ?_
              refine xi_iaload (pc' := 13) (v := (-9)) kc_32_12 rfl ((eh2.2.1 125 (by decide)).trans ((eh1.2.1 125 (by decide)).trans (F 125 _ hl_125))) (by decide) rfl (xi_in (n := 12) (by decide) (by decide)) rfl ?_
              refine xi_ift (pc' := 20) kc_32_13 rfl rfl ?_
              refine xi_iconst (pc' := 21) (v := 0) kc_32_20 rfl rfl ?_
              refine xi_ireturn kc_32_21 mr_32 rfl ?_
              show xw J ov 99 33 (41, [(0, .ref 115), (1, .int a1), (2, .int 1), (3, .int a3), (4, .int a4)], [.int 0], hh2) _
              refine xi_ift (pc' := 57) kc_33_41 rfl rfl ?_
              refine xi_aload_n (pc' := 58) (x := 115) kc_33_57 rfl rfl ?_
              refine xi_iconst (pc' := 59) (v := (-1)) kc_33_58 rfl rfl ?_
              refine xi_virtual (mj := 13) (as := [.int (-1)]) (st1 := []) (lv0 := [(0, .ref 115), (1, .int (-1))]) kc_33_59 rfl rfl rfl rfl rfl eh2.1 (Nat.le_of_ble_eq_true rfl) (hJ _ _ _ _ (by decide)) (xm_le ml_13 rfl) rfl ?_
              refine xi_aload_n (pc' := 1) (x := 115) kc_13_0 rfl rfl ?_
              refine xi_getfield (pc' := 4) (v := .ref 140) kc_13_1 rfl rfl rfl eh2.1 rfl ?_
              refine xi_iload_n (pc' := 5) (x := (-1)) kc_13_4 rfl rfl ?_
              refine xi_ineg (pc' := 6) (v := 1) kc_13_5 rfl rfl ?_
              refine xi_dup2 (pc' := 7) kc_13_6 rfl ⟨rfl, rfl⟩ ?_
              refine xi_iaload (pc' := 8) (v := 0) kc_13_7 rfl ((eh2.2.1 140 (by decide)).trans ((eh1.2.1 140 (by decide)).trans (F 140 _ hl_140))) (by decide) rfl (xi_in (n := 7) (by decide) (by decide)) rfl ?_
              refine xi_iconst (pc' := 9) (v := 1) kc_13_8 rfl rfl ?_
              refine xi_iadd (pc' := 10) (v := 1) kc_13_9 rfl rfl ?_
              refine xi_iastore (pc' := 11) (x' := [0, 1, 0, 0, 0, 0, 0]) kc_13_10 rfl ((eh2.2.1 140 (by decide)).trans ((eh1.2.1 140 (by decide)).trans (F 140 _ hl_140))) rfl (xi_in (n := 7) (by decide) (by decide)) rfl (fun hh3 eh3 => ?_)
              refine xi_iload_n (pc' := 12) (x := (-1)) kc_13_11 rfl rfl ?_
              refine xi_ireturn kc_13_12 mr_13 rfl ?_
              show xw J ov 99 33 (62, [(0, .ref 115), (1, .int a1), (2, .int 1), (3, .int a3), (4, .int a4)], [.int (-1)], hh3) _
              refine xi_ireturn kc_33_62 mr_33 rfl ?_
              show xw J ov 100 196 (707, [(4, .int 0), (3, .ref 167), (2, .ref 115), (1, .ref 0), (0, .ref 1000000)], [.int (-1), .int (-1)], hh3) _
              refine xi_cmt (pc' := 1528) kc_196_707 rfl rfl ?_
              refine xi_iinc (pc' := 1531) (x := 0) (v := 6) (lv' := [(4, .int 6), (3, .ref 167), (2, .ref 115), (1, .ref 0), (0, .ref 1000000)]) kc_196_1528 rfl rfl rfl rfl (xm_lt ml_196 rfl) ?_
              refine xi_goto (pc' := 23) kc_196_1531 rfl ?_
              refine xi_iload (pc' := 25) (x := 6) kc_196_23 rfl rfl ?_
              refine xi_aload_n (pc' := 26) (x := 1000000) kc_196_25 rfl rfl ?_
              refine xi_arraylength (pc' := 27) (n := 6) (v := 6) kc_196_26 rfl (xl_lenO (by decide) hov0 rfl) rfl ?_
              refine xi_bipush (pc' := 29) (v := 6) kc_196_27 rfl rfl ?_
              refine xi_isub (pc' := 30) (v := 0) kc_196_29 rfl rfl ?_
              refine xi_cmt (pc' := 1534) kc_196_30 rfl rfl ?_
              refine xi_iconst (pc' := 1535) (v := 1) kc_196_1534 rfl rfl ?_
              refine xi_ireturn kc_196_1535 mr_196 rfl ?_
              refine ⟨rfl, ?_, ?_⟩
              · rw [eh3.2.2.1, eh2.2.2.1, eh1.2.2.1]; exact hn0
              · rw [eh3.2.2.2, eh2.2.2.2, eh1.2.2.2]; exact hz0
            by_cases c14 : a2.toInt = 2
            · have qa2 : a2 = 2 := xc_of (Eq.trans (by omega) (show (2 : Int) = (2 : Int32).toInt by decide))
              subst qa2
              refine xi_aaload (pc' := 13) (b := 33) kc_109_12 rfl (F 3 _ hl_3) rfl (xi_in (n := 12) (by decide) (by decide)) rfl ?_
              refine xi_virtual (mj := 106) (as := []) (st1 := []) (lv0 := [(0, .ref 33)]) kc_109_13 rfl rfl rfl rfl rfl (F 33 _ hl_33) (Nat.le_of_ble_eq_true rfl) (hJ _ _ _ _ (by decide)) (xm_le ml_106 rfl) rfl ?_
              refine xi_aload_n (pc' := 1) (x := 33) kc_106_0 rfl rfl ?_
              refine xi_getfield (pc' := 4) (v := .int (-9)) kc_106_1 rfl rfl rfl (F 33 _ hl_33) rfl ?_
              refine xi_static (mj := 90) (as := [.int (-9)]) (st1 := []) (lv0 := [(0, .int (-9))]) kc_106_4 rfl rfl (Nat.le_of_ble_eq_true rfl) rfl rfl (Nat.le_of_ble_eq_true rfl) (hJ _ _ _ _ (by decide)) (xm_le ml_90 rfl) rfl ?_
              refine xi_iload_n (pc' := 1) (x := (-9)) kc_90_0 rfl rfl ?_
              refine xi_ift (pc' := 14) kc_90_1 rfl rfl ?_
              refine xi_iconst (pc' := 15) (v := 0) kc_90_14 rfl rfl ?_
              refine xi_ireturn kc_90_15 mr_90 rfl ?_
              show xw J ov 96 106 (7, [(0, .ref 33)], [.int 0], h0) _
              refine xi_ireturn kc_106_7 mr_106 rfl ?_
              show xw J ov 97 109 (16, [(0, .ref 1), (1, .int 2)], [.int 0], h0) _
              refine xi_ift (pc' := 23) kc_109_16 rfl rfl ?_
              refine xi_iconst (pc' := 24) (v := 0) kc_109_23 rfl rfl ?_
              refine xi_ireturn kc_109_24 mr_109 rfl ?_
              show xw J ov 98 119 (15, [(0, .ref 1), (1, .int a1), (2, .int 2)], [.int 0], h0) _
              refine xi_ift (pc' := 38) kc_119_15 rfl rfl ?_
              refine xi_iconst (pc' := 39) (v := 0) kc_119_38 rfl rfl ?_
              refine xi_ireturn kc_119_39 mr_119 rfl ?_
              show xw J ov 99 117 (23, [(0, .ref 0), (1, .int a1), (2, .int 2), (3, .int a3), (4, .int a4)], [.int 0], h0) _
              refine xi_iff (pc' := 26) kc_117_23 rfl rfl ?_
              refine xi_aload_n (pc' := 27) (x := 0) kc_117_26 rfl rfl ?_
              refine xi_iconst (pc' := 28) (v := (-1)) kc_117_27 rfl rfl ?_
              refine xi_virtual (mj := 91) (as := [.int (-1)]) (st1 := []) (lv0 := [(0, .ref 0), (1, .int (-1))]) kc_117_28 rfl rfl rfl rfl rfl (F 0 _ hl_0) (Nat.le_of_ble_eq_true rfl) (hJ _ _ _ _ (by decide)) (xm_le ml_91 rfl) rfl ?_
              refine xi_iload_n (pc' := 1) (x := (-1)) kc_91_0 rfl rfl ?_
              refine xi_ineg (pc' := 2) (v := 1) kc_91_1 rfl rfl ?_
              refine xi_istore_n (pc' := 3) (lv' := [(2, .int 1), (0, .ref 0), (1, .int (-1))]) kc_91_2 rfl rfl (xm_lt ml_91 rfl) ?_
              refine xi_iload_n (pc' := 4) (x := 1) kc_91_3 rfl rfl ?_
              refine xi_iff (pc' := 7) kc_91_4 rfl rfl ?_
              refine xi_iload_n (pc' := 8) (x := 1) kc_91_7 rfl rfl ?_
              refine xi_aload_n (pc' := 9) (x := 0) kc_91_8 rfl rfl ?_
              refine xi_getfield (pc' := 12) (v := .ref 94) kc_91_9 rfl rfl rfl (F 0 _ hl_0) rfl ?_
              refine xi_arraylength (pc' := 13) (n := 7) (v := 7) kc_91_12 rfl (xl_lenI (by decide) (by decide) (F 94 _ hl_94) (by simp only [List.length_replicate, List.length_cons, List.length_nil])) rfl ?_
              refine xi_cmf (pc' := 16) kc_91_13 rfl rfl ?_
              refine xi_aload_n (pc' := 17) (x := 0) kc_91_16 rfl rfl ?_
              refine xi_getfield (pc' := 20) (v := .ref 94) kc_91_17 rfl rfl rfl (F 0 _ hl_0) rfl ?_
              refine xi_iload_n (pc' := 21) (x := 1) kc_91_20 rfl rfl ?_
              refine xi_dup2 (pc' := 22) kc_91_21 rfl ⟨rfl, rfl⟩ ?_
              refine xi_iaload (pc' := 23) (v := 0) kc_91_22 rfl (F 94 _ hl_94) (by decide) rfl (xi_in (n := 7) (by decide) (by decide)) rfl ?_
              refine xi_iconst (pc' := 24) (v := 1) kc_91_23 rfl rfl ?_
              refine xi_iadd (pc' := 25) (v := 1) kc_91_24 rfl rfl ?_
              refine xi_iastore (pc' := 26) (x' := [0, 1, 0, 0, 0, 0, 0]) kc_91_25 rfl (F 94 _ hl_94) rfl (xi_in (n := 7) (by decide) (by decide)) rfl (fun hh1 eh1 => ?_)
              refine xi_iload_n (pc' := 27) (x := (-1)) kc_91_26 rfl rfl ?_
              refine xi_ireturn kc_91_27 mr_91 rfl ?_
              show xw J ov 99 117 (31, [(0, .ref 0), (1, .int a1), (2, .int 2), (3, .int a3), (4, .int a4)], [.int (-1)], hh1) _
              refine xi_ireturn kc_117_31 mr_117 rfl ?_
              show xw J ov 100 196 (679, [(4, .int 0), (3, .ref 167), (2, .ref 115), (1, .ref 0), (0, .ref 1000000)], [.int (-1)], hh1) _
              refine xi_aload_n (pc' := 680) (x := 115) kc_196_679 rfl rfl ?_
              refine xi_aload_n (pc' := 681) (x := 1000000) kc_196_680 rfl rfl ?_
              refine xi_iload (pc' := 683) (x := 0) kc_196_681 rfl rfl ?_
              refine xi_iconst (pc' := 684) (v := 1) kc_196_683 rfl rfl ?_
              refine xi_iadd (pc' := 685) (v := 1) kc_196_684 rfl rfl ?_
              refine xi_ialoadO (pc' := 686) (v := a1) kc_196_685 rfl (by decide) hov0 (xi_in (n := 6) (by decide) (by decide)) rfl ?_
              refine xi_aload_n (pc' := 687) (x := 1000000) kc_196_686 rfl rfl ?_
              refine xi_iload (pc' := 689) (x := 0) kc_196_687 rfl rfl ?_
              refine xi_iconst (pc' := 690) (v := 2) kc_196_689 rfl rfl ?_
              refine xi_iadd (pc' := 691) (v := 2) kc_196_690 rfl rfl ?_
              refine xi_ialoadO (pc' := 692) (v := 2) kc_196_691 rfl (by decide) hov0 (xi_in (n := 6) (by decide) (by decide)) rfl ?_
              refine xi_aload_n (pc' := 693) (x := 1000000) kc_196_692 rfl rfl ?_
              refine xi_iload (pc' := 695) (x := 0) kc_196_693 rfl rfl ?_
              refine xi_iconst (pc' := 696) (v := 3) kc_196_695 rfl rfl ?_
              refine xi_iadd (pc' := 697) (v := 3) kc_196_696 rfl rfl ?_
              refine xi_ialoadO (pc' := 698) (v := a3) kc_196_697 rfl (by decide) hov0 (xi_in (n := 6) (by decide) (by decide)) rfl ?_
              refine xi_aload_n (pc' := 699) (x := 1000000) kc_196_698 rfl rfl ?_
              refine xi_iload (pc' := 701) (x := 0) kc_196_699 rfl rfl ?_
              refine xi_iconst (pc' := 702) (v := 4) kc_196_701 rfl rfl ?_
              refine xi_iadd (pc' := 703) (v := 4) kc_196_702 rfl rfl ?_
              refine xi_ialoadO (pc' := 704) (v := a4) kc_196_703 rfl (by decide) hov0 (xi_in (n := 6) (by decide) (by decide)) rfl ?_
              refine xi_virtual (mj := 33) (as := [.int a1, .int 2, .int a3, .int a4]) (st1 := [.int (-1)]) (lv0 := [(0, .ref 115), (1, .int a1), (2, .int 2), (3, .int a3), (4, .int a4)]) kc_196_704 rfl rfl rfl rfl rfl ((eh1.2.1 115 (by decide)).trans (F 115 _ hl_115)) (Nat.le_of_ble_eq_true rfl) (hJ _ _ _ _ (by decide)) (xm_le ml_33 rfl) rfl ?_
              refine xi_aload_n (pc' := 1) (x := 115) kc_33_0 rfl rfl ?_
              refine xi_iconst (pc' := 2) (v := 0) kc_33_1 rfl rfl ?_
              refine xi_putfield (pc' := 5) (fs' := [.int 0, .int 0, .ref 116, .ref 117, .ref 118, .ref 119, .ref 120, .ref 121, .ref 122, .ref 123, .ref 124, .ref 125, .ref 126, .ref 127, .ref 128, .ref 129, .int 4, .ref 130, .int 0, .ref 131, .ref 132, .ref 133, .ref 134, .int 0, .ref 135, .ref 136, .ref 137, .ref 138, .ref 139, .ref 140, .ref 141, .ref 142, .int 0, .int 0, .int 0, .ref 143, .ref 144, .ref 145, .ref 146, .ref 147, .ref 148, .int 0, .ref 149, .ref 150, .ref 151, .int 0, .ref 152, .ref 153, .ref 154, .ref 155, .ref 156, .ref 157, .ref 158, .ref 159, .int 0, .ref 160, .int 0, .ref 161, .ref 162, .ref 163, .ref 164, .int 0, .ref 165, .ref 166]) kc_33_2 rfl rfl rfl ((eh1.2.1 115 (by decide)).trans (F 115 _ hl_115)) rfl rfl rfl (Nat.le_of_ble_eq_true rfl) rfl (fun hh2 eh2 => ?_)
              refine xi_iload_n (pc' := 6) (x := a1) kc_33_5 rfl rfl ?_
              refine xi_iconst (pc' := 7) (v := 0) kc_33_6 rfl rfl ?_
              refine xi_iconst (pc' := 8) (v := 3) kc_33_7 rfl rfl ?_
              refine xi_static (mj := 12) (as := [.int a1, .int 0, .int 3]) (st1 := []) (lv0 := [(0, .int a1), (1, .int 0), (2, .int 3)]) kc_33_8 rfl rfl (Nat.le_of_ble_eq_true rfl) rfl rfl (Nat.le_of_ble_eq_true rfl) (hJ _ _ _ _ (by decide)) (xm_le ml_12 rfl) rfl ?_
              refine xi_iload_n (pc' := 1) (x := a1) kc_12_0 rfl rfl ?_
              refine xi_iload_n (pc' := 2) (x := 0) kc_12_1 rfl rfl ?_
              refine xi_cmf (pc' := 5) kc_12_2 rfl (xc_lt_f (X := a1.toInt) (Y := 0) rfl (by decide) (by omega)) ?_
              refine xi_iload_n (pc' := 6) (x := a1) kc_12_5 rfl rfl ?_
              refine xi_iload_n (pc' := 7) (x := 3) kc_12_6 rfl rfl ?_
              refine xi_cmf (pc' := 10) kc_12_7 rfl (xc_gt_f (X := a1.toInt) (Y := 3) rfl (by decide) (by omega)) ?_
              refine xi_iconst (pc' := 11) (v := 1) kc_12_10 rfl rfl ?_
              refine xi_goto (pc' := 15) kc_12_11 rfl ?_
              refine xi_ireturn kc_12_15 mr_12 rfl ?_
              show xw J ov 99 33 (11, [(0, .ref 115), (1, .int a1), (2, .int 2), (3, .int a3), (4, .int a4)], [.int 1], hh2) _
              refine xi_ift (pc' := 21) kc_33_11 rfl rfl ?_
              refine xi_iload_n (pc' := 22) (x := a1) kc_33_21 rfl rfl ?_
              refine xi_iconst (pc' := 23) (v := 3) kc_33_22 rfl rfl ?_
              refine xi_cmt (pc' := 36) kc_33_23 rfl (xc_ne_t (X := a1.toInt) (Y := 3) rfl (by decide) (by omega)) ?_
              refine xi_aload_n (pc' := 37) (x := 115) kc_33_36 rfl rfl ?_
              refine xi_iload_n (pc' := 38) (x := 2) kc_33_37 rfl rfl ?_
              refine xi_virtual (mj := 32) (as := [.int 2]) (st1 := []) (lv0 := [(0, .ref 115), (1, .int 2)]) kc_33_38 rfl rfl rfl rfl rfl eh2.1 (Nat.le_of_ble_eq_true rfl) (hJ _ _ _ _ (by decide)) (xm_le ml_32 rfl) rfl ?_
              refine xi_iload_n (pc' := 1) (x := 2) kc_32_0 rfl rfl ?_
              refine xi_static (mj := 25) (as := [.int 2]) (st1 := []) (lv0 := [(0, .int 2)]) kc_32_1 rfl rfl (Nat.le_of_ble_eq_true rfl) rfl rfl (Nat.le_of_ble_eq_true rfl) (hJ _ _ _ _ (by decide)) (xm_le ml_25 rfl) rfl ?_
              refine xi_iload_n (pc' := 1) (x := 2) kc_25_0 rfl rfl ?_
              refine xi_iconst (pc' := 2) (v := 0) kc_25_1 rfl rfl ?_
              refine xi_bipush (pc' := 4) (v := 11) kc_25_2 rfl rfl ?_
              refine xi_static (mj := 12) (as := [.int 2, .int 0, .int 11]) (st1 := []) (lv0 := [(0, .int 2), (1, .int 0), (2, .int 11)]) kc_25_4 rfl rfl (Nat.le_of_ble_eq_true rfl) rfl rfl (Nat.le_of_ble_eq_true rfl) (hJ _ _ _ _ (by decide)) (xm_le ml_12 rfl) rfl ?_
              refine xi_iload_n (pc' := 1) (x := 2) kc_12_0 rfl rfl ?_
              refine xi_iload_n (pc' := 2) (x := 0) kc_12_1 rfl rfl ?_
              refine xi_cmf (pc' := 5) kc_12_2 rfl rfl ?_
              refine xi_iload_n (pc' := 6) (x := 2) kc_12_5 rfl rfl ?_
              refine xi_iload_n (pc' := 7) (x := 11) kc_12_6 rfl rfl ?_
              refine xi_cmf (pc' := 10) kc_12_7 rfl rfl ?_
              refine xi_iconst (pc' := 11) (v := 1) kc_12_10 rfl rfl ?_
              refine xi_goto (pc' := 15) kc_12_11 rfl ?_
              refine xi_ireturn kc_12_15 mr_12 rfl ?_
              show xw J ov 97 25 (7, [(0, .int 2)], [.int 1], hh2) _
              refine xi_ireturn kc_25_7 mr_25 rfl ?_
              show xw J ov 98 32 (4, [(0, .ref 115), (1, .int 2)], [.int 1], hh2) _
              refine xi_iff (pc' := 7) kc_32_4 rfl rfl ?_
              refine xi_aload_n (pc' := 8) (x := 115) kc_32_7 rfl rfl ?_
              refine xi_getfield (pc' := 11) (v := .ref 125) kc_32_8 rfl rfl rfl eh2.1 rfl ?_
              refine xi_iload_n (pc' := 12) (x := 2) kc_32_11 rfl rfl ?_
              refine xi_iaload (pc' := 13) (v := (-9)) kc_32_12 rfl ((eh2.2.1 125 (by decide)).trans ((eh1.2.1 125 (by decide)).trans (F 125 _ hl_125))) (by decide) rfl (xi_in (n := 12) (by decide) (by decide)) rfl ?_
              refine xi_ift (pc' := 20) kc_32_13 rfl rfl ?_
              refine xi_iconst (pc' := 21) (v := 0) kc_32_20 rfl rfl ?_
              refine xi_ireturn kc_32_21 mr_32 rfl ?_
              show xw J ov 99 33 (41, [(0, .ref 115), (1, .int a1), (2, .int 2), (3, .int a3), (4, .int a4)], [.int 0], hh2) _
              refine xi_ift (pc' := 57) kc_33_41 rfl rfl ?_
              refine xi_aload_n (pc' := 58) (x := 115) kc_33_57 rfl rfl ?_
              refine xi_iconst (pc' := 59) (v := (-1)) kc_33_58 rfl rfl ?_
              refine xi_virtual (mj := 13) (as := [.int (-1)]) (st1 := []) (lv0 := [(0, .ref 115), (1, .int (-1))]) kc_33_59 rfl rfl rfl rfl rfl eh2.1 (Nat.le_of_ble_eq_true rfl) (hJ _ _ _ _ (by decide)) (xm_le ml_13 rfl) rfl ?_
              refine xi_aload_n (pc' := 1) (x := 115) kc_13_0 rfl rfl ?_
              refine xi_getfield (pc' := 4) (v := .ref 140) kc_13_1 rfl rfl rfl eh2.1 rfl ?_
              refine xi_iload_n (pc' := 5) (x := (-1)) kc_13_4 rfl rfl ?_
              refine xi_ineg (pc' := 6) (v := 1) kc_13_5 rfl rfl ?_
              refine xi_dup2 (pc' := 7) kc_13_6 rfl ⟨rfl, rfl⟩ ?_
              refine xi_iaload (pc' := 8) (v := 0) kc_13_7 rfl ((eh2.2.1 140 (by decide)).trans ((eh1.2.1 140 (by decide)).trans (F 140 _ hl_140))) (by decide) rfl (xi_in (n := 7) (by decide) (by decide)) rfl ?_
              refine xi_iconst (pc' := 9) (v := 1) kc_13_8 rfl rfl ?_
              refine xi_iadd (pc' := 10) (v := 1) kc_13_9 rfl rfl ?_
              refine xi_iastore (pc' := 11) (x' := [0, 1, 0, 0, 0, 0, 0]) kc_13_10 rfl ((eh2.2.1 140 (by decide)).trans ((eh1.2.1 140 (by decide)).trans (F 140 _ hl_140))) rfl (xi_in (n := 7) (by decide) (by decide)) rfl (fun hh3 eh3 => ?_)
              refine xi_iload_n (pc' := 12) (x := (-1)) kc_13_11 rfl rfl ?_
              refine xi_ireturn kc_13_12 mr_13 rfl ?_
              show xw J ov 99 33 (62, [(0, .ref 115), (1, .int a1), (2, .int 2), (3, .int a3), (4, .int a4)], [.int (-1)], hh3) _
              refine xi_ireturn kc_33_62 mr_33 rfl ?_
              show xw J ov 100 196 (707, [(4, .int 0), (3, .ref 167), (2, .ref 115), (1, .ref 0), (0, .ref 1000000)], [.int (-1), .int (-1)], hh3) _
              refine xi_cmt (pc' := 1528) kc_196_707 rfl rfl ?_
              refine xi_iinc (pc' := 1531) (x := 0) (v := 6) (lv' := [(4, .int 6), (3, .ref 167), (2, .ref 115), (1, .ref 0), (0, .ref 1000000)]) kc_196_1528 rfl rfl rfl rfl (xm_lt ml_196 rfl) ?_
              refine xi_goto (pc' := 23) kc_196_1531 rfl ?_
              refine xi_iload (pc' := 25) (x := 6) kc_196_23 rfl rfl ?_
              refine xi_aload_n (pc' := 26) (x := 1000000) kc_196_25 rfl rfl ?_
              refine xi_arraylength (pc' := 27) (n := 6) (v := 6) kc_196_26 rfl (xl_lenO (by decide) hov0 rfl) rfl ?_
              refine xi_bipush (pc' := 29) (v := 6) kc_196_27 rfl rfl ?_
              refine xi_isub (pc' := 30) (v := 0) kc_196_29 rfl rfl ?_
              refine xi_cmt (pc' := 1534) kc_196_30 rfl rfl ?_
              refine xi_iconst (pc' := 1535) (v := 1) kc_196_1534 rfl rfl ?_
              refine xi_ireturn kc_196_1535 mr_196 rfl ?_
              refine ⟨rfl, ?_, ?_⟩
              · rw [eh3.2.2.1, eh2.2.2.1, eh1.2.2.1]; exact hn0
              · rw [eh3.2.2.2, eh2.2.2.2, eh1.2.2.2]; exact hz0
            by_cases c15 : a2.toInt = 3
            · have qa2 : a2 = 3 := xc_of (Eq.trans (by omega) (show (3 : Int) = (3 : Int32).toInt by decide))
              subst qa2
              refine xi_aaload (pc' := 13) (b := 35) kc_109_12 rfl (F 3 _ hl_3) rfl (xi_in (n := 12) (by decide) (by decide)) rfl ?_
              refine xi_virtual (mj := 106) (as := []) (st1 := []) (lv0 := [(0, .ref 35)]) kc_109_13 rfl rfl rfl rfl rfl (F 35 _ hl_35) (Nat.le_of_ble_eq_true rfl) (hJ _ _ _ _ (by decide)) (xm_le ml_106 rfl) rfl ?_
              refine xi_aload_n (pc' := 1) (x := 35) kc_106_0 rfl rfl ?_
              refine xi_getfield (pc' := 4) (v := .int (-9)) kc_106_1 rfl rfl rfl (F 35 _ hl_35) rfl ?_
              refine xi_static (mj := 90) (as := [.int (-9)]) (st1 := []) (lv0 := [(0, .int (-9))]) kc_106_4 rfl rfl (Nat.le_of_ble_eq_true rfl) rfl rfl (Nat.le_of_ble_eq_true rfl) (hJ _ _ _ _ (by decide)) (xm_le ml_90 rfl) rfl ?_
              refine xi_iload_n (pc' := 1) (x := (-9)) kc_90_0 rfl rfl ?_
              refine xi_ift (pc' := 14) kc_90_1 rfl rfl ?_
              refine xi_iconst (pc' := 15) (v := 0) kc_90_14 rfl rfl ?_
              refine xi_ireturn kc_90_15 mr_90 rfl ?_
              show xw J ov 96 106 (7, [(0, .ref 35)], [.int 0], h0) _
              refine xi_ireturn kc_106_7 mr_106 rfl ?_
              show xw J ov 97 109 (16, [(0, .ref 1), (1, .int 3)], [.int 0], h0) _
              refine xi_ift (pc' := 23) kc_109_16 rfl rfl ?_
              refine xi_iconst (pc' := 24) (v := 0) kc_109_23 rfl rfl ?_
              refine xi_ireturn kc_109_24 mr_109 rfl ?_
              show xw J ov 98 119 (15, [(0, .ref 1), (1, .int a1), (2, .int 3)], [.int 0], h0) _
              refine xi_ift (pc' := 38) kc_119_15 rfl rfl ?_
              refine xi_iconst (pc' := 39) (v := 0) kc_119_38 rfl rfl ?_
              refine xi_ireturn kc_119_39 mr_119 rfl ?_
              show xw J ov 99 117 (23, [(0, .ref 0), (1, .int a1), (2, .int 3), (3, .int a3), (4, .int a4)], [.int 0], h0) _
              refine xi_iff (pc' := 26) kc_117_23 rfl rfl ?_
              refine xi_aload_n (pc' := 27) (x := 0) kc_117_26 rfl rfl ?_
              refine xi_iconst (pc' := 28) (v := (-1)) kc_117_27 rfl rfl ?_
              refine xi_virtual (mj := 91) (as := [.int (-1)]) (st1 := []) (lv0 := [(0, .ref 0), (1, .int (-1))]) kc_117_28 rfl rfl rfl rfl rfl (F 0 _ hl_0) (Nat.le_of_ble_eq_true rfl) (hJ _ _ _ _ (by decide)) (xm_le ml_91 rfl) rfl ?_
              refine xi_iload_n (pc' := 1) (x := (-1)) kc_91_0 rfl rfl ?_
              refine xi_ineg (pc' := 2) (v := 1) kc_91_1 rfl rfl ?_
              refine xi_istore_n (pc' := 3) (lv' := [(2, .int 1), (0, .ref 0), (1, .int (-1))]) kc_91_2 rfl rfl (xm_lt ml_91 rfl) ?_
              refine xi_iload_n (pc' := 4) (x := 1) kc_91_3 rfl rfl ?_
              refine xi_iff (pc' := 7) kc_91_4 rfl rfl ?_
              refine xi_iload_n (pc' := 8) (x := 1) kc_91_7 rfl rfl ?_
              refine xi_aload_n (pc' := 9) (x := 0) kc_91_8 rfl rfl ?_
              refine xi_getfield (pc' := 12) (v := .ref 94) kc_91_9 rfl rfl rfl (F 0 _ hl_0) rfl ?_
              refine xi_arraylength (pc' := 13) (n := 7) (v := 7) kc_91_12 rfl (xl_lenI (by decide) (by decide) (F 94 _ hl_94) (by simp only [List.length_replicate, List.length_cons, List.length_nil])) rfl ?_
              refine xi_cmf (pc' := 16) kc_91_13 rfl rfl ?_
              refine xi_aload_n (pc' := 17) (x := 0) kc_91_16 rfl rfl ?_
              refine xi_getfield (pc' := 20) (v := .ref 94) kc_91_17 rfl rfl rfl (F 0 _ hl_0) rfl ?_
              refine xi_iload_n (pc' := 21) (x := 1) kc_91_20 rfl rfl ?_
              refine xi_dup2 (pc' := 22) kc_91_21 rfl ⟨rfl, rfl⟩ ?_
              refine xi_iaload (pc' := 23) (v := 0) kc_91_22 rfl (F 94 _ hl_94) (by decide) rfl (xi_in (n := 7) (by decide) (by decide)) rfl ?_
              refine xi_iconst (pc' := 24) (v := 1) kc_91_23 rfl rfl ?_
              refine xi_iadd (pc' := 25) (v := 1) kc_91_24 rfl rfl ?_
              refine xi_iastore (pc' := 26) (x' := [0, 1, 0, 0, 0, 0, 0]) kc_91_25 rfl (F 94 _ hl_94) rfl (xi_in (n := 7) (by decide) (by decide)) rfl (fun hh1 eh1 => ?_)
              refine xi_iload_n (pc' := 27) (x := (-1)) kc_91_26 rfl rfl ?_
              refine xi_ireturn kc_91_27 mr_91 rfl ?_
              show xw J ov 99 117 (31, [(0, .ref 0), (1, .int a1), (2, .int 3), (3, .int a3), (4, .int a4)], [.int (-1)], hh1) _
              refine xi_ireturn kc_117_31 mr_117 rfl ?_
              show xw J ov 100 196 (679, [(4, .int 0), (3, .ref 167), (2, .ref 115), (1, .ref 0), (0, .ref 1000000)], [.int (-1)], hh1) _
              refine xi_aload_n (pc' := 680) (x := 115) kc_196_679 rfl rfl ?_
              refine xi_aload_n (pc' := 681) (x := 1000000) kc_196_680 rfl rfl ?_
              refine xi_iload (pc' := 683) (x := 0) kc_196_681 rfl rfl ?_
              refine xi_iconst (pc' := 684) (v := 1) kc_196_683 rfl rfl ?_
              refine xi_iadd (pc' := 685) (v := 1) kc_196_684 rfl rfl ?_
              refine xi_ialoadO (pc' := 686) (v := a1) kc_196_685 rfl (by decide) hov0 (xi_in (n := 6) (by decide) (by decide)) rfl ?_
              refine xi_aload_n (pc' := 687) (x := 1000000) kc_196_686 rfl rfl ?_
              refine xi_iload (pc' := 689) (x := 0) kc_196_687 rfl rfl ?_
              refine xi_iconst (pc' := 690) (v := 2) kc_196_689 rfl rfl ?_
              refine xi_iadd (pc' := 691) (v := 2) kc_196_690 rfl rfl ?_
              refine xi_ialoadO (pc' := 692) (v := 3) kc_196_691 rfl (by decide) hov0 (xi_in (n := 6) (by decide) (by decide)) rfl ?_
              refine xi_aload_n (pc' := 693) (x := 1000000) kc_196_692 rfl rfl ?_
              refine xi_iload (pc' := 695) (x := 0) kc_196_693 rfl rfl ?_
              refine xi_iconst (pc' := 696) (v := 3) kc_196_695 rfl rfl ?_
              refine xi_iadd (pc' := 697) (v := 3) kc_196_696 rfl rfl ?_
              refine xi_ialoadO (pc' := 698) (v := a3) kc_196_697 rfl (by decide) hov0 (xi_in (n := 6) (by decide) (by decide)) rfl ?_
              refine xi_aload_n (pc' := 699) (x := 1000000) kc_196_698 rfl rfl ?_
              refine xi_iload (pc' := 701) (x := 0) kc_196_699 rfl rfl ?_
              refine xi_iconst (pc' := 702) (v := 4) kc_196_701 rfl rfl ?_
              refine xi_iadd (pc' := 703) (v := 4) kc_196_702 rfl rfl ?_
              refine xi_ialoadO (pc' := 704) (v := a4) kc_196_703 rfl (by decide) hov0 (xi_in (n := 6) (by decide) (by decide)) rfl ?_
              refine xi_virtual (mj := 33) (as := [.int a1, .int 3, .int a3, .int a4]) (st1 := [.int (-1)]) (lv0 := [(0, .ref 115), (1, .int a1), (2, .int 3), (3, .int a3), (4, .int a4)]) kc_196_704 rfl rfl rfl rfl rfl ((eh1.2.1 115 (by decide)).trans (F 115 _ hl_115)) (Nat.le_of_ble_eq_true rfl) (hJ _ _ _ _ (by decide)) (xm_le ml_33 rfl) rfl ?_
              refine xi_aload_n (pc' := 1) (x := 115) kc_33_0 rfl rfl ?_
              refine xi_iconst (pc' := 2) (v := 0) kc_33_1 rfl rfl ?_
              refine xi_putfield (pc' := 5) (fs' := [.int 0, .int 0, .ref 116, .ref 117, .ref 118, .ref 119, .ref 120, .ref 121, .ref 122, .ref 123, .ref 124, .ref 125, .ref 126, .ref 127, .ref 128, .ref 129, .int 4, .ref 130, .int 0, .ref 131, .ref 132, .ref 133, .ref 134, .int 0, .ref 135, .ref 136, .ref 137, .ref 138, .ref 139, .ref 140, .ref 141, .ref 142, .int 0, .int 0, .int 0, .ref 143, .ref 144, .ref 145, .ref 146, .ref 147, .ref 148, .int 0, .ref 149, .ref 150, .ref 151, .int 0, .ref 152, .ref 153, .ref 154, .ref 155, .ref 156, .ref 157, .ref 158, .ref 159, .int 0, .ref 160, .int 0, .ref 161, .ref 162, .ref 163, .ref 164, .int 0, .ref 165, .ref 166]) kc_33_2 rfl rfl rfl ((eh1.2.1 115 (by decide)).trans (F 115 _ hl_115)) rfl rfl rfl (Nat.le_of_ble_eq_true rfl) rfl (fun hh2 eh2 => ?_)
              refine xi_iload_n (pc' := 6) (x := a1) kc_33_5 rfl rfl ?_
              refine xi_iconst (pc' := 7) (v := 0) kc_33_6 rfl rfl ?_
              refine xi_iconst (pc' := 8) (v := 3) kc_33_7 rfl rfl ?_
              refine xi_static (mj := 12) (as := [.int a1, .int 0, .int 3]) (st1 := []) (lv0 := [(0, .int a1), (1, .int 0), (2, .int 3)]) kc_33_8 rfl rfl (Nat.le_of_ble_eq_true rfl) rfl rfl (Nat.le_of_ble_eq_true rfl) (hJ _ _ _ _ (by decide)) (xm_le ml_12 rfl) rfl ?_
              refine xi_iload_n (pc' := 1) (x := a1) kc_12_0 rfl rfl ?_
              refine xi_iload_n (pc' := 2) (x := 0) kc_12_1 rfl rfl ?_
              refine xi_cmf (pc' := 5) kc_12_2 rfl (xc_lt_f (X := a1.toInt) (Y := 0) rfl (by decide) (by omega)) ?_
              refine xi_iload_n (pc' := 6) (x := a1) kc_12_5 rfl rfl ?_
              refine xi_iload_n (pc' := 7) (x := 3) kc_12_6 rfl rfl ?_
              refine xi_cmf (pc' := 10) kc_12_7 rfl (xc_gt_f (X := a1.toInt) (Y := 3) rfl (by decide) (by omega)) ?_
              refine xi_iconst (pc' := 11) (v := 1) kc_12_10 rfl rfl ?_
              refine xi_goto (pc' := 15) kc_12_11 rfl ?_
              refine xi_ireturn kc_12_15 mr_12 rfl ?_
              show xw J ov 99 33 (11, [(0, .ref 115), (1, .int a1), (2, .int 3), (3, .int a3), (4, .int a4)], [.int 1], hh2) _
              refine xi_ift (pc' := 21) kc_33_11 rfl rfl ?_
              refine xi_iload_n (pc' := 22) (x := a1) kc_33_21 rfl rfl ?_
              refine xi_iconst (pc' := 23) (v := 3) kc_33_22 rfl rfl ?_
              refine xi_cmt (pc' := 36) kc_33_23 rfl (xc_ne_t (X := a1.toInt) (Y := 3) rfl (by decide) (by omega)) ?_
              refine xi_aload_n (pc' := 37) (x := 115) kc_33_36 rfl rfl ?_
              refine xi_iload_n (pc' := 38) (x := 3) kc_33_37 rfl rfl ?_
              refine xi_virtual (mj := 32) (as := [.int 3]) (st1 := []) (lv0 := [(0, .ref 115), (1, .int 3)]) kc_33_38 rfl rfl rfl rfl rfl eh2.1 (Nat.le_of_ble_eq_true rfl) (hJ _ _ _ _ (by decide)) (xm_le ml_32 rfl) rfl ?_
              refine xi_iload_n (pc' := 1) (x := 3) kc_32_0 rfl rfl ?_
              refine xi_static (mj := 25) (as := [.int 3]) (st1 := []) (lv0 := [(0, .int 3)]) kc_32_1 rfl rfl (Nat.le_of_ble_eq_true rfl) rfl rfl (Nat.le_of_ble_eq_true rfl) (hJ _ _ _ _ (by decide)) (xm_le ml_25 rfl) rfl ?_
              refine xi_iload_n (pc' := 1) (x := 3) kc_25_0 rfl rfl ?_
              refine xi_iconst (pc' := 2) (v := 0) kc_25_1 rfl rfl ?_
              refine xi_bipush (pc' := 4) (v := 11) kc_25_2 rfl rfl ?_
              refine xi_static (mj := 12) (as := [.int 3, .int 0, .int 11]) (st1 := []) (lv0 := [(0, .int 3), (1, .int 0), (2, .int 11)]) kc_25_4 rfl rfl (Nat.le_of_ble_eq_true rfl) rfl rfl (Nat.le_of_ble_eq_true rfl) (hJ _ _ _ _ (by decide)) (xm_le ml_12 rfl) rfl ?_
              refine xi_iload_n (pc' := 1) (x := 3) kc_12_0 rfl rfl ?_
              refine xi_iload_n (pc' := 2) (x := 0) kc_12_1 rfl rfl ?_
              refine xi_cmf (pc' := 5) kc_12_2 rfl rfl ?_
              refine xi_iload_n (pc' := 6) (x := 3) kc_12_5 rfl rfl ?_
              refine xi_iload_n (pc' := 7) (x := 11) kc_12_6 rfl rfl ?_
              refine xi_cmf (pc' := 10) kc_12_7 rfl rfl ?_
              refine xi_iconst (pc' := 11) (v := 1) kc_12_10 rfl rfl ?_
              refine xi_goto (pc' := 15) kc_12_11 rfl ?_
              refine xi_ireturn kc_12_15 mr_12 rfl ?_
              show xw J ov 97 25 (7, [(0, .int 3)], [.int 1], hh2) _
              refine xi_ireturn kc_25_7 mr_25 rfl ?_
              show xw J ov 98 32 (4, [(0, .ref 115), (1, .int 3)], [.int 1], hh2) _
              refine xi_iff (pc' := 7) kc_32_4 rfl rfl ?_
              refine xi_aload_n (pc' := 8) (x := 115) kc_32_7 rfl rfl ?_
              refine xi_getfield (pc' := 11) (v := .ref 125) kc_32_8 rfl rfl rfl eh2.1 rfl ?_
              refine xi_iload_n (pc' := 12) (x := 3) kc_32_11 rfl rfl ?_
              refine xi_iaload (pc' := 13) (v := (-9)) kc_32_12 rfl ((eh2.2.1 125 (by decide)).trans ((eh1.2.1 125 (by decide)).trans (F 125 _ hl_125))) (by decide) rfl (xi_in (n := 12) (by decide) (by decide)) rfl ?_
              refine xi_ift (pc' := 20) kc_32_13 rfl rfl ?_
              refine xi_iconst (pc' := 21) (v := 0) kc_32_20 rfl rfl ?_
              refine xi_ireturn kc_32_21 mr_32 rfl ?_
              show xw J ov 99 33 (41, [(0, .ref 115), (1, .int a1), (2, .int 3), (3, .int a3), (4, .int a4)], [.int 0], hh2) _
              refine xi_ift (pc' := 57) kc_33_41 rfl rfl ?_
              refine xi_aload_n (pc' := 58) (x := 115) kc_33_57 rfl rfl ?_
              refine xi_iconst (pc' := 59) (v := (-1)) kc_33_58 rfl rfl ?_
              refine xi_virtual (mj := 13) (as := [.int (-1)]) (st1 := []) (lv0 := [(0, .ref 115), (1, .int (-1))]) kc_33_59 rfl rfl rfl rfl rfl eh2.1 (Nat.le_of_ble_eq_true rfl) (hJ _ _ _ _ (by decide)) (xm_le ml_13 rfl) rfl ?_
              refine xi_aload_n (pc' := 1) (x := 115) kc_13_0 rfl rfl ?_
              refine xi_getfield (pc' := 4) (v := .ref 140) kc_13_1 rfl rfl rfl eh2.1 rfl ?_
              refine xi_iload_n (pc' := 5) (x := (-1)) kc_13_4 rfl rfl ?_
              refine xi_ineg (pc' := 6) (v := 1) kc_13_5 rfl rfl ?_
              refine xi_dup2 (pc' := 7) kc_13_6 rfl ⟨rfl, rfl⟩ ?_
              refine xi_iaload (pc' := 8) (v := 0) kc_13_7 rfl ((eh2.2.1 140 (by decide)).trans ((eh1.2.1 140 (by decide)).trans (F 140 _ hl_140))) (by decide) rfl (xi_in (n := 7) (by decide) (by decide)) rfl ?_
              refine xi_iconst (pc' := 9) (v := 1) kc_13_8 rfl rfl ?_
              refine xi_iadd (pc' := 10) (v := 1) kc_13_9 rfl rfl ?_
              refine xi_iastore (pc' := 11) (x' := [0, 1, 0, 0, 0, 0, 0]) kc_13_10 rfl ((eh2.2.1 140 (by decide)).trans ((eh1.2.1 140 (by decide)).trans (F 140 _ hl_140))) rfl (xi_in (n := 7) (by decide) (by decide)) rfl (fun hh3 eh3 => ?_)
              refine xi_iload_n (pc' := 12) (x := (-1)) kc_13_11 rfl rfl ?_
              refine xi_ireturn kc_13_12 mr_13 rfl ?_
              show xw J ov 99 33 (62, [(0, .ref 115), (1, .int a1), (2, .int 3), (3, .int a3), (4, .int a4)], [.int (-1)], hh3) _
              refine xi_ireturn kc_33_62 mr_33 rfl ?_
              show xw J ov 100 196 (707, [(4, .int 0), (3, .ref 167), (2, .ref 115), (1, .ref 0), (0, .ref 1000000)], [.int (-1), .int (-1)], hh3) _
              refine xi_cmt (pc' := 1528) kc_196_707 rfl rfl ?_
              refine xi_iinc (pc' := 1531) (x := 0) (v := 6) (lv' := [(4, .int 6), (3, .ref 167), (2, .ref 115), (1, .ref 0), (0, .ref 1000000)]) kc_196_1528 rfl rfl rfl rfl (xm_lt ml_196 rfl) ?_
              refine xi_goto (pc' := 23) kc_196_1531 rfl ?_
              refine xi_iload (pc' := 25) (x := 6) kc_196_23 rfl rfl ?_
              refine xi_aload_n (pc' := 26) (x := 1000000) kc_196_25 rfl rfl ?_
              refine xi_arraylength (pc' := 27) (n := 6) (v := 6) kc_196_26 rfl (xl_lenO (by decide) hov0 rfl) rfl ?_
              refine xi_bipush (pc' := 29) (v := 6) kc_196_27 rfl rfl ?_
              refine xi_isub (pc' := 30) (v := 0) kc_196_29 rfl rfl ?_
              refine xi_cmt (pc' := 1534) kc_196_30 rfl rfl ?_
              refine xi_iconst (pc' := 1535) (v := 1) kc_196_1534 rfl rfl ?_
              refine xi_ireturn kc_196_1535 mr_196 rfl ?_
              refine ⟨rfl, ?_, ?_⟩
              · rw [eh3.2.2.1, eh2.2.2.1, eh1.2.2.1]; exact hn0
              · rw [eh3.2.2.2, eh2.2.2.2, eh1.2.2.2]; exact hz0
            by_cases c16 : a2.toInt = 4
            · have qa2 : a2 = 4 := xc_of (Eq.trans (by omega) (show (4 : Int) = (4 : Int32).toInt by decide))
              subst qa2
              refine xi_aaload (pc' := 13) (b := 37) kc_109_12 rfl (F 3 _ hl_3) rfl (xi_in (n := 12) (by decide) (by decide)) rfl ?_
              refine xi_virtual (mj := 106) (as := []) (st1 := []) (lv0 := [(0, .ref 37)]) kc_109_13 rfl rfl rfl rfl rfl (F 37 _ hl_37) (Nat.le_of_ble_eq_true rfl) (hJ _ _ _ _ (by decide)) (xm_le ml_106 rfl) rfl ?_
              refine xi_aload_n (pc' := 1) (x := 37) kc_106_0 rfl rfl ?_
              refine xi_getfield (pc' := 4) (v := .int (-9)) kc_106_1 rfl rfl rfl (F 37 _ hl_37) rfl ?_
              refine xi_static (mj := 90) (as := [.int (-9)]) (st1 := []) (lv0 := [(0, .int (-9))]) kc_106_4 rfl rfl (Nat.le_of_ble_eq_true rfl) rfl rfl (Nat.le_of_ble_eq_true rfl) (hJ _ _ _ _ (by decide)) (xm_le ml_90 rfl) rfl ?_
              refine xi_iload_n (pc' := 1) (x := (-9)) kc_90_0 rfl rfl ?_
              refine xi_ift (pc' := 14) kc_90_1 rfl rfl ?_
              refine xi_iconst (pc' := 15) (v := 0) kc_90_14 rfl rfl ?_
              refine xi_ireturn kc_90_15 mr_90 rfl ?_
              show xw J ov 96 106 (7, [(0, .ref 37)], [.int 0], h0) _
              refine xi_ireturn kc_106_7 mr_106 rfl ?_
              show xw J ov 97 109 (16, [(0, .ref 1), (1, .int 4)], [.int 0], h0) _
              refine xi_ift (pc' := 23) kc_109_16 rfl rfl ?_
              refine xi_iconst (pc' := 24) (v := 0) kc_109_23 rfl rfl ?_
              refine xi_ireturn kc_109_24 mr_109 rfl ?_
              show xw J ov 98 119 (15, [(0, .ref 1), (1, .int a1), (2, .int 4)], [.int 0], h0) _
              refine xi_ift (pc' := 38) kc_119_15 rfl rfl ?_
              refine xi_iconst (pc' := 39) (v := 0) kc_119_38 rfl rfl ?_
              refine xi_ireturn kc_119_39 mr_119 rfl ?_
              show xw J ov 99 117 (23, [(0, .ref 0), (1, .int a1), (2, .int 4), (3, .int a3), (4, .int a4)], [.int 0], h0) _
              refine xi_iff (pc' := 26) kc_117_23 rfl rfl ?_
              refine xi_aload_n (pc' := 27) (x := 0) kc_117_26 rfl rfl ?_
              refine xi_iconst (pc' := 28) (v := (-1)) kc_117_27 rfl rfl ?_
              refine xi_virtual (mj := 91) (as := [.int (-1)]) (st1 := []) (lv0 := [(0, .ref 0), (1, .int (-1))]) kc_117_28 rfl rfl rfl rfl rfl (F 0 _ hl_0) (Nat.le_of_ble_eq_true rfl) (hJ _ _ _ _ (by decide)) (xm_le ml_91 rfl) rfl ?_
              refine xi_iload_n (pc' := 1) (x := (-1)) kc_91_0 rfl rfl ?_
              refine xi_ineg (pc' := 2) (v := 1) kc_91_1 rfl rfl ?_
              refine xi_istore_n (pc' := 3) (lv' := [(2, .int 1), (0, .ref 0), (1, .int (-1))]) kc_91_2 rfl rfl (xm_lt ml_91 rfl) ?_
              refine xi_iload_n (pc' := 4) (x := 1) kc_91_3 rfl rfl ?_
              refine xi_iff (pc' := 7) kc_91_4 rfl rfl ?_
              refine xi_iload_n (pc' := 8) (x := 1) kc_91_7 rfl rfl ?_
              refine xi_aload_n (pc' := 9) (x := 0) kc_91_8 rfl rfl ?_
              refine xi_getfield (pc' := 12) (v := .ref 94) kc_91_9 rfl rfl rfl (F 0 _ hl_0) rfl ?_
              refine xi_arraylength (pc' := 13) (n := 7) (v := 7) kc_91_12 rfl (xl_lenI (by decide) (by decide) (F 94 _ hl_94) (by simp only [List.length_replicate, List.length_cons, List.length_nil])) rfl ?_
              refine xi_cmf (pc' := 16) kc_91_13 rfl rfl ?_
              refine xi_aload_n (pc' := 17) (x := 0) kc_91_16 rfl rfl ?_
              refine xi_getfield (pc' := 20) (v := .ref 94) kc_91_17 rfl rfl rfl (F 0 _ hl_0) rfl ?_
              refine xi_iload_n (pc' := 21) (x := 1) kc_91_20 rfl rfl ?_
              refine xi_dup2 (pc' := 22) kc_91_21 rfl ⟨rfl, rfl⟩ ?_
              refine xi_iaload (pc' := 23) (v := 0) kc_91_22 rfl (F 94 _ hl_94) (by decide) rfl (xi_in (n := 7) (by decide) (by decide)) rfl ?_
              refine xi_iconst (pc' := 24) (v := 1) kc_91_23 rfl rfl ?_
              refine xi_iadd (pc' := 25) (v := 1) kc_91_24 rfl rfl ?_
              refine xi_iastore (pc' := 26) (x' := [0, 1, 0, 0, 0, 0, 0]) kc_91_25 rfl (F 94 _ hl_94) rfl (xi_in (n := 7) (by decide) (by decide)) rfl (fun hh1 eh1 => ?_)
              refine xi_iload_n (pc' := 27) (x := (-1)) kc_91_26 rfl rfl ?_
              refine xi_ireturn kc_91_27 mr_91 rfl ?_
              show xw J ov 99 117 (31, [(0, .ref 0), (1, .int a1), (2, .int 4), (3, .int a3), (4, .int a4)], [.int (-1)], hh1) _
              refine xi_ireturn kc_117_31 mr_117 rfl ?_
              show xw J ov 100 196 (679, [(4, .int 0), (3, .ref 167), (2, .ref 115), (1, .ref 0), (0, .ref 1000000)], [.int (-1)], hh1) _
              refine xi_aload_n (pc' := 680) (x := 115) kc_196_679 rfl rfl ?_
              refine xi_aload_n (pc' := 681) (x := 1000000) kc_196_680 rfl rfl ?_
              refine xi_iload (pc' := 683) (x := 0) kc_196_681 rfl rfl ?_
              refine xi_iconst (pc' := 684) (v := 1) kc_196_683 rfl rfl ?_
              refine xi_iadd (pc' := 685) (v := 1) kc_196_684 rfl rfl ?_
              refine xi_ialoadO (pc' := 686) (v := a1) kc_196_685 rfl (by decide) hov0 (xi_in (n := 6) (by decide) (by decide)) rfl ?_
              refine xi_aload_n (pc' := 687) (x := 1000000) kc_196_686 rfl rfl ?_
              refine xi_iload (pc' := 689) (x := 0) kc_196_687 rfl rfl ?_
              refine xi_iconst (pc' := 690) (v := 2) kc_196_689 rfl rfl ?_
              refine xi_iadd (pc' := 691) (v := 2) kc_196_690 rfl rfl ?_
              refine xi_ialoadO (pc' := 692) (v := 4) kc_196_691 rfl (by decide) hov0 (xi_in (n := 6) (by decide) (by decide)) rfl ?_
              refine xi_aload_n (pc' := 693) (x := 1000000) kc_196_692 rfl rfl ?_
              refine xi_iload (pc' := 695) (x := 0) kc_196_693 rfl rfl ?_
              refine xi_iconst (pc' := 696) (v := 3) kc_196_695 rfl rfl ?_
              refine xi_iadd (pc' := 697) (v := 3) kc_196_696 rfl rfl ?_
              refine xi_ialoadO (pc' := 698) (v := a3) kc_196_697 rfl (by decide) hov0 (xi_in (n := 6) (by decide) (by decide)) rfl ?_
              refine xi_aload_n (pc' := 699) (x := 1000000) kc_196_698 rfl rfl ?_
              refine xi_iload (pc' := 701) (x := 0) kc_196_699 rfl rfl ?_
              refine xi_iconst (pc' := 702) (v := 4) kc_196_701 rfl rfl ?_
              refine xi_iadd (pc' := 703) (v := 4) kc_196_702 rfl rfl ?_
              refine xi_ialoadO (pc' := 704) (v := a4) kc_196_703 rfl (by decide) hov0 (xi_in (n := 6) (by decide) (by decide)) rfl ?_
              refine xi_virtual (mj := 33) (as := [.int a1, .int 4, .int a3, .int a4]) (st1 := [.int (-1)]) (lv0 := [(0, .ref 115), (1, .int a1), (2, .int 4), (3, .int a3), (4, .int a4)]) kc_196_704 rfl rfl rfl rfl rfl ((eh1.2.1 115 (by decide)).trans (F 115 _ hl_115)) (Nat.le_of_ble_eq_true rfl) (hJ _ _ _ _ (by decide)) (xm_le ml_33 rfl) rfl ?_
              refine xi_aload_n (pc' := 1) (x := 115) kc_33_0 rfl rfl ?_
              refine xi_iconst (pc' := 2) (v := 0) kc_33_1 rfl rfl ?_
              refine xi_putfield (pc' := 5) (fs' := [.int 0, .int 0, .ref 116, .ref 117, .ref 118, .ref 119, .ref 120, .ref 121, .ref 122, .ref 123, .ref 124, .ref 125, .ref 126, .ref 127, .ref 128, .ref 129, .int 4, .ref 130, .int 0, .ref 131, .ref 132, .ref 133, .ref 134, .int 0, .ref 135, .ref 136, .ref 137, .ref 138, .ref 139, .ref 140, .ref 141, .ref 142, .int 0, .int 0, .int 0, .ref 143, .ref 144, .ref 145, .ref 146, .ref 147, .ref 148, .int 0, .ref 149, .ref 150, .ref 151, .int 0, .ref 152, .ref 153, .ref 154, .ref 155, .ref 156, .ref 157, .ref 158, .ref 159, .int 0, .ref 160, .int 0, .ref 161, .ref 162, .ref 163, .ref 164, .int 0, .ref 165, .ref 166]) kc_33_2 rfl rfl rfl ((eh1.2.1 115 (by decide)).trans (F 115 _ hl_115)) rfl rfl rfl (Nat.le_of_ble_eq_true rfl) rfl (fun hh2 eh2 => ?_)
              refine xi_iload_n (pc' := 6) (x := a1) kc_33_5 rfl rfl ?_
              refine xi_iconst (pc' := 7) (v := 0) kc_33_6 rfl rfl ?_
              refine xi_iconst (pc' := 8) (v := 3) kc_33_7 rfl rfl ?_
              refine xi_static (mj := 12) (as := [.int a1, .int 0, .int 3]) (st1 := []) (lv0 := [(0, .int a1), (1, .int 0), (2, .int 3)]) kc_33_8 rfl rfl (Nat.le_of_ble_eq_true rfl) rfl rfl (Nat.le_of_ble_eq_true rfl) (hJ _ _ _ _ (by decide)) (xm_le ml_12 rfl) rfl ?_
              refine xi_iload_n (pc' := 1) (x := a1) kc_12_0 rfl rfl ?_
              refine xi_iload_n (pc' := 2) (x := 0) kc_12_1 rfl rfl ?_
              refine xi_cmf (pc' := 5) kc_12_2 rfl (xc_lt_f (X := a1.toInt) (Y := 0) rfl (by decide) (by omega)) ?_
              refine xi_iload_n (pc' := 6) (x := a1) kc_12_5 rfl rfl ?_
              refine xi_iload_n (pc' := 7) (x := 3) kc_12_6 rfl rfl ?_
              refine xi_cmf (pc' := 10) kc_12_7 rfl (xc_gt_f (X := a1.toInt) (Y := 3) rfl (by decide) (by omega)) ?_
              refine xi_iconst (pc' := 11) (v := 1) kc_12_10 rfl rfl ?_
              refine xi_goto (pc' := 15) kc_12_11 rfl ?_
              refine xi_ireturn kc_12_15 mr_12 rfl ?_
              show xw J ov 99 33 (11, [(0, .ref 115), (1, .int a1), (2, .int 4), (3, .int a3), (4, .int a4)], [.int 1], hh2) _
              refine xi_ift (pc' := 21) kc_33_11 rfl rfl ?_
              refine xi_iload_n (pc' := 22) (x := a1) kc_33_21 rfl rfl ?_
              refine xi_iconst (pc' := 23) (v := 3) kc_33_22 rfl rfl ?_
              refine xi_cmt (pc' := 36) kc_33_23 rfl (xc_ne_t (X := a1.toInt) (Y := 3) rfl (by decide) (by omega)) ?_
              refine xi_aload_n (pc' := 37) (x := 115) kc_33_36 rfl rfl ?_
              refine xi_iload_n (pc' := 38) (x := 4) kc_33_37 rfl rfl ?_
              refine xi_virtual (mj := 32) (as := [.int 4]) (st1 := []) (lv0 := [(0, .ref 115), (1, .int 4)]) kc_33_38 rfl rfl rfl rfl rfl eh2.1 (Nat.le_of_ble_eq_true rfl) (hJ _ _ _ _ (by decide)) (xm_le ml_32 rfl) rfl ?_
              refine xi_iload_n (pc' := 1) (x := 4) kc_32_0 rfl rfl ?_
              refine xi_static (mj := 25) (as := [.int 4]) (st1 := []) (lv0 := [(0, .int 4)]) kc_32_1 rfl rfl (Nat.le_of_ble_eq_true rfl) rfl rfl (Nat.le_of_ble_eq_true rfl) (hJ _ _ _ _ (by decide)) (xm_le ml_25 rfl) rfl ?_
              refine xi_iload_n (pc' := 1) (x := 4) kc_25_0 rfl rfl ?_
              refine xi_iconst (pc' := 2) (v := 0) kc_25_1 rfl rfl ?_
              refine xi_bipush (pc' := 4) (v := 11) kc_25_2 rfl rfl ?_
              refine xi_static (mj := 12) (as := [.int 4, .int 0, .int 11]) (st1 := []) (lv0 := [(0, .int 4), (1, .int 0), (2, .int 11)]) kc_25_4 rfl rfl (Nat.le_of_ble_eq_true rfl) rfl rfl (Nat.le_of_ble_eq_true rfl) (hJ _ _ _ _ (by decide)) (xm_le ml_12 rfl) rfl ?_
              refine xi_iload_n (pc' := 1) (x := 4) kc_12_0 rfl rfl ?_
              refine xi_iload_n (pc' := 2) (x := 0) kc_12_1 rfl rfl ?_
              refine xi_cmf (pc' := 5) kc_12_2 rfl rfl ?_
              refine xi_iload_n (pc' := 6) (x := 4) kc_12_5 rfl rfl ?_
              refine xi_iload_n (pc' := 7) (x := 11) kc_12_6 rfl rfl ?_
              refine xi_cmf (pc' := 10) kc_12_7 rfl rfl ?_
              refine xi_iconst (pc' := 11) (v := 1) kc_12_10 rfl rfl ?_
              refine xi_goto (pc' := 15) kc_12_11 rfl ?_
              refine xi_ireturn kc_12_15 mr_12 rfl ?_
              show xw J ov 97 25 (7, [(0, .int 4)], [.int 1], hh2) _
              refine xi_ireturn kc_25_7 mr_25 rfl ?_
              show xw J ov 98 32 (4, [(0, .ref 115), (1, .int 4)], [.int 1], hh2) _
              refine xi_iff (pc' := 7) kc_32_4 rfl rfl ?_
              refine xi_aload_n (pc' := 8) (x := 115) kc_32_7 rfl rfl ?_
              refine xi_getfield (pc' := 11) (v := .ref 125) kc_32_8 rfl rfl rfl eh2.1 rfl ?_
              refine xi_iload_n (pc' := 12) (x := 4) kc_32_11 rfl rfl ?_
              refine xi_iaload (pc' := 13) (v := (-9)) kc_32_12 rfl ((eh2.2.1 125 (by decide)).trans ((eh1.2.1 125 (by decide)).trans (F 125 _ hl_125))) (by decide) rfl (xi_in (n := 12) (by decide) (by decide)) rfl ?_
              refine xi_ift (pc' := 20) kc_32_13 rfl rfl ?_
              refine xi_iconst (pc' := 21) (v := 0) kc_32_20 rfl rfl ?_
              refine xi_ireturn kc_32_21 mr_32 rfl ?_
              show xw J ov 99 33 (41, [(0, .ref 115), (1, .int a1), (2, .int 4), (3, .int a3), (4, .int a4)], [.int 0], hh2) _
              refine xi_ift (pc' := 57) kc_33_41 rfl rfl ?_
              refine xi_aload_n (pc' := 58) (x := 115) kc_33_57 rfl rfl ?_
              refine xi_iconst (pc' := 59) (v := (-1)) kc_33_58 rfl rfl ?_
              refine xi_virtual (mj := 13) (as := [.int (-1)]) (st1 := []) (lv0 := [(0, .ref 115), (1, .int (-1))]) kc_33_59 rfl rfl rfl rfl rfl eh2.1 (Nat.le_of_ble_eq_true rfl) (hJ _ _ _ _ (by decide)) (xm_le ml_13 rfl) rfl ?_
              refine xi_aload_n (pc' := 1) (x := 115) kc_13_0 rfl rfl ?_
              refine xi_getfield (pc' := 4) (v := .ref 140) kc_13_1 rfl rfl rfl eh2.1 rfl ?_
              refine xi_iload_n (pc' := 5) (x := (-1)) kc_13_4 rfl rfl ?_
              refine xi_ineg (pc' := 6) (v := 1) kc_13_5 rfl rfl ?_
              refine xi_dup2 (pc' := 7) kc_13_6 rfl ⟨rfl, rfl⟩ ?_
              refine xi_iaload (pc' := 8) (v := 0) kc_13_7 rfl ((eh2.2.1 140 (by decide)).trans ((eh1.2.1 140 (by decide)).trans (F 140 _ hl_140))) (by decide) rfl (xi_in (n := 7) (by decide) (by decide)) rfl ?_
              refine xi_iconst (pc' := 9) (v := 1) kc_13_8 rfl rfl ?_
              refine xi_iadd (pc' := 10) (v := 1) kc_13_9 rfl rfl ?_
              refine xi_iastore (pc' := 11) (x' := [0, 1, 0, 0, 0, 0, 0]) kc_13_10 rfl ((eh2.2.1 140 (by decide)).trans ((eh1.2.1 140 (by decide)).trans (F 140 _ hl_140))) rfl (xi_in (n := 7) (by decide) (by decide)) rfl (fun hh3 eh3 => ?_)
              refine xi_iload_n (pc' := 12) (x := (-1)) kc_13_11 rfl rfl ?_
              refine xi_ireturn kc_13_12 mr_13 rfl ?_
              show xw J ov 99 33 (62, [(0, .ref 115), (1, .int a1), (2, .int 4), (3, .int a3), (4, .int a4)], [.int (-1)], hh3) _
              refine xi_ireturn kc_33_62 mr_33 rfl ?_
              show xw J ov 100 196 (707, [(4, .int 0), (3, .ref 167), (2, .ref 115), (1, .ref 0), (0, .ref 1000000)], [.int (-1), .int (-1)], hh3) _
              refine xi_cmt (pc' := 1528) kc_196_707 rfl rfl ?_
              refine xi_iinc (pc' := 1531) (x := 0) (v := 6) (lv' := [(4, .int 6), (3, .ref 167), (2, .ref 115), (1, .ref 0), (0, .ref 1000000)]) kc_196_1528 rfl rfl rfl rfl (xm_lt ml_196 rfl) ?_
              refine xi_goto (pc' := 23) kc_196_1531 rfl ?_
              refine xi_iload (pc' := 25) (x := 6) kc_196_23 rfl rfl ?_
              refine xi_aload_n (pc' := 26) (x := 1000000) kc_196_25 rfl rfl ?_
              refine xi_arraylength (pc' := 27) (n := 6) (v := 6) kc_196_26 rfl (xl_lenO (by decide) hov0 rfl) rfl ?_
              refine xi_bipush (pc' := 29) (v := 6) kc_196_27 rfl rfl ?_
              refine xi_isub (pc' := 30) (v := 0) kc_196_29 rfl rfl ?_
              refine xi_cmt (pc' := 1534) kc_196_30 rfl rfl ?_
              refine xi_iconst (pc' := 1535) (v := 1) kc_196_1534 rfl rfl ?_
              refine xi_ireturn kc_196_1535 mr_196 rfl ?_
              refine ⟨rfl, ?_, ?_⟩
              · rw [eh3.2.2.1, eh2.2.2.1, eh1.2.2.1]; exact hn0
              · rw [eh3.2.2.2, eh2.2.2.2, eh1.2.2.2]; exact hz0
            by_cases c17 : a2.toInt = 5
            · have qa2 : a2 = 5 := xc_of (Eq.trans (by omega) (show (5 : Int) = (5 : Int32).toInt by decide))
              subst qa2
              refine xi_aaload (pc' := 13) (b := 39) kc_109_12 rfl (F 3 _ hl_3) rfl (xi_in (n := 12) (by decide) (by decide)) rfl ?_
              refine xi_virtual (mj := 106) (as := []) (st1 := []) (lv0 := [(0, .ref 39)]) kc_109_13 rfl rfl rfl rfl rfl (F 39 _ hl_39) (Nat.le_of_ble_eq_true rfl) (hJ _ _ _ _ (by decide)) (xm_le ml_106 rfl) rfl ?_
              refine xi_aload_n (pc' := 1) (x := 39) kc_106_0 rfl rfl ?_
              refine xi_getfield (pc' := 4) (v := .int (-9)) kc_106_1 rfl rfl rfl (F 39 _ hl_39) rfl ?_
              refine xi_static (mj := 90) (as := [.int (-9)]) (st1 := []) (lv0 := [(0, .int (-9))]) kc_106_4 rfl rfl (Nat.le_of_ble_eq_true rfl) rfl rfl (Nat.le_of_ble_eq_true rfl) (hJ _ _ _ _ (by decide)) (xm_le ml_90 rfl) rfl ?_
              refine xi_iload_n (pc' := 1) (x := (-9)) kc_90_0 rfl rfl ?_
              refine xi_ift (pc' := 14) kc_90_1 rfl rfl ?_
              refine xi_iconst (pc' := 15) (v := 0) kc_90_14 rfl rfl ?_
              refine xi_ireturn kc_90_15 mr_90 rfl ?_
              show xw J ov 96 106 (7, [(0, .ref 39)], [.int 0], h0) _
              refine xi_ireturn kc_106_7 mr_106 rfl ?_
              show xw J ov 97 109 (16, [(0, .ref 1), (1, .int 5)], [.int 0], h0) _
              refine xi_ift (pc' := 23) kc_109_16 rfl rfl ?_
              refine xi_iconst (pc' := 24) (v := 0) kc_109_23 rfl rfl ?_
              refine xi_ireturn kc_109_24 mr_109 rfl ?_
              show xw J ov 98 119 (15, [(0, .ref 1), (1, .int a1), (2, .int 5)], [.int 0], h0) _
              refine xi_ift (pc' := 38) kc_119_15 rfl rfl ?_
              refine xi_iconst (pc' := 39) (v := 0) kc_119_38 rfl rfl ?_
              refine xi_ireturn kc_119_39 mr_119 rfl ?_
              show xw J ov 99 117 (23, [(0, .ref 0), (1, .int a1), (2, .int 5), (3, .int a3), (4, .int a4)], [.int 0], h0) _
              refine xi_iff (pc' := 26) kc_117_23 rfl rfl ?_
              refine xi_aload_n (pc' := 27) (x := 0) kc_117_26 rfl rfl ?_
              refine xi_iconst (pc' := 28) (v := (-1)) kc_117_27 rfl rfl ?_
              refine xi_virtual (mj := 91) (as := [.int (-1)]) (st1 := []) (lv0 := [(0, .ref 0), (1, .int (-1))]) kc_117_28 rfl rfl rfl rfl rfl (F 0 _ hl_0) (Nat.le_of_ble_eq_true rfl) (hJ _ _ _ _ (by decide)) (xm_le ml_91 rfl) rfl ?_
              refine xi_iload_n (pc' := 1) (x := (-1)) kc_91_0 rfl rfl ?_
              refine xi_ineg (pc' := 2) (v := 1) kc_91_1 rfl rfl ?_
              refine xi_istore_n (pc' := 3) (lv' := [(2, .int 1), (0, .ref 0), (1, .int (-1))]) kc_91_2 rfl rfl (xm_lt ml_91 rfl) ?_
              refine xi_iload_n (pc' := 4) (x := 1) kc_91_3 rfl rfl ?_
              refine xi_iff (pc' := 7) kc_91_4 rfl rfl ?_
              refine xi_iload_n (pc' := 8) (x := 1) kc_91_7 rfl rfl ?_
              refine xi_aload_n (pc' := 9) (x := 0) kc_91_8 rfl rfl ?_
              refine xi_getfield (pc' := 12) (v := .ref 94) kc_91_9 rfl rfl rfl (F 0 _ hl_0) rfl ?_
              refine xi_arraylength (pc' := 13) (n := 7) (v := 7) kc_91_12 rfl (xl_lenI (by decide) (by decide) (F 94 _ hl_94) (by simp only [List.length_replicate, List.length_cons, List.length_nil])) rfl ?_
              refine xi_cmf (pc' := 16) kc_91_13 rfl rfl ?_
              refine xi_aload_n (pc' := 17) (x := 0) kc_91_16 rfl rfl ?_
              refine xi_getfield (pc' := 20) (v := .ref 94) kc_91_17 rfl rfl rfl (F 0 _ hl_0) rfl ?_
              refine xi_iload_n (pc' := 21) (x := 1) kc_91_20 rfl rfl ?_
              refine xi_dup2 (pc' := 22) kc_91_21 rfl ⟨rfl, rfl⟩ ?_
              refine xi_iaload (pc' := 23) (v := 0) kc_91_22 rfl (F 94 _ hl_94) (by decide) rfl (xi_in (n := 7) (by decide) (by decide)) rfl ?_
              refine xi_iconst (pc' := 24) (v := 1) kc_91_23 rfl rfl ?_
              refine xi_iadd (pc' := 25) (v := 1) kc_91_24 rfl rfl ?_
              refine xi_iastore (pc' := 26) (x' := [0, 1, 0, 0, 0, 0, 0]) kc_91_25 rfl (F 94 _ hl_94) rfl (xi_in (n := 7) (by decide) (by decide)) rfl (fun hh1 eh1 => ?_)
              refine xi_iload_n (pc' := 27) (x := (-1)) kc_91_26 rfl rfl ?_
              refine xi_ireturn kc_91_27 mr_91 rfl ?_
              show xw J ov 99 117 (31, [(0, .ref 0), (1, .int a1), (2, .int 5), (3, .int a3), (4, .int a4)], [.int (-1)], hh1) _
              refine xi_ireturn kc_117_31 mr_117 rfl ?_
              show xw J ov 100 196 (679, [(4, .int 0), (3, .ref 167), (2, .ref 115), (1, .ref 0), (0, .ref 1000000)], [.int (-1)], hh1) _
              refine xi_aload_n (pc' := 680) (x := 115) kc_196_679 rfl rfl ?_
              refine xi_aload_n (pc' := 681) (x := 1000000) kc_196_680 rfl rfl ?_
              refine xi_iload (pc' := 683) (x := 0) kc_196_681 rfl rfl ?_
              refine xi_iconst (pc' := 684) (v := 1) kc_196_683 rfl rfl ?_
              refine xi_iadd (pc' := 685) (v := 1) kc_196_684 rfl rfl ?_
              refine xi_ialoadO (pc' := 686) (v := a1) kc_196_685 rfl (by decide) hov0 (xi_in (n := 6) (by decide) (by decide)) rfl ?_
              refine xi_aload_n (pc' := 687) (x := 1000000) kc_196_686 rfl rfl ?_
              refine xi_iload (pc' := 689) (x := 0) kc_196_687 rfl rfl ?_
              refine xi_iconst (pc' := 690) (v := 2) kc_196_689 rfl rfl ?_
              refine xi_iadd (pc' := 691) (v := 2) kc_196_690 rfl rfl ?_
              refine xi_ialoadO (pc' := 692) (v := 5) kc_196_691 rfl (by decide) hov0 (xi_in (n := 6) (by decide) (by decide)) rfl ?_
              refine xi_aload_n (pc' := 693) (x := 1000000) kc_196_692 rfl rfl ?_
              refine xi_iload (pc' := 695) (x := 0) kc_196_693 rfl rfl ?_
              refine xi_iconst (pc' := 696) (v := 3) kc_196_695 rfl rfl ?_
              refine xi_iadd (pc' := 697) (v := 3) kc_196_696 rfl rfl ?_
              refine xi_ialoadO (pc' := 698) (v := a3) kc_196_697 rfl (by decide) hov0 (xi_in (n := 6) (by decide) (by decide)) rfl ?_
              refine xi_aload_n (pc' := 699) (x := 1000000) kc_196_698 rfl rfl ?_
              refine xi_iload (pc' := 701) (x := 0) kc_196_699 rfl rfl ?_
              refine xi_iconst (pc' := 702) (v := 4) kc_196_701 rfl rfl ?_
              refine xi_iadd (pc' := 703) (v := 4) kc_196_702 rfl rfl ?_
              refine xi_ialoadO (pc' := 704) (v := a4) kc_196_703 rfl (by decide) hov0 (xi_in (n := 6) (by decide) (by decide)) rfl ?_
              refine xi_virtual (mj := 33) (as := [.int a1, .int 5, .int a3, .int a4]) (st1 := [.int (-1)]) (lv0 := [(0, .ref 115), (1, .int a1), (2, .int 5), (3, .int a3), (4, .int a4)]) kc_196_704 rfl rfl rfl rfl rfl ((eh1.2.1 115 (by decide)).trans (F 115 _ hl_115)) (Nat.le_of_ble_eq_true rfl) (hJ _ _ _ _ (by decide)) (xm_le ml_33 rfl) rfl ?_
              refine xi_aload_n (pc' := 1) (x := 115) kc_33_0 rfl rfl ?_
              refine xi_iconst (pc' := 2) (v := 0) kc_33_1 rfl rfl ?_
              refine xi_putfield (pc' := 5) (fs' := [.int 0, .int 0, .ref 116, .ref 117, .ref 118, .ref 119, .ref 120, .ref 121, .ref 122, .ref 123, .ref 124, .ref 125, .ref 126, .ref 127, .ref 128, .ref 129, .int 4, .ref 130, .int 0, .ref 131, .ref 132, .ref 133, .ref 134, .int 0, .ref 135, .ref 136, .ref 137, .ref 138, .ref 139, .ref 140, .ref 141, .ref 142, .int 0, .int 0, .int 0, .ref 143, .ref 144, .ref 145, .ref 146, .ref 147, .ref 148, .int 0, .ref 149, .ref 150, .ref 151, .int 0, .ref 152, .ref 153, .ref 154, .ref 155, .ref 156, .ref 157, .ref 158, .ref 159, .int 0, .ref 160, .int 0, .ref 161, .ref 162, .ref 163, .ref 164, .int 0, .ref 165, .ref 166]) kc_33_2 rfl rfl rfl ((eh1.2.1 115 (by decide)).trans (F 115 _ hl_115)) rfl rfl rfl (Nat.le_of_ble_eq_true rfl) rfl (fun hh2 eh2 => ?_)
              refine xi_iload_n (pc' := 6) (x := a1) kc_33_5 rfl rfl ?_
              refine xi_iconst (pc' := 7) (v := 0) kc_33_6 rfl rfl ?_
              refine xi_iconst (pc' := 8) (v := 3) kc_33_7 rfl rfl ?_
              refine xi_static (mj := 12) (as := [.int a1, .int 0, .int 3]) (st1 := []) (lv0 := [(0, .int a1), (1, .int 0), (2, .int 3)]) kc_33_8 rfl rfl (Nat.le_of_ble_eq_true rfl) rfl rfl (Nat.le_of_ble_eq_true rfl) (hJ _ _ _ _ (by decide)) (xm_le ml_12 rfl) rfl ?_
              refine xi_iload_n (pc' := 1) (x := a1) kc_12_0 rfl rfl ?_
              refine xi_iload_n (pc' := 2) (x := 0) kc_12_1 rfl rfl ?_
              refine xi_cmf (pc' := 5) kc_12_2 rfl (xc_lt_f (X := a1.toInt) (Y := 0) rfl (by decide) (by omega)) ?_
              refine xi_iload_n (pc' := 6) (x := a1) kc_12_5 rfl rfl ?_
              refine xi_iload_n (pc' := 7) (x := 3) kc_12_6 rfl rfl ?_
              refine xi_cmf (pc' := 10) kc_12_7 rfl (xc_gt_f (X := a1.toInt) (Y := 3) rfl (by decide) (by omega)) ?_
              refine xi_iconst (pc' := 11) (v := 1) kc_12_10 rfl rfl ?_
              refine xi_goto (pc' := 15) kc_12_11 rfl ?_
              refine xi_ireturn kc_12_15 mr_12 rfl ?_
              show xw J ov 99 33 (11, [(0, .ref 115), (1, .int a1), (2, .int 5), (3, .int a3), (4, .int a4)], [.int 1], hh2) _
              refine xi_ift (pc' := 21) kc_33_11 rfl rfl ?_
              refine xi_iload_n (pc' := 22) (x := a1) kc_33_21 rfl rfl ?_
              refine xi_iconst (pc' := 23) (v := 3) kc_33_22 rfl rfl ?_
              refine xi_cmt (pc' := 36) kc_33_23 rfl (xc_ne_t (X := a1.toInt) (Y := 3) rfl (by decide) (by omega)) ?_
              refine xi_aload_n (pc' := 37) (x := 115) kc_33_36 rfl rfl ?_
              refine xi_iload_n (pc' := 38) (x := 5) kc_33_37 rfl rfl ?_
              refine xi_virtual (mj := 32) (as := [.int 5]) (st1 := []) (lv0 := [(0, .ref 115), (1, .int 5)]) kc_33_38 rfl rfl rfl rfl rfl eh2.1 (Nat.le_of_ble_eq_true rfl) (hJ _ _ _ _ (by decide)) (xm_le ml_32 rfl) rfl ?_
              refine xi_iload_n (pc' := 1) (x := 5) kc_32_0 rfl rfl ?_
              refine xi_static (mj := 25) (as := [.int 5]) (st1 := []) (lv0 := [(0, .int 5)]) kc_32_1 rfl rfl (Nat.le_of_ble_eq_true rfl) rfl rfl (Nat.le_of_ble_eq_true rfl) (hJ _ _ _ _ (by decide)) (xm_le ml_25 rfl) rfl ?_
              refine xi_iload_n (pc' := 1) (x := 5) kc_25_0 rfl rfl ?_
              refine xi_iconst (pc' := 2) (v := 0) kc_25_1 rfl rfl ?_
              refine xi_bipush (pc' := 4) (v := 11) kc_25_2 rfl rfl ?_
              refine xi_static (mj := 12) (as := [.int 5, .int 0, .int 11]) (st1 := []) (lv0 := [(0, .int 5), (1, .int 0), (2, .int 11)]) kc_25_4 rfl rfl (Nat.le_of_ble_eq_true rfl) rfl rfl (Nat.le_of_ble_eq_true rfl) (hJ _ _ _ _ (by decide)) (xm_le ml_12 rfl) rfl ?_
              refine xi_iload_n (pc' := 1) (x := 5) kc_12_0 rfl rfl ?_
              refine xi_iload_n (pc' := 2) (x := 0) kc_12_1 rfl rfl ?_
              refine xi_cmf (pc' := 5) kc_12_2 rfl rfl ?_
              refine xi_iload_n (pc' := 6) (x := 5) kc_12_5 rfl rfl ?_
              refine xi_iload_n (pc' := 7) (x := 11) kc_12_6 rfl rfl ?_
              refine xi_cmf (pc' := 10) kc_12_7 rfl rfl ?_
              refine xi_iconst (pc' := 11) (v := 1) kc_12_10 rfl rfl ?_
              refine xi_goto (pc' := 15) kc_12_11 rfl ?_
              refine xi_ireturn kc_12_15 mr_12 rfl ?_
              show xw J ov 97 25 (7, [(0, .int 5)], [.int 1], hh2) _
              refine xi_ireturn kc_25_7 mr_25 rfl ?_
              show xw J ov 98 32 (4, [(0, .ref 115), (1, .int 5)], [.int 1], hh2) _
              refine xi_iff (pc' := 7) kc_32_4 rfl rfl ?_
              refine xi_aload_n (pc' := 8) (x := 115) kc_32_7 rfl rfl ?_
              refine xi_getfield (pc' := 11) (v := .ref 125) kc_32_8 rfl rfl rfl eh2.1 rfl ?_
              refine xi_iload_n (pc' := 12) (x := 5) kc_32_11 rfl rfl ?_
              refine xi_iaload (pc' := 13) (v := (-9)) kc_32_12 rfl ((eh2.2.1 125 (by decide)).trans ((eh1.2.1 125 (by decide)).trans (F 125 _ hl_125))) (by decide) rfl (xi_in (n := 12) (by decide) (by decide)) rfl ?_
              refine xi_ift (pc' := 20) kc_32_13 rfl rfl ?_
              refine xi_iconst (pc' := 21) (v := 0) kc_32_20 rfl rfl ?_
              refine xi_ireturn kc_32_21 mr_32 rfl ?_
              show xw J ov 99 33 (41, [(0, .ref 115), (1, .int a1), (2, .int 5), (3, .int a3), (4, .int a4)], [.int 0], hh2) _
              refine xi_ift (pc' := 57) kc_33_41 rfl rfl ?_
              refine xi_aload_n (pc' := 58) (x := 115) kc_33_57 rfl rfl ?_
              refine xi_iconst (pc' := 59) (v := (-1)) kc_33_58 rfl rfl ?_
              refine xi_virtual (mj := 13) (as := [.int (-1)]) (st1 := []) (lv0 := [(0, .ref 115), (1, .int (-1))]) kc_33_59 rfl rfl rfl rfl rfl eh2.1 (Nat.le_of_ble_eq_true rfl) (hJ _ _ _ _ (by decide)) (xm_le ml_13 rfl) rfl ?_
              refine xi_aload_n (pc' := 1) (x := 115) kc_13_0 rfl rfl ?_
              refine xi_getfield (pc' := 4) (v := .ref 140) kc_13_1 rfl rfl rfl eh2.1 rfl ?_
              refine xi_iload_n (pc' := 5) (x := (-1)) kc_13_4 rfl rfl ?_
              refine xi_ineg (pc' := 6) (v := 1) kc_13_5 rfl rfl ?_
              refine xi_dup2 (pc' := 7) kc_13_6 rfl ⟨rfl, rfl⟩ ?_
              refine xi_iaload (pc' := 8) (v := 0) kc_13_7 rfl ((eh2.2.1 140 (by decide)).trans ((eh1.2.1 140 (by decide)).trans (F 140 _ hl_140))) (by decide) rfl (xi_in (n := 7) (by decide) (by decide)) rfl ?_
              refine xi_iconst (pc' := 9) (v := 1) kc_13_8 rfl rfl ?_
              refine xi_iadd (pc' := 10) (v := 1) kc_13_9 rfl rfl ?_
              refine xi_iastore (pc' := 11) (x' := [0, 1, 0, 0, 0, 0, 0]) kc_13_10 rfl ((eh2.2.1 140 (by decide)).trans ((eh1.2.1 140 (by decide)).trans (F 140 _ hl_140))) rfl (xi_in (n := 7) (by decide) (by decide)) rfl (fun hh3 eh3 => ?_)
              refine xi_iload_n (pc' := 12) (x := (-1)) kc_13_11 rfl rfl ?_
              refine xi_ireturn kc_13_12 mr_13 rfl ?_
              show xw J ov 99 33 (62, [(0, .ref 115), (1, .int a1), (2, .int 5), (3, .int a3), (4, .int a4)], [.int (-1)], hh3) _
              refine xi_ireturn kc_33_62 mr_33 rfl ?_
              show xw J ov 100 196 (707, [(4, .int 0), (3, .ref 167), (2, .ref 115), (1, .ref 0), (0, .ref 1000000)], [.int (-1), .int (-1)], hh3) _
              refine xi_cmt (pc' := 1528) kc_196_707 rfl rfl ?_
              refine xi_iinc (pc' := 1531) (x := 0) (v := 6) (lv' := [(4, .int 6), (3, .ref 167), (2, .ref 115), (1, .ref 0), (0, .ref 1000000)]) kc_196_1528 rfl rfl rfl rfl (xm_lt ml_196 rfl) ?_
              refine xi_goto (pc' := 23) kc_196_1531 rfl ?_
              refine xi_iload (pc' := 25) (x := 6) kc_196_23 rfl rfl ?_
              refine xi_aload_n (pc' := 26) (x := 1000000) kc_196_25 rfl rfl ?_
              refine xi_arraylength (pc' := 27) (n := 6) (v := 6) kc_196_26 rfl (xl_lenO (by decide) hov0 rfl) rfl ?_
              refine xi_bipush (pc' := 29) (v := 6) kc_196_27 rfl rfl ?_
              refine xi_isub (pc' := 30) (v := 0) kc_196_29 rfl rfl ?_
              refine xi_cmt (pc' := 1534) kc_196_30 rfl rfl ?_
              refine xi_iconst (pc' := 1535) (v := 1) kc_196_1534 rfl rfl ?_
              refine xi_ireturn kc_196_1535 mr_196 rfl ?_
              refine ⟨rfl, ?_, ?_⟩
              · rw [eh3.2.2.1, eh2.2.2.1, eh1.2.2.1]; exact hn0
              · rw [eh3.2.2.2, eh2.2.2.2, eh1.2.2.2]; exact hz0
            by_cases c18 : a2.toInt = 6
            · have qa2 : a2 = 6 := xc_of (Eq.trans (by omega) (show (6 : Int) = (6 : Int32).toInt by decide))
              subst qa2
              refine xi_aaload (pc' := 13) (b := 41) kc_109_12 rfl (F 3 _ hl_3) rfl (xi_in (n := 12) (by decide) (by decide)) rfl ?_
              refine xi_virtual (mj := 106) (as := []) (st1 := []) (lv0 := [(0, .ref 41)]) kc_109_13 rfl rfl rfl rfl rfl (F 41 _ hl_41) (Nat.le_of_ble_eq_true rfl) (hJ _ _ _ _ (by decide)) (xm_le ml_106 rfl) rfl ?_
              refine xi_aload_n (pc' := 1) (x := 41) kc_106_0 rfl rfl ?_
              refine xi_getfield (pc' := 4) (v := .int (-9)) kc_106_1 rfl rfl rfl (F 41 _ hl_41) rfl ?_
              refine xi_static (mj := 90) (as := [.int (-9)]) (st1 := []) (lv0 := [(0, .int (-9))]) kc_106_4 rfl rfl (Nat.le_of_ble_eq_true rfl) rfl rfl (Nat.le_of_ble_eq_true rfl) (hJ _ _ _ _ (by decide)) (xm_le ml_90 rfl) rfl ?_
              refine xi_iload_n (pc' := 1) (x := (-9)) kc_90_0 rfl rfl ?_
              refine xi_ift (pc' := 14) kc_90_1 rfl rfl ?_
              refine xi_iconst (pc' := 15) (v := 0) kc_90_14 rfl rfl ?_
              refine xi_ireturn kc_90_15 mr_90 rfl ?_
              show xw J ov 96 106 (7, [(0, .ref 41)], [.int 0], h0) _
              refine xi_ireturn kc_106_7 mr_106 rfl ?_
              show xw J ov 97 109 (16, [(0, .ref 1), (1, .int 6)], [.int 0], h0) _
              refine xi_ift (pc' := 23) kc_109_16 rfl rfl ?_
              refine xi_iconst (pc' := 24) (v := 0) kc_109_23 rfl rfl ?_
              refine xi_ireturn kc_109_24 mr_109 rfl ?_
              show xw J ov 98 119 (15, [(0, .ref 1), (1, .int a1), (2, .int 6)], [.int 0], h0) _
              refine xi_ift (pc' := 38) kc_119_15 rfl rfl ?_
              refine xi_iconst (pc' := 39) (v := 0) kc_119_38 rfl rfl ?_
              refine xi_ireturn kc_119_39 mr_119 rfl ?_
              show xw J ov 99 117 (23, [(0, .ref 0), (1, .int a1), (2, .int 6), (3, .int a3), (4, .int a4)], [.int 0], h0) _
              refine xi_iff (pc' := 26) kc_117_23 rfl rfl ?_
              refine xi_aload_n (pc' := 27) (x := 0) kc_117_26 rfl rfl ?_
              refine xi_iconst (pc' := 28) (v := (-1)) kc_117_27 rfl rfl ?_
              refine xi_virtual (mj := 91) (as := [.int (-1)]) (st1 := []) (lv0 := [(0, .ref 0), (1, .int (-1))]) kc_117_28 rfl rfl rfl rfl rfl (F 0 _ hl_0) (Nat.le_of_ble_eq_true rfl) (hJ _ _ _ _ (by decide)) (xm_le ml_91 rfl) rfl ?_
              refine xi_iload_n (pc' := 1) (x := (-1)) kc_91_0 rfl rfl ?_
              refine xi_ineg (pc' := 2) (v := 1) kc_91_1 rfl rfl ?_
              refine xi_istore_n (pc' := 3) (lv' := [(2, .int 1), (0, .ref 0), (1, .int (-1))]) kc_91_2 rfl rfl (xm_lt ml_91 rfl) ?_
              refine xi_iload_n (pc' := 4) (x := 1) kc_91_3 rfl rfl ?_
              refine xi_iff (pc' := 7) kc_91_4 rfl rfl ?_
              refine xi_iload_n (pc' := 8) (x := 1) kc_91_7 rfl rfl ?_
              refine xi_aload_n (pc' := 9) (x := 0) kc_91_8 rfl rfl ?_
              refine xi_getfield (pc' := 12) (v := .ref 94) kc_91_9 rfl rfl rfl (F 0 _ hl_0) rfl ?_
              refine xi_arraylength (pc' := 13) (n := 7) (v := 7) kc_91_12 rfl (xl_lenI (by decide) (by decide) (F 94 _ hl_94) (by simp only [List.length_replicate, List.length_cons, List.length_nil])) rfl ?_
              refine xi_cmf (pc' := 16) kc_91_13 rfl rfl ?_
              refine xi_aload_n (pc' := 17) (x := 0) kc_91_16 rfl rfl ?_
              refine xi_getfield (pc' := 20) (v := .ref 94) kc_91_17 rfl rfl rfl (F 0 _ hl_0) rfl ?_
              refine xi_iload_n (pc' := 21) (x := 1) kc_91_20 rfl rfl ?_
              refine xi_dup2 (pc' := 22) kc_91_21 rfl ⟨rfl, rfl⟩ ?_
              refine xi_iaload (pc' := 23) (v := 0) kc_91_22 rfl (F 94 _ hl_94) (by decide) rfl (xi_in (n := 7) (by decide) (by decide)) rfl ?_
              refine xi_iconst (pc' := 24) (v := 1) kc_91_23 rfl rfl ?_
              refine xi_iadd (pc' := 25) (v := 1) kc_91_24 rfl rfl ?_
              refine xi_iastore (pc' := 26) (x' := [0, 1, 0, 0, 0, 0, 0]) kc_91_25 rfl (F 94 _ hl_94) rfl (xi_in (n := 7) (by decide) (by decide)) rfl (fun hh1 eh1 => ?_)
              refine xi_iload_n (pc' := 27) (x := (-1)) kc_91_26 rfl rfl ?_
              refine xi_ireturn kc_91_27 mr_91 rfl ?_
              show xw J ov 99 117 (31, [(0, .ref 0), (1, .int a1), (2, .int 6), (3, .int a3), (4, .int a4)], [.int (-1)], hh1) _
              refine xi_ireturn kc_117_31 mr_117 rfl ?_
              show xw J ov 100 196 (679, [(4, .int 0), (3, .ref 167), (2, .ref 115), (1, .ref 0), (0, .ref 1000000)], [.int (-1)], hh1) _
              refine xi_aload_n (pc' := 680) (x := 115) kc_196_679 rfl rfl ?_
              refine xi_aload_n (pc' := 681) (x := 1000000) kc_196_680 rfl rfl ?_
              refine xi_iload (pc' := 683) (x := 0) kc_196_681 rfl rfl ?_
              refine xi_iconst (pc' := 684) (v := 1) kc_196_683 rfl rfl ?_
              refine xi_iadd (pc' := 685) (v := 1) kc_196_684 rfl rfl ?_
              refine xi_ialoadO (pc' := 686) (v := a1) kc_196_685 rfl (by decide) hov0 (xi_in (n := 6) (by decide) (by decide)) rfl ?_
              refine xi_aload_n (pc' := 687) (x := 1000000) kc_196_686 rfl rfl ?_
              refine xi_iload (pc' := 689) (x := 0) kc_196_687 rfl rfl ?_
              refine xi_iconst (pc' := 690) (v := 2) kc_196_689 rfl rfl ?_
              refine xi_iadd (pc' := 691) (v := 2) kc_196_690 rfl rfl ?_
              refine xi_ialoadO (pc' := 692) (v := 6) kc_196_691 rfl (by decide) hov0 (xi_in (n := 6) (by decide) (by decide)) rfl ?_
              refine xi_aload_n (pc' := 693) (x := 1000000) kc_196_692 rfl rfl ?_
              refine xi_iload (pc' := 695) (x := 0) kc_196_693 rfl rfl ?_
              refine xi_iconst (pc' := 696) (v := 3) kc_196_695 rfl rfl ?_
              refine xi_iadd (pc' := 697) (v := 3) kc_196_696 rfl rfl ?_
              refine xi_ialoadO (pc' := 698) (v := a3) kc_196_697 rfl (by decide) hov0 (xi_in (n := 6) (by decide) (by decide)) rfl ?_
              refine xi_aload_n (pc' := 699) (x := 1000000) kc_196_698 rfl rfl ?_
              refine xi_iload (pc' := 701) (x := 0) kc_196_699 rfl rfl ?_
              refine xi_iconst (pc' := 702) (v := 4) kc_196_701 rfl rfl ?_
              refine xi_iadd (pc' := 703) (v := 4) kc_196_702 rfl rfl ?_
              refine xi_ialoadO (pc' := 704) (v := a4) kc_196_703 rfl (by decide) hov0 (xi_in (n := 6) (by decide) (by decide)) rfl ?_
              refine xi_virtual (mj := 33) (as := [.int a1, .int 6, .int a3, .int a4]) (st1 := [.int (-1)]) (lv0 := [(0, .ref 115), (1, .int a1), (2, .int 6), (3, .int a3), (4, .int a4)]) kc_196_704 rfl rfl rfl rfl rfl ((eh1.2.1 115 (by decide)).trans (F 115 _ hl_115)) (Nat.le_of_ble_eq_true rfl) (hJ _ _ _ _ (by decide)) (xm_le ml_33 rfl) rfl ?_
              refine xi_aload_n (pc' := 1) (x := 115) kc_33_0 rfl rfl ?_
              refine xi_iconst (pc' := 2) (v := 0) kc_33_1 rfl rfl ?_
              refine xi_putfield (pc' := 5) (fs' := [.int 0, .int 0, .ref 116, .ref 117, .ref 118, .ref 119, .ref 120, .ref 121, .ref 122, .ref 123, .ref 124, .ref 125, .ref 126, .ref 127, .ref 128, .ref 129, .int 4, .ref 130, .int 0, .ref 131, .ref 132, .ref 133, .ref 134, .int 0, .ref 135, .ref 136, .ref 137, .ref 138, .ref 139, .ref 140, .ref 141, .ref 142, .int 0, .int 0, .int 0, .ref 143, .ref 144, .ref 145, .ref 146, .ref 147, .ref 148, .int 0, .ref 149, .ref 150, .ref 151, .int 0, .ref 152, .ref 153, .ref 154, .ref 155, .ref 156, .ref 157, .ref 158, .ref 159, .int 0, .ref 160, .int 0, .ref 161, .ref 162, .ref 163, .ref 164, .int 0, .ref 165, .ref 166]) kc_33_2 rfl rfl rfl ((eh1.2.1 115 (by decide)).trans (F 115 _ hl_115)) rfl rfl rfl (Nat.le_of_ble_eq_true rfl) rfl (fun hh2 eh2 => ?_)
              refine xi_iload_n (pc' := 6) (x := a1) kc_33_5 rfl rfl ?_
              refine xi_iconst (pc' := 7) (v := 0) kc_33_6 rfl rfl ?_
              refine xi_iconst (pc' := 8) (v := 3) kc_33_7 rfl rfl ?_
              refine xi_static (mj := 12) (as := [.int a1, .int 0, .int 3]) (st1 := []) (lv0 := [(0, .int a1), (1, .int 0), (2, .int 3)]) kc_33_8 rfl rfl (Nat.le_of_ble_eq_true rfl) rfl rfl (Nat.le_of_ble_eq_true rfl) (hJ _ _ _ _ (by decide)) (xm_le ml_12 rfl) rfl ?_
              refine xi_iload_n (pc' := 1) (x := a1) kc_12_0 rfl rfl ?_
              refine xi_iload_n (pc' := 2) (x := 0) kc_12_1 rfl rfl ?_
              refine xi_cmf (pc' := 5) kc_12_2 rfl (xc_lt_f (X := a1.toInt) (Y := 0) rfl (by decide) (by omega)) ?_
              refine xi_iload_n (pc' := 6) (x := a1) kc_12_5 rfl rfl ?_
              refine xi_iload_n (pc' := 7) (x := 3) kc_12_6 rfl rfl ?_
              refine xi_cmf (pc' := 10) kc_12_7 rfl (xc_gt_f (X := a1.toInt) (Y := 3) rfl (by decide) (by omega)) ?_
              refine xi_iconst (pc' := 11) (v := 1) kc_12_10 rfl rfl ?_
              refine xi_goto (pc' := 15) kc_12_11 rfl ?_
              refine xi_ireturn kc_12_15 mr_12 rfl ?_
              show xw J ov 99 33 (11, [(0, .ref 115), (1, .int a1), (2, .int 6), (3, .int a3), (4, .int a4)], [.int 1], hh2) _
              refine xi_ift (pc' := 21) kc_33_11 rfl rfl ?_
              refine xi_iload_n (pc' := 22) (x := a1) kc_33_21 rfl rfl ?_
              refine xi_iconst (pc' := 23) (v := 3) kc_33_22 rfl rfl ?_
              refine xi_cmt (pc' := 36) kc_33_23 rfl (xc_ne_t (X := a1.toInt) (Y := 3) rfl (by decide) (by omega)) ?_
              refine xi_aload_n (pc' := 37) (x := 115) kc_33_36 rfl rfl ?_
              refine xi_iload_n (pc' := 38) (x := 6) kc_33_37 rfl rfl ?_
              refine xi_virtual (mj := 32) (as := [.int 6]) (st1 := []) (lv0 := [(0, .ref 115), (1, .int 6)]) kc_33_38 rfl rfl rfl rfl rfl eh2.1 (Nat.le_of_ble_eq_true rfl) (hJ _ _ _ _ (by decide)) (xm_le ml_32 rfl) rfl ?_
              refine xi_iload_n (pc' := 1) (x := 6) kc_32_0 rfl rfl ?_
              refine xi_static (mj := 25) (as := [.int 6]) (st1 := []) (lv0 := [(0, .int 6)]) kc_32_1 rfl rfl (Nat.le_of_ble_eq_true rfl) rfl rfl (Nat.le_of_ble_eq_true rfl) (hJ _ _ _ _ (by decide)) (xm_le ml_25 rfl) rfl ?_
              refine xi_iload_n (pc' := 1) (x := 6) kc_25_0 rfl rfl ?_
              refine xi_iconst (pc' := 2) (v := 0) kc_25_1 rfl rfl ?_
              refine xi_bipush (pc' := 4) (v := 11) kc_25_2 rfl rfl ?_
              refine xi_static (mj := 12) (as := [.int 6, .int 0, .int 11]) (st1 := []) (lv0 := [(0, .int 6), (1, .int 0), (2, .int 11)]) kc_25_4 rfl rfl (Nat.le_of_ble_eq_true rfl) rfl rfl (Nat.le_of_ble_eq_true rfl) (hJ _ _ _ _ (by decide)) (xm_le ml_12 rfl) rfl ?_
              refine xi_iload_n (pc' := 1) (x := 6) kc_12_0 rfl rfl ?_
              refine xi_iload_n (pc' := 2) (x := 0) kc_12_1 rfl rfl ?_
              refine xi_cmf (pc' := 5) kc_12_2 rfl rfl ?_
              refine xi_iload_n (pc' := 6) (x := 6) kc_12_5 rfl rfl ?_
              refine xi_iload_n (pc' := 7) (x := 11) kc_12_6 rfl rfl ?_
              refine xi_cmf (pc' := 10) kc_12_7 rfl rfl ?_
              refine xi_iconst (pc' := 11) (v := 1) kc_12_10 rfl rfl ?_
              refine xi_goto (pc' := 15) kc_12_11 rfl ?_
              refine xi_ireturn kc_12_15 mr_12 rfl ?_
              show xw J ov 97 25 (7, [(0, .int 6)], [.int 1], hh2) _
              refine xi_ireturn kc_25_7 mr_25 rfl ?_
              show xw J ov 98 32 (4, [(0, .ref 115), (1, .int 6)], [.int 1], hh2) _
              refine xi_iff (pc' := 7) kc_32_4 rfl rfl ?_
              refine xi_aload_n (pc' := 8) (x := 115) kc_32_7 rfl rfl ?_
              refine xi_getfield (pc' := 11) (v := .ref 125) kc_32_8 rfl rfl rfl eh2.1 rfl ?_
              refine xi_iload_n (pc' := 12) (x := 6) kc_32_11 rfl rfl ?_
              refine xi_iaload (pc' := 13) (v := (-9)) kc_32_12 rfl ((eh2.2.1 125 (by decide)).trans ((eh1.2.1 125 (by decide)).trans (F 125 _ hl_125))) (by decide) rfl (xi_in (n := 12) (by decide) (by decide)) rfl ?_
              refine xi_ift (pc' := 20) kc_32_13 rfl rfl ?_
              refine xi_iconst (pc' := 21) (v := 0) kc_32_20 rfl rfl ?_
              refine xi_ireturn kc_32_21 mr_32 rfl ?_
              show xw J ov 99 33 (41, [(0, .ref 115), (1, .int a1), (2, .int 6), (3, .int a3), (4, .int a4)], [.int 0], hh2) _
              refine xi_ift (pc' := 57) kc_33_41 rfl rfl ?_
              refine xi_aload_n (pc' := 58) (x := 115) kc_33_57 rfl rfl ?_
              refine xi_iconst (pc' := 59) (v := (-1)) kc_33_58 rfl rfl ?_
              refine xi_virtual (mj := 13) (as := [.int (-1)]) (st1 := []) (lv0 := [(0, .ref 115), (1, .int (-1))]) kc_33_59 rfl rfl rfl rfl rfl eh2.1 (Nat.le_of_ble_eq_true rfl) (hJ _ _ _ _ (by decide)) (xm_le ml_13 rfl) rfl ?_
              refine xi_aload_n (pc' := 1) (x := 115) kc_13_0 rfl rfl ?_
              refine xi_getfield (pc' := 4) (v := .ref 140) kc_13_1 rfl rfl rfl eh2.1 rfl ?_
              refine xi_iload_n (pc' := 5) (x := (-1)) kc_13_4 rfl rfl ?_
              refine xi_ineg (pc' := 6) (v := 1) kc_13_5 rfl rfl ?_
              refine xi_dup2 (pc' := 7) kc_13_6 rfl ⟨rfl, rfl⟩ ?_
              refine xi_iaload (pc' := 8) (v := 0) kc_13_7 rfl ((eh2.2.1 140 (by decide)).trans ((eh1.2.1 140 (by decide)).trans (F 140 _ hl_140))) (by decide) rfl (xi_in (n := 7) (by decide) (by decide)) rfl ?_
              refine xi_iconst (pc' := 9) (v := 1) kc_13_8 rfl rfl ?_
              refine xi_iadd (pc' := 10) (v := 1) kc_13_9 rfl rfl ?_
              refine xi_iastore (pc' := 11) (x' := [0, 1, 0, 0, 0, 0, 0]) kc_13_10 rfl ((eh2.2.1 140 (by decide)).trans ((eh1.2.1 140 (by decide)).trans (F 140 _ hl_140))) rfl (xi_in (n := 7) (by decide) (by decide)) rfl (fun hh3 eh3 => ?_)
              refine xi_iload_n (pc' := 12) (x := (-1)) kc_13_11 rfl rfl ?_
              refine xi_ireturn kc_13_12 mr_13 rfl ?_
              show xw J ov 99 33 (62, [(0, .ref 115), (1, .int a1), (2, .int 6), (3, .int a3), (4, .int a4)], [.int (-1)], hh3) _
              refine xi_ireturn kc_33_62 mr_33 rfl ?_
              show xw J ov 100 196 (707, [(4, .int 0), (3, .ref 167), (2, .ref 115), (1, .ref 0), (0, .ref 1000000)], [.int (-1), .int (-1)], hh3) _
              refine xi_cmt (pc' := 1528) kc_196_707 rfl rfl ?_
              refine xi_iinc (pc' := 1531) (x := 0) (v := 6) (lv' := [(4, .int 6), (3, .ref 167), (2, .ref 115), (1, .ref 0), (0, .ref 1000000)]) kc_196_1528 rfl rfl rfl rfl (xm_lt ml_196 rfl) ?_
              refine xi_goto (pc' := 23) kc_196_1531 rfl ?_
              refine xi_iload (pc' := 25) (x := 6) kc_196_23 rfl rfl ?_
              refine xi_aload_n (pc' := 26) (x := 1000000) kc_196_25 rfl rfl ?_
              refine xi_arraylength (pc' := 27) (n := 6) (v := 6) kc_196_26 rfl (xl_lenO (by decide) hov0 rfl) rfl ?_
              refine xi_bipush (pc' := 29) (v := 6) kc_196_27 rfl rfl ?_
              refine xi_isub (pc' := 30) (v := 0) kc_196_29 rfl rfl ?_
              refine xi_cmt (pc' := 1534) kc_196_30 rfl rfl ?_
              refine xi_iconst (pc' := 1535) (v := 1) kc_196_1534 rfl rfl ?_
              refine xi_ireturn kc_196_1535 mr_196 rfl ?_
              refine ⟨rfl, ?_, ?_⟩
              · rw [eh3.2.2.1, eh2.2.2.1, eh1.2.2.1]; exact hn0
              · rw [eh3.2.2.2, eh2.2.2.2, eh1.2.2.2]; exact hz0
            by_cases c19 : a2.toInt = 7
            · have qa2 : a2 = 7 := xc_of (Eq.trans (by omega) (show (7 : Int) = (7 : Int32).toInt by decide))
              subst qa2
              refine xi_aaload (pc' := 13) (b := 43) kc_109_12 rfl (F 3 _ hl_3) rfl (xi_in (n := 12) (by decide) (by decide)) rfl ?_
              refine xi_virtual (mj := 106) (as := []) (st1 := []) (lv0 := [(0, .ref 43)]) kc_109_13 rfl rfl rfl rfl rfl (F 43 _ hl_43) (Nat.le_of_ble_eq_true rfl) (hJ _ _ _ _ (by decide)) (xm_le ml_106 rfl) rfl ?_
              refine xi_aload_n (pc' := 1) (x := 43) kc_106_0 rfl rfl ?_
              refine xi_getfield (pc' := 4) (v := .int (-9)) kc_106_1 rfl rfl rfl (F 43 _ hl_43) rfl ?_
              refine xi_static (mj := 90) (as := [.int (-9)]) (st1 := []) (lv0 := [(0, .int (-9))]) kc_106_4 rfl rfl (Nat.le_of_ble_eq_true rfl) rfl rfl (Nat.le_of_ble_eq_true rfl) (hJ _ _ _ _ (by decide)) (xm_le ml_90 rfl) rfl ?_
              refine xi_iload_n (pc' := 1) (x := (-9)) kc_90_0 rfl rfl ?_
              refine xi_ift (pc' := 14) kc_90_1 rfl rfl ?_
              refine xi_iconst (pc' := 15) (v := 0) kc_90_14 rfl rfl ?_
              refine xi_ireturn kc_90_15 mr_90 rfl ?_
              show xw J ov 96 106 (7, [(0, .ref 43)], [.int 0], h0) _
              refine xi_ireturn kc_106_7 mr_106 rfl ?_
              show xw J ov 97 109 (16, [(0, .ref 1), (1, .int 7)], [.int 0], h0) _
              refine xi_ift (pc' := 23) kc_109_16 rfl rfl ?_
              refine xi_iconst (pc' := 24) (v := 0) kc_109_23 rfl rfl ?_
              refine xi_ireturn kc_109_24 mr_109 rfl ?_
              show xw J ov 98 119 (15, [(0, .ref 1), (1, .int a1), (2, .int 7)], [.int 0], h0) _
              refine xi_ift (pc' := 38) kc_119_15 rfl rfl ?_
              refine xi_iconst (pc' := 39) (v := 0) kc_119_38 rfl rfl ?_
              refine xi_ireturn kc_119_39 mr_119 rfl ?_
              show xw J ov 99 117 (23, [(0, .ref 0), (1, .int a1), (2, .int 7), (3, .int a3), (4, .int a4)], [.int 0], h0) _
              refine xi_iff (pc' := 26) kc_117_23 rfl rfl ?_
              refine xi_aload_n (pc' := 27) (x := 0) kc_117_26 rfl rfl ?_
              refine xi_iconst (pc' := 28) (v := (-1)) kc_117_27 rfl rfl ?_
              refine xi_virtual (mj := 91) (as := [.int (-1)]) (st1 := []) (lv0 := [(0, .ref 0), (1, .int (-1))]) kc_117_28 rfl rfl rfl rfl rfl (F 0 _ hl_0) (Nat.le_of_ble_eq_true rfl) (hJ _ _ _ _ (by decide)) (xm_le ml_91 rfl) rfl ?_
              refine xi_iload_n (pc' := 1) (x := (-1)) kc_91_0 rfl rfl ?_
              refine xi_ineg (pc' := 2) (v := 1) kc_91_1 rfl rfl ?_
              refine xi_istore_n (pc' := 3) (lv' := [(2, .int 1), (0, .ref 0), (1, .int (-1))]) kc_91_2 rfl rfl (xm_lt ml_91 rfl) ?_
              refine xi_iload_n (pc' := 4) (x := 1) kc_91_3 rfl rfl ?_
              refine xi_iff (pc' := 7) kc_91_4 rfl rfl ?_
              refine xi_iload_n (pc' := 8) (x := 1) kc_91_7 rfl rfl ?_
              refine xi_aload_n (pc' := 9) (x := 0) kc_91_8 rfl rfl ?_
              refine xi_getfield (pc' := 12) (v := .ref 94) kc_91_9 rfl rfl rfl (F 0 _ hl_0) rfl ?_
              refine xi_arraylength (pc' := 13) (n := 7) (v := 7) kc_91_12 rfl (xl_lenI (by decide) (by decide) (F 94 _ hl_94) (by simp only [List.length_replicate, List.length_cons, List.length_nil])) rfl ?_
              refine xi_cmf (pc' := 16) kc_91_13 rfl rfl ?_
              refine xi_aload_n (pc' := 17) (x := 0) kc_91_16 rfl rfl ?_
              refine xi_getfield (pc' := 20) (v := .ref 94) kc_91_17 rfl rfl rfl (F 0 _ hl_0) rfl ?_
              refine xi_iload_n (pc' := 21) (x := 1) kc_91_20 rfl rfl ?_
              refine xi_dup2 (pc' := 22) kc_91_21 rfl ⟨rfl, rfl⟩ ?_
              refine xi_iaload (pc' := 23) (v := 0) kc_91_22 rfl (F 94 _ hl_94) (by decide) rfl (xi_in (n := 7) (by decide) (by decide)) rfl ?_
              refine xi_iconst (pc' := 24) (v := 1) kc_91_23 rfl rfl ?_
              refine xi_iadd (pc' := 25) (v := 1) kc_91_24 rfl rfl ?_
              refine xi_iastore (pc' := 26) (x' := [0, 1, 0, 0, 0, 0, 0]) kc_91_25 rfl (F 94 _ hl_94) rfl (xi_in (n := 7) (by decide) (by decide)) rfl (fun hh1 eh1 => ?_)
              refine xi_iload_n (pc' := 27) (x := (-1)) kc_91_26 rfl rfl ?_
              refine xi_ireturn kc_91_27 mr_91 rfl ?_
              show xw J ov 99 117 (31, [(0, .ref 0), (1, .int a1), (2, .int 7), (3, .int a3), (4, .int a4)], [.int (-1)], hh1) _
              refine xi_ireturn kc_117_31 mr_117 rfl ?_
              show xw J ov 100 196 (679, [(4, .int 0), (3, .ref 167), (2, .ref 115), (1, .ref 0), (0, .ref 1000000)], [.int (-1)], hh1) _
              refine xi_aload_n (pc' := 680) (x := 115) kc_196_679 rfl rfl ?_
              refine xi_aload_n (pc' := 681) (x := 1000000) kc_196_680 rfl rfl ?_
              refine xi_iload (pc' := 683) (x := 0) kc_196_681 rfl rfl ?_
              refine xi_iconst (pc' := 684) (v := 1) kc_196_683 rfl rfl ?_
              refine xi_iadd (pc' := 685) (v := 1) kc_196_684 rfl rfl ?_
              refine xi_ialoadO (pc' := 686) (v := a1) kc_196_685 rfl (by decide) hov0 (xi_in (n := 6) (by decide) (by decide)) rfl ?_
              refine xi_aload_n (pc' := 687) (x := 1000000) kc_196_686 rfl rfl ?_
              refine xi_iload (pc' := 689) (x := 0) kc_196_687 rfl rfl ?_
              refine xi_iconst (pc' := 690) (v := 2) kc_196_689 rfl rfl ?_
              refine xi_iadd (pc' := 691) (v := 2) kc_196_690 rfl rfl ?_
              refine xi_ialoadO (pc' := 692) (v := 7) kc_196_691 rfl (by decide) hov0 (xi_in (n := 6) (by decide) (by decide)) rfl ?_
              refine xi_aload_n (pc' := 693) (x := 1000000) kc_196_692 rfl rfl ?_
              refine xi_iload (pc' := 695) (x := 0) kc_196_693 rfl rfl ?_
              refine xi_iconst (pc' := 696) (v := 3) kc_196_695 rfl rfl ?_
              refine xi_iadd (pc' := 697) (v := 3) kc_196_696 rfl rfl ?_
              refine xi_ialoadO (pc' := 698) (v := a3) kc_196_697 rfl (by decide) hov0 (xi_in (n := 6) (by decide) (by decide)) rfl ?_
              refine xi_aload_n (pc' := 699) (x := 1000000) kc_196_698 rfl rfl ?_
              refine xi_iload (pc' := 701) (x := 0) kc_196_699 rfl rfl ?_
              refine xi_iconst (pc' := 702) (v := 4) kc_196_701 rfl rfl ?_
              refine xi_iadd (pc' := 703) (v := 4) kc_196_702 rfl rfl ?_
              refine xi_ialoadO (pc' := 704) (v := a4) kc_196_703 rfl (by decide) hov0 (xi_in (n := 6) (by decide) (by decide)) rfl ?_
              refine xi_virtual (mj := 33) (as := [.int a1, .int 7, .int a3, .int a4]) (st1 := [.int (-1)]) (lv0 := [(0, .ref 115), (1, .int a1), (2, .int 7), (3, .int a3), (4, .int a4)]) kc_196_704 rfl rfl rfl rfl rfl ((eh1.2.1 115 (by decide)).trans (F 115 _ hl_115)) (Nat.le_of_ble_eq_true rfl) (hJ _ _ _ _ (by decide)) (xm_le ml_33 rfl) rfl ?_
              refine xi_aload_n (pc' := 1) (x := 115) kc_33_0 rfl rfl ?_
              refine xi_iconst (pc' := 2) (v := 0) kc_33_1 rfl rfl ?_
              refine xi_putfield (pc' := 5) (fs' := [.int 0, .int 0, .ref 116, .ref 117, .ref 118, .ref 119, .ref 120, .ref 121, .ref 122, .ref 123, .ref 124, .ref 125, .ref 126, .ref 127, .ref 128, .ref 129, .int 4, .ref 130, .int 0, .ref 131, .ref 132, .ref 133, .ref 134, .int 0, .ref 135, .ref 136, .ref 137, .ref 138, .ref 139, .ref 140, .ref 141, .ref 142, .int 0, .int 0, .int 0, .ref 143, .ref 144, .ref 145, .ref 146, .ref 147, .ref 148, .int 0, .ref 149, .ref 150, .ref 151, .int 0, .ref 152, .ref 153, .ref 154, .ref 155, .ref 156, .ref 157, .ref 158, .ref 159, .int 0, .ref 160, .int 0, .ref 161, .ref 162, .ref 163, .ref 164, .int 0, .ref 165, .ref 166]) kc_33_2 rfl rfl rfl ((eh1.2.1 115 (by decide)).trans (F 115 _ hl_115)) rfl rfl rfl (Nat.le_of_ble_eq_true rfl) rfl (fun hh2 eh2 => ?_)
              refine xi_iload_n (pc' := 6) (x := a1) kc_33_5 rfl rfl ?_
              refine xi_iconst (pc' := 7) (v := 0) kc_33_6 rfl rfl ?_
              refine xi_iconst (pc' := 8) (v := 3) kc_33_7 rfl rfl ?_
              refine xi_static (mj := 12) (as := [.int a1, .int 0, .int 3]) (st1 := []) (lv0 := [(0, .int a1), (1, .int 0), (2, .int 3)]) kc_33_8 rfl rfl (Nat.le_of_ble_eq_true rfl) rfl rfl (Nat.le_of_ble_eq_true rfl) (hJ _ _ _ _ (by decide)) (xm_le ml_12 rfl) rfl ?_
              refine xi_iload_n (pc' := 1) (x := a1) kc_12_0 rfl rfl ?_
              refine xi_iload_n (pc' := 2) (x := 0) kc_12_1 rfl rfl ?_
              refine xi_cmf (pc' := 5) kc_12_2 rfl (xc_lt_f (X := a1.toInt) (Y := 0) rfl (by decide) (by omega)) ?_
              refine xi_iload_n (pc' := 6) (x := a1) kc_12_5 rfl rfl ?_
              refine xi_iload_n (pc' := 7) (x := 3) kc_12_6 rfl rfl ?_
              refine xi_cmf (pc' := 10) kc_12_7 rfl (xc_gt_f (X := a1.toInt) (Y := 3) rfl (by decide) (by omega)) ?_
              refine xi_iconst (pc' := 11) (v := 1) kc_12_10 rfl rfl ?_
              refine xi_goto (pc' := 15) kc_12_11 rfl ?_
              refine xi_ireturn kc_12_15 mr_12 rfl ?_
              show xw J ov 99 33 (11, [(0, .ref 115), (1, .int a1), (2, .int 7), (3, .int a3), (4, .int a4)], [.int 1], hh2) _
              refine xi_ift (pc' := 21) kc_33_11 rfl rfl ?_
              refine xi_iload_n (pc' := 22) (x := a1) kc_33_21 rfl rfl ?_
              refine xi_iconst (pc' := 23) (v := 3) kc_33_22 rfl rfl ?_
              refine xi_cmt (pc' := 36) kc_33_23 rfl (xc_ne_t (X := a1.toInt) (Y := 3) rfl (by decide) (by omega)) ?_
              refine xi_aload_n (pc' := 37) (x := 115) kc_33_36 rfl rfl ?_
              refine xi_iload_n (pc' := 38) (x := 7) kc_33_37 rfl rfl ?_
              refine xi_virtual (mj := 32) (as := [.int 7]) (st1 := []) (lv0 := [(0, .ref 115), (1, .int 7)]) kc_33_38 rfl rfl rfl rfl rfl eh2.1 (Nat.le_of_ble_eq_true rfl) (hJ _ _ _ _ (by decide)) (xm_le ml_32 rfl) rfl ?_
              refine xi_iload_n (pc' := 1) (x := 7) kc_32_0 rfl rfl ?_
              refine xi_static (mj := 25) (as := [.int 7]) (st1 := []) (lv0 := [(0, .int 7)]) kc_32_1 rfl rfl (Nat.le_of_ble_eq_true rfl) rfl rfl (Nat.le_of_ble_eq_true rfl) (hJ _ _ _ _ (by decide)) (xm_le ml_25 rfl) rfl ?_
              refine xi_iload_n (pc' := 1) (x := 7) kc_25_0 rfl rfl ?_
              refine xi_iconst (pc' := 2) (v := 0) kc_25_1 rfl rfl ?_
              refine xi_bipush (pc' := 4) (v := 11) kc_25_2 rfl rfl ?_
              refine xi_static (mj := 12) (as := [.int 7, .int 0, .int 11]) (st1 := []) (lv0 := [(0, .int 7), (1, .int 0), (2, .int 11)]) kc_25_4 rfl rfl (Nat.le_of_ble_eq_true rfl) rfl rfl (Nat.le_of_ble_eq_true rfl) (hJ _ _ _ _ (by decide)) (xm_le ml_12 rfl) rfl ?_
              refine xi_iload_n (pc' := 1) (x := 7) kc_12_0 rfl rfl ?_
              refine xi_iload_n (pc' := 2) (x := 0) kc_12_1 rfl rfl ?_
              refine xi_cmf (pc' := 5) kc_12_2 rfl rfl ?_
              refine xi_iload_n (pc' := 6) (x := 7) kc_12_5 rfl rfl ?_
              refine xi_iload_n (pc' := 7) (x := 11) kc_12_6 rfl rfl ?_
              refine xi_cmf (pc' := 10) kc_12_7 rfl rfl ?_
              refine xi_iconst (pc' := 11) (v := 1) kc_12_10 rfl rfl ?_
              refine xi_goto (pc' := 15) kc_12_11 rfl ?_
              refine xi_ireturn kc_12_15 mr_12 rfl ?_
              show xw J ov 97 25 (7, [(0, .int 7)], [.int 1], hh2) _
              refine xi_ireturn kc_25_7 mr_25 rfl ?_
              show xw J ov 98 32 (4, [(0, .ref 115), (1, .int 7)], [.int 1], hh2) _
              refine xi_iff (pc' := 7) kc_32_4 rfl rfl ?_
              refine xi_aload_n (pc' := 8) (x := 115) kc_32_7 rfl rfl ?_
              refine xi_getfield (pc' := 11) (v := .ref 125) kc_32_8 rfl rfl rfl eh2.1 rfl ?_
              refine xi_iload_n (pc' := 12) (x := 7) kc_32_11 rfl rfl ?_
              refine xi_iaload (pc' := 13) (v := (-9)) kc_32_12 rfl ((eh2.2.1 125 (by decide)).trans ((eh1.2.1 125 (by decide)).trans (F 125 _ hl_125))) (by decide) rfl (xi_in (n := 12) (by decide) (by decide)) rfl ?_
              refine xi_ift (pc' := 20) kc_32_13 rfl rfl ?_
              refine xi_iconst (pc' := 21) (v := 0) kc_32_20 rfl rfl ?_
              refine xi_ireturn kc_32_21 mr_32 rfl ?_
              show xw J ov 99 33 (41, [(0, .ref 115), (1, .int a1), (2, .int 7), (3, .int a3), (4, .int a4)], [.int 0], hh2) _
              refine xi_ift (pc' := 57) kc_33_41 rfl rfl ?_
              refine xi_aload_n (pc' := 58) (x := 115) kc_33_57 rfl rfl ?_
              refine xi_iconst (pc' := 59) (v := (-1)) kc_33_58 rfl rfl ?_
              refine xi_virtual (mj := 13) (as := [.int (-1)]) (st1 := []) (lv0 := [(0, .ref 115), (1, .int (-1))]) kc_33_59 rfl rfl rfl rfl rfl eh2.1 (Nat.le_of_ble_eq_true rfl) (hJ _ _ _ _ (by decide)) (xm_le ml_13 rfl) rfl ?_
              refine xi_aload_n (pc' := 1) (x := 115) kc_13_0 rfl rfl ?_
              refine xi_getfield (pc' := 4) (v := .ref 140) kc_13_1 rfl rfl rfl eh2.1 rfl ?_
              refine xi_iload_n (pc' := 5) (x := (-1)) kc_13_4 rfl rfl ?_
              refine xi_ineg (pc' := 6) (v := 1) kc_13_5 rfl rfl ?_
              refine xi_dup2 (pc' := 7) kc_13_6 rfl ⟨rfl, rfl⟩ ?_
              refine xi_iaload (pc' := 8) (v := 0) kc_13_7 rfl ((eh2.2.1 140 (by decide)).trans ((eh1.2.1 140 (by decide)).trans (F 140 _ hl_140))) (by decide) rfl (xi_in (n := 7) (by decide) (by decide)) rfl ?_
              refine xi_iconst (pc' := 9) (v := 1) kc_13_8 rfl rfl ?_
              refine xi_iadd (pc' := 10) (v := 1) kc_13_9 rfl rfl ?_
              refine xi_iastore (pc' := 11) (x' := [0, 1, 0, 0, 0, 0, 0]) kc_13_10 rfl ((eh2.2.1 140 (by decide)).trans ((eh1.2.1 140 (by decide)).trans (F 140 _ hl_140))) rfl (xi_in (n := 7) (by decide) (by decide)) rfl (fun hh3 eh3 => ?_)
              refine xi_iload_n (pc' := 12) (x := (-1)) kc_13_11 rfl rfl ?_
              refine xi_ireturn kc_13_12 mr_13 rfl ?_
              show xw J ov 99 33 (62, [(0, .ref 115), (1, .int a1), (2, .int 7), (3, .int a3), (4, .int a4)], [.int (-1)], hh3) _
              refine xi_ireturn kc_33_62 mr_33 rfl ?_
              show xw J ov 100 196 (707, [(4, .int 0), (3, .ref 167), (2, .ref 115), (1, .ref 0), (0, .ref 1000000)], [.int (-1), .int (-1)], hh3) _
              refine xi_cmt (pc' := 1528) kc_196_707 rfl rfl ?_
              refine xi_iinc (pc' := 1531) (x := 0) (v := 6) (lv' := [(4, .int 6), (3, .ref 167), (2, .ref 115), (1, .ref 0), (0, .ref 1000000)]) kc_196_1528 rfl rfl rfl rfl (xm_lt ml_196 rfl) ?_
              refine xi_goto (pc' := 23) kc_196_1531 rfl ?_
              refine xi_iload (pc' := 25) (x := 6) kc_196_23 rfl rfl ?_
              refine xi_aload_n (pc' := 26) (x := 1000000) kc_196_25 rfl rfl ?_
              refine xi_arraylength (pc' := 27) (n := 6) (v := 6) kc_196_26 rfl (xl_lenO (by decide) hov0 rfl) rfl ?_
              refine xi_bipush (pc' := 29) (v := 6) kc_196_27 rfl rfl ?_
              refine xi_isub (pc' := 30) (v := 0) kc_196_29 rfl rfl ?_
              refine xi_cmt (pc' := 1534) kc_196_30 rfl rfl ?_
              refine xi_iconst (pc' := 1535) (v := 1) kc_196_1534 rfl rfl ?_
              refine xi_ireturn kc_196_1535 mr_196 rfl ?_
              refine ⟨rfl, ?_, ?_⟩
              · rw [eh3.2.2.1, eh2.2.2.1, eh1.2.2.1]; exact hn0
              · rw [eh3.2.2.2, eh2.2.2.2, eh1.2.2.2]; exact hz0
            by_cases c20 : a2.toInt = 8
            · have qa2 : a2 = 8 := xc_of (Eq.trans (by omega) (show (8 : Int) = (8 : Int32).toInt by decide))
              subst qa2
              refine xi_aaload (pc' := 13) (b := 45) kc_109_12 rfl (F 3 _ hl_3) rfl (xi_in (n := 12) (by decide) (by decide)) rfl ?_
              refine xi_virtual (mj := 106) (as := []) (st1 := []) (lv0 := [(0, .ref 45)]) kc_109_13 rfl rfl rfl rfl rfl (F 45 _ hl_45) (Nat.le_of_ble_eq_true rfl) (hJ _ _ _ _ (by decide)) (xm_le ml_106 rfl) rfl ?_
              refine xi_aload_n (pc' := 1) (x := 45) kc_106_0 rfl rfl ?_
              refine xi_getfield (pc' := 4) (v := .int (-9)) kc_106_1 rfl rfl rfl (F 45 _ hl_45) rfl ?_
              refine xi_static (mj := 90) (as := [.int (-9)]) (st1 := []) (lv0 := [(0, .int (-9))]) kc_106_4 rfl rfl (Nat.le_of_ble_eq_true rfl) rfl rfl (Nat.le_of_ble_eq_true rfl) (hJ _ _ _ _ (by decide)) (xm_le ml_90 rfl) rfl ?_
              refine xi_iload_n (pc' := 1) (x := (-9)) kc_90_0 rfl rfl ?_
              refine xi_ift (pc' := 14) kc_90_1 rfl rfl ?_
              refine xi_iconst (pc' := 15) (v := 0) kc_90_14 rfl rfl ?_
              refine xi_ireturn kc_90_15 mr_90 rfl ?_
              show xw J ov 96 106 (7, [(0, .ref 45)], [.int 0], h0) _
              refine xi_ireturn kc_106_7 mr_106 rfl ?_
              show xw J ov 97 109 (16, [(0, .ref 1), (1, .int 8)], [.int 0], h0) _
              refine xi_ift (pc' := 23) kc_109_16 rfl rfl ?_
              refine xi_iconst (pc' := 24) (v := 0) kc_109_23 rfl rfl ?_
              refine xi_ireturn kc_109_24 mr_109 rfl ?_
              show xw J ov 98 119 (15, [(0, .ref 1), (1, .int a1), (2, .int 8)], [.int 0], h0) _
              refine xi_ift (pc' := 38) kc_119_15 rfl rfl ?_
              refine xi_iconst (pc' := 39) (v := 0) kc_119_38 rfl rfl ?_
              refine xi_ireturn kc_119_39 mr_119 rfl ?_
              show xw J ov 99 117 (23, [(0, .ref 0), (1, .int a1), (2, .int 8), (3, .int a3), (4, .int a4)], [.int 0], h0) _
              refine xi_iff (pc' := 26) kc_117_23 rfl rfl ?_
              refine xi_aload_n (pc' := 27) (x := 0) kc_117_26 rfl rfl ?_
              refine xi_iconst (pc' := 28) (v := (-1)) kc_117_27 rfl rfl ?_
              refine xi_virtual (mj := 91) (as := [.int (-1)]) (st1 := []) (lv0 := [(0, .ref 0), (1, .int (-1))]) kc_117_28 rfl rfl rfl rfl rfl (F 0 _ hl_0) (Nat.le_of_ble_eq_true rfl) (hJ _ _ _ _ (by decide)) (xm_le ml_91 rfl) rfl ?_
              refine xi_iload_n (pc' := 1) (x := (-1)) kc_91_0 rfl rfl ?_
              refine xi_ineg (pc' := 2) (v := 1) kc_91_1 rfl rfl ?_
              refine xi_istore_n (pc' := 3) (lv' := [(2, .int 1), (0, .ref 0), (1, .int (-1))]) kc_91_2 rfl rfl (xm_lt ml_91 rfl) ?_
              refine xi_iload_n (pc' := 4) (x := 1) kc_91_3 rfl rfl ?_
              refine xi_iff (pc' := 7) kc_91_4 rfl rfl ?_
              refine xi_iload_n (pc' := 8) (x := 1) kc_91_7 rfl rfl ?_
              refine xi_aload_n (pc' := 9) (x := 0) kc_91_8 rfl rfl ?_
              refine xi_getfield (pc' := 12) (v := .ref 94) kc_91_9 rfl rfl rfl (F 0 _ hl_0) rfl ?_
              refine xi_arraylength (pc' := 13) (n := 7) (v := 7) kc_91_12 rfl (xl_lenI (by decide) (by decide) (F 94 _ hl_94) (by simp only [List.length_replicate, List.length_cons, List.length_nil])) rfl ?_
              refine xi_cmf (pc' := 16) kc_91_13 rfl rfl ?_
              refine xi_aload_n (pc' := 17) (x := 0) kc_91_16 rfl rfl ?_
              refine xi_getfield (pc' := 20) (v := .ref 94) kc_91_17 rfl rfl rfl (F 0 _ hl_0) rfl ?_
              refine xi_iload_n (pc' := 21) (x := 1) kc_91_20 rfl rfl ?_
              refine xi_dup2 (pc' := 22) kc_91_21 rfl ⟨rfl, rfl⟩ ?_
              refine xi_iaload (pc' := 23) (v := 0) kc_91_22 rfl (F 94 _ hl_94) (by decide) rfl (xi_in (n := 7) (by decide) (by decide)) rfl ?_
              refine xi_iconst (pc' := 24) (v := 1) kc_91_23 rfl rfl ?_
              refine xi_iadd (pc' := 25) (v := 1) kc_91_24 rfl rfl ?_
              refine xi_iastore (pc' := 26) (x' := [0, 1, 0, 0, 0, 0, 0]) kc_91_25 rfl (F 94 _ hl_94) rfl (xi_in (n := 7) (by decide) (by decide)) rfl (fun hh1 eh1 => ?_)
              refine xi_iload_n (pc' := 27) (x := (-1)) kc_91_26 rfl rfl ?_
              refine xi_ireturn kc_91_27 mr_91 rfl ?_
              show xw J ov 99 117 (31, [(0, .ref 0), (1, .int a1), (2, .int 8), (3, .int a3), (4, .int a4)], [.int (-1)], hh1) _
              refine xi_ireturn kc_117_31 mr_117 rfl ?_
              show xw J ov 100 196 (679, [(4, .int 0), (3, .ref 167), (2, .ref 115), (1, .ref 0), (0, .ref 1000000)], [.int (-1)], hh1) _
              refine xi_aload_n (pc' := 680) (x := 115) kc_196_679 rfl rfl ?_
              refine xi_aload_n (pc' := 681) (x := 1000000) kc_196_680 rfl rfl ?_
              refine xi_iload (pc' := 683) (x := 0) kc_196_681 rfl rfl ?_
              refine xi_iconst (pc' := 684) (v := 1) kc_196_683 rfl rfl ?_
              refine xi_iadd (pc' := 685) (v := 1) kc_196_684 rfl rfl ?_
              refine xi_ialoadO (pc' := 686) (v := a1) kc_196_685 rfl (by decide) hov0 (xi_in (n := 6) (by decide) (by decide)) rfl ?_
              refine xi_aload_n (pc' := 687) (x := 1000000) kc_196_686 rfl rfl ?_
              refine xi_iload (pc' := 689) (x := 0) kc_196_687 rfl rfl ?_
              refine xi_iconst (pc' := 690) (v := 2) kc_196_689 rfl rfl ?_
              refine xi_iadd (pc' := 691) (v := 2) kc_196_690 rfl rfl ?_
              refine xi_ialoadO (pc' := 692) (v := 8) kc_196_691 rfl (by decide) hov0 (xi_in (n := 6) (by decide) (by decide)) rfl ?_
              refine xi_aload_n (pc' := 693) (x := 1000000) kc_196_692 rfl rfl ?_
              refine xi_iload (pc' := 695) (x := 0) kc_196_693 rfl rfl ?_
              refine xi_iconst (pc' := 696) (v := 3) kc_196_695 rfl rfl ?_
              refine xi_iadd (pc' := 697) (v := 3) kc_196_696 rfl rfl ?_
              refine xi_ialoadO (pc' := 698) (v := a3) kc_196_697 rfl (by decide) hov0 (xi_in (n := 6) (by decide) (by decide)) rfl ?_
              refine xi_aload_n (pc' := 699) (x := 1000000) kc_196_698 rfl rfl ?_
              refine xi_iload (pc' := 701) (x := 0) kc_196_699 rfl rfl ?_
              refine xi_iconst (pc' := 702) (v := 4) kc_196_701 rfl rfl ?_
              refine xi_iadd (pc' := 703) (v := 4) kc_196_702 rfl rfl ?_
              refine xi_ialoadO (pc' := 704) (v := a4) kc_196_703 rfl (by decide) hov0 (xi_in (n := 6) (by decide) (by decide)) rfl ?_
              refine xi_virtual (mj := 33) (as := [.int a1, .int 8, .int a3, .int a4]) (st1 := [.int (-1)]) (lv0 := [(0, .ref 115), (1, .int a1), (2, .int 8), (3, .int a3), (4, .int a4)]) kc_196_704 rfl rfl rfl rfl rfl ((eh1.2.1 115 (by decide)).trans (F 115 _ hl_115)) (Nat.le_of_ble_eq_true rfl) (hJ _ _ _ _ (by decide)) (xm_le ml_33 rfl) rfl ?_
              refine xi_aload_n (pc' := 1) (x := 115) kc_33_0 rfl rfl ?_
              refine xi_iconst (pc' := 2) (v := 0) kc_33_1 rfl rfl ?_
              refine xi_putfield (pc' := 5) (fs' := [.int 0, .int 0, .ref 116, .ref 117, .ref 118, .ref 119, .ref 120, .ref 121, .ref 122, .ref 123, .ref 124, .ref 125, .ref 126, .ref 127, .ref 128, .ref 129, .int 4, .ref 130, .int 0, .ref 131, .ref 132, .ref 133, .ref 134, .int 0, .ref 135, .ref 136, .ref 137, .ref 138, .ref 139, .ref 140, .ref 141, .ref 142, .int 0, .int 0, .int 0, .ref 143, .ref 144, .ref 145, .ref 146, .ref 147, .ref 148, .int 0, .ref 149, .ref 150, .ref 151, .int 0, .ref 152, .ref 153, .ref 154, .ref 155, .ref 156, .ref 157, .ref 158, .ref 159, .int 0, .ref 160, .int 0, .ref 161, .ref 162, .ref 163, .ref 164, .int 0, .ref 165, .ref 166]) kc_33_2 rfl rfl rfl ((eh1.2.1 115 (by decide)).trans (F 115 _ hl_115)) rfl rfl rfl (Nat.le_of_ble_eq_true rfl) rfl (fun hh2 eh2 => ?_)
              refine xi_iload_n (pc' := 6) (x := a1) kc_33_5 rfl rfl ?_
              refine xi_iconst (pc' := 7) (v := 0) kc_33_6 rfl rfl ?_
              refine xi_iconst (pc' := 8) (v := 3) kc_33_7 rfl rfl ?_
              refine xi_static (mj := 12) (as := [.int a1, .int 0, .int 3]) (st1 := []) (lv0 := [(0, .int a1), (1, .int 0), (2, .int 3)]) kc_33_8 rfl rfl (Nat.le_of_ble_eq_true rfl) rfl rfl (Nat.le_of_ble_eq_true rfl) (hJ _ _ _ _ (by decide)) (xm_le ml_12 rfl) rfl ?_
              refine xi_iload_n (pc' := 1) (x := a1) kc_12_0 rfl rfl ?_
              refine xi_iload_n (pc' := 2) (x := 0) kc_12_1 rfl rfl ?_
              refine xi_cmf (pc' := 5) kc_12_2 rfl (xc_lt_f (X := a1.toInt) (Y := 0) rfl (by decide) (by omega)) ?_
              refine xi_iload_n (pc' := 6) (x := a1) kc_12_5 rfl rfl ?_
              refine xi_iload_n (pc' := 7) (x := 3) kc_12_6 rfl rfl ?_
              refine xi_cmf (pc' := 10) kc_12_7 rfl (xc_gt_f (X := a1.toInt) (Y := 3) rfl (by decide) (by omega)) ?_
              refine xi_iconst (pc' := 11) (v := 1) kc_12_10 rfl rfl ?_
              refine xi_goto (pc' := 15) kc_12_11 rfl ?_
              refine xi_ireturn kc_12_15 mr_12 rfl ?_
              show xw J ov 99 33 (11, [(0, .ref 115), (1, .int a1), (2, .int 8), (3, .int a3), (4, .int a4)], [.int 1], hh2) _
              refine xi_ift (pc' := 21) kc_33_11 rfl rfl ?_
              refine xi_iload_n (pc' := 22) (x := a1) kc_33_21 rfl rfl ?_
              refine xi_iconst (pc' := 23) (v := 3) kc_33_22 rfl rfl ?_
              refine xi_cmt (pc' := 36) kc_33_23 rfl (xc_ne_t (X := a1.toInt) (Y := 3) rfl (by decide) (by omega)) ?_
              refine xi_aload_n (pc' := 37) (x := 115) kc_33_36 rfl rfl ?_
              refine xi_iload_n (pc' := 38) (x := 8) kc_33_37 rfl rfl ?_
              refine xi_virtual (mj := 32) (as := [.int 8]) (st1 := []) (lv0 := [(0, .ref 115), (1, .int 8)]) kc_33_38 rfl rfl rfl rfl rfl eh2.1 (Nat.le_of_ble_eq_true rfl) (hJ _ _ _ _ (by decide)) (xm_le ml_32 rfl) rfl ?_
              refine xi_iload_n (pc' := 1) (x := 8) kc_32_0 rfl rfl ?_
              refine xi_static (mj := 25) (as := [.int 8]) (st1 := []) (lv0 := [(0, .int 8)]) kc_32_1 rfl rfl (Nat.le_of_ble_eq_true rfl) rfl rfl (Nat.le_of_ble_eq_true rfl) (hJ _ _ _ _ (by decide)) (xm_le ml_25 rfl) rfl ?_
              refine xi_iload_n (pc' := 1) (x := 8) kc_25_0 rfl rfl ?_
              refine xi_iconst (pc' := 2) (v := 0) kc_25_1 rfl rfl ?_
              refine xi_bipush (pc' := 4) (v := 11) kc_25_2 rfl rfl ?_
              refine xi_static (mj := 12) (as := [.int 8, .int 0, .int 11]) (st1 := []) (lv0 := [(0, .int 8), (1, .int 0), (2, .int 11)]) kc_25_4 rfl rfl (Nat.le_of_ble_eq_true rfl) rfl rfl (Nat.le_of_ble_eq_true rfl) (hJ _ _ _ _ (by decide)) (xm_le ml_12 rfl) rfl ?_
              refine xi_iload_n (pc' := 1) (x := 8) kc_12_0 rfl rfl ?_
              refine xi_iload_n (pc' := 2) (x := 0) kc_12_1 rfl rfl ?_
              refine xi_cmf (pc' := 5) kc_12_2 rfl rfl ?_
              refine xi_iload_n (pc' := 6) (x := 8) kc_12_5 rfl rfl ?_
              refine xi_iload_n (pc' := 7) (x := 11) kc_12_6 rfl rfl ?_
              refine xi_cmf (pc' := 10) kc_12_7 rfl rfl ?_
              refine xi_iconst (pc' := 11) (v := 1) kc_12_10 rfl rfl ?_
              refine xi_goto (pc' := 15) kc_12_11 rfl ?_
              refine xi_ireturn kc_12_15 mr_12 rfl ?_
              show xw J ov 97 25 (7, [(0, .int 8)], [.int 1], hh2) _
              refine xi_ireturn kc_25_7 mr_25 rfl ?_
              show xw J ov 98 32 (4, [(0, .ref 115), (1, .int 8)], [.int 1], hh2) _
              refine xi_iff (pc' := 7) kc_32_4 rfl rfl ?_
              refine xi_aload_n (pc' := 8) (x := 115) kc_32_7 rfl rfl ?_
              refine xi_getfield (pc' := 11) (v := .ref 125) kc_32_8 rfl rfl rfl eh2.1 rfl ?_
              refine xi_iload_n (pc' := 12) (x := 8) kc_32_11 rfl rfl ?_
              refine xi_iaload (pc' := 13) (v := (-9)) kc_32_12 rfl ((eh2.2.1 125 (by decide)).trans ((eh1.2.1 125 (by decide)).trans (F 125 _ hl_125))) (by decide) rfl (xi_in (n := 12) (by decide) (by decide)) rfl ?_
              refine xi_ift (pc' := 20) kc_32_13 rfl rfl ?_
              refine xi_iconst (pc' := 21) (v := 0) kc_32_20 rfl rfl ?_
              refine xi_ireturn kc_32_21 mr_32 rfl ?_
              show xw J ov 99 33 (41, [(0, .ref 115), (1, .int a1), (2, .int 8), (3, .int a3), (4, .int a4)], [.int 0], hh2) _
              refine xi_ift (pc' := 57) kc_33_41 rfl rfl ?_
              refine xi_aload_n (pc' := 58) (x := 115) kc_33_57 rfl rfl ?_
              refine xi_iconst (pc' := 59) (v := (-1)) kc_33_58 rfl rfl ?_
              refine xi_virtual (mj := 13) (as := [.int (-1)]) (st1 := []) (lv0 := [(0, .ref 115), (1, .int (-1))]) kc_33_59 rfl rfl rfl rfl rfl eh2.1 (Nat.le_of_ble_eq_true rfl) (hJ _ _ _ _ (by decide)) (xm_le ml_13 rfl) rfl ?_
              refine xi_aload_n (pc' := 1) (x := 115) kc_13_0 rfl rfl ?_
              refine xi_getfield (pc' := 4) (v := .ref 140) kc_13_1 rfl rfl rfl eh2.1 rfl ?_
              refine xi_iload_n (pc' := 5) (x := (-1)) kc_13_4 rfl rfl ?_
              refine xi_ineg (pc' := 6) (v := 1) kc_13_5 rfl rfl ?_
              refine xi_dup2 (pc' := 7) kc_13_6 rfl ⟨rfl, rfl⟩ ?_
              refine xi_iaload (pc' := 8) (v := 0) kc_13_7 rfl ((eh2.2.1 140 (by decide)).trans ((eh1.2.1 140 (by decide)).trans (F 140 _ hl_140))) (by decide) rfl (xi_in (n := 7) (by decide) (by decide)) rfl ?_
              refine xi_iconst (pc' := 9) (v := 1) kc_13_8 rfl rfl ?_
              refine xi_iadd (pc' := 10) (v := 1) kc_13_9 rfl rfl ?_
              refine xi_iastore (pc' := 11) (x' := [0, 1, 0, 0, 0, 0, 0]) kc_13_10 rfl ((eh2.2.1 140 (by decide)).trans ((eh1.2.1 140 (by decide)).trans (F 140 _ hl_140))) rfl (xi_in (n := 7) (by decide) (by decide)) rfl (fun hh3 eh3 => ?_)
              refine xi_iload_n (pc' := 12) (x := (-1)) kc_13_11 rfl rfl ?_
              refine xi_ireturn kc_13_12 mr_13 rfl ?_
              show xw J ov 99 33 (62, [(0, .ref 115), (1, .int a1), (2, .int 8), (3, .int a3), (4, .int a4)], [.int (-1)], hh3) _
              refine xi_ireturn kc_33_62 mr_33 rfl ?_
              show xw J ov 100 196 (707, [(4, .int 0), (3, .ref 167), (2, .ref 115), (1, .ref 0), (0, .ref 1000000)], [.int (-1), .int (-1)], hh3) _
              refine xi_cmt (pc' := 1528) kc_196_707 rfl rfl ?_
              refine xi_iinc (pc' := 1531) (x := 0) (v := 6) (lv' := [(4, .int 6), (3, .ref 167), (2, .ref 115), (1, .ref 0), (0, .ref 1000000)]) kc_196_1528 rfl rfl rfl rfl (xm_lt ml_196 rfl) ?_
              refine xi_goto (pc' := 23) kc_196_1531 rfl ?_
              refine xi_iload (pc' := 25) (x := 6) kc_196_23 rfl rfl ?_
              refine xi_aload_n (pc' := 26) (x := 1000000) kc_196_25 rfl rfl ?_
              refine xi_arraylength (pc' := 27) (n := 6) (v := 6) kc_196_26 rfl (xl_lenO (by decide) hov0 rfl) rfl ?_
              refine xi_bipush (pc' := 29) (v := 6) kc_196_27 rfl rfl ?_
              refine xi_isub (pc' := 30) (v := 0) kc_196_29 rfl rfl ?_
              refine xi_cmt (pc' := 1534) kc_196_30 rfl rfl ?_
              refine xi_iconst (pc' := 1535) (v := 1) kc_196_1534 rfl rfl ?_
              refine xi_ireturn kc_196_1535 mr_196 rfl ?_
              refine ⟨rfl, ?_, ?_⟩
              · rw [eh3.2.2.1, eh2.2.2.1, eh1.2.2.1]; exact hn0
              · rw [eh3.2.2.2, eh2.2.2.2, eh1.2.2.2]; exact hz0
            by_cases c21 : a2.toInt = 9
            · have qa2 : a2 = 9 := xc_of (Eq.trans (by omega) (show (9 : Int) = (9 : Int32).toInt by decide))
              subst qa2
              refine xi_aaload (pc' := 13) (b := 47) kc_109_12 rfl (F 3 _ hl_3) rfl (xi_in (n := 12) (by decide) (by decide)) rfl ?_
              refine xi_virtual (mj := 106) (as := []) (st1 := []) (lv0 := [(0, .ref 47)]) kc_109_13 rfl rfl rfl rfl rfl (F 47 _ hl_47) (Nat.le_of_ble_eq_true rfl) (hJ _ _ _ _ (by decide)) (xm_le ml_106 rfl) rfl ?_
              refine xi_aload_n (pc' := 1) (x := 47) kc_106_0 rfl rfl ?_
              refine xi_getfield (pc' := 4) (v := .int (-9)) kc_106_1 rfl rfl rfl (F 47 _ hl_47) rfl ?_
              refine xi_static (mj := 90) (as := [.int (-9)]) (st1 := []) (lv0 := [(0, .int (-9))]) kc_106_4 rfl rfl (Nat.le_of_ble_eq_true rfl) rfl rfl (Nat.le_of_ble_eq_true rfl) (hJ _ _ _ _ (by decide)) (xm_le ml_90 rfl) rfl ?_
              refine xi_iload_n (pc' := 1) (x := (-9)) kc_90_0 rfl rfl ?_
              refine xi_ift (pc' := 14) kc_90_1 rfl rfl ?_
              refine xi_iconst (pc' := 15) (v := 0) kc_90_14 rfl rfl ?_
              refine xi_ireturn kc_90_15 mr_90 rfl ?_
              show xw J ov 96 106 (7, [(0, .ref 47)], [.int 0], h0) _
              refine xi_ireturn kc_106_7 mr_106 rfl ?_
              show xw J ov 97 109 (16, [(0, .ref 1), (1, .int 9)], [.int 0], h0) _
              refine xi_ift (pc' := 23) kc_109_16 rfl rfl ?_
              refine xi_iconst (pc' := 24) (v := 0) kc_109_23 rfl rfl ?_
              refine xi_ireturn kc_109_24 mr_109 rfl ?_
              show xw J ov 98 119 (15, [(0, .ref 1), (1, .int a1), (2, .int 9)], [.int 0], h0) _
              refine xi_ift (pc' := 38) kc_119_15 rfl rfl ?_
              refine xi_iconst (pc' := 39) (v := 0) kc_119_38 rfl rfl ?_
              refine xi_ireturn kc_119_39 mr_119 rfl ?_
              show xw J ov 99 117 (23, [(0, .ref 0), (1, .int a1), (2, .int 9), (3, .int a3), (4, .int a4)], [.int 0], h0) _
              refine xi_iff (pc' := 26) kc_117_23 rfl rfl ?_
              refine xi_aload_n (pc' := 27) (x := 0) kc_117_26 rfl rfl ?_
              refine xi_iconst (pc' := 28) (v := (-1)) kc_117_27 rfl rfl ?_
              refine xi_virtual (mj := 91) (as := [.int (-1)]) (st1 := []) (lv0 := [(0, .ref 0), (1, .int (-1))]) kc_117_28 rfl rfl rfl rfl rfl (F 0 _ hl_0) (Nat.le_of_ble_eq_true rfl) (hJ _ _ _ _ (by decide)) (xm_le ml_91 rfl) rfl ?_
              refine xi_iload_n (pc' := 1) (x := (-1)) kc_91_0 rfl rfl ?_
              refine xi_ineg (pc' := 2) (v := 1) kc_91_1 rfl rfl ?_
              refine xi_istore_n (pc' := 3) (lv' := [(2, .int 1), (0, .ref 0), (1, .int (-1))]) kc_91_2 rfl rfl (xm_lt ml_91 rfl) ?_
              refine xi_iload_n (pc' := 4) (x := 1) kc_91_3 rfl rfl ?_
              refine xi_iff (pc' := 7) kc_91_4 rfl rfl ?_
              refine xi_iload_n (pc' := 8) (x := 1) kc_91_7 rfl rfl ?_
              refine xi_aload_n (pc' := 9) (x := 0) kc_91_8 rfl rfl ?_
              refine xi_getfield (pc' := 12) (v := .ref 94) kc_91_9 rfl rfl rfl (F 0 _ hl_0) rfl ?_
              refine xi_arraylength (pc' := 13) (n := 7) (v := 7) kc_91_12 rfl (xl_lenI (by decide) (by decide) (F 94 _ hl_94) (by simp only [List.length_replicate, List.length_cons, List.length_nil])) rfl ?_
              refine xi_cmf (pc' := 16) kc_91_13 rfl rfl ?_
              refine xi_aload_n (pc' := 17) (x := 0) kc_91_16 rfl rfl ?_
              refine xi_getfield (pc' := 20) (v := .ref 94) kc_91_17 rfl rfl rfl (F 0 _ hl_0) rfl ?_
              refine xi_iload_n (pc' := 21) (x := 1) kc_91_20 rfl rfl ?_
              refine xi_dup2 (pc' := 22) kc_91_21 rfl ⟨rfl, rfl⟩ ?_
              refine xi_iaload (pc' := 23) (v := 0) kc_91_22 rfl (F 94 _ hl_94) (by decide) rfl (xi_in (n := 7) (by decide) (by decide)) rfl ?_
              refine xi_iconst (pc' := 24) (v := 1) kc_91_23 rfl rfl ?_
              refine xi_iadd (pc' := 25) (v := 1) kc_91_24 rfl rfl ?_
              refine xi_iastore (pc' := 26) (x' := [0, 1, 0, 0, 0, 0, 0]) kc_91_25 rfl (F 94 _ hl_94) rfl (xi_in (n := 7) (by decide) (by decide)) rfl (fun hh1 eh1 => ?_)
              refine xi_iload_n (pc' := 27) (x := (-1)) kc_91_26 rfl rfl ?_
              refine xi_ireturn kc_91_27 mr_91 rfl ?_
              show xw J ov 99 117 (31, [(0, .ref 0), (1, .int a1), (2, .int 9), (3, .int a3), (4, .int a4)], [.int (-1)], hh1) _
              refine xi_ireturn kc_117_31 mr_117 rfl ?_
              show xw J ov 100 196 (679, [(4, .int 0), (3, .ref 167), (2, .ref 115), (1, .ref 0), (0, .ref 1000000)], [.int (-1)], hh1) _
              refine xi_aload_n (pc' := 680) (x := 115) kc_196_679 rfl rfl ?_
              refine xi_aload_n (pc' := 681) (x := 1000000) kc_196_680 rfl rfl ?_
              refine xi_iload (pc' := 683) (x := 0) kc_196_681 rfl rfl ?_
              refine xi_iconst (pc' := 684) (v := 1) kc_196_683 rfl rfl ?_
              refine xi_iadd (pc' := 685) (v := 1) kc_196_684 rfl rfl ?_
              refine xi_ialoadO (pc' := 686) (v := a1) kc_196_685 rfl (by decide) hov0 (xi_in (n := 6) (by decide) (by decide)) rfl ?_
              refine xi_aload_n (pc' := 687) (x := 1000000) kc_196_686 rfl rfl ?_
              refine xi_iload (pc' := 689) (x := 0) kc_196_687 rfl rfl ?_
              refine xi_iconst (pc' := 690) (v := 2) kc_196_689 rfl rfl ?_
              refine xi_iadd (pc' := 691) (v := 2) kc_196_690 rfl rfl ?_
              refine xi_ialoadO (pc' := 692) (v := 9) kc_196_691 rfl (by decide) hov0 (xi_in (n := 6) (by decide) (by decide)) rfl ?_
              refine xi_aload_n (pc' := 693) (x := 1000000) kc_196_692 rfl rfl ?_
              refine xi_iload (pc' := 695) (x := 0) kc_196_693 rfl rfl ?_
              refine xi_iconst (pc' := 696) (v := 3) kc_196_695 rfl rfl ?_
              refine xi_iadd (pc' := 697) (v := 3) kc_196_696 rfl rfl ?_
              refine xi_ialoadO (pc' := 698) (v := a3) kc_196_697 rfl (by decide) hov0 (xi_in (n := 6) (by decide) (by decide)) rfl ?_
              refine xi_aload_n (pc' := 699) (x := 1000000) kc_196_698 rfl rfl ?_
              refine xi_iload (pc' := 701) (x := 0) kc_196_699 rfl rfl ?_
              refine xi_iconst (pc' := 702) (v := 4) kc_196_701 rfl rfl ?_
              refine xi_iadd (pc' := 703) (v := 4) kc_196_702 rfl rfl ?_
              refine xi_ialoadO (pc' := 704) (v := a4) kc_196_703 rfl (by decide) hov0 (xi_in (n := 6) (by decide) (by decide)) rfl ?_
              refine xi_virtual (mj := 33) (as := [.int a1, .int 9, .int a3, .int a4]) (st1 := [.int (-1)]) (lv0 := [(0, .ref 115), (1, .int a1), (2, .int 9), (3, .int a3), (4, .int a4)]) kc_196_704 rfl rfl rfl rfl rfl ((eh1.2.1 115 (by decide)).trans (F 115 _ hl_115)) (Nat.le_of_ble_eq_true rfl) (hJ _ _ _ _ (by decide)) (xm_le ml_33 rfl) rfl ?_
              refine xi_aload_n (pc' := 1) (x := 115) kc_33_0 rfl rfl ?_
              refine xi_iconst (pc' := 2) (v := 0) kc_33_1 rfl rfl ?_
              refine xi_putfield (pc' := 5) (fs' := [.int 0, .int 0, .ref 116, .ref 117, .ref 118, .ref 119, .ref 120, .ref 121, .ref 122, .ref 123, .ref 124, .ref 125, .ref 126, .ref 127, .ref 128, .ref 129, .int 4, .ref 130, .int 0, .ref 131, .ref 132, .ref 133, .ref 134, .int 0, .ref 135, .ref 136, .ref 137, .ref 138, .ref 139, .ref 140, .ref 141, .ref 142, .int 0, .int 0, .int 0, .ref 143, .ref 144, .ref 145, .ref 146, .ref 147, .ref 148, .int 0, .ref 149, .ref 150, .ref 151, .int 0, .ref 152, .ref 153, .ref 154, .ref 155, .ref 156, .ref 157, .ref 158, .ref 159, .int 0, .ref 160, .int 0, .ref 161, .ref 162, .ref 163, .ref 164, .int 0, .ref 165, .ref 166]) kc_33_2 rfl rfl rfl ((eh1.2.1 115 (by decide)).trans (F 115 _ hl_115)) rfl rfl rfl (Nat.le_of_ble_eq_true rfl) rfl (fun hh2 eh2 => ?_)
              refine xi_iload_n (pc' := 6) (x := a1) kc_33_5 rfl rfl ?_
              refine xi_iconst (pc' := 7) (v := 0) kc_33_6 rfl rfl ?_
              refine xi_iconst (pc' := 8) (v := 3) kc_33_7 rfl rfl ?_
              refine xi_static (mj := 12) (as := [.int a1, .int 0, .int 3]) (st1 := []) (lv0 := [(0, .int a1), (1, .int 0), (2, .int 3)]) kc_33_8 rfl rfl (Nat.le_of_ble_eq_true rfl) rfl rfl (Nat.le_of_ble_eq_true rfl) (hJ _ _ _ _ (by decide)) (xm_le ml_12 rfl) rfl ?_
              refine xi_iload_n (pc' := 1) (x := a1) kc_12_0 rfl rfl ?_
              refine xi_iload_n (pc' := 2) (x := 0) kc_12_1 rfl rfl ?_
              refine xi_cmf (pc' := 5) kc_12_2 rfl (xc_lt_f (X := a1.toInt) (Y := 0) rfl (by decide) (by omega)) ?_
              refine xi_iload_n (pc' := 6) (x := a1) kc_12_5 rfl rfl ?_
              refine xi_iload_n (pc' := 7) (x := 3) kc_12_6 rfl rfl ?_
              refine xi_cmf (pc' := 10) kc_12_7 rfl (xc_gt_f (X := a1.toInt) (Y := 3) rfl (by decide) (by omega)) ?_
              refine xi_iconst (pc' := 11) (v := 1) kc_12_10 rfl rfl ?_
              refine xi_goto (pc' := 15) kc_12_11 rfl ?_
              refine xi_ireturn kc_12_15 mr_12 rfl ?_
              show xw J ov 99 33 (11, [(0, .ref 115), (1, .int a1), (2, .int 9), (3, .int a3), (4, .int a4)], [.int 1], hh2) _
              refine xi_ift (pc' := 21) kc_33_11 rfl rfl ?_
              refine xi_iload_n (pc' := 22) (x := a1) kc_33_21 rfl rfl ?_
              refine xi_iconst (pc' := 23) (v := 3) kc_33_22 rfl rfl ?_
              refine xi_cmt (pc' := 36) kc_33_23 rfl (xc_ne_t (X := a1.toInt) (Y := 3) rfl (by decide) (by omega)) ?_
              refine xi_aload_n (pc' := 37) (x := 115) kc_33_36 rfl rfl ?_
              refine xi_iload_n (pc' := 38) (x := 9) kc_33_37 rfl rfl ?_
              refine xi_virtual (mj := 32) (as := [.int 9]) (st1 := []) (lv0 := [(0, .ref 115), (1, .int 9)]) kc_33_38 rfl rfl rfl rfl rfl eh2.1 (Nat.le_of_ble_eq_true rfl) (hJ _ _ _ _ (by decide)) (xm_le ml_32 rfl) rfl ?_
              refine xi_iload_n (pc' := 1) (x := 9) kc_32_0 rfl rfl ?_
              refine xi_static (mj := 25) (as := [.int 9]) (st1 := []) (lv0 := [(0, .int 9)]) kc_32_1 rfl rfl (Nat.le_of_ble_eq_true rfl) rfl rfl (Nat.le_of_ble_eq_true rfl) (hJ _ _ _ _ (by decide)) (xm_le ml_25 rfl) rfl ?_
              refine xi_iload_n (pc' := 1) (x := 9) kc_25_0 rfl rfl ?_
              refine xi_iconst (pc' := 2) (v := 0) kc_25_1 rfl rfl ?_
              refine xi_bipush (pc' := 4) (v := 11) kc_25_2 rfl rfl ?_
              refine xi_static (mj := 12) (as := [.int 9, .int 0, .int 11]) (st1 := []) (lv0 := [(0, .int 9), (1, .int 0), (2, .int 11)]) kc_25_4 rfl rfl (Nat.le_of_ble_eq_true rfl) rfl rfl (Nat.le_of_ble_eq_true rfl) (hJ _ _ _ _ (by decide)) (xm_le ml_12 rfl) rfl ?_
              refine xi_iload_n (pc' := 1) (x := 9) kc_12_0 rfl rfl ?_
              refine xi_iload_n (pc' := 2) (x := 0) kc_12_1 rfl rfl ?_
              refine xi_cmf (pc' := 5) kc_12_2 rfl rfl ?_
              refine xi_iload_n (pc' := 6) (x := 9) kc_12_5 rfl rfl ?_
              refine xi_iload_n (pc' := 7) (x := 11) kc_12_6 rfl rfl ?_
              refine xi_cmf (pc' := 10) kc_12_7 rfl rfl ?_
              refine xi_iconst (pc' := 11) (v := 1) kc_12_10 rfl rfl ?_
              refine xi_goto (pc' := 15) kc_12_11 rfl ?_
              refine xi_ireturn kc_12_15 mr_12 rfl ?_
              show xw J ov 97 25 (7, [(0, .int 9)], [.int 1], hh2) _
              refine xi_ireturn kc_25_7 mr_25 rfl ?_
              show xw J ov 98 32 (4, [(0, .ref 115), (1, .int 9)], [.int 1], hh2) _
              refine xi_iff (pc' := 7) kc_32_4 rfl rfl ?_
              refine xi_aload_n (pc' := 8) (x := 115) kc_32_7 rfl rfl ?_
              refine xi_getfield (pc' := 11) (v := .ref 125) kc_32_8 rfl rfl rfl eh2.1 rfl ?_
              refine xi_iload_n (pc' := 12) (x := 9) kc_32_11 rfl rfl ?_
              refine xi_iaload (pc' := 13) (v := (-9)) kc_32_12 rfl ((eh2.2.1 125 (by decide)).trans ((eh1.2.1 125 (by decide)).trans (F 125 _ hl_125))) (by decide) rfl (xi_in (n := 12) (by decide) (by decide)) rfl ?_
              refine xi_ift (pc' := 20) kc_32_13 rfl rfl ?_
              refine xi_iconst (pc' := 21) (v := 0) kc_32_20 rfl rfl ?_
              refine xi_ireturn kc_32_21 mr_32 rfl ?_
              show xw J ov 99 33 (41, [(0, .ref 115), (1, .int a1), (2, .int 9), (3, .int a3), (4, .int a4)], [.int 0], hh2) _
              refine xi_ift (pc' := 57) kc_33_41 rfl rfl ?_
              refine xi_aload_n (pc' := 58) (x := 115) kc_33_57 rfl rfl ?_
              refine xi_iconst (pc' := 59) (v := (-1)) kc_33_58 rfl rfl ?_
              refine xi_virtual (mj := 13) (as := [.int (-1)]) (st1 := []) (lv0 := [(0, .ref 115), (1, .int (-1))]) kc_33_59 rfl rfl rfl rfl rfl eh2.1 (Nat.le_of_ble_eq_true rfl) (hJ _ _ _ _ (by decide)) (xm_le ml_13 rfl) rfl ?_
              refine xi_aload_n (pc' := 1) (x := 115) kc_13_0 rfl rfl ?_
              refine xi_getfield (pc' := 4) (v := .ref 140) kc_13_1 rfl rfl rfl eh2.1 rfl ?_
              refine xi_iload_n (pc' := 5) (x := (-1)) kc_13_4 rfl rfl ?_
              refine xi_ineg (pc' := 6) (v := 1) kc_13_5 rfl rfl ?_
              refine xi_dup2 (pc' := 7) kc_13_6 rfl ⟨rfl, rfl⟩ ?_
              refine xi_iaload (pc' := 8) (v := 0) kc_13_7 rfl ((eh2.2.1 140 (by decide)).trans ((eh1.2.1 140 (by decide)).trans (F 140 _ hl_140))) (by decide) rfl (xi_in (n := 7) (by decide) (by decide)) rfl ?_
              refine xi_iconst (pc' := 9) (v := 1) kc_13_8 rfl rfl ?_
              refine xi_iadd (pc' := 10) (v := 1) kc_13_9 rfl rfl ?_
              refine xi_iastore (pc' := 11) (x' := [0, 1, 0, 0, 0, 0, 0]) kc_13_10 rfl ((eh2.2.1 140 (by decide)).trans ((eh1.2.1 140 (by decide)).trans (F 140 _ hl_140))) rfl (xi_in (n := 7) (by decide) (by decide)) rfl (fun hh3 eh3 => ?_)
              refine xi_iload_n (pc' := 12) (x := (-1)) kc_13_11 rfl rfl ?_
              refine xi_ireturn kc_13_12 mr_13 rfl ?_
              show xw J ov 99 33 (62, [(0, .ref 115), (1, .int a1), (2, .int 9), (3, .int a3), (4, .int a4)], [.int (-1)], hh3) _
              refine xi_ireturn kc_33_62 mr_33 rfl ?_
              show xw J ov 100 196 (707, [(4, .int 0), (3, .ref 167), (2, .ref 115), (1, .ref 0), (0, .ref 1000000)], [.int (-1), .int (-1)], hh3) _
              refine xi_cmt (pc' := 1528) kc_196_707 rfl rfl ?_
              refine xi_iinc (pc' := 1531) (x := 0) (v := 6) (lv' := [(4, .int 6), (3, .ref 167), (2, .ref 115), (1, .ref 0), (0, .ref 1000000)]) kc_196_1528 rfl rfl rfl rfl (xm_lt ml_196 rfl) ?_
              refine xi_goto (pc' := 23) kc_196_1531 rfl ?_
              refine xi_iload (pc' := 25) (x := 6) kc_196_23 rfl rfl ?_
              refine xi_aload_n (pc' := 26) (x := 1000000) kc_196_25 rfl rfl ?_
              refine xi_arraylength (pc' := 27) (n := 6) (v := 6) kc_196_26 rfl (xl_lenO (by decide) hov0 rfl) rfl ?_
              refine xi_bipush (pc' := 29) (v := 6) kc_196_27 rfl rfl ?_
              refine xi_isub (pc' := 30) (v := 0) kc_196_29 rfl rfl ?_
              refine xi_cmt (pc' := 1534) kc_196_30 rfl rfl ?_
              refine xi_iconst (pc' := 1535) (v := 1) kc_196_1534 rfl rfl ?_
              refine xi_ireturn kc_196_1535 mr_196 rfl ?_
              refine ⟨rfl, ?_, ?_⟩
              · rw [eh3.2.2.1, eh2.2.2.1, eh1.2.2.1]; exact hn0
              · rw [eh3.2.2.2, eh2.2.2.2, eh1.2.2.2]; exact hz0
            by_cases c22 : a2.toInt = 10
            · have qa2 : a2 = 10 := xc_of (Eq.trans (by omega) (show (10 : Int) = (10 : Int32).toInt by decide))
              subst qa2
              refine xi_aaload (pc' := 13) (b := 49) kc_109_12 rfl (F 3 _ hl_3) rfl (xi_in (n := 12) (by decide) (by decide)) rfl ?_
              refine xi_virtual (mj := 106) (as := []) (st1 := []) (lv0 := [(0, .ref 49)]) kc_109_13 rfl rfl rfl rfl rfl (F 49 _ hl_49) (Nat.le_of_ble_eq_true rfl) (hJ _ _ _ _ (by decide)) (xm_le ml_106 rfl) rfl ?_
              refine xi_aload_n (pc' := 1) (x := 49) kc_106_0 rfl rfl ?_
              refine xi_getfield (pc' := 4) (v := .int (-9)) kc_106_1 rfl rfl rfl (F 49 _ hl_49) rfl ?_
              refine xi_static (mj := 90) (as := [.int (-9)]) (st1 := []) (lv0 := [(0, .int (-9))]) kc_106_4 rfl rfl (Nat.le_of_ble_eq_true rfl) rfl rfl (Nat.le_of_ble_eq_true rfl) (hJ _ _ _ _ (by decide)) (xm_le ml_90 rfl) rfl ?_
              refine xi_iload_n (pc' := 1) (x := (-9)) kc_90_0 rfl rfl ?_
              refine xi_ift (pc' := 14) kc_90_1 rfl rfl ?_
              refine xi_iconst (pc' := 15) (v := 0) kc_90_14 rfl rfl ?_
              refine xi_ireturn kc_90_15 mr_90 rfl ?_
              show xw J ov 96 106 (7, [(0, .ref 49)], [.int 0], h0) _
              refine xi_ireturn kc_106_7 mr_106 rfl ?_
              show xw J ov 97 109 (16, [(0, .ref 1), (1, .int 10)], [.int 0], h0) _
              refine xi_ift (pc' := 23) kc_109_16 rfl rfl ?_
              refine xi_iconst (pc' := 24) (v := 0) kc_109_23 rfl rfl ?_
              refine xi_ireturn kc_109_24 mr_109 rfl ?_
              show xw J ov 98 119 (15, [(0, .ref 1), (1, .int a1), (2, .int 10)], [.int 0], h0) _
              refine xi_ift (pc' := 38) kc_119_15 rfl rfl ?_
              refine xi_iconst (pc' := 39) (v := 0) kc_119_38 rfl rfl ?_
              refine xi_ireturn kc_119_39 mr_119 rfl ?_
              show xw J ov 99 117 (23, [(0, .ref 0), (1, .int a1), (2, .int 10), (3, .int a3), (4, .int a4)], [.int 0], h0) _
              refine xi_iff (pc' := 26) kc_117_23 rfl rfl ?_
              refine xi_aload_n (pc' := 27) (x := 0) kc_117_26 rfl rfl ?_
              refine xi_iconst (pc' := 28) (v := (-1)) kc_117_27 rfl rfl ?_
              refine xi_virtual (mj := 91) (as := [.int (-1)]) (st1 := []) (lv0 := [(0, .ref 0), (1, .int (-1))]) kc_117_28 rfl rfl rfl rfl rfl (F 0 _ hl_0) (Nat.le_of_ble_eq_true rfl) (hJ _ _ _ _ (by decide)) (xm_le ml_91 rfl) rfl ?_
              refine xi_iload_n (pc' := 1) (x := (-1)) kc_91_0 rfl rfl ?_
              refine xi_ineg (pc' := 2) (v := 1) kc_91_1 rfl rfl ?_
              refine xi_istore_n (pc' := 3) (lv' := [(2, .int 1), (0, .ref 0), (1, .int (-1))]) kc_91_2 rfl rfl (xm_lt ml_91 rfl) ?_
              refine xi_iload_n (pc' := 4) (x := 1) kc_91_3 rfl rfl ?_
              refine xi_iff (pc' := 7) kc_91_4 rfl rfl ?_
              refine xi_iload_n (pc' := 8) (x := 1) kc_91_7 rfl rfl ?_
              refine xi_aload_n (pc' := 9) (x := 0) kc_91_8 rfl rfl ?_
              refine xi_getfield (pc' := 12) (v := .ref 94) kc_91_9 rfl rfl rfl (F 0 _ hl_0) rfl ?_
              refine xi_arraylength (pc' := 13) (n := 7) (v := 7) kc_91_12 rfl (xl_lenI (by decide) (by decide) (F 94 _ hl_94) (by simp only [List.length_replicate, List.length_cons, List.length_nil])) rfl ?_
              refine xi_cmf (pc' := 16) kc_91_13 rfl rfl ?_
              refine xi_aload_n (pc' := 17) (x := 0) kc_91_16 rfl rfl ?_
              refine xi_getfield (pc' := 20) (v := .ref 94) kc_91_17 rfl rfl rfl (F 0 _ hl_0) rfl ?_
              refine xi_iload_n (pc' := 21) (x := 1) kc_91_20 rfl rfl ?_
              refine xi_dup2 (pc' := 22) kc_91_21 rfl ⟨rfl, rfl⟩ ?_
              refine xi_iaload (pc' := 23) (v := 0) kc_91_22 rfl (F 94 _ hl_94) (by decide) rfl (xi_in (n := 7) (by decide) (by decide)) rfl ?_
              refine xi_iconst (pc' := 24) (v := 1) kc_91_23 rfl rfl ?_
              refine xi_iadd (pc' := 25) (v := 1) kc_91_24 rfl rfl ?_
              refine xi_iastore (pc' := 26) (x' := [0, 1, 0, 0, 0, 0, 0]) kc_91_25 rfl (F 94 _ hl_94) rfl (xi_in (n := 7) (by decide) (by decide)) rfl (fun hh1 eh1 => ?_)
              refine xi_iload_n (pc' := 27) (x := (-1)) kc_91_26 rfl rfl ?_
              refine xi_ireturn kc_91_27 mr_91 rfl ?_
              show xw J ov 99 117 (31, [(0, .ref 0), (1, .int a1), (2, .int 10), (3, .int a3), (4, .int a4)], [.int (-1)], hh1) _
              refine xi_ireturn kc_117_31 mr_117 rfl ?_
              show xw J ov 100 196 (679, [(4, .int 0), (3, .ref 167), (2, .ref 115), (1, .ref 0), (0, .ref 1000000)], [.int (-1)], hh1) _
              refine xi_aload_n (pc' := 680) (x := 115) kc_196_679 rfl rfl ?_
              refine xi_aload_n (pc' := 681) (x := 1000000) kc_196_680 rfl rfl ?_
              refine xi_iload (pc' := 683) (x := 0) kc_196_681 rfl rfl ?_
              refine xi_iconst (pc' := 684) (v := 1) kc_196_683 rfl rfl ?_
              refine xi_iadd (pc' := 685) (v := 1) kc_196_684 rfl rfl ?_
              refine xi_ialoadO (pc' := 686) (v := a1) kc_196_685 rfl (by decide) hov0 (xi_in (n := 6) (by decide) (by decide)) rfl ?_
              refine xi_aload_n (pc' := 687) (x := 1000000) kc_196_686 rfl rfl ?_
              refine xi_iload (pc' := 689) (x := 0) kc_196_687 rfl rfl ?_
              refine xi_iconst (pc' := 690) (v := 2) kc_196_689 rfl rfl ?_
              refine xi_iadd (pc' := 691) (v := 2) kc_196_690 rfl rfl ?_
              refine xi_ialoadO (pc' := 692) (v := 10) kc_196_691 rfl (by decide) hov0 (xi_in (n := 6) (by decide) (by decide)) rfl ?_
              refine xi_aload_n (pc' := 693) (x := 1000000) kc_196_692 rfl rfl ?_
              refine xi_iload (pc' := 695) (x := 0) kc_196_693 rfl rfl ?_
              refine xi_iconst (pc' := 696) (v := 3) kc_196_695 rfl rfl ?_
              refine xi_iadd (pc' := 697) (v := 3) kc_196_696 rfl rfl ?_
              refine xi_ialoadO (pc' := 698) (v := a3) kc_196_697 rfl (by decide) hov0 (xi_in (n := 6) (by decide) (by decide)) rfl ?_
              refine xi_aload_n (pc' := 699) (x := 1000000) kc_196_698 rfl rfl ?_
              refine xi_iload (pc' := 701) (x := 0) kc_196_699 rfl rfl ?_
              refine xi_iconst (pc' := 702) (v := 4) kc_196_701 rfl rfl ?_
              refine xi_iadd (pc' := 703) (v := 4) kc_196_702 rfl rfl ?_
              refine xi_ialoadO (pc' := 704) (v := a4) kc_196_703 rfl (by decide) hov0 (xi_in (n := 6) (by decide) (by decide)) rfl ?_
              refine xi_virtual (mj := 33) (as := [.int a1, .int 10, .int a3, .int a4]) (st1 := [.int (-1)]) (lv0 := [(0, .ref 115), (1, .int a1), (2, .int 10), (3, .int a3), (4, .int a4)]) kc_196_704 rfl rfl rfl rfl rfl ((eh1.2.1 115 (by decide)).trans (F 115 _ hl_115)) (Nat.le_of_ble_eq_true rfl) (hJ _ _ _ _ (by decide)) (xm_le ml_33 rfl) rfl ?_
              refine xi_aload_n (pc' := 1) (x := 115) kc_33_0 rfl rfl ?_
              refine xi_iconst (pc' := 2) (v := 0) kc_33_1 rfl rfl ?_
              refine xi_putfield (pc' := 5) (fs' := [.int 0, .int 0, .ref 116, .ref 117, .ref 118, .ref 119, .ref 120, .ref 121, .ref 122, .ref 123, .ref 124, .ref 125, .ref 126, .ref 127, .ref 128, .ref 129, .int 4, .ref 130, .int 0, .ref 131, .ref 132, .ref 133, .ref 134, .int 0, .ref 135, .ref 136, .ref 137, .ref 138, .ref 139, .ref 140, .ref 141, .ref 142, .int 0, .int 0, .int 0, .ref 143, .ref 144, .ref 145, .ref 146, .ref 147, .ref 148, .int 0, .ref 149, .ref 150, .ref 151, .int 0, .ref 152, .ref 153, .ref 154, .ref 155, .ref 156, .ref 157, .ref 158, .ref 159, .int 0, .ref 160, .int 0, .ref 161, .ref 162, .ref 163, .ref 164, .int 0, .ref 165, .ref 166]) kc_33_2 rfl rfl rfl ((eh1.2.1 115 (by decide)).trans (F 115 _ hl_115)) rfl rfl rfl (Nat.le_of_ble_eq_true rfl) rfl (fun hh2 eh2 => ?_)
              refine xi_iload_n (pc' := 6) (x := a1) kc_33_5 rfl rfl ?_
              refine xi_iconst (pc' := 7) (v := 0) kc_33_6 rfl rfl ?_
              refine xi_iconst (pc' := 8) (v := 3) kc_33_7 rfl rfl ?_
              refine xi_static (mj := 12) (as := [.int a1, .int 0, .int 3]) (st1 := []) (lv0 := [(0, .int a1), (1, .int 0), (2, .int 3)]) kc_33_8 rfl rfl (Nat.le_of_ble_eq_true rfl) rfl rfl (Nat.le_of_ble_eq_true rfl) (hJ _ _ _ _ (by decide)) (xm_le ml_12 rfl) rfl ?_
              refine xi_iload_n (pc' := 1) (x := a1) kc_12_0 rfl rfl ?_
              refine xi_iload_n (pc' := 2) (x := 0) kc_12_1 rfl rfl ?_
              refine xi_cmf (pc' := 5) kc_12_2 rfl (xc_lt_f (X := a1.toInt) (Y := 0) rfl (by decide) (by omega)) ?_
              refine xi_iload_n (pc' := 6) (x := a1) kc_12_5 rfl rfl ?_
              refine xi_iload_n (pc' := 7) (x := 3) kc_12_6 rfl rfl ?_
              refine xi_cmf (pc' := 10) kc_12_7 rfl (xc_gt_f (X := a1.toInt) (Y := 3) rfl (by decide) (by omega)) ?_
              refine xi_iconst (pc' := 11) (v := 1) kc_12_10 rfl rfl ?_
              refine xi_goto (pc' := 15) kc_12_11 rfl ?_
              refine xi_ireturn kc_12_15 mr_12 rfl ?_
              show xw J ov 99 33 (11, [(0, .ref 115), (1, .int a1), (2, .int 10), (3, .int a3), (4, .int a4)], [.int 1], hh2) _
              refine xi_ift (pc' := 21) kc_33_11 rfl rfl ?_
              refine xi_iload_n (pc' := 22) (x := a1) kc_33_21 rfl rfl ?_
              refine xi_iconst (pc' := 23) (v := 3) kc_33_22 rfl rfl ?_
              refine xi_cmt (pc' := 36) kc_33_23 rfl (xc_ne_t (X := a1.toInt) (Y := 3) rfl (by decide) (by omega)) ?_
              refine xi_aload_n (pc' := 37) (x := 115) kc_33_36 rfl rfl ?_
              refine xi_iload_n (pc' := 38) (x := 10) kc_33_37 rfl rfl ?_
              refine xi_virtual (mj := 32) (as := [.int 10]) (st1 := []) (lv0 := [(0, .ref 115), (1, .int 10)]) kc_33_38 rfl rfl rfl rfl rfl eh2.1 (Nat.le_of_ble_eq_true rfl) (hJ _ _ _ _ (by decide)) (xm_le ml_32 rfl) rfl ?_
              refine xi_iload_n (pc' := 1) (x := 10) kc_32_0 rfl rfl ?_
              refine xi_static (mj := 25) (as := [.int 10]) (st1 := []) (lv0 := [(0, .int 10)]) kc_32_1 rfl rfl (Nat.le_of_ble_eq_true rfl) rfl rfl (Nat.le_of_ble_eq_true rfl) (hJ _ _ _ _ (by decide)) (xm_le ml_25 rfl) rfl ?_
              refine xi_iload_n (pc' := 1) (x := 10) kc_25_0 rfl rfl ?_
              refine xi_iconst (pc' := 2) (v := 0) kc_25_1 rfl rfl ?_
              refine xi_bipush (pc' := 4) (v := 11) kc_25_2 rfl rfl ?_
              refine xi_static (mj := 12) (as := [.int 10, .int 0, .int 11]) (st1 := []) (lv0 := [(0, .int 10), (1, .int 0), (2, .int 11)]) kc_25_4 rfl rfl (Nat.le_of_ble_eq_true rfl) rfl rfl (Nat.le_of_ble_eq_true rfl) (hJ _ _ _ _ (by decide)) (xm_le ml_12 rfl) rfl ?_
              refine xi_iload_n (pc' := 1) (x := 10) kc_12_0 rfl rfl ?_
              refine xi_iload_n (pc' := 2) (x := 0) kc_12_1 rfl rfl ?_
              refine xi_cmf (pc' := 5) kc_12_2 rfl rfl ?_
              refine xi_iload_n (pc' := 6) (x := 10) kc_12_5 rfl rfl ?_
              refine xi_iload_n (pc' := 7) (x := 11) kc_12_6 rfl rfl ?_
              refine xi_cmf (pc' := 10) kc_12_7 rfl rfl ?_
              refine xi_iconst (pc' := 11) (v := 1) kc_12_10 rfl rfl ?_
              refine xi_goto (pc' := 15) kc_12_11 rfl ?_
              refine xi_ireturn kc_12_15 mr_12 rfl ?_
              show xw J ov 97 25 (7, [(0, .int 10)], [.int 1], hh2) _
              refine xi_ireturn kc_25_7 mr_25 rfl ?_
              show xw J ov 98 32 (4, [(0, .ref 115), (1, .int 10)], [.int 1], hh2) _
              refine xi_iff (pc' := 7) kc_32_4 rfl rfl ?_
              refine xi_aload_n (pc' := 8) (x := 115) kc_32_7 rfl rfl ?_
              refine xi_getfield (pc' := 11) (v := .ref 125) kc_32_8 rfl rfl rfl eh2.1 rfl ?_
              refine xi_iload_n (pc' := 12) (x := 10) kc_32_11 rfl rfl ?_
              refine xi_iaload (pc' := 13) (v := (-9)) kc_32_12 rfl ((eh2.2.1 125 (by decide)).trans ((eh1.2.1 125 (by decide)).trans (F 125 _ hl_125))) (by decide) rfl (xi_in (n := 12) (by decide) (by decide)) rfl ?_
              refine xi_ift (pc' := 20) kc_32_13 rfl rfl ?_
              refine xi_iconst (pc' := 21) (v := 0) kc_32_20 rfl rfl ?_
              refine xi_ireturn kc_32_21 mr_32 rfl ?_
              show xw J ov 99 33 (41, [(0, .ref 115), (1, .int a1), (2, .int 10), (3, .int a3), (4, .int a4)], [.int 0], hh2) _
              refine xi_ift (pc' := 57) kc_33_41 rfl rfl ?_
              refine xi_aload_n (pc' := 58) (x := 115) kc_33_57 rfl rfl ?_
              refine xi_iconst (pc' := 59) (v := (-1)) kc_33_58 rfl rfl ?_
              refine xi_virtual (mj := 13) (as := [.int (-1)]) (st1 := []) (lv0 := [(0, .ref 115), (1, .int (-1))]) kc_33_59 rfl rfl rfl rfl rfl eh2.1 (Nat.le_of_ble_eq_true rfl) (hJ _ _ _ _ (by decide)) (xm_le ml_13 rfl) rfl ?_
              refine xi_aload_n (pc' := 1) (x := 115) kc_13_0 rfl rfl ?_
              refine xi_getfield (pc' := 4) (v := .ref 140) kc_13_1 rfl rfl rfl eh2.1 rfl ?_
              refine xi_iload_n (pc' := 5) (x := (-1)) kc_13_4 rfl rfl ?_
              refine xi_ineg (pc' := 6) (v := 1) kc_13_5 rfl rfl ?_
              refine xi_dup2 (pc' := 7) kc_13_6 rfl ⟨rfl, rfl⟩ ?_
              refine xi_iaload (pc' := 8) (v := 0) kc_13_7 rfl ((eh2.2.1 140 (by decide)).trans ((eh1.2.1 140 (by decide)).trans (F 140 _ hl_140))) (by decide) rfl (xi_in (n := 7) (by decide) (by decide)) rfl ?_
              refine xi_iconst (pc' := 9) (v := 1) kc_13_8 rfl rfl ?_
              refine xi_iadd (pc' := 10) (v := 1) kc_13_9 rfl rfl ?_
              refine xi_iastore (pc' := 11) (x' := [0, 1, 0, 0, 0, 0, 0]) kc_13_10 rfl ((eh2.2.1 140 (by decide)).trans ((eh1.2.1 140 (by decide)).trans (F 140 _ hl_140))) rfl (xi_in (n := 7) (by decide) (by decide)) rfl (fun hh3 eh3 => ?_)
              refine xi_iload_n (pc' := 12) (x := (-1)) kc_13_11 rfl rfl ?_
              refine xi_ireturn kc_13_12 mr_13 rfl ?_
              show xw J ov 99 33 (62, [(0, .ref 115), (1, .int a1), (2, .int 10), (3, .int a3), (4, .int a4)], [.int (-1)], hh3) _
              refine xi_ireturn kc_33_62 mr_33 rfl ?_
              show xw J ov 100 196 (707, [(4, .int 0), (3, .ref 167), (2, .ref 115), (1, .ref 0), (0, .ref 1000000)], [.int (-1), .int (-1)], hh3) _
              refine xi_cmt (pc' := 1528) kc_196_707 rfl rfl ?_
              refine xi_iinc (pc' := 1531) (x := 0) (v := 6) (lv' := [(4, .int 6), (3, .ref 167), (2, .ref 115), (1, .ref 0), (0, .ref 1000000)]) kc_196_1528 rfl rfl rfl rfl (xm_lt ml_196 rfl) ?_
              refine xi_goto (pc' := 23) kc_196_1531 rfl ?_
              refine xi_iload (pc' := 25) (x := 6) kc_196_23 rfl rfl ?_
              refine xi_aload_n (pc' := 26) (x := 1000000) kc_196_25 rfl rfl ?_
              refine xi_arraylength (pc' := 27) (n := 6) (v := 6) kc_196_26 rfl (xl_lenO (by decide) hov0 rfl) rfl ?_
              refine xi_bipush (pc' := 29) (v := 6) kc_196_27 rfl rfl ?_
              refine xi_isub (pc' := 30) (v := 0) kc_196_29 rfl rfl ?_
              refine xi_cmt (pc' := 1534) kc_196_30 rfl rfl ?_
              refine xi_iconst (pc' := 1535) (v := 1) kc_196_1534 rfl rfl ?_
              refine xi_ireturn kc_196_1535 mr_196 rfl ?_
              refine ⟨rfl, ?_, ?_⟩
              · rw [eh3.2.2.1, eh2.2.2.1, eh1.2.2.1]; exact hn0
              · rw [eh3.2.2.2, eh2.2.2.2, eh1.2.2.2]; exact hz0
            have qa2 : a2 = 11 := xc_of (Eq.trans (by omega) (show (11 : Int) = (11 : Int32).toInt by decide))
            subst qa2
            refine xi_aaload (pc' := 13) (b := 51) kc_109_12 rfl (F 3 _ hl_3) rfl (xi_in (n := 12) (by decide) (by decide)) rfl ?_
            refine xi_virtual (mj := 106) (as := []) (st1 := []) (lv0 := [(0, .ref 51)]) kc_109_13 rfl rfl rfl rfl rfl (F 51 _ hl_51) (Nat.le_of_ble_eq_true rfl) (hJ _ _ _ _ (by decide)) (xm_le ml_106 rfl) rfl ?_
            refine xi_aload_n (pc' := 1) (x := 51) kc_106_0 rfl rfl ?_
            refine xi_getfield (pc' := 4) (v := .int (-9)) kc_106_1 rfl rfl rfl (F 51 _ hl_51) rfl ?_
            refine xi_static (mj := 90) (as := [.int (-9)]) (st1 := []) (lv0 := [(0, .int (-9))]) kc_106_4 rfl rfl (Nat.le_of_ble_eq_true rfl) rfl rfl (Nat.le_of_ble_eq_true rfl) (hJ _ _ _ _ (by decide)) (xm_le ml_90 rfl) rfl ?_
            refine xi_iload_n (pc' := 1) (x := (-9)) kc_90_0 rfl rfl ?_
            refine xi_ift (pc' := 14) kc_90_1 rfl rfl ?_
            refine xi_iconst (pc' := 15) (v := 0) kc_90_14 rfl rfl ?_
            refine xi_ireturn kc_90_15 mr_90 rfl ?_
            show xw J ov 96 106 (7, [(0, .ref 51)], [.int 0], h0) _
            refine xi_ireturn kc_106_7 mr_106 rfl ?_
            show xw J ov 97 109 (16, [(0, .ref 1), (1, .int 11)], [.int 0], h0) _
            refine xi_ift (pc' := 23) kc_109_16 rfl rfl ?_
            refine xi_iconst (pc' := 24) (v := 0) kc_109_23 rfl rfl ?_
            refine xi_ireturn kc_109_24 mr_109 rfl ?_
            show xw J ov 98 119 (15, [(0, .ref 1), (1, .int a1), (2, .int 11)], [.int 0], h0) _
            refine xi_ift (pc' := 38) kc_119_15 rfl rfl ?_
            refine xi_iconst (pc' := 39) (v := 0) kc_119_38 rfl rfl ?_
            refine xi_ireturn kc_119_39 mr_119 rfl ?_
            show xw J ov 99 117 (23, [(0, .ref 0), (1, .int a1), (2, .int 11), (3, .int a3), (4, .int a4)], [.int 0], h0) _
            refine xi_iff (pc' := 26) kc_117_23 rfl rfl ?_
            refine xi_aload_n (pc' := 27) (x := 0) kc_117_26 rfl rfl ?_
            refine xi_iconst (pc' := 28) (v := (-1)) kc_117_27 rfl rfl ?_
            refine xi_virtual (mj := 91) (as := [.int (-1)]) (st1 := []) (lv0 := [(0, .ref 0), (1, .int (-1))]) kc_117_28 rfl rfl rfl rfl rfl (F 0 _ hl_0) (Nat.le_of_ble_eq_true rfl) (hJ _ _ _ _ (by decide)) (xm_le ml_91 rfl) rfl ?_
            refine xi_iload_n (pc' := 1) (x := (-1)) kc_91_0 rfl rfl ?_
            refine xi_ineg (pc' := 2) (v := 1) kc_91_1 rfl rfl ?_
            refine xi_istore_n (pc' := 3) (lv' := [(2, .int 1), (0, .ref 0), (1, .int (-1))]) kc_91_2 rfl rfl (xm_lt ml_91 rfl) ?_
            refine xi_iload_n (pc' := 4) (x := 1) kc_91_3 rfl rfl ?_
            refine xi_iff (pc' := 7) kc_91_4 rfl rfl ?_
            refine xi_iload_n (pc' := 8) (x := 1) kc_91_7 rfl rfl ?_
            refine xi_aload_n (pc' := 9) (x := 0) kc_91_8 rfl rfl ?_
            refine xi_getfield (pc' := 12) (v := .ref 94) kc_91_9 rfl rfl rfl (F 0 _ hl_0) rfl ?_
            refine xi_arraylength (pc' := 13) (n := 7) (v := 7) kc_91_12 rfl (xl_lenI (by decide) (by decide) (F 94 _ hl_94) (by simp only [List.length_replicate, List.length_cons, List.length_nil])) rfl ?_
            refine xi_cmf (pc' := 16) kc_91_13 rfl rfl ?_
            refine xi_aload_n (pc' := 17) (x := 0) kc_91_16 rfl rfl ?_
            refine xi_getfield (pc' := 20) (v := .ref 94) kc_91_17 rfl rfl rfl (F 0 _ hl_0) rfl ?_
            refine xi_iload_n (pc' := 21) (x := 1) kc_91_20 rfl rfl ?_
            refine xi_dup2 (pc' := 22) kc_91_21 rfl ⟨rfl, rfl⟩ ?_
            refine xi_iaload (pc' := 23) (v := 0) kc_91_22 rfl (F 94 _ hl_94) (by decide) rfl (xi_in (n := 7) (by decide) (by decide)) rfl ?_
            refine xi_iconst (pc' := 24) (v := 1) kc_91_23 rfl rfl ?_
            refine xi_iadd (pc' := 25) (v := 1) kc_91_24 rfl rfl ?_
            refine xi_iastore (pc' := 26) (x' := [0, 1, 0, 0, 0, 0, 0]) kc_91_25 rfl (F 94 _ hl_94) rfl (xi_in (n := 7) (by decide) (by decide)) rfl (fun hh1 eh1 => ?_)
            refine xi_iload_n (pc' := 27) (x := (-1)) kc_91_26 rfl rfl ?_
            refine xi_ireturn kc_91_27 mr_91 rfl ?_
            show xw J ov 99 117 (31, [(0, .ref 0), (1, .int a1), (2, .int 11), (3, .int a3), (4, .int a4)], [.int (-1)], hh1) _
            refine xi_ireturn kc_117_31 mr_117 rfl ?_
            show xw J ov 100 196 (679, [(4, .int 0), (3, .ref 167), (2, .ref 115), (1, .ref 0), (0, .ref 1000000)], [.int (-1)], hh1) _
            refine xi_aload_n (pc' := 680) (x := 115) kc_196_679 rfl rfl ?_
            refine xi_aload_n (pc' := 681) (x := 1000000) kc_196_680 rfl rfl ?_
            refine xi_iload (pc' := 683) (x := 0) kc_196_681 rfl rfl ?_
            refine xi_iconst (pc' := 684) (v := 1) kc_196_683 rfl rfl ?_
            refine xi_iadd (pc' := 685) (v := 1) kc_196_684 rfl rfl ?_
            refine xi_ialoadO (pc' := 686) (v := a1) kc_196_685 rfl (by decide) hov0 (xi_in (n := 6) (by decide) (by decide)) rfl ?_
            refine xi_aload_n (pc' := 687) (x := 1000000) kc_196_686 rfl rfl ?_
            refine xi_iload (pc' := 689) (x := 0) kc_196_687 rfl rfl ?_
            refine xi_iconst (pc' := 690) (v := 2) kc_196_689 rfl rfl ?_
            refine xi_iadd (pc' := 691) (v := 2) kc_196_690 rfl rfl ?_
            refine xi_ialoadO (pc' := 692) (v := 11) kc_196_691 rfl (by decide) hov0 (xi_in (n := 6) (by decide) (by decide)) rfl ?_
            refine xi_aload_n (pc' := 693) (x := 1000000) kc_196_692 rfl rfl ?_
            refine xi_iload (pc' := 695) (x := 0) kc_196_693 rfl rfl ?_
            refine xi_iconst (pc' := 696) (v := 3) kc_196_695 rfl rfl ?_
            refine xi_iadd (pc' := 697) (v := 3) kc_196_696 rfl rfl ?_
            refine xi_ialoadO (pc' := 698) (v := a3) kc_196_697 rfl (by decide) hov0 (xi_in (n := 6) (by decide) (by decide)) rfl ?_
            refine xi_aload_n (pc' := 699) (x := 1000000) kc_196_698 rfl rfl ?_
            refine xi_iload (pc' := 701) (x := 0) kc_196_699 rfl rfl ?_
            refine xi_iconst (pc' := 702) (v := 4) kc_196_701 rfl rfl ?_
            refine xi_iadd (pc' := 703) (v := 4) kc_196_702 rfl rfl ?_
            refine xi_ialoadO (pc' := 704) (v := a4) kc_196_703 rfl (by decide) hov0 (xi_in (n := 6) (by decide) (by decide)) rfl ?_
            refine xi_virtual (mj := 33) (as := [.int a1, .int 11, .int a3, .int a4]) (st1 := [.int (-1)]) (lv0 := [(0, .ref 115), (1, .int a1), (2, .int 11), (3, .int a3), (4, .int a4)]) kc_196_704 rfl rfl rfl rfl rfl ((eh1.2.1 115 (by decide)).trans (F 115 _ hl_115)) (Nat.le_of_ble_eq_true rfl) (hJ _ _ _ _ (by decide)) (xm_le ml_33 rfl) rfl ?_
            refine xi_aload_n (pc' := 1) (x := 115) kc_33_0 rfl rfl ?_
            refine xi_iconst (pc' := 2) (v := 0) kc_33_1 rfl rfl ?_
            refine xi_putfield (pc' := 5) (fs' := [.int 0, .int 0, .ref 116, .ref 117, .ref 118, .ref 119, .ref 120, .ref 121, .ref 122, .ref 123, .ref 124, .ref 125, .ref 126, .ref 127, .ref 128, .ref 129, .int 4, .ref 130, .int 0, .ref 131, .ref 132, .ref 133, .ref 134, .int 0, .ref 135, .ref 136, .ref 137, .ref 138, .ref 139, .ref 140, .ref 141, .ref 142, .int 0, .int 0, .int 0, .ref 143, .ref 144, .ref 145, .ref 146, .ref 147, .ref 148, .int 0, .ref 149, .ref 150, .ref 151, .int 0, .ref 152, .ref 153, .ref 154, .ref 155, .ref 156, .ref 157, .ref 158, .ref 159, .int 0, .ref 160, .int 0, .ref 161, .ref 162, .ref 163, .ref 164, .int 0, .ref 165, .ref 166]) kc_33_2 rfl rfl rfl ((eh1.2.1 115 (by decide)).trans (F 115 _ hl_115)) rfl rfl rfl (Nat.le_of_ble_eq_true rfl) rfl (fun hh2 eh2 => ?_)
            refine xi_iload_n (pc' := 6) (x := a1) kc_33_5 rfl rfl ?_
            refine xi_iconst (pc' := 7) (v := 0) kc_33_6 rfl rfl ?_
            refine xi_iconst (pc' := 8) (v := 3) kc_33_7 rfl rfl ?_
            refine xi_static (mj := 12) (as := [.int a1, .int 0, .int 3]) (st1 := []) (lv0 := [(0, .int a1), (1, .int 0), (2, .int 3)]) kc_33_8 rfl rfl (Nat.le_of_ble_eq_true rfl) rfl rfl (Nat.le_of_ble_eq_true rfl) (hJ _ _ _ _ (by decide)) (xm_le ml_12 rfl) rfl ?_
            refine xi_iload_n (pc' := 1) (x := a1) kc_12_0 rfl rfl ?_
            refine xi_iload_n (pc' := 2) (x := 0) kc_12_1 rfl rfl ?_
            refine xi_cmf (pc' := 5) kc_12_2 rfl (xc_lt_f (X := a1.toInt) (Y := 0) rfl (by decide) (by omega)) ?_
            refine xi_iload_n (pc' := 6) (x := a1) kc_12_5 rfl rfl ?_
            refine xi_iload_n (pc' := 7) (x := 3) kc_12_6 rfl rfl ?_
            refine xi_cmf (pc' := 10) kc_12_7 rfl (xc_gt_f (X := a1.toInt) (Y := 3) rfl (by decide) (by omega)) ?_
            refine xi_iconst (pc' := 11) (v := 1) kc_12_10 rfl rfl ?_
            refine xi_goto (pc' := 15) kc_12_11 rfl ?_
            refine xi_ireturn kc_12_15 mr_12 rfl ?_
            show xw J ov 99 33 (11, [(0, .ref 115), (1, .int a1), (2, .int 11), (3, .int a3), (4, .int a4)], [.int 1], hh2) _
            refine xi_ift (pc' := 21) kc_33_11 rfl rfl ?_
            refine xi_iload_n (pc' := 22) (x := a1) kc_33_21 rfl rfl ?_
            refine xi_iconst (pc' := 23) (v := 3) kc_33_22 rfl rfl ?_
            refine xi_cmt (pc' := 36) kc_33_23 rfl (xc_ne_t (X := a1.toInt) (Y := 3) rfl (by decide) (by omega)) ?_
            refine xi_aload_n (pc' := 37) (x := 115) kc_33_36 rfl rfl ?_
            refine xi_iload_n (pc' := 38) (x := 11) kc_33_37 rfl rfl ?_
            refine xi_virtual (mj := 32) (as := [.int 11]) (st1 := []) (lv0 := [(0, .ref 115), (1, .int 11)]) kc_33_38 rfl rfl rfl rfl rfl eh2.1 (Nat.le_of_ble_eq_true rfl) (hJ _ _ _ _ (by decide)) (xm_le ml_32 rfl) rfl ?_
            refine xi_iload_n (pc' := 1) (x := 11) kc_32_0 rfl rfl ?_
            refine xi_static (mj := 25) (as := [.int 11]) (st1 := []) (lv0 := [(0, .int 11)]) kc_32_1 rfl rfl (Nat.le_of_ble_eq_true rfl) rfl rfl (Nat.le_of_ble_eq_true rfl) (hJ _ _ _ _ (by decide)) (xm_le ml_25 rfl) rfl ?_
            refine xi_iload_n (pc' := 1) (x := 11) kc_25_0 rfl rfl ?_
            refine xi_iconst (pc' := 2) (v := 0) kc_25_1 rfl rfl ?_
            refine xi_bipush (pc' := 4) (v := 11) kc_25_2 rfl rfl ?_
            refine xi_static (mj := 12) (as := [.int 11, .int 0, .int 11]) (st1 := []) (lv0 := [(0, .int 11), (1, .int 0), (2, .int 11)]) kc_25_4 rfl rfl (Nat.le_of_ble_eq_true rfl) rfl rfl (Nat.le_of_ble_eq_true rfl) (hJ _ _ _ _ (by decide)) (xm_le ml_12 rfl) rfl ?_
            refine xi_iload_n (pc' := 1) (x := 11) kc_12_0 rfl rfl ?_
            refine xi_iload_n (pc' := 2) (x := 0) kc_12_1 rfl rfl ?_
            refine xi_cmf (pc' := 5) kc_12_2 rfl rfl ?_
            refine xi_iload_n (pc' := 6) (x := 11) kc_12_5 rfl rfl ?_
            refine xi_iload_n (pc' := 7) (x := 11) kc_12_6 rfl rfl ?_
            refine xi_cmf (pc' := 10) kc_12_7 rfl rfl ?_
            refine xi_iconst (pc' := 11) (v := 1) kc_12_10 rfl rfl ?_
            refine xi_goto (pc' := 15) kc_12_11 rfl ?_
            refine xi_ireturn kc_12_15 mr_12 rfl ?_
            show xw J ov 97 25 (7, [(0, .int 11)], [.int 1], hh2) _
            refine xi_ireturn kc_25_7 mr_25 rfl ?_
            show xw J ov 98 32 (4, [(0, .ref 115), (1, .int 11)], [.int 1], hh2) _
            refine xi_iff (pc' := 7) kc_32_4 rfl rfl ?_
            refine xi_aload_n (pc' := 8) (x := 115) kc_32_7 rfl rfl ?_
            refine xi_getfield (pc' := 11) (v := .ref 125) kc_32_8 rfl rfl rfl eh2.1 rfl ?_
            refine xi_iload_n (pc' := 12) (x := 11) kc_32_11 rfl rfl ?_
            refine xi_iaload (pc' := 13) (v := (-9)) kc_32_12 rfl ((eh2.2.1 125 (by decide)).trans ((eh1.2.1 125 (by decide)).trans (F 125 _ hl_125))) (by decide) rfl (xi_in (n := 12) (by decide) (by decide)) rfl ?_
            refine xi_ift (pc' := 20) kc_32_13 rfl rfl ?_
            refine xi_iconst (pc' := 21) (v := 0) kc_32_20 rfl rfl ?_
            refine xi_ireturn kc_32_21 mr_32 rfl ?_
            show xw J ov 99 33 (41, [(0, .ref 115), (1, .int a1), (2, .int 11), (3, .int a3), (4, .int a4)], [.int 0], hh2) _
            refine xi_ift (pc' := 57) kc_33_41 rfl rfl ?_
            refine xi_aload_n (pc' := 58) (x := 115) kc_33_57 rfl rfl ?_
            refine xi_iconst (pc' := 59) (v := (-1)) kc_33_58 rfl rfl ?_
            refine xi_virtual (mj := 13) (as := [.int (-1)]) (st1 := []) (lv0 := [(0, .ref 115), (1, .int (-1))]) kc_33_59 rfl rfl rfl rfl rfl eh2.1 (Nat.le_of_ble_eq_true rfl) (hJ _ _ _ _ (by decide)) (xm_le ml_13 rfl) rfl ?_
            refine xi_aload_n (pc' := 1) (x := 115) kc_13_0 rfl rfl ?_
            refine xi_getfield (pc' := 4) (v := .ref 140) kc_13_1 rfl rfl rfl eh2.1 rfl ?_
            refine xi_iload_n (pc' := 5) (x := (-1)) kc_13_4 rfl rfl ?_
            refine xi_ineg (pc' := 6) (v := 1) kc_13_5 rfl rfl ?_
            refine xi_dup2 (pc' := 7) kc_13_6 rfl ⟨rfl, rfl⟩ ?_
            refine xi_iaload (pc' := 8) (v := 0) kc_13_7 rfl ((eh2.2.1 140 (by decide)).trans ((eh1.2.1 140 (by decide)).trans (F 140 _ hl_140))) (by decide) rfl (xi_in (n := 7) (by decide) (by decide)) rfl ?_
            refine xi_iconst (pc' := 9) (v := 1) kc_13_8 rfl rfl ?_
            refine xi_iadd (pc' := 10) (v := 1) kc_13_9 rfl rfl ?_
            refine xi_iastore (pc' := 11) (x' := [0, 1, 0, 0, 0, 0, 0]) kc_13_10 rfl ((eh2.2.1 140 (by decide)).trans ((eh1.2.1 140 (by decide)).trans (F 140 _ hl_140))) rfl (xi_in (n := 7) (by decide) (by decide)) rfl (fun hh3 eh3 => ?_)
            refine xi_iload_n (pc' := 12) (x := (-1)) kc_13_11 rfl rfl ?_
            refine xi_ireturn kc_13_12 mr_13 rfl ?_
            show xw J ov 99 33 (62, [(0, .ref 115), (1, .int a1), (2, .int 11), (3, .int a3), (4, .int a4)], [.int (-1)], hh3) _
            refine xi_ireturn kc_33_62 mr_33 rfl ?_
            show xw J ov 100 196 (707, [(4, .int 0), (3, .ref 167), (2, .ref 115), (1, .ref 0), (0, .ref 1000000)], [.int (-1), .int (-1)], hh3) _
            refine xi_cmt (pc' := 1528) kc_196_707 rfl rfl ?_
            refine xi_iinc (pc' := 1531) (x := 0) (v := 6) (lv' := [(4, .int 6), (3, .ref 167), (2, .ref 115), (1, .ref 0), (0, .ref 1000000)]) kc_196_1528 rfl rfl rfl rfl (xm_lt ml_196 rfl) ?_
            refine xi_goto (pc' := 23) kc_196_1531 rfl ?_
            refine xi_iload (pc' := 25) (x := 6) kc_196_23 rfl rfl ?_
            refine xi_aload_n (pc' := 26) (x := 1000000) kc_196_25 rfl rfl ?_
            refine xi_arraylength (pc' := 27) (n := 6) (v := 6) kc_196_26 rfl (xl_lenO (by decide) hov0 rfl) rfl ?_
            refine xi_bipush (pc' := 29) (v := 6) kc_196_27 rfl rfl ?_
            refine xi_isub (pc' := 30) (v := 0) kc_196_29 rfl rfl ?_
            refine xi_cmt (pc' := 1534) kc_196_30 rfl rfl ?_
            refine xi_iconst (pc' := 1535) (v := 1) kc_196_1534 rfl rfl ?_
            refine xi_ireturn kc_196_1535 mr_196 rfl ?_
            refine ⟨rfl, ?_, ?_⟩
            · rw [eh3.2.2.1, eh2.2.2.1, eh1.2.2.1]; exact hn0
            · rw [eh3.2.2.2, eh2.2.2.2, eh1.2.2.2]; exact hz0
