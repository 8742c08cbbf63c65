set_option maxHeartbeats 8000000 in
theorem lc_15 {J : xe_J} {ov : List (List Int32)} (hJ : ∀ d mj as h, mj ≠ xe_loff → J d mj as h = none) {a0 a1 a2 a3 a4 a5 : Int32} (hov0 : ov[0]? = some [a0, a1, a2, a3, a4, a5]) (hov1 : ov[1]? = some [10, 0, 0, 0, 0, 0]) (hov2 : ov[2]? = some [99, 30, 50, 50, 1, 99999]) {h0 : xe_H} (F : xf_fr h0) (hn0 : h0.length ≤ 600002) (hz0 : xe_sz h0 ≤ 7302232) : xw J ov 100 196 (845, [(4, .int 0), (3, .ref 167), (2, .ref 115), (1, .ref 0), (0, .ref 1000000)], [], h0) xf_Q := by
  have rr1 := xc_rng a1
  have rr2 := xc_rng a2
  have rr3 := xc_rng a3
  have rr4 := xc_rng a4
  have rr5 := xc_rng a5
  refine xi_aload_n (pc' := 846) (x := 0) kc_196_845 rfl rfl ?_
  refine xi_aload_n (pc' := 847) (x := 1000000) kc_196_846 rfl rfl ?_
  refine xi_iload (pc' := 849) (x := 0) kc_196_847 rfl rfl ?_
  refine xi_iconst (pc' := 850) (v := 1) kc_196_849 rfl rfl ?_
  refine xi_iadd (pc' := 851) (v := 1) kc_196_850 rfl rfl ?_
  refine xi_ialoadO (pc' := 852) (v := a1) kc_196_851 rfl (by decide) hov0 (xi_in (n := 6) (by decide) (by decide)) rfl ?_
  refine xi_aload_n (pc' := 853) (x := 1000000) kc_196_852 rfl rfl ?_
  refine xi_iload (pc' := 855) (x := 0) kc_196_853 rfl rfl ?_
  refine xi_iconst (pc' := 856) (v := 2) kc_196_855 rfl rfl ?_
  refine xi_iadd (pc' := 857) (v := 2) kc_196_856 rfl rfl ?_
  refine xi_ialoadO (pc' := 858) (v := a2) kc_196_857 rfl (by decide) hov0 (xi_in (n := 6) (by decide) (by decide)) rfl ?_
  refine xi_virtual (mj := 138) (as := [.int a1, .int a2]) (st1 := []) (lv0 := [(0, .ref 0), (1, .int a1), (2, .int a2)]) kc_196_858 rfl rfl rfl rfl rfl (F 0 _ hl_0) (Nat.le_of_ble_eq_true rfl) (hJ _ _ _ _ (by decide)) (xm_le ml_138 rfl) rfl ?_
  refine xi_aload_n (pc' := 1) (x := 0) kc_138_0 rfl rfl ?_
  refine xi_getfield (pc' := 4) (v := .ref 1) kc_138_1 rfl rfl rfl (F 0 _ hl_0) rfl ?_
  refine xi_iload_n (pc' := 5) (x := a2) kc_138_4 rfl rfl ?_
  refine xi_virtual (mj := 109) (as := [.int a2]) (st1 := []) (lv0 := [(0, .ref 1), (1, .int a2)]) kc_138_5 rfl rfl rfl rfl rfl (F 1 _ hl_1) (Nat.le_of_ble_eq_true rfl) (hJ _ _ _ _ (by decide)) (xm_le ml_109 rfl) rfl ?_
  refine xi_iload_n (pc' := 1) (x := a2) kc_109_0 rfl rfl ?_
  refine xi_static (mj := 105) (as := [.int a2]) (st1 := []) (lv0 := [(0, .int a2)]) kc_109_1 rfl rfl (Nat.le_of_ble_eq_true rfl) rfl rfl (Nat.le_of_ble_eq_true rfl) (hJ _ _ _ _ (by decide)) (xm_le ml_105 rfl) rfl ?_
  refine xi_iload_n (pc' := 1) (x := a2) kc_105_0 rfl rfl ?_
  by_cases c1 : a2.toInt < 0
  · refine xi_ift (pc' := 14) kc_105_1 rfl (xc_lt_t (X := a2.toInt) (Y := 0) rfl (by decide) (by omega)) ?_
    refine xi_iconst (pc' := 15) (v := 0) kc_105_14 rfl rfl ?_
    refine xi_ireturn kc_105_15 mr_105 rfl ?_
    show xw J ov 98 109 (4, [(0, .ref 1), (1, .int a2)], [.int 0], h0) _
    refine xi_ift (pc' := 23) kc_109_4 rfl rfl ?_
    refine xi_iconst (pc' := 24) (v := 0) kc_109_23 rfl rfl ?_
    refine xi_ireturn kc_109_24 mr_109 rfl ?_
    show xw J ov 99 138 (8, [(0, .ref 0), (1, .int a1), (2, .int a2)], [.int 0], h0) _
    refine xi_iff (pc' := 11) kc_138_8 rfl rfl ?_
    refine xi_aload_n (pc' := 12) (x := 0) kc_138_11 rfl rfl ?_
    refine xi_iconst (pc' := 13) (v := (-1)) kc_138_12 rfl rfl ?_
    refine xi_virtual (mj := 91) (as := [.int (-1)]) (st1 := []) (lv0 := [(0, .ref 0), (1, .int (-1))]) kc_138_13 rfl rfl rfl rfl rfl (F 0 _ hl_0) (Nat.le_of_ble_eq_true rfl) (hJ _ _ _ _ (by decide)) (xm_le ml_91 rfl) rfl ?_
    refine xi_iload_n (pc' := 1) (x := (-1)) kc_91_0 rfl rfl ?_
    refine xi_ineg (pc' := 2) (v := 1) kc_91_1 rfl rfl ?_
    refine xi_istore_n (pc' := 3) (lv' := [(2, .int 1), (0, .ref 0), (1, .int (-1))]) kc_91_2 rfl rfl (xm_lt ml_91 rfl) ?_
    refine xi_iload_n (pc' := 4) (x := 1) kc_91_3 rfl rfl ?_
    refine xi_iff (pc' := 7) kc_91_4 rfl rfl ?_
    refine xi_iload_n (pc' := 8) (x := 1) kc_91_7 rfl rfl ?_
    refine xi_aload_n (pc' := 9) (x := 0) kc_91_8 rfl rfl ?_
    refine xi_getfield (pc' := 12) (v := .ref 94) kc_91_9 rfl rfl rfl (F 0 _ hl_0) rfl ?_
    refine xi_arraylength (pc' := 13) (n := 7) (v := 7) kc_91_12 rfl (xl_lenI (by decide) (by decide) (F 94 _ hl_94) (by simp only [List.length_replicate, List.length_cons, List.length_nil])) rfl ?_
    refine xi_cmf (pc' := 16) kc_91_13 rfl rfl ?_
    refine xi_aload_n (pc' := 17) (x := 0) kc_91_16 rfl rfl ?_
    refine xi_getfield (pc' := 20) (v := .ref 94) kc_91_17 rfl rfl rfl (F 0 _ hl_0) rfl ?_
    refine xi_iload_n (pc' := 21) (x := 1) kc_91_20 rfl rfl ?_
    refine xi_dup2 (pc' := 22) kc_91_21 rfl ⟨rfl, rfl⟩ ?_
    refine xi_iaload (pc' := 23) (v := 0) kc_91_22 rfl (F 94 _ hl_94) (by decide) rfl (xi_in (n := 7) (by decide) (by decide)) rfl ?_
    refine xi_iconst (pc' := 24) (v := 1) kc_91_23 rfl rfl ?_
    refine xi_iadd (pc' := 25) (v := 1) kc_91_24 rfl rfl ?_
    refine xi_iastore (pc' := 26) (x' := [0, 1, 0, 0, 0, 0, 0]) kc_91_25 rfl (F 94 _ hl_94) rfl (xi_in (n := 7) (by decide) (by decide)) rfl (fun hh1 eh1 => ?_)
    refine xi_iload_n (pc' := 27) (x := (-1)) kc_91_26 rfl rfl ?_
    refine xi_ireturn kc_91_27 mr_91 rfl ?_
    show xw J ov 99 138 (16, [(0, .ref 0), (1, .int a1), (2, .int a2)], [.int (-1)], hh1) _
    refine xi_ireturn kc_138_16 mr_138 rfl ?_
    show xw J ov 100 196 (861, [(4, .int 0), (3, .ref 167), (2, .ref 115), (1, .ref 0), (0, .ref 1000000)], [.int (-1)], hh1) _
    refine xi_aload_n (pc' := 862) (x := 115) kc_196_861 rfl rfl ?_
    refine xi_aload_n (pc' := 863) (x := 1000000) kc_196_862 rfl rfl ?_
    refine xi_iload (pc' := 865) (x := 0) kc_196_863 rfl rfl ?_
    refine xi_iconst (pc' := 866) (v := 1) kc_196_865 rfl rfl ?_
    refine xi_iadd (pc' := 867) (v := 1) kc_196_866 rfl rfl ?_
    refine xi_ialoadO (pc' := 868) (v := a1) kc_196_867 rfl (by decide) hov0 (xi_in (n := 6) (by decide) (by decide)) rfl ?_
    refine xi_aload_n (pc' := 869) (x := 1000000) kc_196_868 rfl rfl ?_
    refine xi_iload (pc' := 871) (x := 0) kc_196_869 rfl rfl ?_
    refine xi_iconst (pc' := 872) (v := 2) kc_196_871 rfl rfl ?_
    refine xi_iadd (pc' := 873) (v := 2) kc_196_872 rfl rfl ?_
    refine xi_ialoadO (pc' := 874) (v := a2) kc_196_873 rfl (by decide) hov0 (xi_in (n := 6) (by decide) (by decide)) rfl ?_
    refine xi_virtual (mj := 47) (as := [.int a1, .int a2]) (st1 := [.int (-1)]) (lv0 := [(0, .ref 115), (1, .int a1), (2, .int a2)]) kc_196_874 rfl rfl rfl rfl rfl ((eh1.2.1 115 (by decide)).trans (F 115 _ hl_115)) (Nat.le_of_ble_eq_true rfl) (hJ _ _ _ _ (by decide)) (xm_le ml_47 rfl) rfl ?_
    refine xi_aload_n (pc' := 1) (x := 115) kc_47_0 rfl rfl ?_
    refine xi_iconst (pc' := 2) (v := 0) kc_47_1 rfl rfl ?_
    refine xi_putfield (pc' := 5) (fs' := [.int 0, .int 0, .ref 116, .ref 117, .ref 118, .ref 119, .ref 120, .ref 121, .ref 122, .ref 123, .ref 124, .ref 125, .ref 126, .ref 127, .ref 128, .ref 129, .int 4, .ref 130, .int 0, .ref 131, .ref 132, .ref 133, .ref 134, .int 0, .ref 135, .ref 136, .ref 137, .ref 138, .ref 139, .ref 140, .ref 141, .ref 142, .int 0, .int 0, .int 0, .ref 143, .ref 144, .ref 145, .ref 146, .ref 147, .ref 148, .int 0, .ref 149, .ref 150, .ref 151, .int 0, .ref 152, .ref 153, .ref 154, .ref 155, .ref 156, .ref 157, .ref 158, .ref 159, .int 0, .ref 160, .int 0, .ref 161, .ref 162, .ref 163, .ref 164, .int 0, .ref 165, .ref 166]) kc_47_2 rfl rfl rfl ((eh1.2.1 115 (by decide)).trans (F 115 _ hl_115)) rfl rfl rfl (Nat.le_of_ble_eq_true rfl) rfl (fun hh2 eh2 => ?_)
    refine xi_aload_n (pc' := 6) (x := 115) kc_47_5 rfl rfl ?_
    refine xi_iload_n (pc' := 7) (x := a2) kc_47_6 rfl rfl ?_
    refine xi_virtual (mj := 32) (as := [.int a2]) (st1 := []) (lv0 := [(0, .ref 115), (1, .int a2)]) kc_47_7 rfl rfl rfl rfl rfl eh2.1 (Nat.le_of_ble_eq_true rfl) (hJ _ _ _ _ (by decide)) (xm_le ml_32 rfl) rfl ?_
    refine xi_iload_n (pc' := 1) (x := a2) kc_32_0 rfl rfl ?_
    refine xi_static (mj := 25) (as := [.int a2]) (st1 := []) (lv0 := [(0, .int a2)]) kc_32_1 rfl rfl (Nat.le_of_ble_eq_true rfl) rfl rfl (Nat.le_of_ble_eq_true rfl) (hJ _ _ _ _ (by decide)) (xm_le ml_25 rfl) rfl ?_
    refine xi_iload_n (pc' := 1) (x := a2) kc_25_0 rfl rfl ?_
    refine xi_iconst (pc' := 2) (v := 0) kc_25_1 rfl rfl ?_
    refine xi_bipush (pc' := 4) (v := 11) kc_25_2 rfl rfl ?_
    refine xi_static (mj := 12) (as := [.int a2, .int 0, .int 11]) (st1 := []) (lv0 := [(0, .int a2), (1, .int 0), (2, .int 11)]) kc_25_4 rfl rfl (Nat.le_of_ble_eq_true rfl) rfl rfl (Nat.le_of_ble_eq_true rfl) (hJ _ _ _ _ (by decide)) (xm_le ml_12 rfl) rfl ?_
    refine xi_iload_n (pc' := 1) (x := a2) kc_12_0 rfl rfl ?_
    refine xi_iload_n (pc' := 2) (x := 0) kc_12_1 rfl rfl ?_
    refine xi_cmt (pc' := 14) kc_12_2 rfl (xc_lt_t (X := a2.toInt) (Y := 0) rfl (by decide) (by omega)) ?_
    refine xi_iconst (pc' := 15) (v := 0) kc_12_14 rfl rfl ?_
    refine xi_ireturn kc_12_15 mr_12 rfl ?_
    show xw J ov 97 25 (7, [(0, .int a2)], [.int 0], hh2) _
    refine xi_ireturn kc_25_7 mr_25 rfl ?_
    show xw J ov 98 32 (4, [(0, .ref 115), (1, .int a2)], [.int 0], hh2) _
    refine xi_ift (pc' := 20) kc_32_4 rfl rfl ?_
    refine xi_iconst (pc' := 21) (v := 0) kc_32_20 rfl rfl ?_
    refine xi_ireturn kc_32_21 mr_32 rfl ?_
    show xw J ov 99 47 (10, [(0, .ref 115), (1, .int a1), (2, .int a2)], [.int 0], hh2) _
    refine xi_iff (pc' := 13) kc_47_10 rfl rfl ?_
    refine xi_aload_n (pc' := 14) (x := 115) kc_47_13 rfl rfl ?_
    refine xi_iconst (pc' := 15) (v := (-1)) kc_47_14 rfl rfl ?_
    refine xi_virtual (mj := 13) (as := [.int (-1)]) (st1 := []) (lv0 := [(0, .ref 115), (1, .int (-1))]) kc_47_15 rfl rfl rfl rfl rfl eh2.1 (Nat.le_of_ble_eq_true rfl) (hJ _ _ _ _ (by decide)) (xm_le ml_13 rfl) rfl ?_
    refine xi_aload_n (pc' := 1) (x := 115) kc_13_0 rfl rfl ?_
    refine xi_getfield (pc' := 4) (v := .ref 140) kc_13_1 rfl rfl rfl eh2.1 rfl ?_
    refine xi_iload_n (pc' := 5) (x := (-1)) kc_13_4 rfl rfl ?_
    refine xi_ineg (pc' := 6) (v := 1) kc_13_5 rfl rfl ?_
    refine xi_dup2 (pc' := 7) kc_13_6 rfl ⟨rfl, rfl⟩ ?_
    refine xi_iaload (pc' := 8) (v := 0) kc_13_7 rfl ((eh2.2.1 140 (by decide)).trans ((eh1.2.1 140 (by decide)).trans (F 140 _ hl_140))) (by decide) rfl (xi_in (n := 7) (by decide) (by decide)) rfl ?_
    refine xi_iconst (pc' := 9) (v := 1) kc_13_8 rfl rfl ?_
    refine xi_iadd (pc' := 10) (v := 1) kc_13_9 rfl rfl ?_
    refine xi_iastore (pc' := 11) (x' := [0, 1, 0, 0, 0, 0, 0]) kc_13_10 rfl ((eh2.2.1 140 (by decide)).trans ((eh1.2.1 140 (by decide)).trans (F 140 _ hl_140))) rfl (xi_in (n := 7) (by decide) (by decide)) rfl (fun hh3 eh3 => ?_)
    refine xi_iload_n (pc' := 12) (x := (-1)) kc_13_11 rfl rfl ?_
    refine xi_ireturn kc_13_12 mr_13 rfl ?_
    show xw J ov 99 47 (18, [(0, .ref 115), (1, .int a1), (2, .int a2)], [.int (-1)], hh3) _
    refine xi_ireturn kc_47_18 mr_47 rfl ?_
    show xw J ov 100 196 (877, [(4, .int 0), (3, .ref 167), (2, .ref 115), (1, .ref 0), (0, .ref 1000000)], [.int (-1), .int (-1)], hh3) _
    refine xi_cmt (pc' := 1528) kc_196_877 rfl rfl ?_
    refine xi_iinc (pc' := 1531) (x := 0) (v := 6) (lv' := [(4, .int 6), (3, .ref 167), (2, .ref 115), (1, .ref 0), (0, .ref 1000000)]) kc_196_1528 rfl rfl rfl rfl (xm_lt ml_196 rfl) ?_
    refine xi_goto (pc' := 23) kc_196_1531 rfl ?_
    refine xi_iload (pc' := 25) (x := 6) kc_196_23 rfl rfl ?_
    refine xi_aload_n (pc' := 26) (x := 1000000) kc_196_25 rfl rfl ?_
    refine xi_arraylength (pc' := 27) (n := 6) (v := 6) kc_196_26 rfl (xl_lenO (by decide) hov0 rfl) rfl ?_
    refine xi_bipush (pc' := 29) (v := 6) kc_196_27 rfl rfl ?_
    refine xi_isub (pc' := 30) (v := 0) kc_196_29 rfl rfl ?_
    refine xi_cmt (pc' := 1534) kc_196_30 rfl rfl ?_
    refine xi_iconst (pc' := 1535) (v := 1) kc_196_1534 rfl rfl ?_
    refine xi_ireturn kc_196_1535 mr_196 rfl ?_
    refine ⟨rfl, ?_, ?_⟩
    · rw [eh3.2.2.1, eh2.2.2.1, eh1.2.2.1]; exact hn0
    · rw [eh3.2.2.2, eh2.2.2.2, eh1.2.2.2]; exact hz0
  · refine xi_iff (pc' := 4) kc_105_1 rfl (xc_lt_f (X := a2.toInt) (Y := 0) rfl (by decide) (by omega)) ?_
    refine xi_iload_n (pc' := 5) (x := a2) kc_105_4 rfl rfl ?_
    refine xi_bipush (pc' := 7) (v := 12) kc_105_5 rfl rfl ?_
    by_cases c2 : 12 ≤ a2.toInt
    · refine xi_cmt (pc' := 14) kc_105_7 rfl (xc_ge_t (X := a2.toInt) (Y := 12) rfl (by decide) (by omega)) ?_
      refine xi_iconst (pc' := 15) (v := 0) kc_105_14 rfl rfl ?_
      refine xi_ireturn kc_105_15 mr_105 rfl ?_
      show xw J ov 98 109 (4, [(0, .ref 1), (1, .int a2)], [.int 0], h0) _
      refine xi_ift (pc' := 23) kc_109_4 rfl rfl ?_
      refine xi_iconst (pc' := 24) (v := 0) kc_109_23 rfl rfl ?_
      refine xi_ireturn kc_109_24 mr_109 rfl ?_
      show xw J ov 99 138 (8, [(0, .ref 0), (1, .int a1), (2, .int a2)], [.int 0], h0) _
      refine xi_iff (pc' := 11) kc_138_8 rfl rfl ?_
      refine xi_aload_n (pc' := 12) (x := 0) kc_138_11 rfl rfl ?_
      refine xi_iconst (pc' := 13) (v := (-1)) kc_138_12 rfl rfl ?_
      refine xi_virtual (mj := 91) (as := [.int (-1)]) (st1 := []) (lv0 := [(0, .ref 0), (1, .int (-1))]) kc_138_13 rfl rfl rfl rfl rfl (F 0 _ hl_0) (Nat.le_of_ble_eq_true rfl) (hJ _ _ _ _ (by decide)) (xm_le ml_91 rfl) rfl ?_
      refine xi_iload_n (pc' := 1) (x := (-1)) kc_91_0 rfl rfl ?_
      refine xi_ineg (pc' := 2) (v := 1) kc_91_1 rfl rfl ?_
      refine xi_istore_n (pc' := 3) (lv' := [(2, .int 1), (0, .ref 0), (1, .int (-1))]) kc_91_2 rfl rfl (xm_lt ml_91 rfl) ?_
      refine xi_iload_n (pc' := 4) (x := 1) kc_91_3 rfl rfl ?_
      refine xi_iff (pc' := 7) kc_91_4 rfl rfl ?_
      refine xi_iload_n (pc' := 8) (x := 1) kc_91_7 rfl rfl ?_
      refine xi_aload_n (pc' := 9) (x := 0) kc_91_8 rfl rfl ?_
      refine xi_getfield (pc' := 12) (v := .ref 94) kc_91_9 rfl rfl rfl (F 0 _ hl_0) rfl ?_
      refine xi_arraylength (pc' := 13) (n := 7) (v := 7) kc_91_12 rfl (xl_lenI (by decide) (by decide) (F 94 _ hl_94) (by simp only [List.length_replicate, List.length_cons, List.length_nil])) rfl ?_
      refine xi_cmf (pc' := 16) kc_91_13 rfl rfl ?_
      refine xi_aload_n (pc' := 17) (x := 0) kc_91_16 rfl rfl ?_
      refine xi_getfield (pc' := 20) (v := .ref 94) kc_91_17 rfl rfl rfl (F 0 _ hl_0) rfl ?_
      refine xi_iload_n (pc' := 21) (x := 1) kc_91_20 rfl rfl ?_
      refine xi_dup2 (pc' := 22) kc_91_21 rfl ⟨rfl, rfl⟩ ?_
      refine xi_iaload (pc' := 23) (v := 0) kc_91_22 rfl (F 94 _ hl_94) (by decide) rfl (xi_in (n := 7) (by decide) (by decide)) rfl ?_
      refine xi_iconst (pc' := 24) (v := 1) kc_91_23 rfl rfl ?_
      refine xi_iadd (pc' := 25) (v := 1) kc_91_24 rfl rfl ?_
      refine xi_iastore (pc' := 26) (x' := [0, 1, 0, 0, 0, 0, 0]) kc_91_25 rfl (F 94 _ hl_94) rfl (xi_in (n := 7) (by decide) (by decide)) rfl (fun hh1 eh1 => ?_)
      refine xi_iload_n (pc' := 27) (x := (-1)) kc_91_26 rfl rfl ?_
      refine xi_ireturn kc_91_27 mr_91 rfl ?_
      show xw J ov 99 138 (16, [(0, .ref 0), (1, .int a1), (2, .int a2)], [.int (-1)], hh1) _
      refine xi_ireturn kc_138_16 mr_138 rfl ?_
      show xw J ov 100 196 (861, [(4, .int 0), (3, .ref 167), (2, .ref 115), (1, .ref 0), (0, .ref 1000000)], [.int (-1)], hh1) _
      refine xi_aload_n (pc' := 862) (x := 115) kc_196_861 rfl rfl ?_
      refine xi_aload_n (pc' := 863) (x := 1000000) kc_196_862 rfl rfl ?_
      refine xi_iload (pc' := 865) (x := 0) kc_196_863 rfl rfl ?_
      refine xi_iconst (pc' := 866) (v := 1) kc_196_865 rfl rfl ?_
      refine xi_iadd (pc' := 867) (v := 1) kc_196_866 rfl rfl ?_
      refine xi_ialoadO (pc' := 868) (v := a1) kc_196_867 rfl (by decide) hov0 (xi_in (n := 6) (by decide) (by decide)) rfl ?_
      refine xi_aload_n (pc' := 869) (x := 1000000) kc_196_868 rfl rfl ?_
      refine xi_iload (pc' := 871) (x := 0) kc_196_869 rfl rfl ?_
      refine xi_iconst (pc' := 872) (v := 2) kc_196_871 rfl rfl ?_
      refine xi_iadd (pc' := 873) (v := 2) kc_196_872 rfl rfl ?_
      refine xi_ialoadO (pc' := 874) (v := a2) kc_196_873 rfl (by decide) hov0 (xi_in (n := 6) (by decide) (by decide)) rfl ?_
      refine xi_virtual (mj := 47) (as := [.int a1, .int a2]) (st1 := [.int (-1)]) (lv0 := [(0, .ref 115), (1, .int a1), (2, .int a2)]) kc_196_874 rfl rfl rfl rfl rfl ((eh1.2.1 115 (by decide)).trans (F 115 _ hl_115)) (Nat.le_of_ble_eq_true rfl) (hJ _ _ _ _ (by decide)) (xm_le ml_47 rfl) rfl ?_
      refine xi_aload_n (pc' := 1) (x := 115) kc_47_0 rfl rfl ?_
      refine xi_iconst (pc' := 2) (v := 0) kc_47_1 rfl rfl ?_
      refine xi_putfield (pc' := 5) (fs' := [.int 0, .int 0, .ref 116, .ref 117, .ref 118, .ref 119, .ref 120, .ref 121, .ref 122, .ref 123, .ref 124, .ref 125, .ref 126, .ref 127, .ref 128, .ref 129, .int 4, .ref 130, .int 0, .ref 131, .ref 132, .ref 133, .ref 134, .int 0, .ref 135, .ref 136, .ref 137, .ref 138, .ref 139, .ref 140, .ref 141, .ref 142, .int 0, .int 0, .int 0, .ref 143, .ref 144, .ref 145, .ref 146, .ref 147, .ref 148, .int 0, .ref 149, .ref 150, .ref 151, .int 0, .ref 152, .ref 153, .ref 154, .ref 155, .ref 156, .ref 157, .ref 158, .ref 159, .int 0, .ref 160, .int 0, .ref 161, .ref 162, .ref 163, .ref 164, .int 0, .ref 165, .ref 166]) kc_47_2 rfl rfl rfl ((eh1.2.1 115 (by decide)).trans (F 115 _ hl_115)) rfl rfl rfl (Nat.le_of_ble_eq_true rfl) rfl (fun hh2 eh2 => ?_)
      refine xi_aload_n (pc' := 6) (x := 115) kc_47_5 rfl rfl ?_
      refine xi_iload_n (pc' := 7) (x := a2) kc_47_6 rfl rfl ?_
      refine xi_virtual (mj := 32) (as := [.int a2]) (st1 := []) (lv0 := [(0, .ref 115), (1, .int a2)]) kc_47_7 rfl rfl rfl rfl rfl eh2.1 (Nat.le_of_ble_eq_true rfl) (hJ _ _ _ _ (by decide)) (xm_le ml_32 rfl) rfl ?_
      refine xi_iload_n (pc' := 1) (x := a2) kc_32_0 rfl rfl ?_
      refine xi_static (mj := 25) (as := [.int a2]) (st1 := []) (lv0 := [(0, .int a2)]) kc_32_1 rfl rfl (Nat.le_of_ble_eq_true rfl) rfl rfl (Nat.le_of_ble_eq_true rfl) (hJ _ _ _ _ (by decide)) (xm_le ml_25 rfl) rfl ?_
      refine xi_iload_n (pc' := 1) (x := a2) kc_25_0 rfl rfl ?_
      refine xi_iconst (pc' := 2) (v := 0) kc_25_1 rfl rfl ?_
      refine xi_bipush (pc' := 4) (v := 11) kc_25_2 rfl rfl ?_
      refine xi_static (mj := 12) (as := [.int a2, .int 0, .int 11]) (st1 := []) (lv0 := [(0, .int a2), (1, .int 0), (2, .int 11)]) kc_25_4 rfl rfl (Nat.le_of_ble_eq_true rfl) rfl rfl (Nat.le_of_ble_eq_true rfl) (hJ _ _ _ _ (by decide)) (xm_le ml_12 rfl) rfl ?_
      refine xi_iload_n (pc' := 1) (x := a2) kc_12_0 rfl rfl ?_
      refine xi_iload_n (pc' := 2) (x := 0) kc_12_1 rfl rfl ?_
      refine xi_cmf (pc' := 5) kc_12_2 rfl (xc_lt_f (X := a2.toInt) (Y := 0) rfl (by decide) (by omega)) ?_
      refine xi_iload_n (pc' := 6) (x := a2) kc_12_5 rfl rfl ?_
      refine xi_iload_n (pc' := 7) (x := 11) kc_12_6 rfl rfl ?_
      refine xi_cmt (pc' := 14) kc_12_7 rfl (xc_gt_t (X := a2.toInt) (Y := 11) rfl (by decide) (by omega)) ?_
      refine xi_iconst (pc' := 15) (v := 0) kc_12_14 rfl rfl ?_
      refine xi_ireturn kc_12_15 mr_12 rfl ?_
      show xw J ov 97 25 (7, [(0, .int a2)], [.int 0], hh2) _
      refine xi_ireturn kc_25_7 mr_25 rfl ?_
      show xw J ov 98 32 (4, [(0, .ref 115), (1, .int a2)], [.int 0], hh2) _
      refine xi_ift (pc' := 20) kc_32_4 rfl rfl ?_
      refine xi_iconst (pc' := 21) (v := 0) kc_32_20 rfl rfl ?_
      refine xi_ireturn kc_32_21 mr_32 rfl ?_
      show xw J ov 99 47 (10, [(0, .ref 115), (1, .int a1), (2, .int a2)], [.int 0], hh2) _
      refine xi_iff (pc' := 13) kc_47_10 rfl rfl ?_
      refine xi_aload_n (pc' := 14) (x := 115) kc_47_13 rfl rfl ?_
      refine xi_iconst (pc' := 15) (v := (-1)) kc_47_14 rfl rfl ?_
      refine xi_virtual (mj := 13) (as := [.int (-1)]) (st1 := []) (lv0 := [(0, .ref 115), (1, .int (-1))]) kc_47_15 rfl rfl rfl rfl rfl eh2.1 (Nat.le_of_ble_eq_true rfl) (hJ _ _ _ _ (by decide)) (xm_le ml_13 rfl) rfl ?_
      refine xi_aload_n (pc' := 1) (x := 115) kc_13_0 rfl rfl ?_
      refine xi_getfield (pc' := 4) (v := .ref 140) kc_13_1 rfl rfl rfl eh2.1 rfl ?_
      refine xi_iload_n (pc' := 5) (x := (-1)) kc_13_4 rfl rfl ?_
      refine xi_ineg (pc' := 6) (v := 1) kc_13_5 rfl rfl ?_
      refine xi_dup2 (pc' := 7) kc_13_6 rfl ⟨rfl, rfl⟩ ?_
      refine xi_iaload (pc' := 8) (v := 0) kc_13_7 rfl ((eh2.2.1 140 (by decide)).trans ((eh1.2.1 140 (by decide)).trans (F 140 _ hl_140))) (by decide) rfl (xi_in (n := 7) (by decide) (by decide)) rfl ?_
      refine xi_iconst (pc' := 9) (v := 1) kc_13_8 rfl rfl ?_
      refine xi_iadd (pc' := 10) (v := 1) kc_13_9 rfl rfl ?_
      refine xi_iastore (pc' := 11) (x' := [0, 1, 0, 0, 0, 0, 0]) kc_13_10 rfl ((eh2.2.1 140 (by decide)).trans ((eh1.2.1 140 (by decide)).trans (F 140 _ hl_140))) rfl (xi_in (n := 7) (by decide) (by decide)) rfl (fun hh3 eh3 => ?_)
      refine xi_iload_n (pc' := 12) (x := (-1)) kc_13_11 rfl rfl ?_
      refine xi_ireturn kc_13_12 mr_13 rfl ?_
      show xw J ov 99 47 (18, [(0, .ref 115), (1, .int a1), (2, .int a2)], [.int (-1)], hh3) _
      refine xi_ireturn kc_47_18 mr_47 rfl ?_
      show xw J ov 100 196 (877, [(4, .int 0), (3, .ref 167), (2, .ref 115), (1, .ref 0), (0, .ref 1000000)], [.int (-1), .int (-1)], hh3) _
      refine xi_cmt (pc' := 1528) kc_196_877 rfl rfl ?_
      refine xi_iinc (pc' := 1531) (x := 0) (v := 6) (lv' := [(4, .int 6), (3, .ref 167), (2, .ref 115), (1, .ref 0), (0, .ref 1000000)]) kc_196_1528 rfl rfl rfl rfl (xm_lt ml_196 rfl) ?_
      refine xi_goto (pc' := 23) kc_196_1531 rfl ?_
      refine xi_iload (pc' := 25) (x := 6) kc_196_23 rfl rfl ?_
      refine xi_aload_n (pc' := 26) (x := 1000000) kc_196_25 rfl rfl ?_
      refine xi_arraylength (pc' := 27) (n := 6) (v := 6) kc_196_26 rfl (xl_lenO (by decide) hov0 rfl) rfl ?_
      refine xi_bipush (pc' := 29) (v := 6) kc_196_27 rfl rfl ?_
      refine xi_isub (pc' := 30) (v := 0) kc_196_29 rfl rfl ?_
      refine xi_cmt (pc' := 1534) kc_196_30 rfl rfl ?_
      refine xi_iconst (pc' := 1535) (v := 1) kc_196_1534 rfl rfl ?_
      refine xi_ireturn kc_196_1535 mr_196 rfl ?_
      refine ⟨rfl, ?_, ?_⟩
      · rw [eh3.2.2.1, eh2.2.2.1, eh1.2.2.1]; exact hn0
      · rw [eh3.2.2.2, eh2.2.2.2, eh1.2.2.2]; exact hz0
    · refine xi_cmf (pc' := 10) kc_105_7 rfl (xc_ge_f (X := a2.toInt) (Y := 12) rfl (by decide) (by omega)) ?_
      refine xi_iconst (pc' := 11) (v := 1) kc_105_10 rfl rfl ?_
      refine xi_goto (pc' := 15) kc_105_11 rfl ?_
      refine xi_ireturn kc_105_15 mr_105 rfl ?_
      show xw J ov 98 109 (4, [(0, .ref 1), (1, .int a2)], [.int 1], h0) _
      refine xi_iff (pc' := 7) kc_109_4 rfl rfl ?_
      refine xi_aload_n (pc' := 8) (x := 1) kc_109_7 rfl rfl ?_
      refine xi_getfield (pc' := 11) (v := .ref 3) kc_109_8 rfl rfl rfl (F 1 _ hl_1) rfl ?_
      refine xi_iload_n (pc' := 12) (x := a2) kc_109_11 rfl rfl ?_
      by_cases c3 : a2.toInt = 0
      · have qa2 : a2 = 0 := xc_of (Eq.trans (by omega) (show (0 : Int) = (0 : Int32).toInt by decide))
        subst qa2
        refine xi_aaload (pc' := 13) (b := 29) kc_109_12 rfl (F 3 _ hl_3) rfl (xi_in (n := 12) (by decide) (by decide)) rfl ?_
        refine xi_virtual (mj := 106) (as := []) (st1 := []) (lv0 := [(0, .ref 29)]) kc_109_13 rfl rfl rfl rfl rfl (F 29 _ hl_29) (Nat.le_of_ble_eq_true rfl) (hJ _ _ _ _ (by decide)) (xm_le ml_106 rfl) rfl ?_
        refine xi_aload_n (pc' := 1) (x := 29) kc_106_0 rfl rfl ?_
        refine xi_getfield (pc' := 4) (v := .int (-9)) kc_106_1 rfl rfl rfl (F 29 _ hl_29) rfl ?_
        refine xi_static (mj := 90) (as := [.int (-9)]) (st1 := []) (lv0 := [(0, .int (-9))]) kc_106_4 rfl rfl (Nat.le_of_ble_eq_true rfl) rfl rfl (Nat.le_of_ble_eq_true rfl) (hJ _ _ _ _ (by decide)) (xm_le ml_90 rfl) rfl ?_
        refine xi_iload_n (pc' := 1) (x := (-9)) kc_90_0 rfl rfl ?_
        refine xi_ift (pc' := 14) kc_90_1 rfl rfl ?_
        refine xi_iconst (pc' := 15) (v := 0) kc_90_14 rfl rfl ?_
        refine xi_ireturn kc_90_15 mr_90 rfl ?_
        show xw J ov 97 106 (7, [(0, .ref 29)], [.int 0], h0) _
        refine xi_ireturn kc_106_7 mr_106 rfl ?_
        show xw J ov 98 109 (16, [(0, .ref 1), (1, .int 0)], [.int 0], h0) _
        refine xi_ift (pc' := 23) kc_109_16 rfl rfl ?_
        refine xi_iconst (pc' := 24) (v := 0) kc_109_23 rfl rfl ?_
        refine xi_ireturn kc_109_24 mr_109 rfl ?_
        show xw J ov 99 138 (8, [(0, .ref 0), (1, .int a1), (2, .int 0)], [.int 0], h0) _
        refine xi_iff (pc' := 11) kc_138_8 rfl rfl ?_
        refine xi_aload_n (pc' := 12) (x := 0) kc_138_11 rfl rfl ?_
        refine xi_iconst (pc' := 13) (v := (-1)) kc_138_12 rfl rfl ?_
        refine xi_virtual (mj := 91) (as := [.int (-1)]) (st1 := []) (lv0 := [(0, .ref 0), (1, .int (-1))]) kc_138_13 rfl rfl rfl rfl rfl (F 0 _ hl_0) (Nat.le_of_ble_eq_true rfl) (hJ _ _ _ _ (by decide)) (xm_le ml_91 rfl) rfl ?_
        refine xi_iload_n (pc' := 1) (x := (-1)) kc_91_0 rfl rfl ?_
        refine xi_ineg (pc' := 2) (v := 1) kc_91_1 rfl rfl ?_
        refine xi_istore_n (pc' := 3) (lv' := [(2, .int 1), (0, .ref 0), (1, .int (-1))]) kc_91_2 rfl rfl (xm_lt ml_91 rfl) ?_
        refine xi_iload_n (pc' := 4) (x := 1) kc_91_3 rfl rfl ?_
        refine xi_iff (pc' := 7) kc_91_4 rfl rfl ?_
        refine xi_iload_n (pc' := 8) (x := 1) kc_91_7 rfl rfl ?_
        refine xi_aload_n (pc' := 9) (x := 0) kc_91_8 rfl rfl ?_
        refine xi_getfield (pc' := 12) (v := .ref 94) kc_91_9 rfl rfl rfl (F 0 _ hl_0) rfl ?_
        refine xi_arraylength (pc' := 13) (n := 7) (v := 7) kc_91_12 rfl (xl_lenI (by decide) (by decide) (F 94 _ hl_94) (by simp only [List.length_replicate, List.length_cons, List.length_nil])) rfl ?_
        refine xi_cmf (pc' := 16) kc_91_13 rfl rfl ?_
        refine xi_aload_n (pc' := 17) (x := 0) kc_91_16 rfl rfl ?_
        refine xi_getfield (pc' := 20) (v := .ref 94) kc_91_17 rfl rfl rfl (F 0 _ hl_0) rfl ?_
        refine xi_iload_n (pc' := 21) (x := 1) kc_91_20 rfl rfl ?_
        refine xi_dup2 (pc' := 22) kc_91_21 rfl ⟨rfl, rfl⟩ ?_
        refine xi_iaload (pc' := 23) (v := 0) kc_91_22 rfl (F 94 _ hl_94) (by decide) rfl (xi_in (n := 7) (by decide) (by decide)) rfl ?_
        refine xi_iconst (pc' := 24) (v := 1) kc_91_23 rfl rfl ?_
        refine xi_iadd (pc' := 25) (v := 1) kc_91_24 rfl rfl ?_
        refine xi_iastore (pc' := 26) (x' := [0, 1, 0, 0, 0, 0, 0]) kc_91_25 rfl (F 94 _ hl_94) rfl (xi_in (n := 7) (by decide) (by decide)) rfl (fun hh1 eh1 => ?_)
        refine xi_iload_n (pc' := 27) (x := (-1)) kc_91_26 rfl rfl ?_
        refine xi_ireturn kc_91_27 mr_91 rfl ?_
        show xw J ov 99 138 (16, [(0, .ref 0), (1, .int a1), (2, .int 0)], [.int (-1)], hh1) _
        refine xi_ireturn kc_138_16 mr_138 rfl ?_
        show xw J ov 100 196 (861, [(4, .int 0), (3, .ref 167), (2, .ref 115), (1, .ref 0), (0, .ref 1000000)], [.int (-1)], hh1) _
        refine xi_aload_n (pc' := 862) (x := 115) kc_196_861 rfl rfl ?_
        refine xi_aload_n (pc' := 863) (x := 1000000) kc_196_862 rfl rfl ?_
        refine xi_iload (pc' := 865) (x := 0) kc_196_863 rfl rfl ?_
        refine xi_iconst (pc' := 866) (v := 1) kc_196_865 rfl rfl ?_
        refine xi_iadd (pc' := 867) (v := 1) kc_196_866 rfl rfl ?_
        refine xi_ialoadO (pc' := 868) (v := a1) kc_196_867 rfl (by decide) hov0 (xi_in (n := 6) (by decide) (by decide)) rfl ?_
        refine xi_aload_n (pc' := 869) (x := 1000000) kc_196_868 rfl rfl ?_
        refine xi_iload (pc' := 871) (x := 0) kc_196_869 rfl rfl ?_
        refine xi_iconst (pc' := 872) (v := 2) kc_196_871 rfl rfl ?_
        refine xi_iadd (pc' := 873) (v := 2) kc_196_872 rfl rfl ?_
        refine xi_ialoadO (pc' := 874) (v := 0) kc_196_873 rfl (by decide) hov0 (xi_in (n := 6) (by decide) (by decide)) rfl ?_
        refine xi_virtual (mj := 47) (as := [.int a1, .int 0]) (st1 := [.int (-1)]) (lv0 := [(0, .ref 115), (1, .int a1), (2, .int 0)]) kc_196_874 rfl rfl rfl rfl rfl ((eh1.2.1 115 (by decide)).trans (F 115 _ hl_115)) (Nat.le_of_ble_eq_true rfl) (hJ _ _ _ _ (by decide)) (xm_le ml_47 rfl) rfl ?_
        refine xi_aload_n (pc' := 1) (x := 115) kc_47_0 rfl rfl ?_
        refine xi_iconst (pc' := 2) (v := 0) kc_47_1 rfl rfl ?_
        refine xi_putfield (pc' := 5) (fs' := [.int 0, .int 0, .ref 116, .ref 117, .ref 118, .ref 119, .ref 120, .ref 121, .ref 122, .ref 123, .ref 124, .ref 125, .ref 126, .ref 127, .ref 128, .ref 129, .int 4, .ref 130, .int 0, .ref 131, .ref 132, .ref 133, .ref 134, .int 0, .ref 135, .ref 136, .ref 137, .ref 138, .ref 139, .ref 140, .ref 141, .ref 142, .int 0, .int 0, .int 0, .ref 143, .ref 144, .ref 145, .ref 146, .ref 147, .ref 148, .int 0, .ref 149, .ref 150, .ref 151, .int 0, .ref 152, .ref 153, .ref 154, .ref 155, .ref 156, .ref 157, .ref 158, .ref 159, .int 0, .ref 160, .int 0, .ref 161, .ref 162, .ref 163, .ref 164, .int 0, .ref 165, .ref 166]) kc_47_2 rfl rfl rfl ((eh1.2.1 115 (by decide)).trans (F 115 _ hl_115)) rfl rfl rfl (Nat.le_of_ble_eq_true rfl) rfl (fun hh2 eh2 => ?_)
        refine xi_aload_n (pc' := 6) (x := 115) kc_47_5 rfl rfl ?_
        refine xi_iload_n (pc' := 7) (x := 0) kc_47_6 rfl rfl ?_
        refine xi_virtual (mj := 32) (as := [.int 0]) (st1 := []) (lv0 := [(0, .ref 115), (1, .int 0)]) kc_47_7 rfl rfl rfl rfl rfl eh2.1 (Nat.le_of_ble_eq_true rfl) (hJ _ _ _ _ (by decide)) (xm_le ml_32 rfl) rfl ?_
        refine xi_iload_n (pc' := 1) (x := 0) kc_32_0 rfl rfl ?_
        refine xi_static (mj := 25) (as := [.int 0]) (st1 := []) (lv0 := [(0, .int 0)]) kc_32_1 rfl rfl (Nat.le_of_ble_eq_true rfl) rfl rfl (Nat.le_of_ble_eq_true rfl) (hJ _ _ _ _ (by decide)) (xm_le ml_25 rfl) rfl ?_
        refine xi_iload_n (pc' := 1) (x := 0) kc_25_0 rfl rfl ?_
        refine xi_iconst (pc' := 2) (v := 0) kc_25_1 rfl rfl ?_
        refine xi_bipush (pc' := 4) (v := 11) kc_25_2 rfl rfl ?_
        refine xi_static (mj := 12) (as := [.int 0, .int 0, .int 11]) (st1 := []) (lv0 := [(0, .int 0), (1, .int 0), (2, .int 11)]) kc_25_4 rfl rfl (Nat.le_of_ble_eq_true rfl) rfl rfl (Nat.le_of_ble_eq_true rfl) (hJ _ _ _ _ (by decide)) (xm_le ml_12 rfl) rfl ?_
        refine xi_iload_n (pc' := 1) (x := 0) kc_12_0 rfl rfl ?_
        refine xi_iload_n (pc' := 2) (x := 0) kc_12_1 rfl rfl ?_
        refine xi_cmf (pc' := 5) kc_12_2 rfl rfl ?_
        refine xi_iload_n (pc' := 6) (x := 0) kc_12_5 rfl rfl ?_
        refine xi_iload_n (pc' := 7) (x := 11) kc_12_6 rfl rfl ?_
        refine xi_cmf (pc' := 10) kc_12_7 rfl rfl ?_
        refine xi_iconst (pc' := 11) (v := 1) kc_12_10 rfl rfl ?_
        refine xi_goto (pc' := 15) kc_12_11 rfl ?_
        refine xi_ireturn kc_12_15 mr_12 rfl ?_
        show xw J ov 97 25 (7, [(0, .int 0)], [.int 1], hh2) _
        refine xi_ireturn kc_25_7 mr_25 rfl ?_
        show xw J ov 98 32 (4, [(0, .ref 115), (1, .int 0)], [.int 1], hh2) _
        refine xi_iff (pc' := 7) kc_32_4 rfl rfl ?_
        refine xi_aload_n (pc' := 8) (x := 115) kc_32_7 rfl rfl ?_
        refine xi_getfield (pc' := 11) (v := .ref 125) kc_32_8 rfl rfl rfl eh2.1 rfl ?_
        refine xi_iload_n (pc' := 12) (x := 0) kc_32_11 rfl rfl ?_
        refine xi_iaload (pc' := 13) (v := (-9)) kc_32_12 rfl ((eh2.2.1 125 (by decide)).trans ((eh1.2.1 125 (by decide)).trans (F 125 _ hl_125))) (by decide) rfl (xi_in (n := 12) (by decide) (by decide)) rfl ?_
        refine xi_ift (pc' := 20) kc_32_13 rfl rfl ?_
        refine xi_iconst (pc' := 21) (v := 0) kc_32_20 rfl rfl ?_
        refine xi_ireturn kc_32_21 mr_32 rfl ?_
        show xw J ov 99 47 (10, [(0, .ref 115), (1, .int a1), (2, .int 0)], [.int 0], hh2) _
        refine xi_iff (pc' := 13) kc_47_10 rfl rfl ?_
        refine xi_aload_n (pc' := 14) (x := 115) kc_47_13 rfl rfl ?_
        refine xi_iconst (pc' := 15) (v := (-1)) kc_47_14 rfl rfl ?_
        refine xi_virtual (mj := 13) (as := [.int (-1)]) (st1 := []) (lv0 := [(0, .ref 115), (1, .int (-1))]) kc_47_15 rfl rfl rfl rfl rfl eh2.1 (Nat.le_of_ble_eq_true rfl) (hJ _ _ _ _ (by decide)) (xm_le ml_13 rfl) rfl ?_
        refine xi_aload_n (pc' := 1) (x := 115) kc_13_0 rfl rfl ?_
        refine xi_getfield (pc' := 4) (v := .ref 140) kc_13_1 rfl rfl rfl eh2.1 rfl ?_
        refine xi_iload_n (pc' := 5) (x := (-1)) kc_13_4 rfl rfl ?_
        refine xi_ineg (pc' := 6) (v := 1) kc_13_5 rfl rfl ?_
        refine xi_dup2 (pc' := 7) kc_13_6 rfl ⟨rfl, rfl⟩ ?_
        refine xi_iaload (pc' := 8) (v := 0) kc_13_7 rfl ((eh2.2.1 140 (by decide)).trans ((eh1.2.1 140 (by decide)).trans (F 140 _ hl_140))) (by decide) rfl (xi_in (n := 7) (by decide) (by decide)) rfl ?_
        refine xi_iconst (pc' := 9) (v := 1) kc_13_8 rfl rfl ?_
        refine xi_iadd (pc' := 10) (v := 1) kc_13_9 rfl rfl ?_
        refine xi_iastore (pc' := 11) (x' := [0, 1, 0, 0, 0, 0, 0]) kc_13_10 rfl ((eh2.2.1 140 (by decide)).trans ((eh1.2.1 140 (by decide)).trans (F 140 _ hl_140))) rfl (xi_in (n := 7) (by decide) (by decide)) rfl (fun hh3 eh3 => ?_)
        refine xi_iload_n (pc' := 12) (x := (-1)) kc_13_11 rfl rfl ?_
        refine xi_ireturn kc_13_12 mr_13 rfl ?_
        show xw J ov 99 47 (18, [(0, .ref 115), (1, .int a1), (2, .int 0)], [.int (-1)], hh3) _
        refine xi_ireturn kc_47_18 mr_47 rfl ?_
        show xw J ov 100 196 (877, [(4, .int 0), (3, .ref 167), (2, .ref 115), (1, .ref 0), (0, .ref 1000000)], [.int (-1), .int (-1)], hh3) _
        refine xi_cmt (pc' := 1528) kc_196_877 rfl rfl ?_
        refine xi_iinc (pc' := 1531) (x := 0) (v := 6) (lv' := [(4, .int 6), (3, .ref 167), (2, .ref 115), (1, .ref 0), (0, .ref 1000000)]) kc_196_1528 rfl rfl rfl rfl (xm_lt ml_196 rfl) ?_
        refine xi_goto (pc' := 23) kc_196_1531 rfl ?_
        refine xi_iload (pc' := 25) (x := 6) kc_196_23 rfl rfl ?_
        refine xi_aload_n (pc' := 26) (x := 1000000) kc_196_25 rfl rfl ?_
        refine xi_arraylength (pc' := 27) (n := 6) (v := 6) kc_196_26 rfl (xl_lenO (by decide) hov0 rfl) rfl ?_
        refine xi_bipush (pc' := 29) (v := 6) kc_196_27 rfl rfl ?_
        refine xi_isub (pc' := 30) (v := 0) kc_196_29 rfl rfl ?_
        refine xi_cmt (pc' := 1534) kc_196_30 rfl rfl ?_
        refine xi_iconst (pc' := 1535) (v := 1) kc_196_1534 rfl rfl ?_
        refine xi_ireturn kc_196_1535 mr_196 rfl ?_
        refine ⟨rfl, ?_, ?_⟩
        · rw [eh3.2.2.1, eh2.2.2.1, eh1.2.2.1]; exact hn0
        · rw [eh3.2.2.2, eh2.2.2.2, eh1.2.2.2]; exact hz0
      by_cases c4 : a2.toInt = 1
      · have qa2 : a2 = 1 := xc_of (Eq.trans (by omega) (show (1 : Int) = (1 : Int32).toInt by decide))
        subst qa2
        refine xi_aaload (pc' := 13) (b := 31) kc_109_12 rfl (F 3 _ hl_3) rfl (xi_in (n := 12) (by decide) (by decide)) rfl ?_
        refine xi_virtual (mj := 106) (as := []) (st1 := []) (lv0 := [(0, .ref 31)]) kc_109_13 rfl rfl rfl rfl rfl (F 31 _ hl_31) (Nat.le_of_ble_eq_true rfl) (hJ _ _ _ _ (by decide)) (xm_le ml_106 rfl) rfl ?_
        refine xi_aload_n (pc' := 1) (x := 31) kc_106_0 rfl rfl ?_
        refine xi_getfield (pc' := 4) (v := .int (-9)) kc_106_1 rfl rfl rfl (F 31 _ hl_31) rfl ?_
        refine xi_static (mj := 90) (as := [.int (-9)]) (st1 := []) (lv0 := [(0, .int (-9))]) kc_106_4 rfl rfl (Nat.le_of_ble_eq_true rfl) rfl rfl (Nat.le_of_ble_eq_true rfl) (hJ _ _ _ _ (by decide)) (xm_le ml_90 rfl) rfl ?_
        refine xi_iload_n (pc' := 1) (x := (-9)) kc_90_0 rfl rfl ?_
        refine xi_ift (pc' := 14) kc_90_1 rfl rfl ?_
        refine xi_iconst (pc' := 15) (v := 0) kc_90_14 rfl rfl ?_
        refine xi_ireturn kc_90_15 mr_90 rfl ?_
        show xw J ov 97 106 (7, [(0, .ref 31)], [.int 0], h0) _
        refine xi_ireturn kc_106_7 mr_106 rfl ?_
        show xw J ov 98 109 (16, [(0, .ref 1), (1, .int 1)], [.int 0], h0) _
        refine xi_ift (pc' := 23) kc_109_16 rfl rfl ?_
        refine xi_iconst (pc' := 24) (v := 0) kc_109_23 rfl rfl ?_
        refine xi_ireturn kc_109_24 mr_109 rfl ?_
        show xw J ov 99 138 (8, [(0, .ref 0), (1, .int a1), (2, .int 1)], [.int 0], h0) _
        refine xi_iff (pc' := 11) kc_138_8 rfl rfl ?_
        refine xi_aload_n (pc' := 12) (x := 0) kc_138_11 rfl rfl ?_
        refine xi_iconst (pc' := 13) (v := (-1)) kc_138_12 rfl rfl ?_
        refine xi_virtual (mj := 91) (as := [.int (-1)]) (st1 := []) (lv0 := [(0, .ref 0), (1, .int (-1))]) kc_138_13 rfl rfl rfl rfl rfl (F 0 _ hl_0) (Nat.le_of_ble_eq_true rfl) (hJ _ _ _ _ (by decide)) (xm_le ml_91 rfl) rfl ?_
        refine xi_iload_n (pc' := 1) (x := (-1)) kc_91_0 rfl rfl ?_
        refine xi_ineg (pc' := 2) (v := 1) kc_91_1 rfl rfl ?_
        refine xi_istore_n (pc' := 3) (lv' := [(2, .int 1), (0, .ref 0), (1, .int (-1))]) kc_91_2 rfl rfl (xm_lt ml_91 rfl) ?_
        refine xi_iload_n (pc' := 4) (x := 1) kc_91_3 rfl rfl ?_
        refine xi_iff (pc' := 7) kc_91_4 rfl rfl ?_
        refine xi_iload_n (pc' := 8) (x := 1) kc_91_7 rfl rfl ?_
        refine xi_aload_n (pc' := 9) (x := 0) kc_91_8 rfl rfl ?_
        refine xi_getfield (pc' := 12) (v := .ref 94) kc_91_9 rfl rfl rfl (F 0 _ hl_0) rfl ?_
        refine xi_arraylength (pc' := 13) (n := 7) (v := 7) kc_91_12 rfl (xl_lenI (by decide) (by decide) (F 94 _ hl_94) (by simp only [List.length_replicate, List.length_cons, List.length_nil])) rfl ?_
        refine xi_cmf (pc' := 16) kc_91_13 rfl rfl ?_
        refine xi_aload_n (pc' := 17) (x := 0) kc_91_16 rfl rfl ?_
        refine xi_getfield (pc' := 20) (v := .ref 94) kc_91_17 rfl rfl rfl (F 0 _ hl_0) rfl ?_
        refine xi_iload_n (pc' := 21) (x := 1) kc_91_20 rfl rfl ?_
        refine xi_dup2 (pc' := 22) kc_91_21 rfl ⟨rfl, rfl⟩ ?_
        refine xi_iaload (pc' := 23) (v := 0) kc_91_22 rfl (F 94 _ hl_94) (by decide) rfl (xi_in (n := 7) (by decide) (by decide)) rfl ?_
        refine xi_iconst (pc' := 24) (v := 1) kc_91_23 rfl rfl ?_
        refine xi_iadd (pc' := 25) (v := 1) kc_91_24 rfl rfl ?_
        refine xi_iastore (pc' := 26) (x' := [0, 1, 0, 0, 0, 0, 0]) kc_91_25 rfl (F 94 _ hl_94) rfl (xi_in (n := 7) (by decide) (by decide)) rfl (fun hh1 eh1 => ?_)
        refine xi_iload_n (pc' := 27) (x := (-1)) kc_91_26 rfl rfl ?_
        refine xi_ireturn kc_91_27 mr_91 rfl ?_
        show xw J ov 99 138 (16, [(0, .ref 0), (1, .int a1), (2, .int 1)], [.int (-1)], hh1) _
        refine xi_ireturn kc_138_16 mr_138 rfl ?_
        show xw J ov 100 196 (861, [(4, .int 0), (3, .ref 167), (2, .ref 115), (1, .ref 0), (0, .ref 1000000)], [.int (-1)], hh1) _
        refine xi_aload_n (pc' := 862) (x := 115) kc_196_861 rfl rfl ?_
        refine xi_aload_n (pc' := 863) (x := 1000000) kc_196_862 rfl rfl ?_
        refine xi_iload (pc' := 865) (x := 0) kc_196_863 rfl rfl ?_
        refine xi_iconst (pc' := 866) (v := 1) kc_196_865 rfl rfl ?_
        refine xi_iadd (pc' := 867) (v := 1) kc_196_866 rfl rfl ?_
        refine xi_ialoadO (pc' := 868) (v := a1) kc_196_867 rfl (by decide) hov0 (xi_in (n := 6) (by decide) (by decide)) rfl ?_
        refine xi_aload_n (pc' := 869) (x := 1000000) kc_196_868 rfl rfl ?_
        refine xi_iload (pc' := 871) (x := 0) kc_196_869 rfl rfl ?_
        refine xi_iconst (pc' := 872) (v := 2) kc_196_871 rfl rfl ?_
        refine xi_iadd (pc' := 873) (v := 2) kc_196_872 rfl rfl ?_
        refine xi_ialoadO (pc' := 874) (v := 1) kc_196_873 rfl (by decide) hov0 (xi_in (n := 6) (by decide) (by decide)) rfl ?_
        refine xi_virtual (mj := 47) (as := [.int a1, .int 1]) (st1 := [.int (-1)]) (lv0 := [(0, .ref 115), (1, .int a1), (2, .int 1)]) kc_196_874 rfl rfl rfl rfl rfl ((eh1.2.1 115 (by decide)).trans (F 115 _ hl_115)) (Nat.le_of_ble_eq_true rfl) (hJ _ _ _ _ (by decide)) (xm_le ml_47 rfl) rfl ?_
        refine xi_aload_n (pc' := 1) (x := 115) kc_47_0 rfl rfl ?_
        refine xi_iconst (pc' := 2) (v := 0) kc_47_1 rfl rfl ?_
        refine xi_putfield (pc' := 5) (fs' := [.int 0, .int 0, .ref 116, .ref 117, .ref 118, .ref 119, .ref 120, .ref 121, .ref 122, .ref 123, .ref 124, .ref 125, .ref 126, .ref 127, .ref 128, .ref 129, .int 4, .ref 130, .int 0, .ref 131, .ref 132, .ref 133, .ref 134, .int 0, .ref 135, .ref 136, .ref 137, .ref 138, .ref 139, .ref 140, .ref 141, .ref 142, .int 0, .int 0, .int 0, .ref 143, .ref 144, .ref 145, .ref 146, .ref 147, .ref 148, .int 0, .ref 149, .ref 150, .ref 151, .int 0, .ref 152, .ref 153, .ref 154, .ref 155, .ref 156, .ref 157, .ref 158, .ref 159, .int 0, .ref 160, .int 0, .ref 161, .ref 162, .ref 163, .ref 164, .int 0, .ref 165, .ref 166]) kc_47_2 rfl rfl rfl ((eh1.2.1 115 (by decide)).trans (F 115 _ hl_115)) rfl rfl rfl (Nat.le_of_ble_eq_true rfl) rfl (fun hh2 eh2 => ?_)
        refine xi_aload_n (pc' := 6) (x := 115) kc_47_5 rfl rfl ?_
        refine xi_iload_n (pc' := 7) (x := 1) kc_47_6 rfl rfl ?_
        refine xi_virtual (mj := 32) (as := [.int 1]) (st1 := []) (lv0 := [(0, .ref 115), (1, .int 1)]) kc_47_7 rfl rfl rfl rfl rfl eh2.1 (Nat.le_of_ble_eq_true rfl) (hJ _ _ _ _ (by decide)) (xm_le ml_32 rfl) rfl ?_
        refine xi_iload_n (pc' := 1) (x := 1) kc_32_0 rfl rfl ?_
        refine xi_static (mj := 25) (as := [.int 1]) (st1 := []) (lv0 := [(0, .int 1)]) kc_32_1 rfl rfl (Nat.le_of_ble_eq_true rfl) rfl rfl (Nat.le_of_ble_eq_true rfl) (hJ _ _ _ _ (by decide)) (xm_le ml_25 rfl) rfl ?_
        refine xi_iload_n (pc' := 1) (x := 1) kc_25_0 rfl rfl ?_
        refine xi_iconst (pc' := 2) (v := 0) kc_25_1 rfl rfl ?_
        refine xi_bipush (pc' := 4) (v := 11) kc_25_2 rfl rfl ?_
        refine xi_static (mj := 12) (as := [.int 1, .int 0, .int 11]) (st1 := []) (lv0 := [(0, .int 1), (1, .int 0), (2, .int 11)]) kc_25_4 rfl rfl (Nat.le_of_ble_eq_true rfl) rfl rfl (Nat.le_of_ble_eq_true rfl) (hJ _ _ _ _ (by decide)) (xm_le ml_12 rfl) rfl ?_
        refine xi_iload_n (pc' := 1) (x := 1) kc_12_0 rfl rfl ?_
        refine xi_iload_n (pc' := 2) (x := 0) kc_12_1 rfl rfl ?_
        refine xi_cmf (pc' := 5) kc_12_2 rfl rfl ?_
        refine xi_iload_n (pc' := 6) (x := 1) kc_12_5 rfl rfl ?_
        refine xi_iload_n (pc' := 7) (x := 11) kc_12_6 rfl rfl ?_
        refine xi_cmf (pc' := 10) kc_12_7 rfl rfl ?_
        refine xi_iconst (pc' := 11) (v := 1) kc_12_10 rfl rfl ?_
        refine xi_goto (pc' := 15) kc_12_11 rfl ?_
        refine xi_ireturn kc_12_15 mr_12 rfl ?_
        show xw J ov 97 25 (7, [(0, .int 1)], [.int 1], hh2) _
        refine xi_ireturn kc_25_7 mr_25 rfl ?_
        show xw J ov 98 32 (4, [(0, .ref 115), (1, .int 1)], [.int 1], hh2) _
        refine xi_iff (pc' := 7) kc_32_4 rfl rfl ?_
        refine xi_aload_n (pc' := 8) (x := 115) kc_32_7 rfl rfl ?_
        refine xi_getfield (pc' := 11) (v := .ref 125) kc_32_8 rfl rfl rfl eh2.1 rfl ?_
        refine xi_iload_n (pc' := 12) (x := 1) kc_32_11 rfl rfl ?_
        refine xi_iaload (pc' := 13) (v := (-9)) kc_32_12 rfl ((eh2.2.1 125 (by decide)).trans ((eh1.2.1 125 (by decide)).trans (F 125 _ hl_125))) (by decide) rfl (xi_in (n := 12) (by decide) (by decide)) rfl ?_
        refine xi_ift (pc' := 20) kc_32_13 rfl rfl ?_
        refine xi_iconst (pc' := 21) (v := 0) kc_32_20 rfl rfl ?_
        refine xi_ireturn kc_32_21 mr_32 rfl ?_
        show xw J ov 99 47 (10, [(0, .ref 115), (1, .int a1), (2, .int 1)], [.int 0], hh2) _
        refine xi_iff (pc' := 13) kc_47_10 rfl rfl ?_
        refine xi_aload_n (pc' := 14) (x := 115) kc_47_13 rfl rfl ?_
        refine xi_iconst (pc' := 15) (v := (-1)) kc_47_14 rfl rfl ?_
        refine xi_virtual (mj := 13) (as := [.int (-1)]) (st1 := []) (lv0 := [(0, .ref 115), (1, .int (-1))]) kc_47_15 rfl rfl rfl rfl rfl eh2.1 (Nat.le_of_ble_eq_true rfl) (hJ _ _ _ _ (by decide)) (xm_le ml_13 rfl) rfl ?_
        refine xi_aload_n (pc' := 1) (x := 115) kc_13_0 rfl rfl ?_
        refine xi_getfield (pc' := 4) (v := .ref 140) kc_13_1 rfl rfl rfl eh2.1 rfl ?_
        refine xi_iload_n (pc' := 5) (x := (-1)) kc_13_4 rfl rfl ?_
        refine xi_ineg (pc' := 6) (v := 1) kc_13_5 rfl rfl ?_
        refine xi_dup2 (pc' := 7) kc_13_6 rfl ⟨rfl, rfl⟩ ?_
        refine xi_iaload (pc' := 8) (v := 0) kc_13_7 rfl ((eh2.2.1 140 (by decide)).trans ((eh1.2.1 140 (by decide)).trans (F 140 _ hl_140))) (by decide) rfl (xi_in (n := 7) (by decide) (by decide)) rfl ?_
        refine xi_iconst (pc' := 9) (v := 1) kc_13_8 rfl rfl ?_
        refine xi_iadd (pc' := 10) (v := 1) kc_13_9 rfl rfl ?_
        refine xi_iastore (pc' := 11) (x' := [0, 1, 0, 0, 0, 0, 0]) kc_13_10 rfl ((eh2.2.1 140 (by decide)).trans ((eh1.2.1 140 (by decide)).trans (F 140 _ hl_140))) rfl (xi_in (n := 7) (by decide) (by decide)) rfl (fun hh3 eh3 => ?_)
        refine xi_iload_n (pc' := 12) (x := (-1)) kc_13_11 rfl rfl ?_
        refine xi_ireturn kc_13_12 mr_13 rfl ?_
        show xw J ov 99 47 (18, [(0, .ref 115), (1, .int a1), (2, .int 1)], [.int (-1)], hh3) _
        refine xi_ireturn kc_47_18 mr_47 rfl ?_
        show xw J ov 100 196 (877, [(4, .int 0), (3, .ref 167), (2, .ref 115), (1, .ref 0), (0, .ref 1000000)], [.int (-1), .int (-1)], hh3) _
        refine xi_cmt (pc' := 1528) kc_196_877 rfl rfl ?_
        refine xi_iinc (pc' := 1531) (x := 0) (v := 6) (lv' := [(4, .int 6), (3, .ref 167), (2, .ref 115), (1, .ref 0), (0, .ref 1000000)]) kc_196_1528 rfl rfl rfl rfl (xm_lt ml_196 rfl) ?_
        refine xi_goto (pc' := 23) kc_196_1531 rfl ?_
        refine xi_iload (pc' := 25) (x := 6) kc_196_23 rfl rfl ?_
        refine xi_aload_n (pc' := 26) (x := 1000000) kc_196_25 rfl rfl ?_
        refine xi_arraylength (pc' := 27) (n := 6) (v := 6) kc_196_26 rfl (xl_lenO (by decide) hov0 rfl) rfl ?_
        refine xi_bipush (pc' := 29) (v := 6) kc_196_27 rfl rfl ?_
        refine xi_isub (pc' := 30) (v := 0) kc_196_29 rfl rfl ?_
        refine xi_cmt (pc' := 1534) kc_196_30 rfl rfl ?_
        refine xi_iconst (pc' := 1535) (v := 1) kc_196_1534 rfl rfl ?_
        refine xi_ireturn kc_196_1535 mr_196 rfl ?_
        refine ⟨rfl, ?_, ?_⟩
        · rw [eh3.2.2.1, eh2.2.2.1, eh1.2.2.1]; exact hn0
        · rw [eh3.2.2.2, eh2.2.2.2, eh1.2.2.2]; exact hz0
      by_cases c5 : a2.toInt = 2
      · have qa2 : a2 = 2 := xc_of (Eq.trans (by omega) (show (2 : Int) = (2 : Int32).toInt by decide))
        subst qa2
        refine xi_aaload (pc' := 13) (b := 33) kc_109_12 rfl (F 3 _ hl_3) rfl (xi_in (n := 12) (by decide) (by decide)) rfl ?_
        refine xi_virtual (mj := 106) (as := []) (st1 := []) (lv0 := [(0, .ref 33)]) kc_109_13 rfl rfl rfl rfl rfl (F 33 _ hl_33) (Nat.le_of_ble_eq_true rfl) (hJ _ _ _ _ (by decide)) (xm_le ml_106 rfl) rfl ?_
        refine xi_aload_n (pc' := 1) (x := 33) kc_106_0 rfl rfl ?_
        refine xi_getfield (pc' := 4) (v := .int (-9)) kc_106_1 rfl rfl rfl (F 33 _ hl_33) rfl ?_
        refine xi_static (mj := 90) (as := [.int (-9)]) (st1 := []) (lv0 := [(0, .int (-9))]) kc_106_4 rfl rfl (Nat.le_of_ble_eq_true rfl) rfl rfl (Nat.le_of_ble_eq_true rfl) (hJ _ _ _ _ (by decide)) (xm_le ml_90 rfl) rfl ?_
        refine xi_iload_n (pc' := 1) (x := (-9)) kc_90_0 rfl rfl ?_
        refine xi_ift (pc' := 14) kc_90_1 rfl rfl ?_
        refine xi_iconst (pc' := 15) (v := 0) kc_90_14 rfl rfl ?_
        refine xi_ireturn kc_90_15 mr_90 rfl ?_
        show xw J ov 97 106 (7, [(0, .ref 33)], [.int 0], h0) _
        refine xi_ireturn kc_106_7 mr_106 rfl ?_
        show xw J ov 98 109 (16, [(0, .ref 1), (1, .int 2)], [.int 0], h0) _
        refine xi_ift (pc' := 23) kc_109_16 rfl rfl ?_
        refine xi_iconst (pc' := 24) (v := 0) kc_109_23 rfl rfl ?_
        refine xi_ireturn kc_109_24 mr_109 rfl ?_
        show xw J ov 99 138 (8, [(0, .ref 0), (1, .int a1), (2, .int 2)], [.int 0], h0) _
        refine xi_iff (pc' := 11) kc_138_8 rfl rfl ?_
        refine xi_aload_n (pc' := 12) (x := 0) kc_138_11 rfl rfl ?_
        refine xi_iconst (pc' := 13) (v := (-1)) kc_138_12 rfl rfl ?_
        refine xi_virtual (mj := 91) (as := [.int (-1)]) (st1 := []) (lv0 := [(0, .ref 0), (1, .int (-1))]) kc_138_13 rfl rfl rfl rfl rfl (F 0 _ hl_0) (Nat.le_of_ble_eq_true rfl) (hJ _ _ _ _ (by decide)) (xm_le ml_91 rfl) rfl ?_
        refine xi_iload_n (pc' := 1) (x := (-1)) kc_91_0 rfl rfl ?_
        refine xi_ineg (pc' := 2) (v := 1) kc_91_1 rfl rfl ?_
        refine xi_istore_n (pc' := 3) (lv' := [(2, .int 1), (0, .ref 0), (1, .int (-1))]) kc_91_2 rfl rfl (xm_lt ml_91 rfl) ?_
        refine xi_iload_n (pc' := 4) (x := 1) kc_91_3 rfl rfl ?_
        refine xi_iff (pc' := 7) kc_91_4 rfl rfl ?_
        refine xi_iload_n (pc' := 8) (x := 1) kc_91_7 rfl rfl ?_
        refine xi_aload_n (pc' := 9) (x := 0) kc_91_8 rfl rfl ?_
        refine xi_getfield (pc' := 12) (v := .ref 94) kc_91_9 rfl rfl rfl (F 0 _ hl_0) rfl ?_
        refine xi_arraylength (pc' := 13) (n := 7) (v := 7) kc_91_12 rfl (xl_lenI (by decide) (by decide) (F 94 _ hl_94) (by simp only [List.length_replicate, List.length_cons, List.length_nil])) rfl ?_
        refine xi_cmf (pc' := 16) kc_91_13 rfl rfl ?_
        refine xi_aload_n (pc' := 17) (x := 0) kc_91_16 rfl rfl ?_
        refine xi_getfield (pc' := 20) (v := .ref 94) kc_91_17 rfl rfl rfl (F 0 _ hl_0) rfl ?_
        refine xi_iload_n (pc' := 21) (x := 1) kc_91_20 rfl rfl ?_
        refine xi_dup2 (pc' := 22) kc_91_21 rfl ⟨rfl, rfl⟩ ?_
        refine xi_iaload (pc' := 23) (v := 0) kc_91_22 rfl (F 94 _ hl_94) (by decide) rfl (xi_in (n := 7) (by decide) (by decide)) rfl ?_
        refine xi_iconst (pc' := 24) (v := 1) kc_91_23 rfl rfl ?_
        refine xi_iadd (pc' := 25) (v := 1) kc_91_24 rfl rfl ?_
        refine xi_iastore (pc' := 26) (x' := [0, 1, 0, 0, 0, 0, 0]) kc_91_25 rfl (F 94 _ hl_94) rfl (xi_in (n := 7) (by decide) (by decide)) rfl (fun hh1 eh1 => ?_)
        refine xi_iload_n (pc' := 27) (x := (-1)) kc_91_26 rfl rfl ?_
        refine xi_ireturn kc_91_27 mr_91 rfl ?_
        show xw J ov 99 138 (16, [(0, .ref 0), (1, .int a1), (2, .int 2)], [.int (-1)], hh1) _
        refine xi_ireturn kc_138_16 mr_138 rfl ?_
        show xw J ov 100 196 (861, [(4, .int 0), (3, .ref 167), (2, .ref 115), (1, .ref 0), (0, .ref 1000000)], [.int (-1)], hh1) _
        refine xi_aload_n (pc' := 862) (x := 115) kc_196_861 rfl rfl ?_
        refine xi_aload_n (pc' := 863) (x := 1000000) kc_196_862 rfl rfl ?_
        refine xi_iload (pc' := 865) (x := 0) kc_196_863 rfl rfl ?_
        refine xi_iconst (pc' := 866) (v := 1) kc_196_865 rfl rfl ?_
        refine xi_iadd (pc' := 867) (v := 1) kc_196_866 rfl rfl ?_
        refine xi_ialoadO (pc' := 868) (v := a1) kc_196_867 rfl (by decide) hov0 (xi_in (n := 6) (by decide) (by decide)) rfl ?_
        refine xi_aload_n (pc' := 869) (x := 1000000) kc_196_868 rfl rfl ?_
        refine xi_iload (pc' := 871) (x := 0) kc_196_869 rfl rfl ?_
        refine xi_iconst (pc' := 872) (v := 2) kc_196_871 rfl rfl ?_
        refine xi_iadd (pc' := 873) (v := 2) kc_196_872 rfl rfl ?_
        refine xi_ialoadO (pc' := 874) (v := 2) kc_196_873 rfl (by decide) hov0 (xi_in (n := 6) (by decide) (by decide)) rfl ?_
        refine xi_virtual (mj := 47) (as := [.int a1, .int 2]) (st1 := [.int (-1)]) (lv0 := [(0, .ref 115), (1, .int a1), (2, .int 2)]) kc_196_874 rfl rfl rfl rfl rfl ((eh1.2.1 115 (by decide)).trans (F 115 _ hl_115)) (Nat.le_of_ble_eq_true rfl) (hJ _ _ _ _ (by decide)) (xm_le ml_47 rfl) rfl ?_
        refine xi_aload_n (pc' := 1) (x := 115) kc_47_0 rfl rfl ?_
        refine xi_iconst (pc' := 2) (v := 0) kc_47_1 rfl rfl ?_
        refine xi_putfield (pc' := 5) (fs' := [.int 0, .int 0, .ref 116, .ref 117, .ref 118, .ref 119, .ref 120, .ref 121, .ref 122, .ref 123, .ref 124, .ref 125, .ref 126, .ref 127, .ref 128, .ref 129, .int 4, .ref 130, .int 0, .ref 131, .ref 132, .ref 133, .ref 134, .int 0, .ref 135, .ref 136, .ref 137, .ref 138, .ref 139, .ref 140, .ref 141, .ref 142, .int 0, .int 0, .int 0, .ref 143, .ref 144, .ref 145, .ref 146, .ref 147, .ref 148, .int 0, .ref 149, .ref 150, .ref 151, .int 0, .ref 152, .ref 153, .ref 154, .ref 155, .ref 156, .ref 157, .ref 158, .ref 159, .int 0, .ref 160, .int 0, .ref 161, .ref 162, .ref 163, .ref 164, .int 0, .ref 165, .ref 166]) kc_47_2 rfl rfl rfl ((eh1.2.1 115 (by decide)).trans (F 115 _ hl_115)) rfl rfl rfl (Nat.le_of_ble_eq_true rfl) rfl (fun hh2 eh2 => ?_)
        refine xi_aload_n (pc' := 6) (x := 115) kc_47_5 rfl rfl ?_
        refine xi_iload_n (pc' := 7) (x := 2) kc_47_6 rfl rfl ?_
        refine xi_virtual (mj := 32) (as := [.int 2]) (st1 := []) (lv0 := [(0, .ref 115), (1, .int 2)]) kc_47_7 rfl rfl rfl rfl rfl eh2.1 (Nat.le_of_ble_eq_true rfl) (hJ _ _ _ _ (by decide)) (xm_le ml_32 rfl) rfl ?_
        refine xi_iload_n (pc' := 1) (x := 2) kc_32_0 rfl rfl ?_
        refine xi_static (mj := 25) (as := [.int 2]) (st1 := []) (lv0 := [(0, .int 2)]) kc_32_1 rfl rfl (Nat.le_of_ble_eq_true rfl) rfl rfl (Nat.le_of_ble_eq_true rfl) (hJ _ _ _ _ (by decide)) (xm_le ml_25 rfl) rfl ?_
        refine xi_iload_n (pc' := 1) (x := 2) kc_25_0 rfl rfl ?_
        refine xi_iconst (pc' := 2) (v := 0) kc_25_1 rfl rfl ?_
        refine xi_bipush (pc' := 4) (v := 11) kc_25_2 rfl rfl ?_
        refine xi_static (mj := 12) (as := [.int 2, .int 0, .int 11]) (st1 := []) (lv0 := [(0, .int 2), (1, .int 0), (2, .int 11)]) kc_25_4 rfl rfl (Nat.le_of_ble_eq_true rfl) rfl rfl (Nat.le_of_ble_eq_true rfl) (hJ _ _ _ _ (by decide)) (xm_le ml_12 rfl) rfl ?_
        refine xi_iload_n (pc' := 1) (x := 2) kc_12_0 rfl rfl ?_
        refine xi_iload_n (pc' := 2) (x := 0) kc_12_1 rfl rfl ?_
        refine xi_cmf (pc' := 5) kc_12_2 rfl rfl ?_
        refine xi_iload_n (pc' := 6) (x := 2) kc_12_5 rfl rfl ?_
        refine xi_iload_n (pc' := 7) (x := 11) kc_12_6 rfl rfl ?_
        refine xi_cmf (pc' := 10) kc_12_7 rfl rfl ?_
        refine xi_iconst (pc' := 11) (v := 1) kc_12_10 rfl rfl ?_
        refine xi_goto (pc' := 15) kc_12_11 rfl ?_
        refine xi_ireturn kc_12_15 mr_12 rfl ?_
        show xw J ov 97 25 (7, [(0, .int 2)], [.int 1], hh2) _
        refine xi_ireturn kc_25_7 mr_25 rfl ?_
        show xw J ov 98 32 (4, [(0, .ref 115), (1, .int 2)], [.int 1], hh2) _
        refine xi_iff (pc' := 7) kc_32_4 rfl rfl ?_
        refine xi_aload_n (pc' := 8) (x := 115) kc_32_7 rfl rfl ?_
        refine xi_getfield (pc' := 11) (v := .ref 125) kc_32_8 rfl rfl rfl eh2.1 rfl ?_
        refine xi_iload_n (pc' := 12) (x := 2) kc_32_11 rfl rfl ?_
        refine xi_iaload (pc' := 13) (v := (-9)) kc_32_12 rfl ((eh2.2.1 125 (by decide)).trans ((eh1.2.1 125 (by decide)).trans (F 125 _ hl_125))) (by decide) rfl (xi_in (n := 12) (by decide) (by decide)) rfl ?_
        refine xi_ift (pc' := 20) kc_32_13 rfl rfl ?_
        refine xi_iconst (pc' := 21) (v := 0) kc_32_20 rfl rfl ?_
        refine xi_ireturn kc_32_21 mr_32 rfl ?_
        show xw J ov 99 47 (10, [(0, .ref 115), (1, .int a1), (2, .int 2)], [.int 0], hh2) _
        refine xi_iff (pc' := 13) kc_47_10 rfl rfl ?_
        refine xi_aload_n (pc' := 14) (x := 115) kc_47_13 rfl rfl ?_
        refine xi_iconst (pc' := 15) (v := (-1)) kc_47_14 rfl rfl ?_
        refine xi_virtual (mj := 13) (as := [.int (-1)]) (st1 := []) (lv0 := [(0, .ref 115), (1, .int (-1))]) kc_47_15 rfl rfl rfl rfl rfl eh2.1 (Nat.le_of_ble_eq_true rfl) (hJ _ _ _ _ (by decide)) (xm_le ml_13 rfl) rfl ?_
        refine xi_aload_n (pc' := 1) (x := 115) kc_13_0 rfl rfl ?_
        refine xi_getfield (pc' := 4) (v := .ref 140) kc_13_1 rfl rfl rfl eh2.1 rfl ?_
        refine xi_iload_n (pc' := 5) (x := (-1)) kc_13_4 rfl rfl ?_
        refine xi_ineg (pc' := 6) (v := 1) kc_13_5 rfl rfl ?_
        refine xi_dup2 (pc' := 7) kc_13_6 rfl ⟨rfl, rfl⟩ ?_
        refine xi_iaload (pc' := 8) (v := 0) kc_13_7 rfl ((eh2.2.1 140 (by decide)).trans ((eh1.2.1 140 (by decide)).trans (F 140 _ hl_140))) (by decide) rfl (xi_in (n := 7) (by decide) (by decide)) rfl ?_
        refine xi_iconst (pc' := 9) (v := 1) kc_13_8 rfl rfl ?_
        refine xi_iadd (pc' := 10) (v := 1) kc_13_9 rfl rfl ?_
        refine xi_iastore (pc' := 11) (x' := [0, 1, 0, 0, 0, 0, 0]) kc_13_10 rfl ((eh2.2.1 140 (by decide)).trans ((eh1.2.1 140 (by decide)).trans (F 140 _ hl_140))) rfl (xi_in (n := 7) (by decide) (by decide)) rfl (fun hh3 eh3 => ?_)
        refine xi_iload_n (pc' := 12) (x := (-1)) kc_13_11 rfl rfl ?_
        refine xi_ireturn kc_13_12 mr_13 rfl ?_
        show xw J ov 99 47 (18, [(0, .ref 115), (1, .int a1), (2, .int 2)], [.int (-1)], hh3) _
        refine xi_ireturn kc_47_18 mr_47 rfl ?_
        show xw J ov 100 196 (877, [(4, .int 0), (3, .ref 167), (2, .ref 115), (1, .ref 0), (0, .ref 1000000)], [.int (-1), .int (-1)], hh3) _
        refine xi_cmt (pc' := 1528) kc_196_877 rfl rfl ?_
        refine xi_iinc (pc' := 1531) (x := 0) (v := 6) (lv' := [(4, .int 6), (3, .ref 167), (2, .ref 115), (1, .ref 0), (0, .ref 1000000)]) kc_196_1528 rfl rfl rfl rfl (xm_lt ml_196 rfl) ?_
        refine xi_goto (pc' := 23) kc_196_1531 rfl ?_
        refine xi_iload (pc' := 25) (x := 6) kc_196_23 rfl rfl ?_
        refine xi_aload_n (pc' := 26) (x := 1000000) kc_196_25 rfl rfl ?_
        refine xi_arraylength (pc' := 27) (n := 6) (v := 6) kc_196_26 rfl (xl_lenO (by decide) hov0 rfl) rfl ?_
        refine xi_bipush (pc' := 29) (v := 6) kc_196_27 rfl rfl ?_
        refine xi_isub (pc' := 30) (v := 0) kc_196_29 rfl rfl ?_
        refine xi_cmt (pc' := 1534) kc_196_30 rfl rfl ?_
        refine xi_iconst (pc' := 1535) (v := 1) kc_196_1534 rfl rfl ?_
        refine xi_ireturn kc_196_1535 mr_196 rfl ?_
        refine ⟨rfl, ?_, ?_⟩
        · rw [eh3.2.2.1, eh2.2.2.1, eh1.2.2.1]; exact hn0
        · rw [eh3.2.2.2, eh2.2.2.2, eh1.2.2.2]; exact hz0
      by_cases c6 : a2.toInt = 3
      · have qa2 : a2 = 3 := xc_of (Eq.trans (by omega) (show (3 : Int) = (3 : Int32).toInt by decide))
        subst qa2
        refine xi_aaload (pc' := 13) (b := 35) kc_109_12 rfl (F 3 _ hl_3) rfl (xi_in (n := 12) (by decide) (by decide)) rfl ?_
        refine xi_virtual (mj := 106) (as := []) (st1 := []) (lv0 := [(0, .ref 35)]) kc_109_13 rfl rfl rfl rfl rfl (F 35 _ hl_35) (Nat.le_of_ble_eq_true rfl) (hJ _ _ _ _ (by decide)) (xm_le ml_106 rfl) rfl ?_
        refine xi_aload_n (pc' := 1) (x := 35) kc_106_0 rfl rfl ?_
        refine xi_getfield (pc' := 4) (v := .int (-9)) kc_106_1 rfl rfl rfl (F 35 _ hl_35) rfl ?_
        refine xi_static (mj := 90) (as := [.int (-9)]) (st1 := []) (lv0 := [(0, .int (-9))]) kc_106_4 rfl rfl (Nat.le_of_ble_eq_true rfl) rfl rfl (Nat.le_of_ble_eq_true rfl) (hJ _ _ _ _ (by decide)) (xm_le ml_90 rfl) rfl ?_
        refine xi_iload_n (pc' := 1) (x := (-9)) kc_90_0 rfl rfl ?_
        refine xi_ift (pc' := 14) kc_90_1 rfl rfl ?_
        refine xi_iconst (pc' := 15) (v := 0) kc_90_14 rfl rfl ?_
        refine xi_ireturn kc_90_15 mr_90 rfl ?_
        show xw J ov 97 106 (7, [(0, .ref 35)], [.int 0], h0) _
        refine xi_ireturn kc_106_7 mr_106 rfl ?_
        show xw J ov 98 109 (16, [(0, .ref 1), (1, .int 3)], [.int 0], h0) _
        refine xi_ift (pc' := 23) kc_109_16 rfl rfl ?_
        refine xi_iconst (pc' := 24) (v := 0) kc_109_23 rfl rfl ?_
        refine xi_ireturn kc_109_24 mr_109 rfl ?_
        show xw J ov 99 138 (8, [(0, .ref 0), (1, .int a1), (2, .int 3)], [.int 0], h0) _
        refine xi_iff (pc' := 11) kc_138_8 rfl rfl ?_
        refine xi_aload_n (pc' := 12) (x := 0) kc_138_11 rfl rfl ?_
        refine xi_iconst (pc' := 13) (v := (-1)) kc_138_12 rfl rfl ?_
        refine xi_virtual (mj := 91) (as := [.int (-1)]) (st1 := []) (lv0 := [(0, .ref 0), (1, .int (-1))]) kc_138_13 rfl rfl rfl rfl rfl (F 0 _ hl_0) (Nat.le_of_ble_eq_true rfl) (hJ _ _ _ _ (by decide)) (xm_le ml_91 rfl) rfl ?_
        refine xi_iload_n (pc' := 1) (x := (-1)) kc_91_0 rfl rfl ?_
        refine xi_ineg (pc' := 2) (v := 1) kc_91_1 rfl rfl ?_
        refine xi_istore_n (pc' := 3) (lv' := [(2, .int 1), (0, .ref 0), (1, .int (-1))]) kc_91_2 rfl rfl (xm_lt ml_91 rfl) ?_
        refine xi_iload_n (pc' := 4) (x := 1) kc_91_3 rfl rfl ?_
        refine xi_iff (pc' := 7) kc_91_4 rfl rfl ?_
        refine xi_iload_n (pc' := 8) (x := 1) kc_91_7 rfl rfl ?_
        refine xi_aload_n (pc' := 9) (x := 0) kc_91_8 rfl rfl ?_
        refine xi_getfield (pc' := 12) (v := .ref 94) kc_91_9 rfl rfl rfl (F 0 _ hl_0) rfl ?_
        refine xi_arraylength (pc' := 13) (n := 7) (v := 7) kc_91_12 rfl (xl_lenI (by decide) (by decide) (F 94 _ hl_94) (by simp only [List.length_replicate, List.length_cons, List.length_nil])) rfl ?_
        refine xi_cmf (pc' := 16) kc_91_13 rfl rfl ?_
        refine xi_aload_n (pc' := 17) (x := 0) kc_91_16 rfl rfl ?_
        refine xi_getfield (pc' := 20) (v := .ref 94) kc_91_17 rfl rfl rfl (F 0 _ hl_0) rfl ?_
        refine xi_iload_n (pc' := 21) (x := 1) kc_91_20 rfl rfl ?_
        refine xi_dup2 (pc' := 22) kc_91_21 rfl ⟨rfl, rfl⟩ ?_
        refine xi_iaload (pc' := 23) (v := 0) kc_91_22 rfl (F 94 _ hl_94) (by decide) rfl (xi_in (n := 7) (by decide) (by decide)) rfl ?_
        refine xi_iconst (pc' := 24) (v := 1) kc_91_23 rfl rfl ?_
        refine xi_iadd (pc' := 25) (v := 1) kc_91_24 rfl rfl ?_
        refine xi_iastore (pc' := 26) (x' := [0, 1, 0, 0, 0, 0, 0]) kc_91_25 rfl (F 94 _ hl_94) rfl (xi_in (n := 7) (by decide) (by decide)) rfl (fun hh1 eh1 => ?_)
        refine xi_iload_n (pc' := 27) (x := (-1)) kc_91_26 rfl rfl ?_
        refine xi_ireturn kc_91_27 mr_91 rfl ?_
        show xw J ov 99 138 (16, [(0, .ref 0), (1, .int a1), (2, .int 3)], [.int (-1)], hh1) _
        refine xi_ireturn kc_138_16 mr_138 rfl ?_
        show xw J ov 100 196 (861, [(4, .int 0), (3, .ref 167), (2, .ref 115), (1, .ref 0), (0, .ref 1000000)], [.int (-1)], hh1) _
        refine xi_aload_n (pc' := 862) (x := 115) kc_196_861 rfl rfl ?_
        refine xi_aload_n (pc' := 863) (x := 1000000) kc_196_862 rfl rfl ?_
        refine xi_iload (pc' := 865) (x := 0) kc_196_863 rfl rfl ?_
        refine xi_iconst (pc' := 866) (v := 1) kc_196_865 rfl rfl ?_
        refine xi_iadd (pc' := 867) (v := 1) kc_196_866 rfl rfl ?_
        refine xi_ialoadO (pc' := 868) (v := a1) kc_196_867 rfl (by decide) hov0 (xi_in (n := 6) (by decide) (by decide)) rfl ?_
        refine xi_aload_n (pc' := 869) (x := 1000000) kc_196_868 rfl rfl ?_
        refine xi_iload (pc' := 871) (x := 0) kc_196_869 rfl rfl ?_
        refine xi_iconst (pc' := 872) (v := 2) kc_196_871 rfl rfl ?_
        refine xi_iadd (pc' := 873) (v := 2) kc_196_872 rfl rfl ?_
        refine xi_ialoadO (pc' := 874) (v := 3) kc_196_873 rfl (by decide) hov0 (xi_in (n := 6) (by decide) (by decide)) rfl ?_
        refine xi_virtual (mj := 47) (as := [.int a1, .int 3]) (st1 := [.int (-1)]) (lv0 := [(0, .ref 115), (1, .int a1), (2, .int 3)]) kc_196_874 rfl rfl rfl rfl rfl ((eh1.2.1 115 (by decide)).trans (F 115 _ hl_115)) (Nat.le_of_ble_eq_true rfl) (hJ _ _ _ _ (by decide)) (xm_le ml_47 rfl) rfl ?_
        refine xi_aload_n (pc' := 1) (x := 115) kc_47_0 rfl rfl ?_
        refine xi_iconst (pc' := 2) (v := 0) kc_47_1 rfl rfl ?_
        refine xi_putfield (pc' := 5) (fs' := [.int 0, .int 0, .ref 116, .ref 117, .ref 118, .ref 119, .ref 120, .ref 121, .ref 122, .ref 123, .ref 124, .ref 125, .ref 126, .ref 127, .ref 128, .ref 129, .int 4, .ref 130, .int 0, .ref 131, .ref 132, .ref 133, .ref 134, .int 0, .ref 135, .ref 136, .ref 137, .ref 138, .ref 139, .ref 140, .ref 141, .ref 142, .int 0, .int 0, .int 0, .ref 143, .ref 144, .ref 145, .ref 146, .ref 147, .ref 148, .int 0, .ref 149, .ref 150, .ref 151, .int 0, .ref 152, .ref 153, .ref 154, .ref 155, .ref 156, .ref 157, .ref 158, .ref 159, .int 0, .ref 160, .int 0, .ref 161, .ref 162, .ref 163, .ref 164, .int 0, .ref 165, .ref 166]) kc_47_2 rfl rfl rfl ((eh1.2.1 115 (by decide)).trans (F 115 _ hl_115)) rfl rfl rfl (Nat.le_of_ble_eq_true rfl) rfl (fun hh2 eh2 => ?_)
        refine xi_aload_n (pc' := 6) (x := 115) kc_47_5 rfl rfl ?_
        refine xi_iload_n (pc' := 7) (x := 3) kc_47_6 rfl rfl ?_
        refine xi_virtual (mj := 32) (as := [.int 3]) (st1 := []) (lv0 := [(0, .ref 115), (1, .int 3)]) kc_47_7 rfl rfl rfl rfl rfl eh2.1 (Nat.le_of_ble_eq_true rfl) (hJ _ _ _ _ (by decide)) (xm_le ml_32 rfl) rfl ?_
        refine xi_iload_n (pc' := 1) (x := 3) kc_32_0 rfl rfl ?_
        refine xi_static (mj := 25) (as := [.int 3]) (st1 := []) (lv0 := [(0, .int 3)]) kc_32_1 rfl rfl (Nat.le_of_ble_eq_true rfl) rfl rfl (Nat.le_of_ble_eq_true rfl) (hJ _ _ _ _ (by decide)) (xm_le ml_25 rfl) rfl ?_
        refine xi_iload_n (pc' := 1) (x := 3) kc_25_0 rfl rfl ?_
        refine xi_iconst (pc' := 2) (v := 0) kc_25_1 rfl rfl ?_
        refine xi_bipush (pc' := 4) (v := 11) kc_25_2 rfl rfl ?_
        refine xi_static (mj := 12) (as := [.int 3, .int 0, .int 11]) (st1 := []) (lv0 := [(0, .int 3), (1, .int 0), (2, .int 11)]) kc_25_4 rfl rfl (Nat.le_of_ble_eq_true rfl) rfl rfl (Nat.le_of_ble_eq_true rfl) (hJ _ _ _ _ (by decide)) (xm_le ml_12 rfl) rfl ?_
        refine xi_iload_n (pc' := 1) (x := 3) kc_12_0 rfl rfl ?_
        refine xi_iload_n (pc' := 2) (x := 0) kc_12_1 rfl rfl ?_
        refine xi_cmf (pc' := 5) kc_12_2 rfl rfl ?_
        refine xi_iload_n (pc' := 6) (x := 3) kc_12_5 rfl rfl ?_
        refine xi_iload_n (pc' := 7) (x := 11) kc_12_6 rfl rfl ?_
        refine xi_cmf (pc' := 10) kc_12_7 rfl rfl ?_
        refine xi_iconst (pc' := 11) (v := 1) kc_12_10 rfl rfl ?_
        refine xi_goto (pc' := 15) kc_12_11 rfl ?_
        refine xi_ireturn kc_12_15 mr_12 rfl ?_
        show xw J ov 97 25 (7, [(0, .int 3)], [.int 1], hh2) _
        refine xi_ireturn kc_25_7 mr_25 rfl ?_
        show xw J ov 98 32 (4, [(0, .ref 115), (1, .int 3)], [.int 1], hh2) _
        refine xi_iff (pc' := 7) kc_32_4 rfl rfl ?_
        refine xi_aload_n (pc' := 8) (x := 115) kc_32_7 rfl rfl ?_
        refine xi_getfield (pc' := 11) (v := .ref 125) kc_32_8 rfl rfl rfl eh2.1 rfl ?_
        refine xi_iload_n (pc' := 12) (x := 3) kc_32_11 rfl rfl ?_
        refine xi_iaload (pc' := 13) (v := (-9)) kc_32_12 rfl ((eh2.2.1 125 (by decide)).trans ((eh1.2.1 125 (by decide)).trans (F 125 _ hl_125))) (by decide) rfl (xi_in (n := 12) (by decide) (by decide)) rfl ?_
        refine xi_ift (pc' := 20) kc_32_13 rfl rfl ?_
        refine xi_iconst (pc' := 21) (v := 0) kc_32_20 rfl rfl ?_
        refine xi_ireturn kc_32_21 mr_32 rfl ?_
        show xw J ov 99 47 (10, [(0, .ref 115), (1, .int a1), (2, .int 3)], [.int 0], hh2) _
        refine xi_iff (pc' := 13) kc_47_10 rfl rfl ?_
        refine xi_aload_n (pc' := 14) (x := 115) kc_47_13 rfl rfl ?_
        refine xi_iconst (pc' := 15) (v := (-1)) kc_47_14 rfl rfl ?_
        refine xi_virtual (mj := 13) (as := [.int (-1)]) (st1 := []) (lv0 := [(0, .ref 115), (1, .int (-1))]) kc_47_15 rfl rfl rfl rfl rfl eh2.1 (Nat.le_of_ble_eq_true rfl) (hJ _ _ _ _ (by decide)) (xm_le ml_13 rfl) rfl ?_
        refine xi_aload_n (pc' := 1) (x := 115) kc_13_0 rfl rfl ?_
        refine xi_getfield (pc' := 4) (v := .ref 140) kc_13_1 rfl rfl rfl eh2.1 rfl ?_
        refine xi_iload_n (pc' := 5) (x := (-1)) kc_13_4 rfl rfl ?_
        refine xi_ineg (pc' := 6) (v := 1) kc_13_5 rfl rfl ?_
        refine xi_dup2 (pc' := 7) kc_13_6 rfl ⟨rfl, rfl⟩ ?_
        refine xi_iaload (pc' := 8) (v := 0) kc_13_7 rfl ((eh2.2.1 140 (by decide)).trans ((eh1.2.1 140 (by decide)).trans (F 140 _ hl_140))) (by decide) rfl (xi_in (n := 7) (by decide) (by decide)) rfl ?_
        refine xi_iconst (pc' := 9) (v := 1) kc_13_8 rfl rfl ?_
        refine xi_iadd (pc' := 10) (v := 1) kc_13_9 rfl rfl ?_
        refine xi_iastore (pc' := 11) (x' := [0, 1, 0, 0, 0, 0, 0]) kc_13_10 rfl ((eh2.2.1 140 (by decide)).trans ((eh1.2.1 140 (by decide)).trans (F 140 _ hl_140))) rfl (xi_in (n := 7) (by decide) (by decide)) rfl (fun hh3 eh3 => ?_)
        refine xi_iload_n (pc' := 12) (x := (-1)) kc_13_11 rfl rfl ?_
        refine xi_ireturn kc_13_12 mr_13 rfl ?_
        show xw J ov 99 47 (18, [(0, .ref 115), (1, .int a1), (2, .int 3)], [.int (-1)], hh3) _
        refine xi_ireturn kc_47_18 mr_47 rfl ?_
        show xw J ov 100 196 (877, [(4, .int 0), (3, .ref 167), (2, .ref 115), (1, .ref 0), (0, .ref 1000000)], [.int (-1), .int (-1)], hh3) _
        refine xi_cmt (pc' := 1528) kc_196_877 rfl rfl ?_
        refine xi_iinc (pc' := 1531) (x := 0) (v := 6) (lv' := [(4, .int 6), (3, .ref 167), (2, .ref 115), (1, .ref 0), (0, .ref 1000000)]) kc_196_1528 rfl rfl rfl rfl (xm_lt ml_196 rfl) ?_
        refine xi_goto (pc' := 23) kc_196_1531 rfl ?_
        refine xi_iload (pc' := 25) (x := 6) kc_196_23 rfl rfl ?_
        refine xi_aload_n (pc' := 26) (x := 1000000) kc_196_25 rfl rfl ?_
        refine xi_arraylength (pc' := 27) (n := 6) (v := 6) kc_196_26 rfl (xl_lenO (by decide) hov0 rfl) rfl ?_
        refine xi_bipush (pc' := 29) (v := 6) kc_196_27 rfl rfl ?_
        refine xi_isub (pc' := 30) (v := 0) kc_196_29 rfl rfl ?_
        refine xi_cmt (pc' := 1534) kc_196_30 rfl rfl ?_
        refine xi_iconst (pc' := 1535) (v := 1) kc_196_1534 rfl rfl ?_
        refine xi_ireturn kc_196_1535 mr_196 rfl ?_
        refine ⟨rfl, ?_, ?_⟩
        · rw [eh3.2.2.1, eh2.2.2.1, eh1.2.2.1]; exact hn0
        · rw [eh3.2.2.2, eh2.2.2.2, eh1.2.2.2]; exact hz0
      by_cases c7 : a2.toInt = 4
      · have qa2 : a2 = 4 := xc_of (Eq.trans (by omega) (show (4 : Int) = (4 : Int32).toInt by decide))
        subst qa2
        refine xi_aaload (pc' := 13) (b := 37) kc_109_12 rfl (F 3 _ hl_3) rfl (xi_in (n := 12) (by decide) (by decide)) rfl ?_
        refine xi_virtual (mj := 106) (as := []) (st1 := []) (lv0 := [(0, .ref 37)]) kc_109_13 rfl rfl rfl rfl rfl (F 37 _ hl_37) (Nat.le_of_ble_eq_true rfl) (hJ _ _ _ _ (by decide)) (xm_le ml_106 rfl) rfl ?_
        refine xi_aload_n (pc' := 1) (x := 37) kc_106_0 rfl rfl ?_
        refine xi_getfield (pc' := 4) (v := .int (-9)) kc_106_1 rfl rfl rfl (F 37 _ hl_37) rfl ?_
        refine xi_static (mj := 90) (as := [.int (-9)]) (st1 := []) (lv0 := [(0, .int (-9))]) kc_106_4 rfl rfl (Nat.le_of_ble_eq_true rfl) rfl rfl (Nat.le_of_ble_eq_true rfl) (hJ _ _ _ _ (by decide)) (xm_le ml_90 rfl) rfl ?_
        refine xi_iload_n (pc' := 1) (x := (-9)) kc_90_0 rfl rfl ?_
        refine xi_ift (pc' := 14) kc_90_1 rfl rfl ?_
        refine xi_iconst (pc' := 15) (v := 0) kc_90_14 rfl rfl ?_
        refine xi_ireturn kc_90_15 mr_90 rfl ?_
        show xw J ov 97 106 (7, [(0, .ref 37)], [.int 0], h0) _
        refine xi_ireturn kc_106_7 mr_106 rfl ?_
        show xw J ov 98 109 (16, [(0, .ref 1), (1, .int 4)], [.int 0], h0) _
        refine xi_ift (pc' := 23) kc_109_16 rfl rfl ?_
        refine xi_iconst (pc' := 24) (v := 0) kc_109_23 rfl rfl ?_
        refine xi_ireturn kc_109_24 mr_109 rfl ?_
        show xw J ov 99 138 (8, [(0, .ref 0), (1, .int a1), (2, .int 4)], [.int 0], h0) _
        refine xi_iff (pc' := 11) kc_138_8 rfl rfl ?_
        refine xi_aload_n (pc' := 12) (x := 0) kc_138_11 rfl rfl ?_
        refine xi_iconst (pc' := 13) (v := (-1)) kc_138_12 rfl rfl ?_
        refine xi_virtual (mj := 91) (as := [.int (-1)]) (st1 := []) (lv0 := [(0, .ref 0), (1, .int (-1))]) kc_138_13 rfl rfl rfl rfl rfl (F 0 _ hl_0) (Nat.le_of_ble_eq_true rfl) (hJ _ _ _ _ (by decide)) (xm_le ml_91 rfl) rfl ?_
        refine xi_iload_n (pc' := 1) (x := (-1)) kc_91_0 rfl rfl ?_
        refine xi_ineg (pc' := 2) (v := 1) kc_91_1 rfl rfl ?_
        refine xi_istore_n (pc' := 3) (lv' := [(2, .int 1), (0, .ref 0), (1, .int (-1))]) kc_91_2 rfl rfl (xm_lt ml_91 rfl) ?_
        refine xi_iload_n (pc' := 4) (x := 1) kc_91_3 rfl rfl ?_
        refine xi_iff (pc' := 7) kc_91_4 rfl rfl ?_
        refine xi_iload_n (pc' := 8) (x := 1) kc_91_7 rfl rfl ?_
        refine xi_aload_n (pc' := 9) (x := 0) kc_91_8 rfl rfl ?_
        refine xi_getfield (pc' := 12) (v := .ref 94) kc_91_9 rfl rfl rfl (F 0 _ hl_0) rfl ?_
        refine xi_arraylength (pc' := 13) (n := 7) (v := 7) kc_91_12 rfl (xl_lenI (by decide) (by decide) (F 94 _ hl_94) (by simp only [List.length_replicate, List.length_cons, List.length_nil])) rfl ?_
        refine xi_cmf (pc' := 16) kc_91_13 rfl rfl ?_
        refine xi_aload_n (pc' := 17) (x := 0) kc_91_16 rfl rfl ?_
        refine xi_getfield (pc' := 20) (v := .ref 94) kc_91_17 rfl rfl rfl (F 0 _ hl_0) rfl ?_
        refine xi_iload_n (pc' := 21) (x := 1) kc_91_20 rfl rfl ?_
        refine xi_dup2 (pc' := 22) kc_91_21 rfl ⟨rfl, rfl⟩ ?_
        refine xi_iaload (pc' := 23) (v := 0) kc_91_22 rfl (F 94 _ hl_94) (by decide) rfl (xi_in (n := 7) (by decide) (by decide)) rfl ?_
        refine xi_iconst (pc' := 24) (v := 1) kc_91_23 rfl rfl ?_
        refine xi_iadd (pc' := 25) (v := 1) kc_91_24 rfl rfl ?_
        refine xi_iastore (pc' := 26) (x' := [0, 1, 0, 0, 0, 0, 0]) kc_91_25 rfl (F 94 _ hl_94) rfl (xi_in (n := 7) (by decide) (by decide)) rfl (fun hh1 eh1 => ?_)
        refine xi_iload_n (pc' := 27) (x := (-1)) kc_91_26 rfl rfl ?_
        refine xi_ireturn kc_91_27 mr_91 rfl ?_
        show xw J ov 99 138 (16, [(0, .ref 0), (1, .int a1), (2, .int 4)], [.int (-1)], hh1) _
        refine xi_ireturn kc_138_16 mr_138 rfl ?_
        show xw J ov 100 196 (861, [(4, .int 0), (3, .ref 167), (2, .ref 115), (1, .ref 0), (0, .ref 1000000)], [.int (-1)], hh1) _
        refine xi_aload_n (pc' := 862) (x := 115) kc_196_861 rfl rfl ?_
        refine xi_aload_n (pc' := 863) (x := 1000000) kc_196_862 rfl rfl ?_
        refine xi_iload (pc' := 865) (x := 0) kc_196_863 rfl rfl ?_
        refine xi_iconst (pc' := 866) (v := 1) kc_196_865 rfl rfl ?_
        refine xi_iadd (pc' := 867) (v := 1) kc_196_866 rfl rfl ?_
        refine xi_ialoadO (pc' := 868) (v := a1) kc_196_867 rfl (by decide) hov0 (xi_in (n := 6) (by decide) (by decide)) rfl ?_
        refine xi_aload_n (pc' := 869) (x := 1000000) kc_196_868 rfl rfl ?_
        refine xi_iload (pc' := 871) (x := 0) kc_196_869 rfl rfl ?_
        refine xi_iconst (pc' := 872) (v := 2) kc_196_871 rfl rfl ?_
        refine xi_iadd (pc' := 873) (v := 2) kc_196_872 rfl rfl ?_
        refine xi_ialoadO (pc' := 874) (v := 4) kc_196_873 rfl (by decide) hov0 (xi_in (n := 6) (by decide) (by decide)) rfl ?_
        refine xi_virtual (mj := 47) (as := [.int a1, .int 4]) (st1 := [.int (-1)]) (lv0 := [(0, .ref 115), (1, .int a1), (2, .int 4)]) kc_196_874 rfl rfl rfl rfl rfl ((eh1.2.1 115 (by decide)).trans (F 115 _ hl_115)) (Nat.le_of_ble_eq_true rfl) (hJ _ _ _ _ (by decide)) (xm_le ml_47 rfl) rfl ?_
        refine xi_aload_n (pc' := 1) (x := 115) kc_47_0 rfl rfl ?_
        refine xi_iconst (pc' := 2) (v := 0) kc_47_1 rfl rfl ?_
        refine xi_putfield (pc' := 5) (fs' := [.int 0, .int 0, .ref 116, .ref 117, .ref 118, .ref 119, .ref 120, .ref 121, .ref 122, .ref 123, .ref 124, .ref 125, .ref 126, .ref 127, .ref 128, .ref 129, .int 4, .ref 130, .int 0, .ref 131, .ref 132, .ref 133, .ref 134, .int 0, .ref 135, .ref 136, .ref 137, .ref 138, .ref 139, .ref 140, .ref 141, .ref 142, .int 0, .int 0, .int 0, .ref 143, .ref 144, .ref 145, .ref 146, .ref 147, .ref 148, .int 0, .ref 149, .ref 150, .ref 151, .int 0, .ref 152, .ref 153, .ref 154, .ref 155, .ref 156, .ref 157, .ref 158, .ref 159, .int 0, .ref 160, .int 0, .ref 161, .ref 162, .ref 163, .ref 164, .int 0, .ref 165, .ref 166]) kc_47_2 rfl rfl rfl ((eh1.2.1 115 (by decide)).trans (F 115 _ hl_115)) rfl rfl rfl (Nat.le_of_ble_eq_true rfl) rfl (fun hh2 eh2 => ?_)
        refine xi_aload_n (pc' := 6) (x := 115) kc_47_5 rfl rfl ?_
        refine xi_iload_n (pc' := 7) (x := 4) kc_47_6 rfl rfl ?_
        refine xi_virtual (mj := 32) (as := [.int 4]) (st1 := []) (lv0 := [(0, .ref 115), (1, .int 4)]) kc_47_7 rfl rfl rfl rfl rfl eh2.1 (Nat.le_of_ble_eq_true rfl) (hJ _ _ _ _ (by decide)) (xm_le ml_32 rfl) rfl ?_
        refine xi_iload_n (pc' := 1) (x := 4) kc_32_0 rfl rfl ?_
        refine xi_static (mj := 25) (as := [.int 4]) (st1 := []) (lv0 := [(0, .int 4)]) kc_32_1 rfl rfl (Nat.le_of_ble_eq_true rfl) rfl rfl (Nat.le_of_ble_eq_true rfl) (hJ _ _ _ _ (by decide)) (xm_le ml_25 rfl) rfl ?_
        refine xi_iload_n (pc' := 1) (x := 4) kc_25_0 rfl rfl ?_
        refine xi_iconst (pc' := 2) (v := 0) kc_25_1 rfl rfl ?_
        refine xi_bipush (pc' := 4) (v := 11) kc_25_2 rfl rfl ?_
        refine xi_static (mj := 12) (as := [.int 4, .int 0, .int 11]) (st1 := []) (lv0 := [(0, .int 4), (1, .int 0), (2, .int 11)]) kc_25_4 rfl rfl (Nat.le_of_ble_eq_true rfl) rfl rfl (Nat.le_of_ble_eq_true rfl) (hJ _ _ _ _ (by decide)) (xm_le ml_12 rfl) rfl ?_
        refine xi_iload_n (pc' := 1) (x := 4) kc_12_0 rfl rfl ?_
        refine xi_iload_n (pc' := 2) (x := 0) kc_12_1 rfl rfl ?_
        refine xi_cmf (pc' := 5) kc_12_2 rfl rfl ?_
        refine xi_iload_n (pc' := 6) (x := 4) kc_12_5 rfl rfl ?_
        refine xi_iload_n (pc' := 7) (x := 11) kc_12_6 rfl rfl ?_
        refine xi_cmf (pc' := 10) kc_12_7 rfl rfl ?_
        refine xi_iconst (pc' := 11) (v := 1) kc_12_10 rfl rfl ?_
        refine xi_goto (pc' := 15) kc_12_11 rfl ?_
        refine xi_ireturn kc_12_15 mr_12 rfl ?_
        show xw J ov 97 25 (7, [(0, .int 4)], [.int 1], hh2) _
        refine xi_ireturn kc_25_7 mr_25 rfl ?_
        show xw J ov 98 32 (4, [(0, .ref 115), (1, .int 4)], [.int 1], hh2) _
        refine xi_iff (pc' := 7) kc_32_4 rfl rfl ?_
        refine xi_aload_n (pc' := 8) (x := 115) kc_32_7 rfl rfl ?_
        refine xi_getfield (pc' := 11) (v := .ref 125) kc_32_8 rfl rfl rfl eh2.1 rfl ?_
        refine xi_iload_n (pc' := 12) (x := 4) kc_32_11 rfl rfl ?_
        refine xi_iaload (pc' := 13) (v := (-9)) kc_32_12 rfl ((eh2.2.1 125 (by decide)).trans ((eh1.2.1 125 (by decide)).trans (F 125 _ hl_125))) (by decide) rfl (xi_in (n := 12) (by decide) (by decide)) rfl ?_
        refine xi_ift (pc' := 20) kc_32_13 rfl rfl ?_
        refine xi_iconst (pc' := 21) (v := 0) kc_32_20 rfl rfl ?_
        refine xi_ireturn kc_32_21 mr_32 rfl ?_
        show xw J ov 99 47 (10, [(0, .ref 115), (1, .int a1), (2, .int 4)], [.int 0], hh2) _
        refine xi_iff (pc' := 13) kc_47_10 rfl rfl ?_
        refine xi_aload_n (pc' := 14) (x := 115) kc_47_13 rfl rfl ?_
        refine xi_iconst (pc' := 15) (v := (-1)) kc_47_14 rfl rfl ?_
        refine xi_virtual (mj := 13) (as := [.int (-1)]) (st1 := []) (lv0 := [(0, .ref 115), (1, .int (-1))]) kc_47_15 rfl rfl rfl rfl rfl eh2.1 (Nat.le_of_ble_eq_true rfl) (hJ _ _ _ _ (by decide)) (xm_le ml_13 rfl) rfl ?_
        refine xi_aload_n (pc' := 1) (x := 115) kc_13_0 rfl rfl ?_
        refine xi_getfield (pc' := 4) (v := .ref 140) kc_13_1 rfl rfl rfl eh2.1 rfl ?_
        refine xi_iload_n (pc' := 5) (x := (-1)) kc_13_4 rfl rfl ?_
        refine xi_ineg (pc' := 6) (v := 1) kc_13_5 rfl rfl ?_
        refine xi_dup2 (pc' := 7) kc_13_6 rfl ⟨rfl, rfl⟩ ?_
        refine xi_iaload (pc' := 8) (v := 0) kc_13_7 rfl ((eh2.2.1 140 (by decide)).trans ((eh1.2.1 140 (by decide)).trans (F 140 _ hl_140))) (by decide) rfl (xi_in (n := 7) (by decide) (by decide)) rfl ?_
        refine xi_iconst (pc' := 9) (v := 1) kc_13_8 rfl rfl ?_
        refine xi_iadd (pc' := 10) (v := 1) kc_13_9 rfl rfl ?_
        refine xi_iastore (pc' := 11) (x' := [0, 1, 0, 0, 0, 0, 0]) kc_13_10 rfl ((eh2.2.1 140 (by decide)).trans ((eh1.2.1 140 (by decide)).trans (F 140 _ hl_140))) rfl (xi_in (n := 7) (by decide) (by decide)) rfl (fun hh3 eh3 => ?_)
        refine xi_iload_n (pc' := 12) (x := (-1)) kc_13_11 rfl rfl ?_
        refine xi_ireturn kc_13_12 mr_13 rfl ?_
        show xw J ov 99 47 (18, [(0, .ref 115), (1, .int a1), (2, .int 4)], [.int (-1)], hh3) _
        refine xi_ireturn kc_47_18 mr_47 rfl ?_
        show xw J ov 100 196 (877, [(4, .int 0), (3, .ref 167), (2, .ref 115), (1, .ref 0), (0, .ref 1000000)], [.int (-1), .int (-1)], hh3) _
        refine xi_cmt (pc' := 1528) kc_196_877 rfl rfl ?_
        refine xi_iinc (pc' := 1531) (x := 0) (v := 6) (lv' := [(4, .int 6), (3, .ref 167), (2, .ref 115), (1, .ref 0), (0, .ref 1000000)]) kc_196_1528 rfl rfl rfl rfl (xm_lt ml_196 rfl) ?_
        refine xi_goto (pc' := 23) kc_196_1531 rfl ?_
        refine xi_iload (pc' := 25) (x := 6) kc_196_23 rfl rfl ?_
        refine xi_aload_n (pc' := 26) (x := 1000000) kc_196_25 rfl rfl ?_
        refine xi_arraylength (pc' := 27) (n := 6) (v := 6) kc_196_26 rfl (xl_lenO (by decide) hov0 rfl) rfl ?_
        refine xi_bipush (pc' := 29) (v := 6) kc_196_27 rfl rfl ?_
        refine xi_isub (pc' := 30) (v := 0) kc_196_29 rfl rfl ?_
        refine xi_cmt (pc' := 1534) kc_196_30 rfl rfl ?_
        refine xi_iconst (pc' := 1535) (v := 1) kc_196_1534 rfl rfl ?_
        refine xi_ireturn kc_196_1535 mr_196 rfl ?_
        refine ⟨rfl, ?_, ?_⟩
        · rw [eh3.2.2.1, eh2.2.2.1, eh1.2.2.1]; exact hn0
        · rw [eh3.2.2.2, eh2.2.2.2, eh1.2.2.2]; exact hz0
      by_cases c8 : a2.toInt = 5
      · have qa2 : a2 = 5 := xc_of (Eq.trans (by omega) (show (5 : Int) = (5 : Int32).toInt by decide))
        subst qa2
        refine xi_aaload (pc' := 13) (b := 39) kc_109_12 rfl (F 3 _ hl_3) rfl (xi_in (n := 12) (by decide) (by decide)) rfl ?_
        refine xi_virtual (mj := 106) (as := []) (st1 := []) (lv0 := [(0, .ref 39)]) kc_109_13 rfl rfl rfl rfl rfl (F 39 _ hl_39) (Nat.le_of_ble_eq_true rfl) (hJ _ _ _ _ (by decide)) (xm_le ml_106 rfl) rfl ?_
        refine xi_aload_n (pc' := 1) (x := 39) kc_106_0 rfl rfl ?_
        refine xi_getfield (pc' := 4) (v := .int (-9)) kc_106_1 rfl rfl rfl (F 39 _ hl_39) rfl ?_
        refine xi_static (mj := 90) (as := [.int (-9)]) (st1 := []) (lv0 := [(0, .int (-9))]) kc_106_4 rfl rfl (Nat.le_of_ble_eq_true rfl) rfl rfl (Nat.le_of_ble_eq_true rfl) (hJ _ _ _ _ (by decide)) (xm_le ml_90 rfl) rfl ?_
        refine xi_iload_n (pc' := 1) (x := (-9)) kc_90_0 rfl rfl ?_
        refine xi_ift (pc' := 14) kc_90_1 rfl rfl ?_
        refine xi_iconst (pc' := 15) (v := 0) kc_90_14 rfl rfl ?_
        refine xi_ireturn kc_90_15 mr_90 rfl ?_
        show xw J ov 97 106 (7, [(0, .ref 39)], [.int 0], h0) _
        refine xi_ireturn kc_106_7 mr_106 rfl ?_
        show xw J ov 98 109 (16, [(0, .ref 1), (1, .int 5)], [.int 0], h0) _
        refine xi_ift (pc' := 23) kc_109_16 rfl rfl ?_
        refine xi_iconst (pc' := 24) (v := 0) kc_109_23 rfl rfl ?_
        refine xi_ireturn kc_109_24 mr_109 rfl ?_
        show xw J ov 99 138 (8, [(0, .ref 0), (1, .int a1), (2, .int 5)], [.int 0], h0) _
        refine xi_iff (pc' := 11) kc_138_8 rfl rfl ?_
        refine xi_aload_n (pc' := 12) (x := 0) kc_138_11 rfl rfl ?_
        refine xi_iconst (pc' := 13) (v := (-1)) kc_138_12 rfl rfl ?_
        refine xi_virtual (mj := 91) (as := [.int (-1)]) (st1 := []) (lv0 := [(0, .ref 0), (1, .int (-1))]) kc_138_13 rfl rfl rfl rfl rfl (F 0 _ hl_0) (Nat.le_of_ble_eq_true rfl) (hJ _ _ _ _ (by decide)) (xm_le ml_91 rfl) rfl ?_
        refine xi_iload_n (pc' := 1) (x := (-1)) kc_91_0 rfl rfl ?_
        refine xi_ineg (pc' := 2) (v := 1) kc_91_1 rfl rfl ?_
        refine xi_istore_n (pc' := 3) (lv' := [(2, .int 1), (0, .ref 0), (1, .int (-1))]) kc_91_2 rfl rfl (xm_lt ml_91 rfl) ?_
        refine xi_iload_n (pc' := 4) (x := 1) kc_91_3 rfl rfl ?_
        refine xi_iff (pc' := 7) kc_91_4 rfl rfl ?_
        refine xi_iload_n (pc' := 8) (x := 1) kc_91_7 rfl rfl ?_
        refine xi_aload_n (pc' := 9) (x := 0) kc_91_8 rfl rfl ?_
        refine xi_getfield (pc' := 12) (v := .ref 94) kc_91_9 rfl rfl rfl (F 0 _ hl_0) rfl ?_
        refine xi_arraylength (pc' := 13) (n := 7) (v := 7) kc_91_12 rfl (xl_lenI (by decide) (by decide) (F 94 _ hl_94) (by simp only [List.length_replicate, List.length_cons, List.length_nil])) rfl ?_
        refine xi_cmf (pc' := 16) kc_91_13 rfl rfl ?_
        refine xi_aload_n (pc' := 17) (x := 0) kc_91_16 rfl rfl ?_
        refine xi_getfield (pc' := 20) (v := .ref 94) kc_91_17 rfl rfl rfl (F 0 _ hl_0) rfl ?_
        refine xi_iload_n (pc' := 21) (x := 1) kc_91_20 rfl rfl ?_
        refine xi_dup2 (pc' := 22) kc_91_21 rfl ⟨rfl, rfl⟩ ?_
        refine xi_iaload (pc' := 23) (v := 0) kc_91_22 rfl (F 94 _ hl_94) (by decide) rfl (xi_in (n := 7) (by decide) (by decide)) rfl ?_
        refine xi_iconst (pc' := 24) (v := 1) kc_91_23 rfl rfl ?_
        refine xi_iadd (pc' := 25) (v := 1) kc_91_24 rfl rfl ?_
        refine xi_iastore (pc' := 26) (x' := [0, 1, 0, 0, 0, 0, 0]) kc_91_25 rfl (F 94 _ hl_94) rfl (xi_in (n := 7) (by decide) (by decide)) rfl (fun hh1 eh1 => ?_)
        refine xi_iload_n (pc' := 27) (x := (-1)) kc_91_26 rfl rfl ?_
        refine xi_ireturn kc_91_27 mr_91 rfl ?_
        show xw J ov 99 138 (16, [(0, .ref 0), (1, .int a1), (2, .int 5)], [.int (-1)], hh1) _
        refine xi_ireturn kc_138_16 mr_138 rfl ?_
        show xw J ov 100 196 (861, [(4, .int 0), (3, .ref 167), (2, .ref 115), (1, .ref 0), (0, .ref 1000000)], [.int (-1)], hh1) _
        refine xi_aload_n (pc' := 862) (x := 115) kc_196_861 rfl rfl ?_
        refine xi_aload_n (pc' := 863) (x := 1000000) kc_196_862 rfl rfl ?_
        refine xi_iload (pc' := 865) (x := 0) kc_196_863 rfl rfl ?_
        refine xi_iconst (pc' := 866) (v := 1) kc_196_865 rfl rfl ?_
        refine xi_iadd (pc' := 867) (v := 1) kc_196_866 rfl rfl ?_
        refine xi_ialoadO (pc' := 868) (v := a1) kc_196_867 rfl (by decide) hov0 (xi_in (n := 6) (by decide) (by decide)) rfl ?_
        refine xi_aload_n (pc' := 869) (x := 1000000) kc_196_868 rfl rfl ?_
        refine xi_iload (pc' := 871) (x := 0) kc_196_869 rfl rfl ?_
        refine xi_iconst (pc' := 872) (v := 2) kc_196_871 rfl rfl ?_
        refine xi_iadd (pc' := 873) (v := 2) kc_196_872 rfl rfl ?_
        refine xi_ialoadO (pc' := 874) (v := 5) kc_196_873 rfl (by decide) hov0 (xi_in (n := 6) (by decide) (by decide)) rfl ?_
        refine xi_virtual (mj := 47) (as := [.int a1, .int 5]) (st1 := [.int (-1)]) (lv0 := [(0, .ref 115), (1, .int a1), (2, .int 5)]) kc_196_874 rfl rfl rfl rfl rfl ((eh1.2.1 115 (by decide)).trans (F 115 _ hl_115)) (Nat.le_of_ble_eq_true rfl) (hJ _ _ _ _ (by decide)) (xm_le ml_47 rfl) rfl ?_
        refine xi_aload_n (pc' := 1) (x := 115) kc_47_0 rfl rfl ?_
        refine xi_iconst (pc' := 2) (v := 0) kc_47_1 rfl rfl ?_
        refine xi_putfield (pc' := 5) (fs' := [.int 0, .int 0, .ref 116, .ref 117, .ref 118, .ref 119, .ref 120, .ref 121, .ref 122, .ref 123, .ref 124, .ref 125, .ref 126, .ref 127, .ref 128, .ref 129, .int 4, .ref 130, .int 0, .ref 131, .ref 132, .ref 133, .ref 134, .int 0, .ref 135, .ref 136, .ref 137, .ref 138, .ref 139, .ref 140, .ref 141, .ref 142, .int 0, .int 0, .int 0, .ref 143, .ref 144, .ref 145, .ref 146, .ref 147, .ref 148, .int 0, .ref 149, .ref 150, .ref 151, .int 0, .ref 152, .ref 153, .ref 154, .ref 155, .ref 156, .ref 157, .ref 158, .ref 159, .int 0, .ref 160, .int 0, .ref 161, .ref 162, .ref 163, .ref 164, .int 0, .ref 165, .ref 166]) kc_47_2 rfl rfl rfl ((eh1.2.1 115 (by decide)).trans (F 115 _ hl_115)) rfl rfl rfl (Nat.le_of_ble_eq_true rfl) rfl (fun hh2 eh2 => ?_)
        refine xi_aload_n (pc' := 6) (x := 115) kc_47_5 rfl rfl ?_
        refine xi_iload_n (pc' := 7) (x := 5) kc_47_6 rfl rfl ?_
        refine xi_virtual (mj := 32) (as := [.int 5]) (st1 := []) (lv0 := [(0, .ref 115), (1, .int 5)]) kc_47_7 rfl rfl rfl rfl rfl eh2.1 (Nat.le_of_ble_eq_true rfl) (hJ _ _ _ _ (by decide)) (xm_le ml_32 rfl) rfl ?_
        refine xi_iload_n (pc' := 1) (x := 5) kc_32_0 rfl rfl ?_
        refine xi_static (mj := 25) (as := [.int 5]) (st1 := []) (lv0 := [(0, .int 5)]) kc_32_1 rfl rfl (Nat.le_of_ble_eq_true rfl) rfl rfl (Nat.le_of_ble_eq_true rfl) (hJ _ _ _ _ (by decide)) (xm_le ml_25 rfl) rfl ?_
        refine xi_iload_n (pc' := 1) (x := 5) kc_25_0 rfl rfl ?_
        refine xi_iconst (pc' := 2) (v := 0) kc_25_1 rfl rfl ?_
        refine xi_bipush (pc' := 4) (v := 11) kc_25_2 rfl rfl ?_
        refine xi_static (mj := 12) (as := [.int 5, .int 0, .int 11]) (st1 := []) (lv0 := [(0, .int 5), (1, .int 0), (2, .int 11)]) kc_25_4 rfl rfl (Nat.le_of_ble_eq_true rfl) rfl rfl (Nat.le_of_ble_eq_true rfl) (hJ _ _ _ _ (by decide)) (xm_le ml_12 rfl) rfl ?_
        refine xi_iload_n (pc' := 1) (x := 5) kc_12_0 rfl rfl ?_
        refine xi_iload_n (pc' := 2) (x := 0) kc_12_1 rfl rfl ?_
        refine xi_cmf (pc' := 5) kc_12_2 rfl rfl ?_
        refine xi_iload_n (pc' := 6) (x := 5) kc_12_5 rfl rfl ?_
        refine xi_iload_n (pc' := 7) (x := 11) kc_12_6 rfl rfl ?_
        refine xi_cmf (pc' := 10) kc_12_7 rfl rfl ?_
        refine xi_iconst (pc' := 11) (v := 1) kc_12_10 rfl rfl ?_
        refine xi_goto (pc' := 15) kc_12_11 rfl ?_
        refine xi_ireturn kc_12_15 mr_12 rfl ?_
        show xw J ov 97 25 (7, [(0, .int 5)], [.int 1], hh2) _
        refine xi_ireturn kc_25_7 mr_25 rfl ?_
        show xw J ov 98 32 (4, [(0, .ref 115), (1, .int 5)], [.int 1], hh2) _
        refine xi_iff (pc' := 7) kc_32_4 rfl rfl ?_
        refine xi_aload_n (pc' := 8) (x := 115) kc_32_7 rfl rfl ?_
        refine xi_getfield (pc' := 11) (v := .ref 125) kc_32_8 rfl rfl rfl eh2.1 rfl ?_
        refine xi_iload_n (pc' := 12) (x := 5) kc_32_11 rfl rfl ?_
        refine xi_iaload (pc' := 13) (v := (-9)) kc_32_12 rfl ((eh2.2.1 125 (by decide)).trans ((eh1.2.1 125 (by decide)).trans (F 125 _ hl_125))) (by decide) rfl (xi_in (n := 12) (by decide) (by decide)) rfl ?_
        refine xi_ift (pc' := 20) kc_32_13 rfl rfl ?_
        refine xi_iconst (pc' := 21) (v := 0) kc_32_20 rfl rfl ?_
        refine xi_ireturn kc_32_21 mr_32 rfl ?_
        show xw J ov 99 47 (10, [(0, .ref 115), (1, .int a1), (2, .int 5)], [.int 0], hh2) _
        refine xi_iff (pc' := 13) kc_47_10 rfl rfl ?_
        refine xi_aload_n (pc' := 14) (x := 115) kc_47_13 rfl rfl ?_
        refine xi_iconst (pc' := 15) (v := (-1)) kc_47_14 rfl rfl ?_
        refine xi_virtual (mj := 13) (as := [.int (-1)]) (st1 := []) (lv0 := [(0, .ref 115), (1, .int (-1))]) kc_47_15 rfl rfl rfl rfl rfl eh2.1 (Nat.le_of_ble_eq_true rfl) (hJ _ _ _ _ (by decide)) (xm_le ml_13 rfl) rfl ?_
        refine xi_aload_n (pc' := 1) (x := 115) kc_13_0 rfl rfl ?_
        refine xi_getfield (pc' := 4) (v := .ref 140) kc_13_1 rfl rfl rfl eh2.1 rfl ?_
        refine xi_iload_n (pc' := 5) (x := (-1)) kc_13_4 rfl rfl ?_
        refine xi_ineg (pc' := 6) (v := 1) kc_13_5 rfl rfl ?_
        refine xi_dup2 (pc' := 7) kc_13_6 rfl ⟨rfl, rfl⟩ ?_
        refine xi_iaload (pc' := 8) (v := 0) kc_13_7 rfl ((eh2.2.1 140 (by decide)).trans ((eh1.2.1 140 (by decide)).trans (F 140 _ hl_140))) (by decide) rfl (xi_in (n := 7) (by decide) (by decide)) rfl ?_
        refine xi_iconst (pc' := 9) (v := 1) kc_13_8 rfl rfl ?_
        refine xi_iadd (pc' := 10) (v := 1) kc_13_9 rfl rfl ?_
        refine xi_iastore (pc' := 11) (x' := [0, 1, 0, 0, 0, 0, 0]) kc_13_10 rfl ((eh2.2.1 140 (by decide)).trans ((eh1.2.1 140 (by decide)).trans (F 140 _ hl_140))) rfl (xi_in (n := 7) (by decide) (by decide)) rfl (fun hh3 eh3 => ?_)
        refine xi_iload_n (pc' := 12) (x := (-1)) kc_13_11 rfl rfl ?_
        refine xi_ireturn kc_13_12 mr_13 rfl ?_
        show xw J ov 99 47 (18, [(0, .ref 115), (1, .int a1), (2, .int 5)], [.int (-1)], hh3) _
        refine xi_ireturn kc_47_18 mr_47 rfl ?_
        show xw J ov 100 196 (877, [(4, .int 0), (3, .ref 167), (2, .ref 115), (1, .ref 0), (0, .ref 1000000)], [.int (-1), .int (-1)], hh3) _
        refine xi_cmt (pc' := 1528) kc_196_877 rfl rfl ?_
        refine xi_iinc (pc' := 1531) (x := 0) (v := 6) (lv' := [(4, .int 6), (3, .ref 167), (2, .ref 115), (1, .ref 0), (0, .ref 1000000)]) kc_196_1528 rfl rfl rfl rfl (xm_lt ml_196 rfl) ?_
        refine xi_goto (pc' := 23) kc_196_1531 rfl ?_
        refine xi_iload (pc' := 25) (x := 6) kc_196_23 rfl rfl ?_
        refine xi_aload_n (pc' := 26) (x := 1000000) kc_196_25 rfl rfl ?_
        refine xi_arraylength (pc' := 27) (n := 6) (v := 6) kc_196_26 rfl (xl_lenO (by decide) hov0 rfl) rfl ?_
        refine xi_bipush (pc' := 29) (v := 6) kc_196_27 rfl rfl ?_
        refine xi_isub (pc' := 30) (v := 0) kc_196_29 rfl rfl ?_
        refine xi_cmt (pc' := 1534) kc_196_30 rfl rfl ?_
        refine xi_iconst (pc' := 1535) (v := 1) kc_196_1534 rfl rfl ?_
        refine xi_ireturn kc_196_1535 mr_196 rfl ?_
        refine ⟨rfl, ?_, ?_⟩
        · rw [eh3.2.2.1, eh2.2.2.1, eh1.2.2.1]; exact hn0
        · rw [eh3.2.2.2, eh2.2.2.2, eh1.2.2.2]; exact hz0
      by_cases c9 : a2.toInt = 6
      · have qa2 : a2 = 6 := xc_of (Eq.trans (by omega) (show (6 : Int) = (6 : Int32).toInt by decide))
        subst qa2
        refine xi_aaload (pc' := 13) (b := 41) kc_109_12 rfl (F 3 _ hl_3) rfl (xi_in (n := 12) (by decide) (by decide)) rfl ?_
        refine xi_virtual (mj := 106) (as := []) (st1 := []) (lv0 := [(0, .ref 41)]) kc_109_13 rfl rfl rfl rfl rfl (F 41 _ hl_41) (Nat.le_of_ble_eq_true rfl) (hJ _ _ _ _ (by decide)) (xm_le ml_106 rfl) rfl ?_
        refine xi_aload_n (pc' := 1) (x := 41) kc_106_0 rfl rfl ?_
        refine xi_getfield (pc' := 4) (v := .int (-9)) kc_106_1 rfl rfl rfl (F 41 _ hl_41) rfl ?_
        refine xi_static (mj := 90) (as := [.int (-9)]) (st1 := []) (lv0 := [(0, .int (-9))]) kc_106_4 rfl rfl (Nat.le_of_ble_eq_true rfl) rfl rfl (Nat.le_of_ble_eq_true rfl) (hJ _ _ _ _ (by decide)) (xm_le ml_90 rfl) rfl ?_
        refine xi_iload_n (pc' := 1) (x := (-9)) kc_90_0 rfl rfl ?_
        refine xi_ift (pc' := 14) kc_90_1 rfl rfl ?_
        refine xi_iconst (pc' := 15) (v := 0) kc_90_14 rfl rfl ?_
        refine xi_ireturn kc_90_15 mr_90 rfl ?_
        show xw J ov 97 106 (7, [(0, .ref 41)], [.int 0], h0) _
        refine xi_ireturn kc_106_7 mr_106 rfl ?_
        show xw J ov 98 109 (16, [(0, .ref 1), (1, .int 6)], [.int 0], h0) _
        refine xi_ift (pc' := 23) kc_109_16 rfl rfl ?_
        refine xi_iconst (pc' := 24) (v := 0) kc_109_23 rfl rfl ?_
        refine xi_ireturn kc_109_24 mr_109 rfl ?_
        show xw J ov 99 138 (8, [(0, .ref 0), (1, .int a1), (2, .int 6)], [.int 0], h0) _
        refine xi_iff (pc' := 11) kc_138_8 rfl rfl ?_
        refine xi_aload_n (pc' := 12) (x := 0) kc_138_11 rfl rfl ?_
        refine xi_iconst (pc' := 13) (v := (-1)) kc_138_12 rfl rfl ?_
        refine xi_virtual (mj := 91) (as := [.int (-1)]) (st1 := []) (lv0 := [(0, .ref 0), (1, .int (-1))]) kc_138_13 rfl rfl rfl rfl rfl (F 0 _ hl_0) (Nat.le_of_ble_eq_true rfl) (hJ _ _ _ _ (by decide)) (xm_le ml_91 rfl) rfl ?_
        refine xi_iload_n (pc' := 1) (x := (-1)) kc_91_0 rfl rfl ?_
        refine xi_ineg (pc' := 2) (v := 1) kc_91_1 rfl rfl ?_
        refine xi_istore_n (pc' := 3) (lv' := [(2, .int 1), (0, .ref 0), (1, .int (-1))]) kc_91_2 rfl rfl (xm_lt ml_91 rfl) ?_
        refine xi_iload_n (pc' := 4) (x := 1) kc_91_3 rfl rfl ?_
        refine xi_iff (pc' := 7) kc_91_4 rfl rfl ?_
        refine xi_iload_n (pc' := 8) (x := 1) kc_91_7 rfl rfl ?_
        refine xi_aload_n (pc' := 9) (x := 0) kc_91_8 rfl rfl ?_
        refine xi_getfield (pc' := 12) (v := .ref 94) kc_91_9 rfl rfl rfl (F 0 _ hl_0) rfl ?_
        refine xi_arraylength (pc' := 13) (n := 7) (v := 7) kc_91_12 rfl (xl_lenI (by decide) (by decide) (F 94 _ hl_94) (by simp only [List.length_replicate, List.length_cons, List.length_nil])) rfl ?_
        refine xi_cmf (pc' := 16) kc_91_13 rfl rfl ?_
        refine xi_aload_n (pc' := 17) (x := 0) kc_91_16 rfl rfl ?_
        refine xi_getfield (pc' := 20) (v := .ref 94) kc_91_17 rfl rfl rfl (F 0 _ hl_0) rfl ?_
        refine xi_iload_n (pc' := 21) (x := 1) kc_91_20 rfl rfl ?_
        refine xi_dup2 (pc' := 22) kc_91_21 rfl ⟨rfl, rfl⟩ ?_
        refine xi_iaload (pc' := 23) (v := 0) kc_91_22 rfl (F 94 _ hl_94) (by decide) rfl (xi_in (n := 7) (by decide) (by decide)) rfl ?_
        refine xi_iconst (pc' := 24) (v := 1) kc_91_23 rfl rfl ?_
        refine xi_iadd (pc' := 25) (v := 1) kc_91_24 rfl rfl ?_
        refine xi_iastore (pc' := 26) (x' := [0, 1, 0, 0, 0, 0, 0]) kc_91_25 rfl (F 94 _ hl_94) rfl (xi_in (n := 7) (by decide) (by decide)) rfl (fun hh1 eh1 => ?_)
        refine xi_iload_n (pc' := 27) (x := (-1)) kc_91_26 rfl rfl ?_
        refine xi_ireturn kc_91_27 mr_91 rfl ?_
        show xw J ov 99 138 (16, [(0, .ref 0), (1, .int a1), (2, .int 6)], [.int (-1)], hh1) _
        refine xi_ireturn kc_138_16 mr_138 rfl ?_
        show xw J ov 100 196 (861, [(4, .int 0), (3, .ref 167), (2, .ref 115), (1, .ref 0), (0, .ref 1000000)], [.int (-1)], hh1) _
        refine xi_aload_n (pc' := 862) (x := 115) kc_196_861 rfl rfl ?_
        refine xi_aload_n (pc' := 863) (x := 1000000) kc_196_862 rfl rfl ?_
        refine xi_iload (pc' := 865) (x := 0) kc_196_863 rfl rfl ?_
        refine xi_iconst (pc' := 866) (v := 1) kc_196_865 rfl rfl ?_
        refine xi_iadd (pc' := 867) (v := 1) kc_196_866 rfl rfl ?_
        refine xi_ialoadO (pc' := 868) (v := a1) kc_196_867 rfl (by decide) hov0 (xi_in (n := 6) (by decide) (by decide)) rfl ?_
        refine xi_aload_n (pc' := 869) (x := 1000000) kc_196_868 rfl rfl ?_
        refine xi_iload (pc' := 871) (x := 0) kc_196_869 rfl rfl ?_
        refine xi_iconst (pc' := 872) (v := 2) kc_196_871 rfl rfl ?_
        refine xi_iadd (pc' := 873) (v := 2) kc_196_872 rfl rfl ?_
        refine xi_ialoadO (pc' := 874) (v := 6) kc_196_873 rfl (by decide) hov0 (xi_in (n := 6) (by decide) (by decide)) rfl ?_
        refine xi_virtual (mj := 47) (as := [.int a1, .int 6]) (st1 := [.int (-1)]) (lv0 := [(0, .ref 115), (1, .int a1), (2, .int 6)]) kc_196_874 rfl rfl rfl rfl rfl ((eh1.2.1 115 (by decide)).trans (F 115 _ hl_115)) (Nat.le_of_ble_eq_true rfl) (hJ _ _ _ _ (by decide)) (xm_le ml_47 rfl) rfl ?_
        refine xi_aload_n (pc' := 1) (x := 115) kc_47_0 rfl rfl ?_
        refine xi_iconst (pc' := 2) (v := 0) kc_47_1 rfl rfl ?_
        refine xi_putfield (pc' := 5) (fs' := [.int 0, .int 0, .ref 116, .ref 117, .ref 118, .ref 119, .ref 120, .ref 121, .ref 122, .ref 123, .ref 124, .ref 125, .ref 126, .ref 127, .ref 128, .ref 129, .int 4, .ref 130, .int 0, .ref 131, .ref 132, .ref 133, .ref 134, .int 0, .ref 135, .ref 136, .ref 137, .ref 138, .ref 139, .ref 140, .ref 141, .ref 142, .int 0, .int 0, .int 0, .ref 143, .ref 144, .ref 145, .ref 146, .ref 147, .ref 148, .int 0, .ref 149, .ref 150, .ref 151, .int 0, .ref 152, .ref 153, .ref 154, .ref 155, .ref 156, .ref 157, .ref 158, .ref 159, .int 0, .ref 160, .int 0, .ref 161, .ref 162, .ref 163, .ref 164, .int 0, .ref 165, .ref 166]) kc_47_2 rfl rfl rfl ((eh1.2.1 115 (by decide)).trans (F 115 _ hl_115)) rfl rfl rfl (Nat.le_of_ble_eq_true rfl) rfl (fun hh2 eh2 => ?_)
        refine xi_aload_n (pc' := 6) (x := 115) kc_47_5 rfl rfl ?_
        refine xi_iload_n (pc' := 7) (x := 6) kc_47_6 rfl rfl ?_
        refine xi_virtual (mj := 32) (as := [.int 6]) (st1 := []) (lv0 := [(0, .ref 115), (1, .int 6)]) kc_47_7 rfl rfl rfl rfl rfl eh2.1 (Nat.le_of_ble_eq_true rfl) (hJ _ _ _ _ (by decide)) (xm_le ml_32 rfl) rfl ?_
        refine xi_iload_n (pc' := 1) (x := 6) kc_32_0 rfl rfl ?_
        refine xi_static (mj := 25) (as := [.int 6]) (st1 := []) (lv0 := [(0, .int 6)]) kc_32_1 rfl rfl (Nat.le_of_ble_eq_true rfl) rfl rfl (Nat.le_of_ble_eq_true rfl) (hJ _ _ _ _ (by decide)) (xm_le ml_25 rfl) rfl ?_
        refine xi_iload_n (pc' := 1) (x := 6) kc_25_0 rfl rfl ?_
        refine xi_iconst (pc' := 2) (v := 0) kc_25_1 rfl rfl ?_
        refine xi_bipush (pc' := 4) (v := 11) kc_25_2 rfl rfl ?_
        refine xi_static (mj := 12) (as := [.int 6, .int 0, .int 11]) (st1 := []) (lv0 := [(0, .int 6), (1, .int 0), (2, .int 11)]) kc_25_4 rfl rfl (Nat.le_of_ble_eq_true rfl) rfl rfl (Nat.le_of_ble_eq_true rfl) (hJ _ _ _ _ (by decide)) (xm_le ml_12 rfl) rfl ?_
        refine xi_iload_n (pc' := 1) (x := 6) kc_12_0 rfl rfl ?_
        refine xi_iload_n (pc' := 2) (x := 0) kc_12_1 rfl rfl ?_
        refine xi_cmf (pc' := 5) kc_12_2 rfl rfl ?_
        refine xi_iload_n (pc' := 6) (x := 6) kc_12_5 rfl rfl ?_
        refine xi_iload_n (pc' := 7) (x := 11) kc_12_6 rfl rfl ?_
        refine xi_cmf (pc' := 10) kc_12_7 rfl rfl ?_
        refine xi_iconst (pc' := 11) (v := 1) kc_12_10 rfl rfl ?_
        refine xi_goto (pc' := 15) kc_12_11 rfl ?_
        refine xi_ireturn kc_12_15 mr_12 rfl ?_
        show xw J ov 97 25 (7, [(0, .int 6)], [.int 1], hh2) _
        refine xi_ireturn kc_25_7 mr_25 rfl ?_
        show xw J ov 98 32 (4, [(0, .ref 115), (1, .int 6)], [.int 1], hh2) _
        refine xi_iff (pc' := 7) kc_32_4 rfl rfl ?_
        refine xi_aload_n (pc' := 8) (x := 115) kc_32_7 rfl rfl ?_
        refine xi_getfield (pc' := 11) (v := .ref 125) kc_32_8 rfl rfl rfl eh2.1 rfl ?_
        refine xi_iload_n (pc' := 12) (x := 6) kc_32_11 rfl rfl ?_
        refine xi_iaload (pc' := 13) (v := (-9)) kc_32_12 rfl ((eh2.2.1 125 (by decide)).trans ((eh1.2.1 125 (by decide)).trans (F 125 _ hl_125))) (by decide) rfl (xi_in (n := 12) (by decide) (by decide)) rfl ?_
        refine xi_ift (pc' := 20) kc_32_13 rfl rfl ?_
        refine xi_iconst (pc' := 21) (v := 0) kc_32_20 rfl rfl ?_
        refine xi_ireturn kc_32_21 mr_32 rfl ?_
        show xw J ov 99 47 (10, [(0, .ref 115), (1, .int a1), (2, .int 6)], [.int 0], hh2) _
        refine xi_iff (pc' := 13) kc_47_10 rfl rfl ?_
        refine xi_aload_n (pc' := 14) (x := 115) kc_47_13 rfl rfl ?_
        refine xi_iconst (pc' := 15) (v := (-1)) kc_47_14 rfl rfl ?_
        refine xi_virtual (mj := 13) (as := [.int (-1)]) (st1 := []) (lv0 := [(0, .ref 115), (1, .int (-1))]) kc_47_15 rfl rfl rfl rfl rfl eh2.1 (Nat.le_of_ble_eq_true rfl) (hJ _ _ _ _ (by decide)) (xm_le ml_13 rfl) rfl ?_
        refine xi_aload_n (pc' := 1) (x := 115) kc_13_0 rfl rfl ?_
        refine xi_getfield (pc' := 4) (v := .ref 140) kc_13_1 rfl rfl rfl eh2.1 rfl ?_
        refine xi_iload_n (pc' := 5) (x := (-1)) kc_13_4 rfl rfl ?_
        refine xi_ineg (pc' := 6) (v := 1) kc_13_5 rfl rfl ?_
        refine xi_dup2 (pc' := 7) kc_13_6 rfl ⟨rfl, rfl⟩ ?_
        refine xi_iaload (pc' := 8) (v := 0) kc_13_7 rfl ((eh2.2.1 140 (by decide)).trans ((eh1.2.1 140 (by decide)).trans (F 140 _ hl_140))) (by decide) rfl (xi_in (n := 7) (by decide) (by decide)) rfl ?_
        refine xi_iconst (pc' := 9) (v := 1) kc_13_8 rfl rfl ?_
        refine xi_iadd (pc' := 10) (v := 1) kc_13_9 rfl rfl ?_
        refine xi_iastore (pc' := 11) (x' := [0, 1, 0, 0, 0, 0, 0]) kc_13_10 rfl ((eh2.2.1 140 (by decide)).trans ((eh1.2.1 140 (by decide)).trans (F 140 _ hl_140))) rfl (xi_in (n := 7) (by decide) (by decide)) rfl (fun hh3 eh3 => ?_)
        refine xi_iload_n (pc' := 12) (x := (-1)) kc_13_11 rfl rfl ?_
        refine xi_ireturn kc_13_12 mr_13 rfl ?_
        show xw J ov 99 47 (18, [(0, .ref 115), (1, .int a1), (2, .int 6)], [.int (-1)], hh3) _
        refine xi_ireturn kc_47_18 mr_47 rfl ?_
        show xw J ov 100 196 (877, [(4, .int 0), (3, .ref 167), (2, .ref 115), (1, .ref 0), (0, .ref 1000000)], [.int (-1), .int (-1)], hh3) _
        refine xi_cmt (pc' := 1528) kc_196_877 rfl rfl ?_
        refine xi_iinc (pc' := 1531) (x := 0) (v := 6) (lv' := [(4, .int 6), (3, .ref 167), (2, .ref 115), (1, .ref 0), (0, .ref 1000000)]) kc_196_1528 rfl rfl rfl rfl (xm_lt ml_196 rfl) ?_
        refine xi_goto (pc' := 23) kc_196_1531 rfl ?_
        refine xi_iload (pc' := 25) (x := 6) kc_196_23 rfl rfl ?_
        refine xi_aload_n (pc' := 26) (x := 1000000) kc_196_25 rfl rfl ?_
        refine xi_arraylength (pc' := 27) (n := 6) (v := 6) kc_196_26 rfl (xl_lenO (by decide) hov0 rfl) rfl ?_
        refine xi_bipush (pc' := 29) (v := 6) kc_196_27 rfl rfl ?_
        refine xi_isub (pc' := 30) (v := 0) kc_196_29 rfl rfl ?_
        refine xi_cmt (pc' := 1534) kc_196_30 rfl rfl ?_
        refine xi_iconst (pc' := 1535) (v := 1) kc_196_1534 rfl rfl ?_
        refine xi_ireturn kc_196_1535 mr_196 rfl ?_
        refine ⟨rfl, ?_, ?_⟩
        · rw [eh3.2.2.1, eh2.2.2.1, eh1.2.2.1]; exact hn0
        · rw [eh3.2.2.2, eh2.2.2.2, eh1.2.2.2]; exact hz0
      by_cases c10 : a2.toInt = 7
      · have qa2 : a2 = 7 := xc_of (Eq.trans (by omega) (show (7 : Int) = (7 : Int32).toInt by decide))
        subst qa2
        refine xi_aaload (pc' := 13) (b := 43) kc_109_12 rfl (F 3 _ hl_3) rfl (xi_in (n := 12) (by decide) (by decide)) rfl ?_
        refine xi_virtual (mj := 106) (as := []) (st1 := []) (lv0 := [(0, .ref 43)]) kc_109_13 rfl rfl rfl rfl rfl (F 43 _ hl_43) (Nat.le_of_ble_eq_true rfl) (hJ _ _ _ _ (by decide)) (xm_le ml_106 rfl) rfl ?_
        refine xi_aload_n (pc' := 1) (x := 43) kc_106_0 rfl rfl ?_
        refine xi_getfield (pc' := 4) (v := .int (-9)) kc_106_1 rfl rfl rfl (F 43 _ hl_43) rfl ?_
        refine xi_static (mj := 90) (as := [.int (-9)]) (st1 := []) (lv0 := [(0, .int (-9))]) kc_106_4 rfl rfl (Nat.le_of_ble_eq_true rfl) rfl rfl (Nat.le_of_ble_eq_true rfl) (hJ _ _ _ _ (by decide)) (xm_le ml_90 rfl) rfl ?_
        refine xi_iload_n (pc' := 1) (x := (-9)) kc_90_0 rfl rfl ?_
        refine xi_ift (pc' := 14) kc_90_1 rfl rfl ?_
        refine xi_iconst (pc' := 15) (v := 0) kc_90_14 rfl rfl ?_
        refine xi_ireturn kc_90_15 mr_90 rfl ?_
        show xw J ov 97 106 (7, [(0, .ref 43)], [.int 0], h0) _
        refine xi_ireturn kc_106_7 mr_106 rfl ?_
        show xw J ov 98 109 (16, [(0, .ref 1), (1, .int 7)], [.int 0], h0) _
        refine xi_ift (pc' := 23) kc_109_16 rfl rfl ?_
        refine xi_iconst (pc' := 24) (v := 0) kc_109_23 rfl rfl ?_
        refine xi_ireturn kc_109_24 mr_109 rfl ?_
        show xw J ov 99 138 (8, [(0, .ref 0), (1, .int a1), (2, .int 7)], [.int 0], h0) _
        refine xi_iff (pc' := 11) kc_138_8 rfl rfl ?_
        refine xi_aload_n (pc' := 12) (x := 0) kc_138_11 rfl rfl ?_
        refine xi_iconst (pc' := 13) (v := (-1)) kc_138_12 rfl rfl ?_
        refine xi_virtual (mj := 91) (as := [.int (-1)]) (st1 := []) (lv0 := [(0, .ref 0), (1, .int (-1))]) kc_138_13 rfl rfl rfl rfl rfl (F 0 _ hl_0) (Nat.le_of_ble_eq_true rfl) (hJ _ _ _ _ (by decide)) (xm_le ml_91 rfl) rfl ?_
        refine xi_iload_n (pc' := 1) (x := (-1)) kc_91_0 rfl rfl ?_
        refine xi_ineg (pc' := 2) (v := 1) kc_91_1 rfl rfl ?_
        refine xi_istore_n (pc' := 3) (lv' := [(2, .int 1), (0, .ref 0), (1, .int (-1))]) kc_91_2 rfl rfl (xm_lt ml_91 rfl) ?_
        refine xi_iload_n (pc' := 4) (x := 1) kc_91_3 rfl rfl ?_
        refine xi_iff (pc' := 7) kc_91_4 rfl rfl ?_
        refine xi_iload_n (pc' := 8) (x := 1) kc_91_7 rfl rfl ?_
        refine xi_aload_n (pc' := 9) (x := 0) kc_91_8 rfl rfl ?_
        refine xi_getfield (pc' := 12) (v := .ref 94) kc_91_9 rfl rfl rfl (F 0 _ hl_0) rfl ?_
        refine xi_arraylength (pc' := 13) (n := 7) (v := 7) kc_91_12 rfl (xl_lenI (by decide) (by decide) (F 94 _ hl_94) (by simp only [List.length_replicate, List.length_cons, List.length_nil])) rfl ?_
        refine xi_cmf (pc' := 16) kc_91_13 rfl rfl ?_
        refine xi_aload_n (pc' := 17) (x := 0) kc_91_16 rfl rfl ?_
        refine xi_getfield (pc' := 20) (v := .ref 94) kc_91_17 rfl rfl rfl (F 0 _ hl_0) rfl ?_
        refine xi_iload_n (pc' := 21) (x := 1) kc_91_20 rfl rfl ?_
        refine xi_dup2 (pc' := 22) kc_91_21 rfl ⟨rfl, rfl⟩ ?_
        refine xi_iaload (pc' := 23) (v := 0) kc_91_22 rfl (F 94 _ hl_94) (by decide) rfl (xi_in (n := 7) (by decide) (by decide)) rfl ?_
        refine xi_iconst (pc' := 24) (v := 1) kc_91_23 rfl rfl ?_
        refine xi_iadd (pc' := 25) (v := 1) kc_91_24 rfl rfl ?_
        refine xi_iastore (pc' := 26) (x' := [0, 1, 0, 0, 0, 0, 0]) kc_91_25 rfl (F 94 _ hl_94) rfl (xi_in (n := 7) (by decide) (by decide)) rfl (fun hh1 eh1 => ?_)
        refine xi_iload_n (pc' := 27) (x := (-1)) kc_91_26 rfl rfl ?_
        refine xi_ireturn kc_91_27 mr_91 rfl ?_
        show xw J ov 99 138 (16, [(0, .ref 0), (1, .int a1), (2, .int 7)], [.int (-1)], hh1) _
        refine xi_ireturn kc_138_16 mr_138 rfl ?_
        show xw J ov 100 196 (861, [(4, .int 0), (3, .ref 167), (2, .ref 115), (1, .ref 0), (0, .ref 1000000)], [.int (-1)], hh1) _
        refine xi_aload_n (pc' := 862) (x := 115) kc_196_861 rfl rfl ?_
        refine xi_aload_n (pc' := 863) (x := 1000000) kc_196_862 rfl rfl ?_
        refine xi_iload (pc' := 865) (x := 0) kc_196_863 rfl rfl ?_
        refine xi_iconst (pc' := 866) (v := 1) kc_196_865 rfl rfl ?_
        refine xi_iadd (pc' := 867) (v := 1) kc_196_866 rfl rfl ?_
        refine xi_ialoadO (pc' := 868) (v := a1) kc_196_867 rfl (by decide) hov0 (xi_in (n := 6) (by decide) (by decide)) rfl ?_
        refine xi_aload_n (pc' := 869) (x := 1000000) kc_196_868 rfl rfl ?_
        refine xi_iload (pc' := 871) (x := 0) kc_196_869 rfl rfl ?_
        refine xi_iconst (pc' := 872) (v := 2) kc_196_871 rfl rfl ?_
        refine xi_iadd (pc' := 873) (v := 2) kc_196_872 rfl rfl ?_
        refine xi_ialoadO (pc' := 874) (v := 7) kc_196_873 rfl (by decide) hov0 (xi_in (n := 6) (by decide) (by decide)) rfl ?_
        refine xi_virtual (mj := 47) (as := [.int a1, .int 7]) (st1 := [.int (-1)]) (lv0 := [(0, .ref 115), (1, .int a1), (2, .int 7)]) kc_196_874 rfl rfl rfl rfl rfl ((eh1.2.1 115 (by decide)).trans (F 115 _ hl_115)) (Nat.le_of_ble_eq_true rfl) (hJ _ _ _ _ (by decide)) (xm_le ml_47 rfl) rfl ?_
        refine xi_aload_n (pc' := 1) (x := 115) kc_47_0 rfl rfl ?_
        refine xi_iconst (pc' := 2) (v := 0) kc_47_1 rfl rfl ?_
        refine xi_putfield (pc' := 5) (fs' := [.int 0, .int 0, .ref 116, .ref 117, .ref 118, .ref 119, .ref 120, .ref 121, .ref 122, .ref 123, .ref 124, .ref 125, .ref 126, .ref 127, .ref 128, .ref 129, .int 4, .ref 130, .int 0, .ref 131, .ref 132, .ref 133, .ref 134, .int 0, .ref 135, .ref 136, .ref 137, .ref 138, .ref 139, .ref 140, .ref 141, .ref 142, .int 0, .int 0, .int 0, .ref 143, .ref 144, .ref 145, .ref 146, .ref 147, .ref 148, .int 0, .ref 149, .ref 150, .ref 151, .int 0, .ref 152, .ref 153, .ref 154, .ref 155, .ref 156, .ref 157, .ref 158, .ref 159, .int 0, .ref 160, .int 0, .ref 161, .ref 162, .ref 163, .ref 164, .int 0, .ref 165, .ref 166]) kc_47_2 rfl rfl rfl ((eh1.2.1 115 (by decide)).trans (F 115 _ hl_115)) rfl rfl rfl (Nat.le_of_ble_eq_true rfl) rfl (fun hh2 eh2 => ?_)
        refine xi_aload_n (pc' := 6) (x := 115) kc_47_5 rfl rfl ?_
        refine xi_iload_n (pc' := 7) (x := 7) kc_47_6 rfl rfl ?_
        refine xi_virtual (mj := 32) (as := [.int 7]) (st1 := []) (lv0 := [(0, .ref 115), (1, .int 7)]) kc_47_7 rfl rfl rfl rfl rfl eh2.1 (Nat.le_of_ble_eq_true rfl) (hJ _ _ _ _ (by decide)) (xm_le ml_32 rfl) rfl ?_
        refine xi_iload_n (pc' := 1) (x := 7) kc_32_0 rfl rfl ?_
        refine xi_static (mj := 25) (as := [.int 7]) (st1 := []) (lv0 := [(0, .int 7)]) kc_32_1 rfl rfl (Nat.le_of_ble_eq_true rfl) rfl rfl (Nat.le_of_ble_eq_true rfl) (hJ _ _ _ _ (by decide)) (xm_le ml_25 rfl) rfl ?_
        refine xi_iload_n (pc' := 1) (x := 7) kc_25_0 rfl rfl ?_
        refine xi_iconst (pc' := 2) (v := 0) kc_25_1 rfl rfl ?_
        refine xi_bipush (pc' := 4) (v := 11) kc_25_2 rfl rfl ?_
        refine xi_static (mj := 12) (as := [.int 7, .int 0, .int 11]) (st1 := []) (lv0 := [(0, .int 7), (1, .int 0), (2, .int 11)]) kc_25_4 rfl rfl (Nat.le_of_ble_eq_true rfl) rfl rfl (Nat.le_of_ble_eq_true rfl) (hJ _ _ _ _ (by decide)) (xm_le ml_12 rfl) rfl ?_
        refine xi_iload_n (pc' := 1) (x := 7) kc_12_0 rfl rfl ?_
        refine xi_iload_n (pc' := 2) (x := 0) kc_12_1 rfl rfl ?_
        refine xi_cmf (pc' := 5) kc_12_2 rfl rfl ?_
        refine xi_iload_n (pc' := 6) (x := 7) kc_12_5 rfl rfl ?_
        refine xi_iload_n (pc' := 7) (x := 11) kc_12_6 rfl rfl ?_
        refine xi_cmf (pc' := 10) kc_12_7 rfl rfl ?_
        refine xi_iconst (pc' := 11) (v := 1) kc_12_10 rfl rfl ?_
        refine xi_goto (pc' := 15) kc_12_11 rfl ?_
        refine xi_ireturn kc_12_15 mr_12 rfl ?_
        show xw J ov 97 25 (7, [(0, .int 7)], [.int 1], hh2) _
        refine xi_ireturn kc_25_7 mr_25 rfl ?_
        show xw J ov 98 32 (4, [(0, .ref 115), (1, .int 7)], [.int 1], hh2) _
        refine xi_iff (pc' := 7) kc_32_4 rfl rfl ?_
        refine xi_aload_n (pc' := 8) (x := 115) kc_32_7 rfl rfl ?_
        refine xi_getfield (pc' := 11) (v := .ref 125) kc_32_8 rfl rfl rfl eh2.1 rfl ?_
        refine xi_iload_n (pc' := 12) (x := 7) kc_32_11 rfl rfl ?_
        refine xi_iaload (pc' := 13) (v := (-9)) kc_32_12 rfl ((eh2.2.1 125 (by decide)).trans ((eh1.2.1 125 (by decide)).trans (F 125 _ hl_125))) (by decide) rfl (xi_in (n := 12) (by decide) (by decide)) rfl ?_
        refine xi_ift (pc' := 20) kc_32_13 rfl rfl ?_
        refine xi_iconst (pc' := 21) (v := 0) kc_32_20 rfl rfl ?_
        refine xi_ireturn kc_32_21 mr_32 rfl ?_
        show xw J ov 99 47 (10, [(0, .ref 115), (1, .int a1), (2, .int 7)], [.int 0], hh2) _
        refine xi_iff (pc' := 13) kc_47_10 rfl rfl ?_
        refine xi_aload_n (pc' := 14) (x := 115) kc_47_13 rfl rfl ?_
        refine xi_iconst (pc' := 15) (v := (-1)) kc_47_14 rfl rfl ?_
        refine xi_virtual (mj := 13) (as := [.int (-1)]) (st1 := []) (lv0 := [(0, .ref 115), (1, .int (-1))]) kc_47_15 rfl rfl rfl rfl rfl eh2.1 (Nat.le_of_ble_eq_true rfl) (hJ _ _ _ _ (by decide)) (xm_le ml_13 rfl) rfl ?_
        refine xi_aload_n (pc' := 1) (x := 115) kc_13_0 rfl rfl ?_
        refine xi_getfield (pc' := 4) (v := .ref 140) kc_13_1 rfl rfl rfl eh2.1 rfl ?_
        refine xi_iload_n (pc' := 5) (x := (-1)) kc_13_4 rfl rfl ?_
        refine xi_ineg (pc' := 6) (v := 1) kc_13_5 rfl rfl ?_
        refine xi_dup2 (pc' := 7) kc_13_6 rfl ⟨rfl, rfl⟩ ?_
        refine xi_iaload (pc' := 8) (v := 0) kc_13_7 rfl ((eh2.2.1 140 (by decide)).trans ((eh1.2.1 140 (by decide)).trans (F 140 _ hl_140))) (by decide) rfl (xi_in (n := 7) (by decide) (by decide)) rfl ?_
        refine xi_iconst (pc' := 9) (v := 1) kc_13_8 rfl rfl ?_
        refine xi_iadd (pc' := 10) (v := 1) kc_13_9 rfl rfl ?_
        refine xi_iastore (pc' := 11) (x' := [0, 1, 0, 0, 0, 0, 0]) kc_13_10 rfl ((eh2.2.1 140 (by decide)).trans ((eh1.2.1 140 (by decide)).trans (F 140 _ hl_140))) rfl (xi_in (n := 7) (by decide) (by decide)) rfl (fun hh3 eh3 => ?_)
        refine xi_iload_n (pc' := 12) (x := (-1)) kc_13_11 rfl rfl ?_
        refine xi_ireturn kc_13_12 mr_13 rfl ?_
        show xw J ov 99 47 (18, [(0, .ref 115), (1, .int a1), (2, .int 7)], [.int (-1)], hh3) _
        refine xi_ireturn kc_47_18 mr_47 rfl ?_
        show xw J ov 100 196 (877, [(4, .int 0), (3, .ref 167), (2, .ref 115), (1, .ref 0), (0, .ref 1000000)], [.int (-1), .int (-1)], hh3) _
        refine xi_cmt (pc' := 1528) kc_196_877 rfl rfl ?_
        refine xi_iinc (pc' := 1531) (x := 0) (v := 6) (lv' := [(4, .int 6), (3, .ref 167), (2, .ref 115), (1, .ref 0), (0, .ref 1000000)]) kc_196_1528 rfl rfl rfl rfl (xm_lt ml_196 rfl) ?_
        refine xi_goto (pc' := 23) kc_196_1531 rfl ?_
        refine xi_iload (pc' := 25) (x := 6) kc_196_23 rfl rfl ?_
        refine xi_aload_n (pc' := 26) (x := 1000000) kc_196_25 rfl rfl ?_
        refine xi_arraylength (pc' := 27) (n := 6) (v := 6) kc_196_26 rfl (xl_lenO (by decide) hov0 rfl) rfl ?_
        refine xi_bipush (pc' := 29) (v := 6) kc_196_27 rfl rfl ?_
        refine xi_isub (pc' := 30) (v := 0) kc_196_29 rfl rfl ?_
        refine xi_cmt (pc' := 1534) kc_196_30 rfl rfl ?_
        refine xi_iconst (pc' := 1535) (v := 1) kc_196_1534 rfl rfl ?_
        refine xi_ireturn kc_196_1535 mr_196 rfl ?_
        refine ⟨rfl, ?_, ?_⟩
        · rw [eh3.2.2.1, eh2.2.2.1, eh1.2.2.1]; exact hn0
        · rw [eh3.2.2.2, eh2.2.2.2, eh1.2.2.2]; exact hz0
      by_cases c11 : a2.toInt = 8
      · have qa2 : a2 = 8 := xc_of (Eq.trans (by omega) (show (8 : Int) = (8 : Int32).toInt by decide))
        subst qa2
        refine xi_aaload (pc' := 13) (b := 45) kc_109_12 rfl (F 3 _ hl_3) rfl (xi_in (n := 12) (by decide) (by decide)) rfl ?_
        refine xi_virtual (mj := 106) (as := []) (st1 := []) (lv0 := [(0, .ref 45)]) kc_109_13 rfl rfl rfl rfl rfl (F 45 _ hl_45) (Nat.le_of_ble_eq_true rfl) (hJ _ _ _ _ (by decide)) (xm_le ml_106 rfl) rfl ?_
        refine xi_aload_n (pc' := 1) (x := 45) kc_106_0 rfl rfl ?_
        refine xi_getfield (pc' := 4) (v := .int (-9)) kc_106_1 rfl rfl rfl (F 45 _ hl_45) rfl ?_
        refine xi_static (mj := 90) (as := [.int (-9)]) (st1 := []) (lv0 := [(0, .int (-9))]) kc_106_4 rfl rfl (Nat.le_of_ble_eq_true rfl) rfl rfl (Nat.le_of_ble_eq_true rfl) (hJ _ _ _ _ (by decide)) (xm_le ml_90 rfl) rfl ?_
        refine xi_iload_n (pc' := 1) (x := (-9)) kc_90_0 rfl rfl ?_
        refine xi_ift (pc' := 14) kc_90_1 rfl rfl ?_
        refine xi_iconst (pc' := 15) (v := 0) kc_90_14 rfl rfl ?_
        refine xi_ireturn kc_90_15 mr_90 rfl ?_
        show xw J ov 97 106 (7, [(0, .ref 45)], [.int 0], h0) _
        refine xi_ireturn kc_106_7 mr_106 rfl ?_
        show xw J ov 98 109 (16, [(0, .ref 1), (1, .int 8)], [.int 0], h0) _
        refine xi_ift (pc' := 23) kc_109_16 rfl rfl ?_
        refine xi_iconst (pc' := 24) (v := 0) kc_109_23 rfl rfl ?_
        refine xi_ireturn kc_109_24 mr_109 rfl ?_
        show xw J ov 99 138 (8, [(0, .ref 0), (1, .int a1), (2, .int 8)], [.int 0], h0) _
        refine xi_iff (pc' := 11) kc_138_8 rfl rfl ?_
        refine xi_aload_n (pc' := 12) (x := 0) kc_138_11 rfl rfl ?_
        refine xi_iconst (pc' := 13) (v := (-1)) kc_138_12 rfl rfl ?_
        refine xi_virtual (mj := 91) (as := [.int (-1)]) (st1 := []) (lv0 := [(0, .ref 0), (1, .int (-1))]) kc_138_13 rfl rfl rfl rfl rfl (F 0 _ hl_0) (Nat.le_of_ble_eq_true rfl) (hJ _ _ _ _ (by decide)) (xm_le ml_91 rfl) rfl ?_
        refine xi_iload_n (pc' := 1) (x := (-1)) kc_91_0 rfl rfl ?_
        refine xi_ineg (pc' := 2) (v := 1) kc_91_1 rfl rfl ?_
        refine xi_istore_n (pc' := 3) (lv' := [(2, .int 1), (0, .ref 0), (1, .int (-1))]) kc_91_2 rfl rfl (xm_lt ml_91 rfl) ?_
        refine xi_iload_n (pc' := 4) (x := 1) kc_91_3 rfl rfl ?_
        refine xi_iff (pc' := 7) kc_91_4 rfl rfl ?_
        refine xi_iload_n (pc' := 8) (x := 1) kc_91_7 rfl rfl ?_
        refine xi_aload_n (pc' := 9) (x := 0) kc_91_8 rfl rfl ?_
        refine xi_getfield (pc' := 12) (v := .ref 94) kc_91_9 rfl rfl rfl (F 0 _ hl_0) rfl ?_
        refine xi_arraylength (pc' := 13) (n := 7) (v := 7) kc_91_12 rfl (xl_lenI (by decide) (by decide) (F 94 _ hl_94) (by simp only [List.length_replicate, List.length_cons, List.length_nil])) rfl ?_
        refine xi_cmf (pc' := 16) kc_91_13 rfl rfl ?_
        refine xi_aload_n (pc' := 17) (x := 0) kc_91_16 rfl rfl ?_
        refine xi_getfield (pc' := 20) (v := .ref 94) kc_91_17 rfl rfl rfl (F 0 _ hl_0) rfl ?_
        refine xi_iload_n (pc' := 21) (x := 1) kc_91_20 rfl rfl ?_
        refine xi_dup2 (pc' := 22) kc_91_21 rfl ⟨rfl, rfl⟩ ?_
        refine xi_iaload (pc' := 23) (v := 0) kc_91_22 rfl (F 94 _ hl_94) (by decide) rfl (xi_in (n := 7) (by decide) (by decide)) rfl ?_
        refine xi_iconst (pc' := 24) (v := 1) kc_91_23 rfl rfl ?_
        refine xi_iadd (pc' := 25) (v := 1) kc_91_24 rfl rfl ?_
        refine xi_iastore (pc' := 26) (x' := [0, 1, 0, 0, 0, 0, 0]) kc_91_25 rfl (F 94 _ hl_94) rfl (xi_in (n := 7) (by decide) (by decide)) rfl (fun hh1 eh1 => ?_)
        refine xi_iload_n (pc' := 27) (x := (-1)) kc_91_26 rfl rfl ?_
        refine xi_ireturn kc_91_27 mr_91 rfl ?_
        show xw J ov 99 138 (16, [(0, .ref 0), (1, .int a1), (2, .int 8)], [.int (-1)], hh1) _
        refine xi_ireturn kc_138_16 mr_138 rfl ?_
        show xw J ov 100 196 (861, [(4, .int 0), (3, .ref 167), (2, .ref 115), (1, .ref 0), (0, .ref 1000000)], [.int (-1)], hh1) _
        refine xi_aload_n (pc' := 862) (x := 115) kc_196_861 rfl rfl ?_
        refine xi_aload_n (pc' := 863) (x := 1000000) kc_196_862 rfl rfl ?_
        refine xi_iload (pc' := 865) (x := 0) kc_196_863 rfl rfl ?_
        refine xi_iconst (pc' := 866) (v := 1) kc_196_865 rfl rfl ?_
        refine xi_iadd (pc' := 867) (v := 1) kc_196_866 rfl rfl ?_
        refine xi_ialoadO (pc' := 868) (v := a1) kc_196_867 rfl (by decide) hov0 (xi_in (n := 6) (by decide) (by decide)) rfl ?_
        refine xi_aload_n (pc' := 869) (x := 1000000) kc_196_868 rfl rfl ?_
        refine xi_iload (pc' := 871) (x := 0) kc_196_869 rfl rfl ?_
        refine xi_iconst (pc' := 872) (v := 2) kc_196_871 rfl rfl ?_
        refine xi_iadd (pc' := 873) (v := 2) kc_196_872 rfl rfl ?_
        refine xi_ialoadO (pc' := 874) (v := 8) kc_196_873 rfl (by decide) hov0 (xi_in (n := 6) (by decide) (by decide)) rfl ?_
        refine xi_virtual (mj := 47) (as := [.int a1, .int 8]) (st1 := [.int (-1)]) (lv0 := [(0, .ref 115), (1, .int a1), (2, .int 8)]) kc_196_874 rfl rfl rfl rfl rfl ((eh1.2.1 115 (by decide)).trans (F 115 _ hl_115)) (Nat.le_of_ble_eq_true rfl) (hJ _ _ _ _ (by decide)) (xm_le ml_47 rfl) rfl ?_
        refine xi_aload_n (pc' := 1) (x := 115) kc_47_0 rfl rfl ?_
        refine xi_iconst (pc' := 2) (v := 0) kc_47_1 rfl rfl ?_
        refine xi_putfield (pc' := 5) (fs' := [.int 0, .int 0, .ref 116, .ref 117, .ref 118, .ref 119, .ref 120, .ref 121, .ref 122, .ref 123, .ref 124, .ref 125, .ref 126, .ref 127, .ref 128, .ref 129, .int 4, .ref 130, .int 0, .ref 131, .ref 132, .ref 133, .ref 134, .int 0, .ref 135, .ref 136, .ref 137, .ref 138, .ref 139, .ref 140, .ref 141, .ref 142, .int 0, .int 0, .int 0, .ref 143, .ref 144, .ref 145, .ref 146, .ref 147, .ref 148, .int 0, .ref 149, .ref 150, .ref 151, .int 0, .ref 152, .ref 153, .ref 154, .ref 155, .ref 156, .ref 157, .ref 158, .ref 159, .int 0, .ref 160, .int 0, .ref 161, .ref 162, .ref 163, .ref 164, .int 0, .ref 165, .ref 166]) kc_47_2 rfl rfl rfl ((eh1.2.1 115 (by decide)).trans (F 115 _ hl_115)) rfl rfl rfl (Nat.le_of_ble_eq_true rfl) rfl (fun hh2 eh2 => ?_)
        refine xi_aload_n (pc' := 6) (x := 115) kc_47_5 rfl rfl ?_
        refine xi_iload_n (pc' := 7) (x := 8) kc_47_6 rfl rfl ?_
        refine xi_virtual (mj := 32) (as := [.int 8]) (st1 := []) (lv0 := [(0, .ref 115), (1, .int 8)]) kc_47_7 rfl rfl rfl rfl rfl eh2.1 (Nat.le_of_ble_eq_true rfl) (hJ _ _ _ _ (by decide)) (xm_le ml_32 rfl) rfl ?_
        refine xi_iload_n (pc' := 1) (x := 8) kc_32_0 rfl rfl ?_
        refine xi_static (mj := 25) (as := [.int 8]) (st1 := []) (lv0 := [(0, .int 8)]) kc_32_1 rfl rfl (Nat.le_of_ble_eq_true rfl) rfl rfl (Nat.le_of_ble_eq_true rfl) (hJ _ _ _ _ (by decide)) (xm_le ml_25 rfl) rfl ?_
        refine xi_iload_n (pc' := 1) (x := 8) kc_25_0 rfl rfl ?_
        refine xi_iconst (pc' := 2) (v := 0) kc_25_1 rfl rfl ?_
        refine xi_bipush (pc' := 4) (v := 11) kc_25_2 rfl rfl ?_
        refine xi_static (mj := 12) (as := [.int 8, .int 0, .int 11]) (st1 := []) (lv0 := [(0, .int 8), (1, .int 0), (2, .int 11)]) kc_25_4 rfl rfl (Nat.le_of_ble_eq_true rfl) rfl rfl (Nat.le_of_ble_eq_true rfl) (hJ _ _ _ _ (by decide)) (xm_le ml_12 rfl) rfl ?_
        refine xi_iload_n (pc' := 1) (x := 8) kc_12_0 rfl rfl ?_
        refine xi_iload_n (pc' := 2) (x := 0) kc_12_1 rfl rfl ?_
        refine xi_cmf (pc' := 5) kc_12_2 rfl rfl ?_
        refine xi_iload_n (pc' := 6) (x := 8) kc_12_5 rfl rfl ?_
        refine xi_iload_n (pc' := 7) (x := 11) kc_12_6 rfl rfl ?_
        refine xi_cmf (pc' := 10) kc_12_7 rfl rfl ?_
        refine xi_iconst (pc' := 11) (v := 1) kc_12_10 rfl rfl ?_
        refine xi_goto (pc' := 15) kc_12_11 rfl ?_
        refine xi_ireturn kc_12_15 mr_12 rfl ?_
        show xw J ov 97 25 (7, [(0, .int 8)], [.int 1], hh2) _
        refine xi_ireturn kc_25_7 mr_25 rfl ?_
        show xw J ov 98 32 (4, [(0, .ref 115), (1, .int 8)], [.int 1], hh2) _
        refine xi_iff (pc' := 7) kc_32_4 rfl rfl ?_
        refine xi_aload_n (pc' := 8) (x := 115) kc_32_7 rfl rfl ?_
        refine xi_getfield (pc' := 11) (v := .ref 125) kc_32_8 rfl rfl rfl eh2.1 rfl ?_
        refine xi_iload_n (pc' := 12) (x := 8) kc_32_11 rfl rfl ?_
        refine xi_iaload (pc' := 13) (v := (-9)) kc_32_12 rfl ((eh2.2.1 125 (by decide)).trans ((eh1.2.1 125 (by decide)).trans (F 125 _ hl_125))) (by decide) rfl (xi_in (n := 12) (by decide) (by decide)) rfl ?_
        refine xi_ift (pc' := 20) kc_32_13 rfl rfl ?_
        refine xi_iconst (pc' := 21) (v := 0) kc_32_20 rfl rfl ?_
        refine xi_ireturn kc_32_21 mr_32 rfl ?_
        show xw J ov 99 47 (10, [(0, .ref 115), (1, .int a1), (2, .int 8)], [.int 0], hh2) _
        refine xi_iff (pc' := 13) kc_47_10 rfl rfl ?_
        refine xi_aload_n (pc' := 14) (x := 115) kc_47_13 rfl rfl ?_
        refine xi_iconst (pc' := 15) (v := (-1)) kc_47_14 rfl rfl ?_
        refine xi_virtual (mj := 13) (as := [.int (-1)]) (st1 := []) (lv0 := [(0, .ref 115), (1, .int (-1))]) kc_47_15 rfl rfl rfl rfl rfl eh2.1 (Nat.le_of_ble_eq_true rfl) (hJ _ _ _ _ (by decide)) (xm_le ml_13 rfl) rfl ?_
        refine xi_aload_n (pc' := 1) (x := 115) kc_13_0 rfl rfl ?_
        refine xi_getfield (pc' := 4) (v := .ref 140) kc_13_1 rfl rfl rfl eh2.1 rfl ?_
        refine xi_iload_n (pc' := 5) (x := (-1)) kc_13_4 rfl rfl ?_
        refine xi_ineg (pc' := 6) (v := 1) kc_13_5 rfl rfl ?_
        refine xi_dup2 (pc' := 7) kc_13_6 rfl ⟨rfl, rfl⟩ ?_
        refine xi_iaload (pc' := 8) (v := 0) kc_13_7 rfl ((eh2.2.1 140 (by decide)).trans ((eh1.2.1 140 (by decide)).trans (F 140 _ hl_140))) (by decide) rfl (xi_in (n := 7) (by decide) (by decide)) rfl ?_
        refine xi_iconst (pc' := 9) (v := 1) kc_13_8 rfl rfl ?_
        refine xi_iadd (pc' := 10) (v := 1) kc_13_9 rfl rfl ?_
        refine xi_iastore (pc' := 11) (x' := [0, 1, 0, 0, 0, 0, 0]) kc_13_10 rfl ((eh2.2.1 140 (by decide)).trans ((eh1.2.1 140 (by decide)).trans (F 140 _ hl_140))) rfl (xi_in (n := 7) (by decide) (by decide)) rfl (fun hh3 eh3 => ?_)
        refine xi_iload_n (pc' := 12) (x := (-1)) kc_13_11 rfl rfl ?_
        refine xi_ireturn kc_13_12 mr_13 rfl ?_
        show xw J ov 99 47 (18, [(0, .ref 115), (1, .int a1), (2, .int 8)], [.int (-1)], hh3) _
        refine xi_ireturn kc_47_18 mr_47 rfl ?_
        show xw J ov 100 196 (877, [(4, .int 0), (3, .ref 167), (2, .ref 115), (1, .ref 0), (0, .ref 1000000)], [.int (-1), .int (-1)], hh3) _
        refine xi_cmt (pc' := 1528) kc_196_877 rfl rfl ?_
        refine xi_iinc (pc' := 1531) (x := 0) (v := 6) (lv' := [(4, .int 6), (3, .ref 167), (2, .ref 115), (1, .ref 0), (0, .ref 1000000)]) kc_196_1528 rfl rfl rfl rfl (xm_lt ml_196 rfl) ?_
        refine xi_goto (pc' := 23) kc_196_1531 rfl ?_
        refine xi_iload (pc' := 25) (x := 6) kc_196_23 rfl rfl ?_
        refine xi_aload_n (pc' := 26) (x := 1000000) kc_196_25 rfl rfl ?_
        refine xi_arraylength (pc' := 27) (n := 6) (v := 6) kc_196_26 rfl (xl_lenO (by decide) hov0 rfl) rfl ?_
        refine xi_bipush (pc' := 29) (v := 6) kc_196_27 rfl rfl ?_
        refine xi_isub (pc' := 30) (v := 0) kc_196_29 rfl rfl ?_
        refine xi_cmt (pc' := 1534) kc_196_30 rfl rfl ?_
        refine xi_iconst (pc' := 1535) (v := 1) kc_196_1534 rfl rfl ?_
        refine xi_ireturn kc_196_1535 mr_196 rfl ?_
        refine ⟨rfl, ?_, ?_⟩
        · rw [eh3.2.2.1, eh2.2.2.1, eh1.2.2.1]; exact hn0
        · rw [eh3.2.2.2, eh2.2.2.2, eh1.2.2.2]; exact hz0
      by_cases c12 : a2.toInt = 9
      · have qa2 : a2 = 9 := xc_of (Eq.trans (by omega) (show (9 : Int) = (9 : Int32).toInt by decide))
        subst qa2
        refine xi_aaload (pc' := 13) (b := 47) kc_109_12 rfl (F 3 _ hl_3) rfl (xi_in (n := 12) (by decide) (by decide)) rfl ?_
        refine xi_virtual (mj := 106) (as := []) (st1 := []) (lv0 := [(0, .ref 47)]) kc_109_13 rfl rfl rfl rfl rfl (F 47 _ hl_47) (Nat.le_of_ble_eq_true rfl) (hJ _ _ _ _ (by decide)) (xm_le ml_106 rfl) rfl ?_
        refine xi_aload_n (pc' := 1) (x := 47) kc_106_0 rfl rfl ?_
        refine xi_getfield (pc' := 4) (v := .int (-9)) kc_106_1 rfl rfl rfl (F 47 _ hl_47) rfl ?_
        refine xi_static (mj := 90) (as := [.int (-9)]) (st1 := []) (lv0 := [(0, .int (-9))]) kc_106_4 rfl rfl (Nat.le_of_ble_eq_true rfl) rfl rfl (Nat.le_of_ble_eq_true rfl) (hJ _ _ _ _ (by decide)) (xm_le ml_90 rfl) rfl ?_
        refine xi_iload_n (pc' := 1) (x := (-9)) kc_90_0 rfl rfl ?_
        refine xi_ift (pc' := 14) kc_90_1 rfl rfl ?_
        refine xi_iconst (pc' := 15) (v := 0) kc_90_14 rfl rfl ?_
        refine xi_ireturn kc_90_15 mr_90 rfl ?_
        show xw J ov 97 106 (7, [(0, .ref 47)], [.int 0], h0) _
        refine xi_ireturn kc_106_7 mr_106 rfl ?_
        show xw J ov 98 109 (16, [(0, .ref 1), (1, .int 9)], [.int 0], h0) _
        refine xi_ift (pc' := 23) kc_109_16 rfl rfl ?_
        refine xi_iconst (pc' := 24) (v := 0) kc_109_23 rfl rfl ?_
        refine xi_ireturn kc_109_24 mr_109 rfl ?_
        show xw J ov 99 138 (8, [(0, .ref 0), (1, .int a1), (2, .int 9)], [.int 0], h0) _
        refine xi_iff (pc' := 11) kc_138_8 rfl rfl ?_
        refine xi_aload_n (pc' := 12) (x := 0) kc_138_11 rfl rfl ?_
        refine xi_iconst (pc' := 13) (v := (-1)) kc_138_12 rfl rfl ?_
        refine xi_virtual (mj := 91) (as := [.int (-1)]) (st1 := []) (lv0 := [(0, .ref 0), (1, .int (-1))]) kc_138_13 rfl rfl rfl rfl rfl (F 0 _ hl_0) (Nat.le_of_ble_eq_true rfl) (hJ _ _ _ _ (by decide)) (xm_le ml_91 rfl) rfl ?_
        refine xi_iload_n (pc' := 1) (x := (-1)) kc_91_0 rfl rfl ?_
        refine xi_ineg (pc' := 2) (v := 1) kc_91_1 rfl rfl ?_
        refine xi_istore_n (pc' := 3) (lv' := [(2, .int 1), (0, .ref 0), (1, .int (-1))]) kc_91_2 rfl rfl (xm_lt ml_91 rfl) ?_
        refine xi_iload_n (pc' := 4) (x := 1) kc_91_3 rfl rfl ?_
        refine xi_iff (pc' := 7) kc_91_4 rfl rfl ?_
        refine xi_iload_n (pc' := 8) (x := 1) kc_91_7 rfl rfl ?_
        refine xi_aload_n (pc' := 9) (x := 0) kc_91_8 rfl rfl ?_
        refine xi_getfield (pc' := 12) (v := .ref 94) kc_91_9 rfl rfl rfl (F 0 _ hl_0) rfl ?_
        refine xi_arraylength (pc' := 13) (n := 7) (v := 7) kc_91_12 rfl (xl_lenI (by decide) (by decide) (F 94 _ hl_94) (by simp only [List.length_replicate, List.length_cons, List.length_nil])) rfl ?_
        refine xi_cmf (pc' := 16) kc_91_13 rfl rfl ?_
        refine xi_aload_n (pc' := 17) (x := 0) kc_91_16 rfl rfl ?_
        refine xi_getfield (pc' := 20) (v := .ref 94) kc_91_17 rfl rfl rfl (F 0 _ hl_0) rfl ?_
        refine xi_iload_n (pc' := 21) (x := 1) kc_91_20 rfl rfl ?_
        refine xi_dup2 (pc' := 22) kc_91_21 rfl ⟨rfl, rfl⟩ ?_
        refine xi_iaload (pc' := 23) (v := 0) kc_91_22 rfl (F 94 _ hl_94) (by decide) rfl (xi_in (n := 7) (by decide) (by decide)) rfl ?_
        refine xi_iconst (pc' := 24) (v := 1) kc_91_23 rfl rfl ?_
        refine xi_iadd (pc' := 25) (v := 1) kc_91_24 rfl rfl ?_
        refine xi_iastore (pc' := 26) (x' := [0, 1, 0, 0, 0, 0, 0]) kc_91_25 rfl (F 94 _ hl_94) rfl (xi_in (n := 7) (by decide) (by decide)) rfl (fun hh1 eh1 => ?_)
        refine xi_iload_n (pc' := 27) (x := (-1)) kc_91_26 rfl rfl ?_
        refine xi_ireturn kc_91_27 mr_91 rfl ?_
        show xw J ov 99 138 (16, [(0, .ref 0), (1, .int a1), (2, .int 9)], [.int (-1)], hh1) _
        refine xi_ireturn kc_138_16 mr_138 rfl ?_
        show xw J ov 100 196 (861, [(4, .int 0), (3, .ref 167), (2, .ref 115), (1, .ref 0), (0, .ref 1000000)], [.int (-1)], hh1) _
        refine xi_aload_n (pc' := 862) (x := 115) kc_196_861 rfl rfl ?_
        refine xi_aload_n (pc' := 863) (x := 1000000) kc_196_862 rfl rfl ?_
        refine xi_iload (pc' := 865) (x := 0) kc_196_863 rfl rfl ?_
        refine xi_iconst (pc' := 866) (v := 1) kc_196_865 rfl rfl ?_
        refine xi_iadd (pc' := 867) (v := 1) kc_196_866 rfl rfl ?_
        refine xi_ialoadO (pc' := 868) (v := a1) kc_196_867 rfl (by decide) hov0 (xi_in (n := 6) (by decide) (by decide)) rfl ?_
        refine xi_aload_n (pc' := 869) (x := 1000000) kc_196_868 rfl rfl ?_
        refine xi_iload (pc' := 871) (x := 0) kc_196_869 rfl rfl ?_
        refine xi_iconst (pc' := 872) (v := 2) kc_196_871 rfl rfl ?_
        refine xi_iadd (pc' := 873) (v := 2) kc_196_872 rfl rfl ?_
        refine xi_ialoadO (pc' := 874) (v := 9) kc_196_873 rfl (by decide) hov0 (xi_in (n := 6) (by decide) (by decide)) rfl ?_
        refine xi_virtual (mj := 47) (as := [.int a1, .int 9]) (st1 := [.int (-1)]) (lv0 := [(0, .ref 115), (1, .int a1), (2, .int 9)]) kc_196_874 rfl rfl rfl rfl rfl ((eh1.2.1 115 (by decide)).trans (F 115 _ hl_115)) (Nat.le_of_ble_eq_true rfl) (hJ _ _ _ _ (by decide)) (xm_le ml_47 rfl) rfl ?_
        refine xi_aload_n (pc' := 1) (x := 115) kc_47_0 rfl rfl ?_
        refine xi_iconst (pc' := 2) (v := 0) kc_47_1 rfl rfl ?_
        refine xi_putfield (pc' := 5) (fs' := [.int 0, .int 0, .ref 116, .ref 117, .ref 118, .ref 119, .ref 120, .ref 121, .ref 122, .ref 123, .ref 124, .ref 125, .ref 126, .ref 127, .ref 128, .ref 129, .int 4, .ref 130, .int 0, .ref 131, .ref 132, .ref 133, .ref 134, .int 0, .ref 135, .ref 136, .ref 137, .ref 138, .ref 139, .ref 140, .ref 141, .ref 142, .int 0, .int 0, .int 0, .ref 143, .ref 144, .ref 145, .ref 146, .ref 147, .ref 148, .int 0, .ref 149, .ref 150, .ref 151, .int 0, .ref 152, .ref 153, .ref 154, .ref 155, .ref 156, .ref 157, .ref 158, .ref 159, .int 0, .ref 160, .int 0, .ref 161, .ref 162, .ref 163, .ref 164, .int 0, .ref 165, .ref 166]) kc_47_2 rfl rfl rfl ((eh1.2.1 115 (by decide)).trans (F 115 _ hl_115)) rfl rfl rfl (Nat.le_of_ble_eq_true rfl) rfl (fun hh2 eh2 => ?_)
        refine xi_aload_n (pc' := 6) (x := 115) kc_47_5 rfl rfl ?_
        refine xi_iload_n (pc' := 7) (x := 9) kc_47_6 rfl rfl ?_
        refine xi_virtual (mj := 32) (as := [.int 9]) (st1 := []) (lv0 := [(0, .ref 115), (1, .int 9)]) kc_47_7 rfl rfl rfl rfl rfl eh2.1 (Nat.le_of_ble_eq_true rfl) (hJ _ _ _ _ (by decide)) (xm_le ml_32 rfl) rfl ?_
        refine xi_iload_n (pc' := 1) (x := 9) kc_32_0 rfl rfl ?_
        refine xi_static (mj := 25) (as := [.int 9]) (st1 := []) (lv0 := [(0, .int 9)]) kc_32_1 rfl rfl (Nat.le_of_ble_eq_true rfl) rfl rfl (Nat.le_of_ble_eq_true rfl) (hJ _ _ _ _ (by decide)) (xm_le ml_25 rfl) rfl ?_
        refine xi_iload_n (pc' := 1) (x := 9) kc_25_0 rfl rfl ?_
        refine xi_iconst (pc' := 2) (v := 0) kc_25_1 rfl rfl ?_
        refine xi_bipush (pc' := 4) (v := 11) kc_25_2 rfl rfl ?_
        refine xi_static (mj := 12) (as := [.int 9, .int 0, .int 11]) (st1 := []) (lv0 := [(0, .int 9), (1, .int 0), (2, .int 11)]) kc_25_4 rfl rfl (Nat.le_of_ble_eq_true rfl) rfl rfl (Nat.le_of_ble_eq_true rfl) (hJ _ _ _ _ (by decide)) (xm_le ml_12 rfl) rfl ?_
        refine xi_iload_n (pc' := 1) (x := 9) kc_12_0 rfl rfl ?_
        refine xi_iload_n (pc' := 2) (x := 0) kc_12_1 rfl rfl ?_
        refine xi_cmf (pc' := 5) kc_12_2 rfl rfl ?_
        refine xi_iload_n (pc' := 6) (x := 9) kc_12_5 rfl rfl ?_
        refine xi_iload_n (pc' := 7) (x := 11) kc_12_6 rfl rfl ?_
        refine xi_cmf (pc' := 10) kc_12_7 rfl rfl ?_
        refine xi_iconst (pc' := 11) (v := 1) kc_12_10 rfl rfl ?_
        refine xi_goto (pc' := 15) kc_12_11 rfl ?_
        refine xi_ireturn kc_12_15 mr_12 rfl ?_
        show xw J ov 97 25 (7, [(0, .int 9)], [.int 1], hh2) _
        refine xi_ireturn kc_25_7 mr_25 rfl ?_
        show xw J ov 98 32 (4, [(0, .ref 115), (1, .int 9)], [.int 1], hh2) _
        refine xi_iff (pc' := 7) kc_32_4 rfl rfl ?_
        refine xi_aload_n (pc' := 8) (x := 115) kc_32_7 rfl rfl ?_
        refine xi_getfield (pc' := 11) (v := .ref 125) kc_32_8 rfl rfl rfl eh2.1 rfl ?_
        refine xi_iload_n (pc' := 12) (x := 9) kc_32_11 rfl rfl ?_
        refine xi_iaload (pc' := 13) (v := (-9)) kc_32_12 rfl ((eh2.2.1 125 (by decide)).trans ((eh1.2.1 125 (by decide)).trans (F 125 _ hl_125))) (by decide) rfl (xi_in (n := 12) (by decide) (by decide)) rfl ?_
        refine xi_ift (pc' := 20) kc_32_13 rfl rfl ?_
        refine xi_iconst (pc' := 21) (v := 0) kc_32_20 rfl rfl ?_
        refine xi_ireturn kc_32_21 mr_32 rfl ?_
        show xw J ov 99 47 (10, [(0, .ref 115), (1, .int a1), (2, .int 9)], [.int 0], hh2) _
        refine xi_iff (pc' := 13) kc_47_10 rfl rfl ?_
        refine xi_aload_n (pc' := 14) (x := 115) kc_47_13 rfl rfl ?_
        refine xi_iconst (pc' := 15) (v := (-1)) kc_47_14 rfl rfl ?_
        refine xi_virtual (mj := 13) (as := [.int (-1)]) (st1 := []) (lv0 := [(0, .ref 115), (1, .int (-1))]) kc_47_15 rfl rfl rfl rfl rfl eh2.1 (Nat.le_of_ble_eq_true rfl) (hJ _ _ _ _ (by decide)) (xm_le ml_13 rfl) rfl ?_
        refine xi_aload_n (pc' := 1) (x := 115) kc_13_0 rfl rfl ?_
        refine xi_getfield (pc' := 4) (v := .ref 140) kc_13_1 rfl rfl rfl eh2.1 rfl ?_
        refine xi_iload_n (pc' := 5) (x := (-1)) kc_13_4 rfl rfl ?_
        refine xi_ineg (pc' := 6) (v := 1) kc_13_5 rfl rfl ?_
        refine xi_dup2 (pc' := 7) kc_13_6 rfl ⟨rfl, rfl⟩ ?_
        refine xi_iaload (pc' := 8) (v := 0) kc_13_7 rfl ((eh2.2.1 140 (by decide)).trans ((eh1.2.1 140 (by decide)).trans (F 140 _ hl_140))) (by decide) rfl (xi_in (n := 7) (by decide) (by decide)) rfl ?_
        refine xi_iconst (pc' := 9) (v := 1) kc_13_8 rfl rfl ?_
        refine xi_iadd (pc' := 10) (v := 1) kc_13_9 rfl rfl ?_
        refine xi_iastore (pc' := 11) (x' := [0, 1, 0, 0, 0, 0, 0]) kc_13_10 rfl ((eh2.2.1 140 (by decide)).trans ((eh1.2.1 140 (by decide)).trans (F 140 _ hl_140))) rfl (xi_in (n := 7) (by decide) (by decide)) rfl (fun hh3 eh3 => ?_)
        refine xi_iload_n (pc' := 12) (x := (-1)) kc_13_11 rfl rfl ?_
        refine xi_ireturn kc_13_12 mr_13 rfl ?_
        show xw J ov 99 47 (18, [(0, .ref 115), (1, .int a1), (2, .int 9)], [.int (-1)], hh3) _
        refine xi_ireturn kc_47_18 mr_47 rfl ?_
        show xw J ov 100 196 (877, [(4, .int 0), (3, .ref 167), (2, .ref 115), (1, .ref 0), (0, .ref 1000000)], [.int (-1), .int (-1)], hh3) _
        refine xi_cmt (pc' := 1528) kc_196_877 rfl rfl ?_
        refine xi_iinc (pc' := 1531) (x := 0) (v := 6) (lv' := [(4, .int 6), (3, .ref 167), (2, .ref 115), (1, .ref 0), (0, .ref 1000000)]) kc_196_1528 rfl rfl rfl rfl (xm_lt ml_196 rfl) ?_
        refine xi_goto (pc' := 23) kc_196_1531 rfl ?_
        refine xi_iload (pc' := 25) (x := 6) kc_196_23 rfl rfl ?_
        refine xi_aload_n (pc' := 26) (x := 1000000) kc_196_25 rfl rfl ?_
        refine xi_arraylength (pc' := 27) (n := 6) (v := 6) kc_196_26 rfl (xl_lenO (by decide) hov0 rfl) rfl ?_
        refine xi_bipush (pc' := 29) (v := 6) kc_196_27 rfl rfl ?_
        refine xi_isub (pc' := 30) (v := 0) kc_196_29 rfl rfl ?_
        refine xi_cmt (pc' := 1534) kc_196_30 rfl rfl ?_
        refine xi_iconst (pc' := 1535) (v := 1) kc_196_1534 rfl rfl ?_
        refine xi_ireturn kc_196_1535 mr_196 rfl ?_
        refine ⟨rfl, ?_, ?_⟩
        · rw [eh3.2.2.1, eh2.2.2.1, eh1.2.2.1]; exact hn0
        · rw [eh3.2.2.2, eh2.2.2.2, eh1.2.2.2]; exact hz0
      by_cases c13 : a2.toInt = 10
      · have qa2 : a2 = 10 := xc_of (Eq.trans (by omega) (show (10 : Int) = (10 : Int32).toInt by decide))
        subst qa2
        refine xi_aaload (pc' := 13) (b := 49) kc_109_12 rfl (F 3 _ hl_3) rfl (xi_in (n := 12) (by decide) (by decide)) rfl ?_
        refine xi_virtual (mj := 106) (as := []) (st1 := []) (lv0 := [(0, .ref 49)]) kc_109_13 rfl rfl rfl rfl rfl (F 49 _ hl_49) (Nat.le_of_ble_eq_true rfl) (hJ _ _ _ _ (by decide)) (xm_le ml_106 rfl) rfl ?_
        refine xi_aload_n (pc' := 1) (x := 49) kc_106_0 rfl rfl ?_
        refine xi_getfield (pc' := 4) (v := .int (-9)) kc_106_1 rfl rfl rfl (F 49 _ hl_49) rfl ?_
        refine xi_static (mj := 90) (as := [.int (-9)]) (st1 := []) (lv0 := [(0, .int (-9))]) kc_106_4 rfl rfl (Nat.le_of_ble_eq_true rfl) rfl rfl (Nat.le_of_ble_eq_true rfl) (hJ _ _ _ _ (by decide)) (xm_le ml_90 rfl) rfl ?_
        refine xi_iload_n (pc' := 1) (x := (-9)) kc_90_0 rfl rfl ?_
        refine xi_ift (pc' := 14) kc_90_1 rfl rfl ?_
        refine xi_iconst (pc' := 15) (v := 0) kc_90_14 rfl rfl ?_
        refine xi_ireturn kc_90_15 mr_90 rfl ?_
        show xw J ov 97 106 (7, [(0, .ref 49)], [.int 0], h0) _
        refine xi_ireturn kc_106_7 mr_106 rfl ?_
        show xw J ov 98 109 (16, [(0, .ref 1), (1, .int 10)], [.int 0], h0) _
        refine xi_ift (pc' := 23) kc_109_16 rfl rfl ?_
        refine xi_iconst (pc' := 24) (v := 0) kc_109_23 rfl rfl ?_
        refine xi_ireturn kc_109_24 mr_109 rfl ?_
        show xw J ov 99 138 (8, [(0, .ref 0), (1, .int a1), (2, .int 10)], [.int 0], h0) _
        refine xi_iff (pc' := 11) kc_138_8 rfl rfl ?_
        refine xi_aload_n (pc' := 12) (x := 0) kc_138_11 rfl rfl ?_
        refine xi_iconst (pc' := 13) (v := (-1)) kc_138_12 rfl rfl ?_
        refine xi_virtual (mj := 91) (as := [.int (-1)]) (st1 := []) (lv0 := [(0, .ref 0), (1, .int (-1))]) kc_138_13 rfl rfl rfl rfl rfl (F 0 _ hl_0) (Nat.le_of_ble_eq_true rfl) (hJ _ _ _ _ (by decide)) (xm_le ml_91 rfl) rfl ?_
        refine xi_iload_n (pc' := 1) (x := (-1)) kc_91_0 rfl rfl ?_
        refine xi_ineg (pc' := 2) (v := 1) kc_91_1 rfl rfl ?_
        refine xi_istore_n (pc' := 3) (lv' := [(2, .int 1), (0, .ref 0), (1, .int (-1))]) kc_91_2 rfl rfl (xm_lt ml_91 rfl) ?_
        refine xi_iload_n (pc' := 4) (x := 1) kc_91_3 rfl rfl ?_
        refine xi_iff (pc' := 7) kc_91_4 rfl rfl ?_
        refine xi_iload_n (pc' := 8) (x := 1) kc_91_7 rfl rfl ?_
        refine xi_aload_n (pc' := 9) (x := 0) kc_91_8 rfl rfl ?_
        refine xi_getfield (pc' := 12) (v := .ref 94) kc_91_9 rfl rfl rfl (F 0 _ hl_0) rfl ?_
        refine xi_arraylength (pc' := 13) (n := 7) (v := 7) kc_91_12 rfl (xl_lenI (by decide) (by decide) (F 94 _ hl_94) (by simp only [List.length_replicate, List.length_cons, List.length_nil])) rfl ?_
        refine xi_cmf (pc' := 16) kc_91_13 rfl rfl ?_
        refine xi_aload_n (pc' := 17) (x := 0) kc_91_16 rfl rfl ?_
        refine xi_getfield (pc' := 20) (v := .ref 94) kc_91_17 rfl rfl rfl (F 0 _ hl_0) rfl ?_
        refine xi_iload_n (pc' := 21) (x := 1) kc_91_20 rfl rfl ?_
        refine xi_dup2 (pc' := 22) kc_91_21 rfl ⟨rfl, rfl⟩ ?_
        refine xi_iaload (pc' := 23) (v := 0) kc_91_22 rfl (F 94 _ hl_94) (by decide) rfl (xi_in (n := 7) (by decide) (by decide)) rfl ?_
        refine xi_iconst (pc' := 24) (v := 1) kc_91_23 rfl rfl ?_
        refine xi_iadd (pc' := 25) (v := 1) kc_91_24 rfl rfl ?_
        refine xi_iastore (pc' := 26) (x' := [0, 1, 0, 0, 0, 0, 0]) kc_91_25 rfl (F 94 _ hl_94) rfl (xi_in (n := 7) (by decide) (by decide)) rfl (fun hh1 eh1 => ?_)
        refine xi_iload_n (pc' := 27) (x := (-1)) kc_91_26 rfl rfl ?_
        refine xi_ireturn kc_91_27 mr_91 rfl ?_
        show xw J ov 99 138 (16, [(0, .ref 0), (1, .int a1), (2, .int 10)], [.int (-1)], hh1) _
        refine xi_ireturn kc_138_16 mr_138 rfl ?_
        show xw J ov 100 196 (861, [(4, .int 0), (3, .ref 167), (2, .ref 115), (1, .ref 0), (0, .ref 1000000)], [.int (-1)], hh1) _
        refine xi_aload_n (pc' := 862) (x := 115) kc_196_861 rfl rfl ?_
        refine xi_aload_n (pc' := 863) (x := 1000000) kc_196_862 rfl rfl ?_
        refine xi_iload (pc' := 865) (x := 0) kc_196_863 rfl rfl ?_
        refine xi_iconst (pc' := 866) (v := 1) kc_196_865 rfl rfl ?_
        refine xi_iadd (pc' := 867) (v := 1) kc_196_866 rfl rfl ?_
        refine xi_ialoadO (pc' := 868) (v := a1) kc_196_867 rfl (by decide) hov0 (xi_in (n := 6) (by decide) (by decide)) rfl ?_
        refine xi_aload_n (pc' := 869) (x := 1000000) kc_196_868 rfl rfl ?_
        refine xi_iload (pc' := 871) (x := 0) kc_196_869 rfl rfl ?_
        refine xi_iconst (pc' := 872) (v := 2) kc_196_871 rfl rfl ?_
        refine xi_iadd (pc' := 873) (v := 2) kc_196_872 rfl rfl ?_
        refine xi_ialoadO (pc' := 874) (v := 10) kc_196_873 rfl (by decide) hov0 (xi_in (n := 6) (by decide) (by decide)) rfl ?_
        refine xi_virtual (mj := 47) (as := [.int a1, .int 10]) (st1 := [.int (-1)]) (lv0 := [(0, .ref 115), (1, .int a1), (2, .int 10)]) kc_196_874 rfl rfl rfl rfl rfl ((eh1.2.1 115 (by decide)).trans (F 115 _ hl_115)) (Nat.le_of_ble_eq_true rfl) (hJ _ _ _ _ (by decide)) (xm_le ml_47 rfl) rfl ?_
        refine xi_aload_n (pc' := 1) (x := 115) kc_47_0 rfl rfl ?_
        refine xi_iconst (pc' := 2) (v := 0) kc_47_1 rfl rfl ?_
        refine xi_putfield (pc' := 5) (fs' := [.int 0, .int 0, .ref 116, .ref 117, .ref 118, .ref 119, .ref 120, .ref 121, .ref 122, .ref 123, .ref 124, .ref 125, .ref 126, .ref 127, .ref 128, .ref 129, .int 4, .ref 130, .int 0, .ref 131, .ref 132, .ref 133, .ref 134, .int 0, .ref 135, .ref 136, .ref 137, .ref 138, .ref 139, .ref 140, .ref 141, .ref 142, .int 0, .int 0, .int 0, .ref 143, .ref 144, .ref 145, .ref 146, .ref 147, .ref 148, .int 0, .ref 149, .ref 150, .ref 151, .int 0, .ref 152, .ref 153, .ref 154, .ref 155, .ref 156, .ref 157, .ref 158, .ref 159, .int 0, .ref 160, .int 0, .ref 161, .ref 162, .ref 163, .ref 164, .int 0, .ref 165, .ref 166]) kc_47_2 rfl rfl rfl ((eh1.2.1 115 (by decide)).trans (F 115 _ hl_115)) rfl rfl rfl (Nat.le_of_ble_eq_true rfl) rfl (fun hh2 eh2 => ?_)
        refine xi_aload_n (pc' := 6) (x := 115) kc_47_5 rfl rfl ?_
        refine xi_iload_n (pc' := 7) (x := 10) kc_47_6 rfl rfl ?_
        refine xi_virtual (mj := 32) (as := [.int 10]) (st1 := []) (lv0 := [(0, .ref 115), (1, .int 10)]) kc_47_7 rfl rfl rfl rfl rfl eh2.1 (Nat.le_of_ble_eq_true rfl) (hJ _ _ _ _ (by decide)) (xm_le ml_32 rfl) rfl ?_
        refine xi_iload_n (pc' := 1) (x := 10) kc_32_0 rfl rfl ?_
        refine xi_static (mj := 25) (as := [.int 10]) (st1 := []) (lv0 := [(0, .int 10)]) kc_32_1 rfl rfl (Nat.le_of_ble_eq_true rfl) rfl rfl (Nat.le_of_ble_eq_true rfl) (hJ _ _ _ _ (by decide)) (xm_le ml_25 rfl) rfl ?_
        refine xi_iload_n (pc' := 1) (x := 10) kc_25_0 rfl rfl ?_
        refine xi_iconst (pc' := 2) (v := 0) kc_25_1 rfl rfl ?_
        refine xi_bipush (pc' := 4) (v := 11) kc_25_2 rfl rfl ?_
        refine xi_static (mj := 12) (as := [.int 10, .int 0, .int 11]) (st1 := []) (lv0 := [(0, .int 10), (1, .int 0), (2, .int 11)]) kc_25_4 rfl rfl (Nat.le_of_ble_eq_true rfl) rfl rfl (Nat.le_of_ble_eq_true rfl) (hJ _ _ _ _ (by decide)) (xm_le ml_12 rfl) rfl ?_
        refine xi_iload_n (pc' := 1) (x := 10) kc_12_0 rfl rfl ?_
        refine xi_iload_n (pc' := 2) (x := 0) kc_12_1 rfl rfl ?_
        refine xi_cmf (pc' := 5) kc_12_2 rfl rfl ?_
        refine xi_iload_n (pc' := 6) (x := 10) kc_12_5 rfl rfl ?_
        refine xi_iload_n (pc' := 7) (x := 11) kc_12_6 rfl rfl ?_
        refine xi_cmf (pc' := 10) kc_12_7 rfl rfl ?_
        refine xi_iconst (pc' := 11) (v := 1) kc_12_10 rfl rfl ?_
        refine xi_goto (pc' := 15) kc_12_11 rfl ?_
        refine xi_ireturn kc_12_15 mr_12 rfl ?_
        show xw J ov 97 25 (7, [(0, .int 10)], [.int 1], hh2) _
        refine xi_ireturn kc_25_7 mr_25 rfl ?_
        show xw J ov 98 32 (4, [(0, .ref 115), (1, .int 10)], [.int 1], hh2) _
        refine xi_iff (pc' := 7) kc_32_4 rfl rfl ?_
        refine xi_aload_n (pc' := 8) (x := 115) kc_32_7 rfl rfl ?_
        refine xi_getfield (pc' := 11) (v := .ref 125) kc_32_8 rfl rfl rfl eh2.1 rfl ?_
        refine xi_iload_n (pc' := 12) (x := 10) kc_32_11 rfl rfl ?_
        refine xi_iaload (pc' := 13) (v := (-9)) kc_32_12 rfl ((eh2.2.1 125 (by decide)).trans ((eh1.2.1 125 (by decide)).trans (F 125 _ hl_125))) (by decide) rfl (xi_in (n := 12) (by decide) (by decide)) rfl ?_
        refine xi_ift (pc' := 20) kc_32_13 rfl rfl ?_
        refine xi_iconst (pc' := 21) (v := 0) kc_32_20 rfl rfl ?_
        refine xi_ireturn kc_32_21 mr_32 rfl ?_
        show xw J ov 99 47 (10, [(0, .ref 115), (1, .int a1), (2, .int 10)], [.int 0], hh2) _
        refine xi_iff (pc' := 13) kc_47_10 rfl rfl ?_
        refine xi_aload_n (pc' := 14) (x := 115) kc_47_13 rfl rfl ?_
        refine xi_iconst (pc' := 15) (v := (-1)) kc_47_14 rfl rfl ?_
        refine xi_virtual (mj := 13) (as := [.int (-1)]) (st1 := []) (lv0 := [(0, .ref 115), (1, .int (-1))]) kc_47_15 rfl rfl rfl rfl rfl eh2.1 (Nat.le_of_ble_eq_true rfl) (hJ _ _ _ _ (by decide)) (xm_le ml_13 rfl) rfl ?_
        refine xi_aload_n (pc' := 1) (x := 115) kc_13_0 rfl rfl ?_
        refine xi_getfield (pc' := 4) (v := .ref 140) kc_13_1 rfl rfl rfl eh2.1 rfl ?_
        refine xi_iload_n (pc' := 5) (x := (-1)) kc_13_4 rfl rfl ?_
        refine xi_ineg (pc' := 6) (v := 1) kc_13_5 rfl rfl ?_
        refine xi_dup2 (pc' := 7) kc_13_6 rfl ⟨rfl, rfl⟩ ?_
        refine xi_iaload (pc' := 8) (v := 0) kc_13_7 rfl ((eh2.2.1 140 (by decide)).trans ((eh1.2.1 140 (by decide)).trans (F 140 _ hl_140))) (by decide) rfl (xi_in (n := 7) (by decide) (by decide)) rfl ?_
        refine xi_iconst (pc' := 9) (v := 1) kc_13_8 rfl rfl ?_
        refine xi_iadd (pc' := 10) (v := 1) kc_13_9 rfl rfl ?_
        refine xi_iastore (pc' := 11) (x' := [0, 1, 0, 0, 0, 0, 0]) kc_13_10 rfl ((eh2.2.1 140 (by decide)).trans ((eh1.2.1 140 (by decide)).trans (F 140 _ hl_140))) rfl (xi_in (n := 7) (by decide) (by decide)) rfl (fun hh3 eh3 => ?_)
        refine xi_iload_n (pc' := 12) (x := (-1)) kc_13_11 rfl rfl ?_
        refine xi_ireturn kc_13_12 mr_13 rfl ?_
        show xw J ov 99 47 (18, [(0, .ref 115), (1, .int a1), (2, .int 10)], [.int (-1)], hh3) _
        refine xi_ireturn kc_47_18 mr_47 rfl ?_
        show xw J ov 100 196 (877, [(4, .int 0), (3, .ref 167), (2, .ref 115), (1, .ref 0), (0, .ref 1000000)], [.int (-1), .int (-1)], hh3) _
        refine xi_cmt (pc' := 1528) kc_196_877 rfl rfl ?_
        refine xi_iinc (pc' := 1531) (x := 0) (v := 6) (lv' := [(4, .int 6), (3, .ref 167), (2, .ref 115), (1, .ref 0), (0, .ref 1000000)]) kc_196_1528 rfl rfl rfl rfl (xm_lt ml_196 rfl) ?_
        refine xi_goto (pc' := 23) kc_196_1531 rfl ?_
        refine xi_iload (pc' := 25) (x := 6) kc_196_23 rfl rfl ?_
        refine xi_aload_n (pc' := 26) (x := 1000000) kc_196_25 rfl rfl ?_
        refine xi_arraylength (pc' := 27) (n := 6) (v := 6) kc_196_26 rfl (xl_lenO (by decide) hov0 rfl) rfl ?_
        refine xi_bipush (pc' := 29) (v := 6) kc_196_27 rfl rfl ?_
        refine xi_isub (pc' := 30) (v := 0) kc_196_29 rfl rfl ?_
        refine xi_cmt (pc' := 1534) kc_196_30 rfl rfl ?_
        refine xi_iconst (pc' := 1535) (v := 1) kc_196_1534 rfl rfl ?_
        refine xi_ireturn kc_196_1535 mr_196 rfl ?_
        refine ⟨rfl, ?_, ?_⟩
        · rw [eh3.2.2.1, eh2.2.2.1, eh1.2.2.1]; exact hn0
        · rw [eh3.2.2.2, eh2.2.2.2, eh1.2.2.2]; exact hz0
      have qa2 : a2 = 11 := xc_of (Eq.trans (by omega) (show (11 : Int) = (11 : Int32).toInt by decide))
      subst qa2
      refine xi_aaload (pc' := 13) (b := 51) kc_109_12 rfl (F 3 _ hl_3) rfl (xi_in (n := 12) (by decide) (by decide)) rfl ?_
      refine xi_virtual (mj := 106) (as := []) (st1 := []) (lv0 := [(0, .ref 51)]) kc_109_13 rfl rfl rfl rfl rfl (F 51 _ hl_51) (Nat.le_of_ble_eq_true rfl) (hJ _ _ _ _ (by decide)) (xm_le ml_106 rfl) rfl ?_
      refine xi_aload_n (pc' := 1) (x := 51) kc_106_0 rfl rfl ?_
      refine xi_getfield (pc' := 4) (v := .int (-9)) kc_106_1 rfl rfl rfl (F 51 _ hl_51) rfl ?_
      refine xi_static (mj := 90) (as := [.int (-9)]) (st1 := []) (lv0 := [(0, .int (-9))]) kc_106_4 rfl rfl (Nat.le_of_ble_eq_true rfl) rfl rfl (Nat.le_of_ble_eq_true rfl) (hJ _ _ _ _ (by decide)) (xm_le ml_90 rfl) rfl ?_
      refine xi_iload_n (pc' := 1) (x := (-9)) kc_90_0 rfl rfl ?_
      refine xi_ift (pc' := 14) kc_90_1 rfl rfl ?_
      refine xi_iconst (pc' := 15) (v := 0) kc_90_14 rfl rfl ?_
      refine xi_ireturn kc_90_15 mr_90 rfl ?_
      show xw J ov 97 106 (7, [(0, .ref 51)], [.int 0], h0) _
      refine xi_ireturn kc_106_7 mr_106 rfl ?_
      show xw J ov 98 109 (16, [(0, .ref 1), (1, .int 11)], [.int 0], h0) _
      refine xi_ift (pc' := 23) kc_109_16 rfl rfl ?_
      refine xi_iconst (pc' := 24) (v := 0) kc_109_23 rfl rfl ?_
      refine xi_ireturn kc_109_24 mr_109 rfl ?_
      show xw J ov 99 138 (8, [(0, .ref 0), (1, .int a1), (2, .int 11)], [.int 0], h0) _
      refine xi_iff (pc' := 11) kc_138_8 rfl rfl ?_
      refine xi_aload_n (pc' := 12) (x := 0) kc_138_11 rfl rfl ?_
      refine xi_iconst (pc' := 13) (v := (-1)) kc_138_12 rfl rfl ?_
      refine xi_virtual (mj := 91) (as := [.int (-1)]) (st1 := []) (lv0 := [(0, .ref 0), (1, .int (-1))]) kc_138_13 rfl rfl rfl rfl rfl (F 0 _ hl_0) (Nat.le_of_ble_eq_true rfl) (hJ _ _ _ _ (by decide)) (xm_le ml_91 rfl) rfl ?_
      refine xi_iload_n (pc' := 1) (x := (-1)) kc_91_0 rfl rfl ?_
      refine xi_ineg (pc' := 2) (v := 1) kc_91_1 rfl rfl ?_
      refine xi_istore_n (pc' := 3) (lv' := [(2, .int 1), (0, .ref 0), (1, .int (-1))]) kc_91_2 rfl rfl (xm_lt ml_91 rfl) ?_
      refine xi_iload_n (pc' := 4) (x := 1) kc_91_3 rfl rfl ?_
      refine xi_iff (pc' := 7) kc_91_4 rfl rfl ?_
      refine xi_iload_n (pc' := 8) (x := 1) kc_91_7 rfl rfl ?_
      refine xi_aload_n (pc' := 9) (x := 0) kc_91_8 rfl rfl ?_
      refine xi_getfield (pc' := 12) (v := .ref 94) kc_91_9 rfl rfl rfl (F 0 _ hl_0) rfl ?_
      refine xi_arraylength (pc' := 13) (n := 7) (v := 7) kc_91_12 rfl (xl_lenI (by decide) (by decide) (F 94 _ hl_94) (by simp only [List.length_replicate, List.length_cons, List.length_nil])) rfl ?_
      refine xi_cmf (pc' := 16) kc_91_13 rfl rfl ?_
      refine xi_aload_n (pc' := 17) (x := 0) kc_91_16 rfl rfl ?_
      refine xi_getfield (pc' := 20) (v := .ref 94) kc_91_17 rfl rfl rfl (F 0 _ hl_0) rfl ?_
      refine xi_iload_n (pc' := 21) (x := 1) kc_91_20 rfl rfl ?_
      refine xi_dup2 (pc' := 22) kc_91_21 rfl ⟨rfl, rfl⟩ ?_
      refine xi_iaload (pc' := 23) (v := 0) kc_91_22 rfl (F 94 _ hl_94) (by decide) rfl (xi_in (n := 7) (by decide) (by decide)) rfl ?_
      refine xi_iconst (pc' := 24) (v := 1) kc_91_23 rfl rfl ?_
      refine xi_iadd (pc' := 25) (v := 1) kc_91_24 rfl rfl ?_
      refine xi_iastore (pc' := 26) (x' := [0, 1, 0, 0, 0, 0, 0]) kc_91_25 rfl (F 94 _ hl_94) rfl (xi_in (n := 7) (by decide) (by decide)) rfl (fun hh1 eh1 => ?_)
      refine xi_iload_n (pc' := 27) (x := (-1)) kc_91_26 rfl rfl ?_
      refine xi_ireturn kc_91_27 mr_91 rfl ?_
      show xw J ov 99 138 (16, [(0, .ref 0), (1, .int a1), (2, .int 11)], [.int (-1)], hh1) _
      refine xi_ireturn kc_138_16 mr_138 rfl ?_
      show xw J ov 100 196 (861, [(4, .int 0), (3, .ref 167), (2, .ref 115), (1, .ref 0), (0, .ref 1000000)], [.int (-1)], hh1) _
      refine xi_aload_n (pc' := 862) (x := 115) kc_196_861 rfl rfl ?_
      refine xi_aload_n (pc' := 863) (x := 1000000) kc_196_862 rfl rfl ?_
      refine xi_iload (pc' := 865) (x := 0) kc_196_863 rfl rfl ?_
      refine xi_iconst (pc' := 866) (v := 1) kc_196_865 rfl rfl ?_
      refine xi_iadd (pc' := 867) (v := 1) kc_196_866 rfl rfl ?_
      refine xi_ialoadO (pc' := 868) (v := a1) kc_196_867 rfl (by decide) hov0 (xi_in (n := 6) (by decide) (by decide)) rfl ?_
      refine xi_aload_n (pc' := 869) (x := 1000000) kc_196_868 rfl rfl ?_
      refine xi_iload (pc' := 871) (x := 0) kc_196_869 rfl rfl ?_
      refine xi_iconst (pc' := 872) (v := 2) kc_196_871 rfl rfl ?_
      refine xi_iadd (pc' := 873) (v := 2) kc_196_872 rfl rfl ?_
      refine xi_ialoadO (pc' := 874) (v := 11) kc_196_873 rfl (by decide) hov0 (xi_in (n := 6) (by decide) (by decide)) rfl ?_
      refine xi_virtual (mj := 47) (as := [.int a1, .int 11]) (st1 := [.int (-1)]) (lv0 := [(0, .ref 115), (1, .int a1), (2, .int 11)]) kc_196_874 rfl rfl rfl rfl rfl ((eh1.2.1 115 (by decide)).trans (F 115 _ hl_115)) (Nat.le_of_ble_eq_true rfl) (hJ _ _ _ _ (by decide)) (xm_le ml_47 rfl) rfl ?_
      refine xi_aload_n (pc' := 1) (x := 115) kc_47_0 rfl rfl ?_
      refine xi_iconst (pc' := 2) (v := 0) kc_47_1 rfl rfl ?_
      refine xi_putfield (pc' := 5) (fs' := [.int 0, .int 0, .ref 116, .ref 117, .ref 118, .ref 119, .ref 120, .ref 121, .ref 122, .ref 123, .ref 124, .ref 125, .ref 126, .ref 127, .ref 128, .ref 129, .int 4, .ref 130, .int 0, .ref 131, .ref 132, .ref 133, .ref 134, .int 0, .ref 135, .ref 136, .ref 137, .ref 138, .ref 139, .ref 140, .ref 141, .ref 142, .int 0, .int 0, .int 0, .ref 143, .ref 144, .ref 145, .ref 146, .ref 147, .ref 148, .int 0, .ref 149, .ref 150, .ref 151, .int 0, .ref 152, .ref 153, .ref 154, .ref 155, .ref 156, .ref 157, .ref 158, .ref 159, .int 0, .ref 160, .int 0, .ref 161, .ref 162, .ref 163, .ref 164, .int 0, .ref 165, .ref 166]) kc_47_2 rfl rfl rfl ((eh1.2.1 115 (by decide)).trans (F 115 _ hl_115)) rfl rfl rfl (Nat.le_of_ble_eq_true rfl) rfl (fun hh2 eh2 => ?_)
      refine xi_aload_n (pc' := 6) (x := 115) kc_47_5 rfl rfl ?_
      refine xi_iload_n (pc' := 7) (x := 11) kc_47_6 rfl rfl ?_
      refine xi_virtual (mj := 32) (as := [.int 11]) (st1 := []) (lv0 := [(0, .ref 115), (1, .int 11)]) kc_47_7 rfl rfl rfl rfl rfl eh2.1 (Nat.le_of_ble_eq_true rfl) (hJ _ _ _ _ (by decide)) (xm_le ml_32 rfl) rfl ?_
      refine xi_iload_n (pc' := 1) (x := 11) kc_32_0 rfl rfl ?_
      refine xi_static (mj := 25) (as := [.int 11]) (st1 := []) (lv0 := [(0, .int 11)]) kc_32_1 rfl rfl (Nat.le_of_ble_eq_true rfl) rfl rfl (Nat.le_of_ble_eq_true rfl) (hJ _ _ _ _ (by decide)) (xm_le ml_25 rfl) rfl ?_
      refine xi_iload_n (pc' := 1) (x := 11) kc_25_0 rfl rfl ?_
      refine xi_iconst (pc' := 2) (v := 0) kc_25_1 rfl rfl ?_
      refine xi_bipush (pc' := 4) (v := 11) kc_25_2 rfl rfl ?_
      refine xi_static (mj := 12) (as := [.int 11, .int 0, .int 11]) (st1 := []) (lv0 := [(0, .int 11), (1, .int 0), (2, .int 11)]) kc_25_4 rfl rfl (Nat.le_of_ble_eq_true rfl) rfl rfl (Nat.le_of_ble_eq_true rfl) (hJ _ _ _ _ (by decide)) (xm_le ml_12 rfl) rfl ?_
      refine xi_iload_n (pc' := 1) (x := 11) kc_12_0 rfl rfl ?_
      refine xi_iload_n (pc' := 2) (x := 0) kc_12_1 rfl rfl ?_
      refine xi_cmf (pc' := 5) kc_12_2 rfl rfl ?_
      refine xi_iload_n (pc' := 6) (x := 11) kc_12_5 rfl rfl ?_
      refine xi_iload_n (pc' := 7) (x := 11) kc_12_6 rfl rfl ?_
      refine xi_cmf (pc' := 10) kc_12_7 rfl rfl ?_
      refine xi_iconst (pc' := 11) (v := 1) kc_12_10 rfl rfl ?_
      refine xi_goto (pc' := 15) kc_12_11 rfl ?_
      refine xi_ireturn kc_12_15 mr_12 rfl ?_
      show xw J ov 97 25 (7, [(0, .int 11)], [.int 1], hh2) _
      refine xi_ireturn kc_25_7 mr_25 rfl ?_
      show xw J ov 98 32 (4, [(0, .ref 115), (1, .int 11)], [.int 1], hh2) _
      refine xi_iff (pc' := 7) kc_32_4 rfl rfl ?_
      refine xi_aload_n (pc' := 8) (x := 115) kc_32_7 rfl rfl ?_
      refine xi_getfield (pc' := 11) (v := .ref 125) kc_32_8 rfl rfl rfl eh2.1 rfl ?_
      refine xi_iload_n (pc' := 12) (x := 11) kc_32_11 rfl rfl ?_
      refine xi_iaload (pc' := 13) (v := (-9)) kc_32_12 rfl ((eh2.2.1 125 (by decide)).trans ((eh1.2.1 125 (by decide)).trans (F 125 _ hl_125))) (by decide) rfl (xi_in (n := 12) (by decide) (by decide)) rfl ?_
      refine xi_ift (pc' := 20) kc_32_13 rfl rfl ?_
      refine xi_iconst (pc' := 21) (v := 0) kc_32_20 rfl rfl ?_
      refine xi_ireturn kc_32_21 mr_32 rfl ?_
      show xw J ov 99 47 (10, [(0, .ref 115), (1, .int a1), (2, .int 11)], [.int 0], hh2) _
      refine xi_iff (pc' := 13) kc_47_10 rfl rfl ?_
      refine xi_aload_n (pc' := 14) (x := 115) kc_47_13 rfl rfl ?_
      refine xi_iconst (pc' := 15) (v := (-1)) kc_47_14 rfl rfl ?_
      refine xi_virtual (mj := 13) (as := [.int (-1)]) (st1 := []) (lv0 := [(0, .ref 115), (1, .int (-1))]) kc_47_15 rfl rfl rfl rfl rfl eh2.1 (Nat.le_of_ble_eq_true rfl) (hJ _ _ _ _ (by decide)) (xm_le ml_13 rfl) rfl ?_
      refine xi_aload_n (pc' := 1) (x := 115) kc_13_0 rfl rfl ?_
      refine xi_getfield (pc' := 4) (v := .ref 140) kc_13_1 rfl rfl rfl eh2.1 rfl ?_
      refine xi_iload_n (pc' := 5) (x := (-1)) kc_13_4 rfl rfl ?_
      refine xi_ineg (pc' := 6) (v := 1) kc_13_5 rfl rfl ?_
      refine xi_dup2 (pc' := 7) kc_13_6 rfl ⟨rfl, rfl⟩ ?_
      refine xi_iaload (pc' := 8) (v := 0) kc_13_7 rfl ((eh2.2.1 140 (by decide)).trans ((eh1.2.1 140 (by decide)).trans (F 140 _ hl_140))) (by decide) rfl (xi_in (n := 7) (by decide) (by decide)) rfl ?_
      refine xi_iconst (pc' := 9) (v := 1) kc_13_8 rfl rfl ?_
      refine xi_iadd (pc' := 10) (v := 1) kc_13_9 rfl rfl ?_
      refine xi_iastore (pc' := 11) (x' := [0, 1, 0, 0, 0, 0, 0]) kc_13_10 rfl ((eh2.2.1 140 (by decide)).trans ((eh1.2.1 140 (by decide)).trans (F 140 _ hl_140))) rfl (xi_in (n := 7) (by decide) (by decide)) rfl (fun hh3 eh3 => ?_)
      refine xi_iload_n (pc' := 12) (x := (-1)) kc_13_11 rfl rfl ?_
      refine xi_ireturn kc_13_12 mr_13 rfl ?_
      show xw J ov 99 47 (18, [(0, .ref 115), (1, .int a1), (2, .int 11)], [.int (-1)], hh3) _
      refine xi_ireturn kc_47_18 mr_47 rfl ?_
      show xw J ov 100 196 (877, [(4, .int 0), (3, .ref 167), (2, .ref 115), (1, .ref 0), (0, .ref 1000000)], [.int (-1), .int (-1)], hh3) _
      refine xi_cmt (pc' := 1528) kc_196_877 rfl rfl ?_
      refine xi_iinc (pc' := 1531) (x := 0) (v := 6) (lv' := [(4, .int 6), (3, .ref 167), (2, .ref 115), (1, .ref 0), (0, .ref 1000000)]) kc_196_1528 rfl rfl rfl rfl (xm_lt ml_196 rfl) ?_
      refine xi_goto (pc' := 23) kc_196_1531 rfl ?_
      refine xi_iload (pc' := 25) (x := 6) kc_196_23 rfl rfl ?_
      refine xi_aload_n (pc' := 26) (x := 1000000) kc_196_25 rfl rfl ?_
      refine xi_arraylength (pc' := 27) (n := 6) (v := 6) kc_196_26 rfl (xl_lenO (by decide) hov0 rfl) rfl ?_
      refine xi_bipush (pc' := 29) (v := 6) kc_196_27 rfl rfl ?_
      refine xi_isub (pc' := 30) (v := 0) kc_196_29 rfl rfl ?_
      refine xi_cmt (pc' := 1534) kc_196_30 rfl rfl ?_
      refine xi_iconst (pc' := 1535) (v := 1) kc_196_1534 rfl rfl ?_
      refine xi_ireturn kc_196_1535 mr_196 rfl ?_
      refine ⟨rfl, ?_, ?_⟩
      · rw [eh3.2.2.1, eh2.2.2.1, eh1.2.2.1]; exact hn0
      · rw [eh3.2.2.2, eh2.2.2.2, eh1.2.2.2]; exact hz0
