set_option maxHeartbeats 4000000 in
theorem mt_32_0 {J : xe_J} {ov : List (List Int32)} (hJ : ∀ d mj as h, mj ≠ xe_loff → J d mj as h = none) (hov1 : ov[1]? = some [10, 0, 0, 0, 0, 0]) (hov2 : ov[2]? = some [99, 30, 50, 50, 1, 99999]) {d : Nat} {Q : Option Value → xe_H → Prop} {h : xe_H} {x1 : Int32} {x2 : Int32} {x3 : Int32} {x4 : Int32} (T : xt h) (kk : (∀ (r : Int32) (h' : xe_H), ((-6) ≤ r.toInt ∧ r.toInt ≤ 9) → xk [(0, 9), (115, 1), (83, 0), (81, 0), (156, 0), (82, 0), (157, 0), (158, 0)] h h' → Q (some (.int r)) h')) : xw J ov (d + 3) 32 (0, [(0, .ref 115), (1, .int x1), (2, .int x2), (3, .int x3), (4, .int x4)], [], h) Q := by
  have K : xk [(0, 9), (115, 1), (83, 0), (81, 0), (156, 0), (82, 0), (157, 0), (158, 0)] h h := xk_re T
  have rx1 := xc_rng x1
  have rx2 := xc_rng x2
  have rx3 := xc_rng x3
  have rx4 := xc_rng x4
  refine xi_aload_n (pc' := 1) (x := 115) kc_32_0 rfl rfl ?_
  refine xi_iconst (pc' := 2) (v := 0) kc_32_1 rfl rfl ?_
  refine xp_115 K.1 (fun u1 u2 u3 u4 u5 u6 u7 u8 u9 u10 u11 u12 u13 bu1 bu2 bu3 bu4 bu5 bu6 bu7 bu8 bu9 bu10 bu11 bu12 bu13 A14 => ?_)
  refine xi_putfield (pc' := 5) (fs' := [.int 0, .int u2, .ref 116, .ref 117, .ref 118, .ref 119, .ref 120, .ref 121, .ref 122, .ref 123, .ref 124, .ref 125, .ref 126, .ref 127, .ref 128, .ref 129, .int u3, .ref 130, .int u4, .ref 131, .ref 132, .ref 133, .ref 134, .int u5, .ref 135, .ref 136, .ref 137, .ref 138, .ref 139, .ref 140, .ref 141, .ref 142, .int u6, .int u7, .int u8, .ref 143, .ref 144, .ref 145, .ref 146, .ref 147, .ref 148, .int u9, .ref 149, .ref 150, .ref 151, .int u10, .ref 152, .ref 153, .ref 154, .ref 155, .ref 156, .ref 157, .ref 158, .ref 159, .int u11, .ref 160, .int u12, .ref 161, .ref 162, .ref 163, .ref 164, .int u13, .ref 165, .ref 166]) kc_32_2 rfl rfl rfl A14 rfl rfl rfl (Nat.le_of_ble_eq_true rfl) rfl (fun hh16 eh15 => ?_)
  have K17 := xk_pf (k := 0) (v := 0) K (xk_wf rfl) xD_115 A14 rfl (by first | omega | decide) (by first | omega | decide) eh15 rfl
  refine xi_iload_n (pc' := 6) (x := x1) kc_32_5 rfl rfl ?_
  refine xi_iconst (pc' := 7) (v := 0) kc_32_6 rfl rfl ?_
  refine xi_iconst (pc' := 8) (v := 3) kc_32_7 rfl rfl ?_
  refine xi_static (mj := 11) (as := [.int x1, .int 0, .int 3]) (st1 := []) (lv0 := [(0, .int x1), (1, .int 0), (2, .int 3)]) kc_32_8 rfl rfl (Nat.le_of_ble_eq_true rfl) rfl rfl (Nat.le_of_ble_eq_true rfl) (hJ _ _ _ _ (by decide)) (xm_le ml_11 rfl) rfl ?_
  refine xi_iload_n (pc' := 1) (x := x1) kc_11_0 rfl rfl ?_
  refine xi_iload_n (pc' := 2) (x := 0) kc_11_1 rfl rfl ?_
  by_cases c18 : x1.toInt < 0
  · refine xi_cmt (pc' := 14) kc_11_2 rfl (xc_lt_t (X := x1.toInt) (Y := 0) rfl (by decide) (by omega)) ?_
    refine xi_iconst (pc' := 15) (v := 0) kc_11_14 rfl rfl ?_
    refine xi_ireturn kc_11_15 mr_11 rfl ?_
    show xw J ov (d + 3) 32 (11, [(0, .ref 115), (1, .int x1), (2, .int x2), (3, .int x3), (4, .int x4)], [.int 0], hh16) _
    refine xi_iff (pc' := 14) kc_32_11 rfl rfl ?_
    refine xi_aload_n (pc' := 15) (x := 115) kc_32_14 rfl rfl ?_
    refine xi_bipush (pc' := 17) (v := (-2)) kc_32_15 rfl rfl ?_
    refine xi_virtual (mj := 12) (as := [.int (-2)]) (st1 := []) (lv0 := [(0, .ref 115), (1, .int (-2))]) kc_32_17 rfl rfl rfl rfl rfl eh15.1 (Nat.le_of_ble_eq_true rfl) (hJ _ _ _ _ (by decide)) (xm_le ml_12 rfl) rfl ?_
    refine xi_aload_n (pc' := 1) (x := 115) kc_12_0 rfl rfl ?_
    refine xi_getfield (pc' := 4) (v := .ref 140) kc_12_1 rfl rfl rfl eh15.1 rfl ?_
    refine xi_iload_n (pc' := 5) (x := (-2)) kc_12_4 rfl rfl ?_
    refine xi_ineg (pc' := 6) (v := 2) kc_12_5 rfl rfl ?_
    refine xi_dup2 (pc' := 7) kc_12_6 rfl ⟨rfl, rfl⟩ ?_
    refine xcps4 (xk_arr K17.1 xD_140) (fun y19 A19 hy19 ry19 => ?_)
    refine xcps4 (xj_get hy19 ry19 (i := 2) (by decide) (by decide)) (fun v20 ev20 bv20 dv20 => ?_)
    refine xi_iaload (pc' := 8) (v := v20) kc_12_7 rfl A19 (by decide) rfl (xi_in (by decide) (by rw [hy19]; decide)) ev20 ?_
    refine xi_iconst (pc' := 9) (v := 1) kc_12_8 rfl rfl ?_
    refine xcps2 (α := Int32) ((v20 : Int32) + 1) (fun v21 ev21 => ?_)
    have rv21 := xc_rng v21
    refine xi_iadd (pc' := 10) (v := v21) kc_12_9 rfl ev21 ?_
    refine xcps4 (xj_set (v := v21) hy19 ry19 2 (by first | omega | decide) (by first | omega | decide)) (fun y22 s22 hy22 ry22 => ?_)
    refine xi_iastore (pc' := 11) (x' := y22) kc_12_10 rfl A19 rfl (xi_in (by decide) (by rw [hy19]; decide)) s22 (fun hh22 eh22 => ?_)
    have K23 := xk_pa K17 (xk_wa rfl) xD_140 hy22 ry22 eh22
    refine xi_iload_n (pc' := 12) (x := (-2)) kc_12_11 rfl rfl ?_
    refine xi_ireturn kc_12_12 mr_12 rfl ?_
    show xw J ov (d + 3) 32 (20, [(0, .ref 115), (1, .int x1), (2, .int x2), (3, .int x3), (4, .int x4)], [.int (-2)], hh22) _
    refine xi_ireturn kc_32_20 mr_32 rfl ?_
    have zcm2 : ((-2) : Int32).toInt = (-2) := by decide
    exact kk (-2) hh22 (by omega) K23
  · refine xi_cmf (pc' := 5) kc_11_2 rfl (xc_lt_f (X := x1.toInt) (Y := 0) rfl (by decide) (by omega)) ?_
    refine xi_iload_n (pc' := 6) (x := x1) kc_11_5 rfl rfl ?_
    refine xi_iload_n (pc' := 7) (x := 3) kc_11_6 rfl rfl ?_
    by_cases c24 : 3 < x1.toInt
    · refine xi_cmt (pc' := 14) kc_11_7 rfl (xc_gt_t (X := x1.toInt) (Y := 3) rfl (by decide) (by omega)) ?_
      refine xi_iconst (pc' := 15) (v := 0) kc_11_14 rfl rfl ?_
      refine xi_ireturn kc_11_15 mr_11 rfl ?_
      show xw J ov (d + 3) 32 (11, [(0, .ref 115), (1, .int x1), (2, .int x2), (3, .int x3), (4, .int x4)], [.int 0], hh16) _
      refine xi_iff (pc' := 14) kc_32_11 rfl rfl ?_
      refine xi_aload_n (pc' := 15) (x := 115) kc_32_14 rfl rfl ?_
      refine xi_bipush (pc' := 17) (v := (-2)) kc_32_15 rfl rfl ?_
      refine xi_virtual (mj := 12) (as := [.int (-2)]) (st1 := []) (lv0 := [(0, .ref 115), (1, .int (-2))]) kc_32_17 rfl rfl rfl rfl rfl eh15.1 (Nat.le_of_ble_eq_true rfl) (hJ _ _ _ _ (by decide)) (xm_le ml_12 rfl) rfl ?_
      refine xi_aload_n (pc' := 1) (x := 115) kc_12_0 rfl rfl ?_
      refine xi_getfield (pc' := 4) (v := .ref 140) kc_12_1 rfl rfl rfl eh15.1 rfl ?_
      refine xi_iload_n (pc' := 5) (x := (-2)) kc_12_4 rfl rfl ?_
      refine xi_ineg (pc' := 6) (v := 2) kc_12_5 rfl rfl ?_
      refine xi_dup2 (pc' := 7) kc_12_6 rfl ⟨rfl, rfl⟩ ?_
      refine xcps4 (xk_arr K17.1 xD_140) (fun y25 A25 hy25 ry25 => ?_)
      refine xcps4 (xj_get hy25 ry25 (i := 2) (by decide) (by decide)) (fun v26 ev26 bv26 dv26 => ?_)
      refine xi_iaload (pc' := 8) (v := v26) kc_12_7 rfl A25 (by decide) rfl (xi_in (by decide) (by rw [hy25]; decide)) ev26 ?_
      refine xi_iconst (pc' := 9) (v := 1) kc_12_8 rfl rfl ?_
      refine xcps2 (α := Int32) ((v26 : Int32) + 1) (fun v27 ev27 => ?_)
      have rv27 := xc_rng v27
      refine xi_iadd (pc' := 10) (v := v27) kc_12_9 rfl ev27 ?_
      refine xcps4 (xj_set (v := v27) hy25 ry25 2 (by first | omega | decide) (by first | omega | decide)) (fun y28 s28 hy28 ry28 => ?_)
      refine xi_iastore (pc' := 11) (x' := y28) kc_12_10 rfl A25 rfl (xi_in (by decide) (by rw [hy25]; decide)) s28 (fun hh28 eh28 => ?_)
      have K29 := xk_pa K17 (xk_wa rfl) xD_140 hy28 ry28 eh28
      refine xi_iload_n (pc' := 12) (x := (-2)) kc_12_11 rfl rfl ?_
      refine xi_ireturn kc_12_12 mr_12 rfl ?_
      show xw J ov (d + 3) 32 (20, [(0, .ref 115), (1, .int x1), (2, .int x2), (3, .int x3), (4, .int x4)], [.int (-2)], hh28) _
      refine xi_ireturn kc_32_20 mr_32 rfl ?_
      have zcm2 : ((-2) : Int32).toInt = (-2) := by decide
      exact kk (-2) hh28 (by omega) K29
    · refine xi_cmf (pc' := 10) kc_11_7 rfl (xc_gt_f (X := x1.toInt) (Y := 3) rfl (by decide) (by omega)) ?_
      refine xi_iconst (pc' := 11) (v := 1) kc_11_10 rfl rfl ?_
      refine xi_goto (pc' := 15) kc_11_11 rfl ?_
      refine xi_ireturn kc_11_15 mr_11 rfl ?_
      show xw J ov (d + 3) 32 (11, [(0, .ref 115), (1, .int x1), (2, .int x2), (3, .int x3), (4, .int x4)], [.int 1], hh16) _
      refine xi_ift (pc' := 21) kc_32_11 rfl rfl ?_
      refine xi_iload_n (pc' := 22) (x := x1) kc_32_21 rfl rfl ?_
      refine xi_iconst (pc' := 23) (v := 3) kc_32_22 rfl rfl ?_
      by_cases c30 : x1.toInt = 3
      · refine xi_cmf (pc' := 26) kc_32_23 rfl (xc_ne_f (X := x1.toInt) (Y := 3) rfl (by decide) (by omega)) ?_
        refine xi_iload_n (pc' := 27) (x := x2) kc_32_26 rfl rfl ?_
        refine xi_static (mj := 10) (as := [.int x2]) (st1 := []) (lv0 := [(0, .int x2)]) kc_32_27 rfl rfl (Nat.le_of_ble_eq_true rfl) rfl rfl (Nat.le_of_ble_eq_true rfl) (hJ _ _ _ _ (by decide)) (xm_le ml_10 rfl) rfl ?_
        refine xi_iload_n (pc' := 1) (x := x2) kc_10_0 rfl rfl ?_
        refine xi_iconst (pc' := 2) (v := 0) kc_10_1 rfl rfl ?_
        refine xi_iconst (pc' := 3) (v := 5) kc_10_2 rfl rfl ?_
        refine xi_static (mj := 11) (as := [.int x2, .int 0, .int 5]) (st1 := []) (lv0 := [(0, .int x2), (1, .int 0), (2, .int 5)]) kc_10_3 rfl rfl (Nat.le_of_ble_eq_true rfl) rfl rfl (Nat.le_of_ble_eq_true rfl) (hJ _ _ _ _ (by decide)) (xm_le ml_11 rfl) rfl ?_
        refine xi_iload_n (pc' := 1) (x := x2) kc_11_0 rfl rfl ?_
        refine xi_iload_n (pc' := 2) (x := 0) kc_11_1 rfl rfl ?_
        by_cases c31 : x2.toInt < 0
        · refine xi_cmt (pc' := 14) kc_11_2 rfl (xc_lt_t (X := x2.toInt) (Y := 0) rfl (by decide) (by omega)) ?_
          refine xi_iconst (pc' := 15) (v := 0) kc_11_14 rfl rfl ?_
          refine xi_ireturn kc_11_15 mr_11 rfl ?_
          show xw J ov (d + 2) 10 (6, [(0, .int x2)], [.int 0], hh16) _
          refine xi_ireturn kc_10_6 mr_10 rfl ?_
          show xw J ov (d + 3) 32 (30, [(0, .ref 115), (1, .int x1), (2, .int x2), (3, .int x3), (4, .int x4)], [.int 0], hh16) _
          refine xi_iff (pc' := 33) kc_32_30 rfl rfl ?_
          refine xi_goto (pc' := 57) kc_32_33 rfl ?_
          refine xi_aload_n (pc' := 58) (x := 115) kc_32_57 rfl rfl ?_
          refine xi_iconst (pc' := 59) (v := (-1)) kc_32_58 rfl rfl ?_
          refine xi_virtual (mj := 12) (as := [.int (-1)]) (st1 := []) (lv0 := [(0, .ref 115), (1, .int (-1))]) kc_32_59 rfl rfl rfl rfl rfl eh15.1 (Nat.le_of_ble_eq_true rfl) (hJ _ _ _ _ (by decide)) (xm_le ml_12 rfl) rfl ?_
          refine xi_aload_n (pc' := 1) (x := 115) kc_12_0 rfl rfl ?_
          refine xi_getfield (pc' := 4) (v := .ref 140) kc_12_1 rfl rfl rfl eh15.1 rfl ?_
          refine xi_iload_n (pc' := 5) (x := (-1)) kc_12_4 rfl rfl ?_
          refine xi_ineg (pc' := 6) (v := 1) kc_12_5 rfl rfl ?_
          refine xi_dup2 (pc' := 7) kc_12_6 rfl ⟨rfl, rfl⟩ ?_
          refine xcps4 (xk_arr K17.1 xD_140) (fun y32 A32 hy32 ry32 => ?_)
          refine xcps4 (xj_get hy32 ry32 (i := 1) (by decide) (by decide)) (fun v33 ev33 bv33 dv33 => ?_)
          refine xi_iaload (pc' := 8) (v := v33) kc_12_7 rfl A32 (by decide) rfl (xi_in (by decide) (by rw [hy32]; decide)) ev33 ?_
          refine xi_iconst (pc' := 9) (v := 1) kc_12_8 rfl rfl ?_
          refine xcps2 (α := Int32) ((v33 : Int32) + 1) (fun v34 ev34 => ?_)
          have rv34 := xc_rng v34
          refine xi_iadd (pc' := 10) (v := v34) kc_12_9 rfl ev34 ?_
          refine xcps4 (xj_set (v := v34) hy32 ry32 1 (by first | omega | decide) (by first | omega | decide)) (fun y35 s35 hy35 ry35 => ?_)
          refine xi_iastore (pc' := 11) (x' := y35) kc_12_10 rfl A32 rfl (xi_in (by decide) (by rw [hy32]; decide)) s35 (fun hh35 eh35 => ?_)
          have K36 := xk_pa K17 (xk_wa rfl) xD_140 hy35 ry35 eh35
          refine xi_iload_n (pc' := 12) (x := (-1)) kc_12_11 rfl rfl ?_
          refine xi_ireturn kc_12_12 mr_12 rfl ?_
          show xw J ov (d + 3) 32 (62, [(0, .ref 115), (1, .int x1), (2, .int x2), (3, .int x3), (4, .int x4)], [.int (-1)], hh35) _
          refine xi_ireturn kc_32_62 mr_32 rfl ?_
          have zcm1 : ((-1) : Int32).toInt = (-1) := by decide
          exact kk (-1) hh35 (by omega) K36
        · refine xi_cmf (pc' := 5) kc_11_2 rfl (xc_lt_f (X := x2.toInt) (Y := 0) rfl (by decide) (by omega)) ?_
          refine xi_iload_n (pc' := 6) (x := x2) kc_11_5 rfl rfl ?_
          refine xi_iload_n (pc' := 7) (x := 5) kc_11_6 rfl rfl ?_
          by_cases c37 : 5 < x2.toInt
          · refine xi_cmt (pc' := 14) kc_11_7 rfl (xc_gt_t (X := x2.toInt) (Y := 5) rfl (by decide) (by omega)) ?_
            refine xi_iconst (pc' := 15) (v := 0) kc_11_14 rfl rfl ?_
            refine xi_ireturn kc_11_15 mr_11 rfl ?_
            show xw J ov (d + 2) 10 (6, [(0, .int x2)], [.int 0], hh16) _
            refine xi_ireturn kc_10_6 mr_10 rfl ?_
            show xw J ov (d + 3) 32 (30, [(0, .ref 115), (1, .int x1), (2, .int x2), (3, .int x3), (4, .int x4)], [.int 0], hh16) _
            refine xi_iff (pc' := 33) kc_32_30 rfl rfl ?_
            refine xi_goto (pc' := 57) kc_32_33 rfl ?_
            refine xi_aload_n (pc' := 58) (x := 115) kc_32_57 rfl rfl ?_
            refine xi_iconst (pc' := 59) (v := (-1)) kc_32_58 rfl rfl ?_
            refine xi_virtual (mj := 12) (as := [.int (-1)]) (st1 := []) (lv0 := [(0, .ref 115), (1, .int (-1))]) kc_32_59 rfl rfl rfl rfl rfl eh15.1 (Nat.le_of_ble_eq_true rfl) (hJ _ _ _ _ (by decide)) (xm_le ml_12 rfl) rfl ?_
            refine xi_aload_n (pc' := 1) (x := 115) kc_12_0 rfl rfl ?_
            refine xi_getfield (pc' := 4) (v := .ref 140) kc_12_1 rfl rfl rfl eh15.1 rfl ?_
            refine xi_iload_n (pc' := 5) (x := (-1)) kc_12_4 rfl rfl ?_
            refine xi_ineg (pc' := 6) (v := 1) kc_12_5 rfl rfl ?_
            refine xi_dup2 (pc' := 7) kc_12_6 rfl ⟨rfl, rfl⟩ ?_
            refine xcps4 (xk_arr K17.1 xD_140) (fun y38 A38 hy38 ry38 => ?_)
            refine xcps4 (xj_get hy38 ry38 (i := 1) (by decide) (by decide)) (fun v39 ev39 bv39 dv39 => ?_)
            refine xi_iaload (pc' := 8) (v := v39) kc_12_7 rfl A38 (by decide) rfl (xi_in (by decide) (by rw [hy38]; decide)) ev39 ?_
            refine xi_iconst (pc' := 9) (v := 1) kc_12_8 rfl rfl ?_
            refine xcps2 (α := Int32) ((v39 : Int32) + 1) (fun v40 ev40 => ?_)
            have rv40 := xc_rng v40
            refine xi_iadd (pc' := 10) (v := v40) kc_12_9 rfl ev40 ?_
            refine xcps4 (xj_set (v := v40) hy38 ry38 1 (by first | omega | decide) (by first | omega | decide)) (fun y41 s41 hy41 ry41 => ?_)
            refine xi_iastore (pc' := 11) (x' := y41) kc_12_10 rfl A38 rfl (xi_in (by decide) (by rw [hy38]; decide)) s41 (fun hh41 eh41 => ?_)
            have K42 := xk_pa K17 (xk_wa rfl) xD_140 hy41 ry41 eh41
            refine xi_iload_n (pc' := 12) (x := (-1)) kc_12_11 rfl rfl ?_
            refine xi_ireturn kc_12_12 mr_12 rfl ?_
            show xw J ov (d + 3) 32 (62, [(0, .ref 115), (1, .int x1), (2, .int x2), (3, .int x3), (4, .int x4)], [.int (-1)], hh41) _
            refine xi_ireturn kc_32_62 mr_32 rfl ?_
            have zcm1 : ((-1) : Int32).toInt = (-1) := by decide
            exact kk (-1) hh41 (by omega) K42
          · refine xi_cmf (pc' := 10) kc_11_7 rfl (xc_gt_f (X := x2.toInt) (Y := 5) rfl (by decide) (by omega)) ?_
            refine xi_iconst (pc' := 11) (v := 1) kc_11_10 rfl rfl ?_
            refine xi_goto (pc' := 15) kc_11_11 rfl ?_
            refine xi_ireturn kc_11_15 mr_11 rfl ?_
            show xw J ov (d + 2) 10 (6, [(0, .int x2)], [.int 1], hh16) _
            refine xi_ireturn kc_10_6 mr_10 rfl ?_
            show xw J ov (d + 3) 32 (30, [(0, .ref 115), (1, .int x1), (2, .int x2), (3, .int x3), (4, .int x4)], [.int 1], hh16) _
            refine xi_ift (pc' := 63) kc_32_30 rfl rfl ?_
            refine xi_iload_n (pc' := 64) (x := x3) kc_32_63 rfl rfl ?_
            refine xi_iconst (pc' := 65) (v := 1) kc_32_64 rfl rfl ?_
            by_cases c43 : x3.toInt < 1
            · refine xi_cmt (pc' := 73) kc_32_65 rfl (xc_lt_t (X := x3.toInt) (Y := 1) rfl (by decide) (by omega)) ?_
              refine xi_aload_n (pc' := 74) (x := 115) kc_32_73 rfl rfl ?_
              refine xi_bipush (pc' := 76) (v := (-4)) kc_32_74 rfl rfl ?_
              refine xi_virtual (mj := 12) (as := [.int (-4)]) (st1 := []) (lv0 := [(0, .ref 115), (1, .int (-4))]) kc_32_76 rfl rfl rfl rfl rfl eh15.1 (Nat.le_of_ble_eq_true rfl) (hJ _ _ _ _ (by decide)) (xm_le ml_12 rfl) rfl ?_
              refine xi_aload_n (pc' := 1) (x := 115) kc_12_0 rfl rfl ?_
              refine xi_getfield (pc' := 4) (v := .ref 140) kc_12_1 rfl rfl rfl eh15.1 rfl ?_
              refine xi_iload_n (pc' := 5) (x := (-4)) kc_12_4 rfl rfl ?_
              refine xi_ineg (pc' := 6) (v := 4) kc_12_5 rfl rfl ?_
              refine xi_dup2 (pc' := 7) kc_12_6 rfl ⟨rfl, rfl⟩ ?_
              refine xcps4 (xk_arr K17.1 xD_140) (fun y44 A44 hy44 ry44 => ?_)
              refine xcps4 (xj_get hy44 ry44 (i := 4) (by decide) (by decide)) (fun v45 ev45 bv45 dv45 => ?_)
              refine xi_iaload (pc' := 8) (v := v45) kc_12_7 rfl A44 (by decide) rfl (xi_in (by decide) (by rw [hy44]; decide)) ev45 ?_
              refine xi_iconst (pc' := 9) (v := 1) kc_12_8 rfl rfl ?_
              refine xcps2 (α := Int32) ((v45 : Int32) + 1) (fun v46 ev46 => ?_)
              have rv46 := xc_rng v46
              refine xi_iadd (pc' := 10) (v := v46) kc_12_9 rfl ev46 ?_
              refine xcps4 (xj_set (v := v46) hy44 ry44 4 (by first | omega | decide) (by first | omega | decide)) (fun y47 s47 hy47 ry47 => ?_)
              refine xi_iastore (pc' := 11) (x' := y47) kc_12_10 rfl A44 rfl (xi_in (by decide) (by rw [hy44]; decide)) s47 (fun hh47 eh47 => ?_)
              have K48 := xk_pa K17 (xk_wa rfl) xD_140 hy47 ry47 eh47
              refine xi_iload_n (pc' := 12) (x := (-4)) kc_12_11 rfl rfl ?_
              refine xi_ireturn kc_12_12 mr_12 rfl ?_
              show xw J ov (d + 3) 32 (79, [(0, .ref 115), (1, .int x1), (2, .int x2), (3, .int x3), (4, .int x4)], [.int (-4)], hh47) _
              refine xi_ireturn kc_32_79 mr_32 rfl ?_
              have zcm4 : ((-4) : Int32).toInt = (-4) := by decide
              exact kk (-4) hh47 (by omega) K48
            · refine xi_cmf (pc' := 68) kc_32_65 rfl (xc_lt_f (X := x3.toInt) (Y := 1) rfl (by decide) (by omega)) ?_
              refine xi_iload (pc' := 70) (x := x4) kc_32_68 rfl rfl ?_
              by_cases c49 : 0 ≤ x4.toInt
              · refine xi_ift (pc' := 80) kc_32_70 rfl (xc_ge_t (X := x4.toInt) (Y := 0) rfl (by decide) (by omega)) ?_
                refine xi_iload_n (pc' := 81) (x := x3) kc_32_80 rfl rfl ?_
                refine xi_bipush (pc' := 83) (v := 99) kc_32_81 rfl rfl ?_
                by_cases c50 : 99 < x3.toInt
                · refine xi_cmt (pc' := 103) kc_32_83 rfl (xc_gt_t (X := x3.toInt) (Y := 99) rfl (by decide) (by omega)) ?_
                  refine xi_aload_n (pc' := 104) (x := 115) kc_32_103 rfl rfl ?_
                  refine xi_bipush (pc' := 106) (v := (-6)) kc_32_104 rfl rfl ?_
                  refine xi_virtual (mj := 12) (as := [.int (-6)]) (st1 := []) (lv0 := [(0, .ref 115), (1, .int (-6))]) kc_32_106 rfl rfl rfl rfl rfl eh15.1 (Nat.le_of_ble_eq_true rfl) (hJ _ _ _ _ (by decide)) (xm_le ml_12 rfl) rfl ?_
                  refine xi_aload_n (pc' := 1) (x := 115) kc_12_0 rfl rfl ?_
                  refine xi_getfield (pc' := 4) (v := .ref 140) kc_12_1 rfl rfl rfl eh15.1 rfl ?_
                  refine xi_iload_n (pc' := 5) (x := (-6)) kc_12_4 rfl rfl ?_
                  refine xi_ineg (pc' := 6) (v := 6) kc_12_5 rfl rfl ?_
                  refine xi_dup2 (pc' := 7) kc_12_6 rfl ⟨rfl, rfl⟩ ?_
                  refine xcps4 (xk_arr K17.1 xD_140) (fun y51 A51 hy51 ry51 => ?_)
                  refine xcps4 (xj_get hy51 ry51 (i := 6) (by decide) (by decide)) (fun v52 ev52 bv52 dv52 => ?_)
                  refine xi_iaload (pc' := 8) (v := v52) kc_12_7 rfl A51 (by decide) rfl (xi_in (by decide) (by rw [hy51]; decide)) ev52 ?_
                  refine xi_iconst (pc' := 9) (v := 1) kc_12_8 rfl rfl ?_
                  refine xcps2 (α := Int32) ((v52 : Int32) + 1) (fun v53 ev53 => ?_)
                  have rv53 := xc_rng v53
                  refine xi_iadd (pc' := 10) (v := v53) kc_12_9 rfl ev53 ?_
                  refine xcps4 (xj_set (v := v53) hy51 ry51 6 (by first | omega | decide) (by first | omega | decide)) (fun y54 s54 hy54 ry54 => ?_)
                  refine xi_iastore (pc' := 11) (x' := y54) kc_12_10 rfl A51 rfl (xi_in (by decide) (by rw [hy51]; decide)) s54 (fun hh54 eh54 => ?_)
                  have K55 := xk_pa K17 (xk_wa rfl) xD_140 hy54 ry54 eh54
                  refine xi_iload_n (pc' := 12) (x := (-6)) kc_12_11 rfl rfl ?_
                  refine xi_ireturn kc_12_12 mr_12 rfl ?_
                  show xw J ov (d + 3) 32 (109, [(0, .ref 115), (1, .int x1), (2, .int x2), (3, .int x3), (4, .int x4)], [.int (-6)], hh54) _
                  refine xi_ireturn kc_32_109 mr_32 rfl ?_
                  have zcm6 : ((-6) : Int32).toInt = (-6) := by decide
                  exact kk (-6) hh54 (by omega) K55
                · refine xi_cmf (pc' := 86) kc_32_83 rfl (xc_gt_f (X := x3.toInt) (Y := 99) rfl (by decide) (by omega)) ?_
                  refine xi_iload (pc' := 88) (x := x4) kc_32_86 rfl rfl ?_
                  refine xi_sipush (pc' := 91) (v := 600) kc_32_88 rfl rfl ?_
                  by_cases c56 : 600 < x4.toInt
                  · refine xi_cmt (pc' := 103) kc_32_91 rfl (xc_gt_t (X := x4.toInt) (Y := 600) rfl (by decide) (by omega)) ?_
                    refine xi_aload_n (pc' := 104) (x := 115) kc_32_103 rfl rfl ?_
                    refine xi_bipush (pc' := 106) (v := (-6)) kc_32_104 rfl rfl ?_
                    refine xi_virtual (mj := 12) (as := [.int (-6)]) (st1 := []) (lv0 := [(0, .ref 115), (1, .int (-6))]) kc_32_106 rfl rfl rfl rfl rfl eh15.1 (Nat.le_of_ble_eq_true rfl) (hJ _ _ _ _ (by decide)) (xm_le ml_12 rfl) rfl ?_
                    refine xi_aload_n (pc' := 1) (x := 115) kc_12_0 rfl rfl ?_
                    refine xi_getfield (pc' := 4) (v := .ref 140) kc_12_1 rfl rfl rfl eh15.1 rfl ?_
                    refine xi_iload_n (pc' := 5) (x := (-6)) kc_12_4 rfl rfl ?_
                    refine xi_ineg (pc' := 6) (v := 6) kc_12_5 rfl rfl ?_
                    refine xi_dup2 (pc' := 7) kc_12_6 rfl ⟨rfl, rfl⟩ ?_
                    refine xcps4 (xk_arr K17.1 xD_140) (fun y57 A57 hy57 ry57 => ?_)
                    refine xcps4 (xj_get hy57 ry57 (i := 6) (by decide) (by decide)) (fun v58 ev58 bv58 dv58 => ?_)
                    refine xi_iaload (pc' := 8) (v := v58) kc_12_7 rfl A57 (by decide) rfl (xi_in (by decide) (by rw [hy57]; decide)) ev58 ?_
                    refine xi_iconst (pc' := 9) (v := 1) kc_12_8 rfl rfl ?_
                    refine xcps2 (α := Int32) ((v58 : Int32) + 1) (fun v59 ev59 => ?_)
                    have rv59 := xc_rng v59
                    refine xi_iadd (pc' := 10) (v := v59) kc_12_9 rfl ev59 ?_
                    refine xcps4 (xj_set (v := v59) hy57 ry57 6 (by first | omega | decide) (by first | omega | decide)) (fun y60 s60 hy60 ry60 => ?_)
                    refine xi_iastore (pc' := 11) (x' := y60) kc_12_10 rfl A57 rfl (xi_in (by decide) (by rw [hy57]; decide)) s60 (fun hh60 eh60 => ?_)
                    have K61 := xk_pa K17 (xk_wa rfl) xD_140 hy60 ry60 eh60
                    refine xi_iload_n (pc' := 12) (x := (-6)) kc_12_11 rfl rfl ?_
                    refine xi_ireturn kc_12_12 mr_12 rfl ?_
                    show xw J ov (d + 3) 32 (109, [(0, .ref 115), (1, .int x1), (2, .int x2), (3, .int x3), (4, .int x4)], [.int (-6)], hh60) _
                    refine xi_ireturn kc_32_109 mr_32 rfl ?_
                    have zcm6 : ((-6) : Int32).toInt = (-6) := by decide
                    exact kk (-6) hh60 (by omega) K61
                  · refine xi_cmf (pc' := 94) kc_32_91 rfl (xc_gt_f (X := x4.toInt) (Y := 600) rfl (by decide) (by omega)) ?_
                    refine xi_aload_n (pc' := 95) (x := 115) kc_32_94 rfl rfl ?_
                    refine xi_getfield (pc' := 98) (v := .int u5) kc_32_95 rfl rfl rfl eh15.1 rfl ?_
                    refine xi_bipush (pc' := 100) (v := 10) kc_32_98 rfl rfl ?_
                    by_cases c62 : u5.toInt = 10
                    · refine xi_cmf (pc' := 103) kc_32_100 rfl (xc_ne_f (X := u5.toInt) (Y := 10) rfl (by decide) (by omega)) ?_
                      refine xi_aload_n (pc' := 104) (x := 115) kc_32_103 rfl rfl ?_
                      refine xi_bipush (pc' := 106) (v := (-6)) kc_32_104 rfl rfl ?_
                      refine xi_virtual (mj := 12) (as := [.int (-6)]) (st1 := []) (lv0 := [(0, .ref 115), (1, .int (-6))]) kc_32_106 rfl rfl rfl rfl rfl eh15.1 (Nat.le_of_ble_eq_true rfl) (hJ _ _ _ _ (by decide)) (xm_le ml_12 rfl) rfl ?_
                      refine xi_aload_n (pc' := 1) (x := 115) kc_12_0 rfl rfl ?_
                      refine xi_getfield (pc' := 4) (v := .ref 140) kc_12_1 rfl rfl rfl eh15.1 rfl ?_
                      refine xi_iload_n (pc' := 5) (x := (-6)) kc_12_4 rfl rfl ?_
                      refine xi_ineg (pc' := 6) (v := 6) kc_12_5 rfl rfl ?_
                      refine xi_dup2 (pc' := 7) kc_12_6 rfl ⟨rfl, rfl⟩ ?_
                      refine xcps4 (xk_arr K17.1 xD_140) (fun y63 A63 hy63 ry63 => ?_)
                      refine xcps4 (xj_get hy63 ry63 (i := 6) (by decide) (by decide)) (fun v64 ev64 bv64 dv64 => ?_)
                      refine xi_iaload (pc' := 8) (v := v64) kc_12_7 rfl A63 (by decide) rfl (xi_in (by decide) (by rw [hy63]; decide)) ev64 ?_
                      refine xi_iconst (pc' := 9) (v := 1) kc_12_8 rfl rfl ?_
                      refine xcps2 (α := Int32) ((v64 : Int32) + 1) (fun v65 ev65 => ?_)
                      have rv65 := xc_rng v65
                      refine xi_iadd (pc' := 10) (v := v65) kc_12_9 rfl ev65 ?_
                      refine xcps4 (xj_set (v := v65) hy63 ry63 6 (by first | omega | decide) (by first | omega | decide)) (fun y66 s66 hy66 ry66 => ?_)
                      refine xi_iastore (pc' := 11) (x' := y66) kc_12_10 rfl A63 rfl (xi_in (by decide) (by rw [hy63]; decide)) s66 (fun hh66 eh66 => ?_)
                      have K67 := xk_pa K17 (xk_wa rfl) xD_140 hy66 ry66 eh66
                      refine xi_iload_n (pc' := 12) (x := (-6)) kc_12_11 rfl rfl ?_
                      refine xi_ireturn kc_12_12 mr_12 rfl ?_
                      show xw J ov (d + 3) 32 (109, [(0, .ref 115), (1, .int x1), (2, .int x2), (3, .int x3), (4, .int x4)], [.int (-6)], hh66) _
                      refine xi_ireturn kc_32_109 mr_32 rfl ?_
                      have zcm6 : ((-6) : Int32).toInt = (-6) := by decide
                      exact kk (-6) hh66 (by omega) K67
                    · refine xi_cmt (pc' := 110) kc_32_100 rfl (xc_ne_t (X := u5.toInt) (Y := 10) rfl (by decide) (by omega)) ?_
                      refine xi_aload_n (pc' := 111) (x := 115) kc_32_110 rfl rfl ?_
                      refine xi_getfield (pc' := 114) (v := .ref 135) kc_32_111 rfl rfl rfl eh15.1 rfl ?_
                      refine xi_aload_n (pc' := 115) (x := 115) kc_32_114 rfl rfl ?_
                      refine xi_getfield (pc' := 118) (v := .int u5) kc_32_115 rfl rfl rfl eh15.1 rfl ?_
                      refine xi_iload_n (pc' := 119) (x := x1) kc_32_118 rfl rfl ?_
                      refine xcps4 (xk_arr K17.1 xD_135) (fun y68 A68 hy68 ry68 => ?_)
                      refine xcps4 (xj_set (v := x1) hy68 ry68 u5 (by first | omega | decide) (by first | omega | decide)) (fun y69 s69 hy69 ry69 => ?_)
                      refine xi_iastore (pc' := 120) (x' := y69) kc_32_119 rfl A68 rfl (xi_in (by omega) (by rw [hy68]; omega)) s69 (fun hh69 eh69 => ?_)
                      have K70 := xk_pa K17 (xk_wa rfl) xD_135 hy69 ry69 eh69
                      refine xi_aload_n (pc' := 121) (x := 115) kc_32_120 rfl rfl ?_
                      have A71 := ((eh69.2.1 115 (by decide)).trans eh15.1)
                      refine xi_getfield (pc' := 124) (v := .ref 136) kc_32_121 rfl rfl rfl A71 rfl ?_
                      refine xi_aload_n (pc' := 125) (x := 115) kc_32_124 rfl rfl ?_
                      refine xi_getfield (pc' := 128) (v := .int u5) kc_32_125 rfl rfl rfl A71 rfl ?_
                      refine xi_iload_n (pc' := 129) (x := x2) kc_32_128 rfl rfl ?_
                      refine xcps4 (xk_arr K70.1 xD_136) (fun y72 A72 hy72 ry72 => ?_)
                      refine xcps4 (xj_set (v := x2) hy72 ry72 u5 (by first | omega | decide) (by first | omega | decide)) (fun y73 s73 hy73 ry73 => ?_)
                      refine xi_iastore (pc' := 130) (x' := y73) kc_32_129 rfl A72 rfl (xi_in (by omega) (by rw [hy72]; omega)) s73 (fun hh73 eh73 => ?_)
                      have K74 := xk_pa K70 (xk_wa rfl) xD_136 hy73 ry73 eh73
                      refine xi_aload_n (pc' := 131) (x := 115) kc_32_130 rfl rfl ?_
                      have A75 := ((eh73.2.1 115 (by decide)).trans A71)
                      refine xi_getfield (pc' := 134) (v := .ref 137) kc_32_131 rfl rfl rfl A75 rfl ?_
                      refine xi_aload_n (pc' := 135) (x := 115) kc_32_134 rfl rfl ?_
                      refine xi_getfield (pc' := 138) (v := .int u5) kc_32_135 rfl rfl rfl A75 rfl ?_
                      refine xi_iload_n (pc' := 139) (x := x3) kc_32_138 rfl rfl ?_
                      refine xcps4 (xk_arr K74.1 xD_137) (fun y76 A76 hy76 ry76 => ?_)
                      refine xcps4 (xj_set (v := x3) hy76 ry76 u5 (by first | omega | decide) (by first | omega | decide)) (fun y77 s77 hy77 ry77 => ?_)
                      refine xi_iastore (pc' := 140) (x' := y77) kc_32_139 rfl A76 rfl (xi_in (by omega) (by rw [hy76]; omega)) s77 (fun hh77 eh77 => ?_)
                      have K78 := xk_pa K74 (xk_wa rfl) xD_137 hy77 ry77 eh77
                      refine xi_aload_n (pc' := 141) (x := 115) kc_32_140 rfl rfl ?_
                      have A79 := ((eh77.2.1 115 (by decide)).trans A75)
                      refine xi_getfield (pc' := 144) (v := .ref 138) kc_32_141 rfl rfl rfl A79 rfl ?_
                      refine xi_aload_n (pc' := 145) (x := 115) kc_32_144 rfl rfl ?_
                      refine xi_getfield (pc' := 148) (v := .int u5) kc_32_145 rfl rfl rfl A79 rfl ?_
                      refine xi_iload (pc' := 150) (x := x4) kc_32_148 rfl rfl ?_
                      refine xcps4 (xk_arr K78.1 xD_138) (fun y80 A80 hy80 ry80 => ?_)
                      refine xcps4 (xj_set (v := x4) hy80 ry80 u5 (by first | omega | decide) (by first | omega | decide)) (fun y81 s81 hy81 ry81 => ?_)
                      refine xi_iastore (pc' := 151) (x' := y81) kc_32_150 rfl A80 rfl (xi_in (by omega) (by rw [hy80]; omega)) s81 (fun hh81 eh81 => ?_)
                      have K82 := xk_pa K78 (xk_wa rfl) xD_138 hy81 ry81 eh81
                      refine xi_aload_n (pc' := 152) (x := 115) kc_32_151 rfl rfl ?_
                      have A83 := ((eh81.2.1 115 (by decide)).trans A79)
                      refine xi_getfield (pc' := 155) (v := .ref 139) kc_32_152 rfl rfl rfl A83 rfl ?_
                      refine xi_aload_n (pc' := 156) (x := 115) kc_32_155 rfl rfl ?_
                      refine xi_getfield (pc' := 159) (v := .int u5) kc_32_156 rfl rfl rfl A83 rfl ?_
                      refine xi_iconst (pc' := 160) (v := 0) kc_32_159 rfl rfl ?_
                      refine xcps4 (xk_arr K82.1 xD_139) (fun y84 A84 hy84 ry84 => ?_)
                      refine xcps4 (xj_set (v := 0) hy84 ry84 u5 (by first | omega | decide) (by first | omega | decide)) (fun y85 s85 hy85 ry85 => ?_)
                      refine xi_bastore (pc' := 161) (x' := y85) kc_32_160 rfl A84 rfl (xi_in (by omega) (by rw [hy84]; omega)) s85 (fun hh85 eh85 => ?_)
                      have K86 := xk_pa K82 (xk_wa rfl) xD_139 hy85 ry85 eh85
                      refine xi_aload_n (pc' := 162) (x := 115) kc_32_161 rfl rfl ?_
                      refine xi_dup (pc' := 163) kc_32_162 rfl rfl ?_
                      have A87 := ((eh85.2.1 115 (by decide)).trans A83)
                      refine xi_getfield (pc' := 166) (v := .int u5) kc_32_163 rfl rfl rfl A87 rfl ?_
                      refine xi_iconst (pc' := 167) (v := 1) kc_32_166 rfl rfl ?_
                      refine xcps2 (α := Int32) (u5 + 1) (fun v88 ev88 => ?_)
                      have zv88 : v88.toInt = (u5.toInt + 1) := by rw [← ev88]; exact (xz_add (X := u5.toInt) (Y := 1) rfl (by decide) (by omega) (by omega)).trans (by omega)
                      refine xi_iadd (pc' := 168) (v := v88) kc_32_167 rfl ev88 ?_
                      refine xi_putfield (pc' := 171) (fs' := [.int 0, .int u2, .ref 116, .ref 117, .ref 118, .ref 119, .ref 120, .ref 121, .ref 122, .ref 123, .ref 124, .ref 125, .ref 126, .ref 127, .ref 128, .ref 129, .int u3, .ref 130, .int u4, .ref 131, .ref 132, .ref 133, .ref 134, .int v88, .ref 135, .ref 136, .ref 137, .ref 138, .ref 139, .ref 140, .ref 141, .ref 142, .int u6, .int u7, .int u8, .ref 143, .ref 144, .ref 145, .ref 146, .ref 147, .ref 148, .int u9, .ref 149, .ref 150, .ref 151, .int u10, .ref 152, .ref 153, .ref 154, .ref 155, .ref 156, .ref 157, .ref 158, .ref 159, .int u11, .ref 160, .int u12, .ref 161, .ref 162, .ref 163, .ref 164, .int u13, .ref 165, .ref 166]) kc_32_168 rfl rfl rfl A87 rfl rfl rfl (Nat.le_of_ble_eq_true rfl) rfl (fun hh90 eh89 => ?_)
                      have K91 := xk_pf (k := 23) (v := v88) K86 (xk_wf rfl) xD_115 A87 rfl (by first | omega | decide) (by first | omega | decide) eh89 rfl
                      refine xi_aload_n (pc' := 172) (x := 115) kc_32_171 rfl rfl ?_
                      refine xi_iconst (pc' := 173) (v := 0) kc_32_172 rfl rfl ?_
                      refine xi_putfield (pc' := 176) (fs' := [.int 0, .int u2, .ref 116, .ref 117, .ref 118, .ref 119, .ref 120, .ref 121, .ref 122, .ref 123, .ref 124, .ref 125, .ref 126, .ref 127, .ref 128, .ref 129, .int u3, .ref 130, .int u4, .ref 131, .ref 132, .ref 133, .ref 134, .int v88, .ref 135, .ref 136, .ref 137, .ref 138, .ref 139, .ref 140, .ref 141, .ref 142, .int u6, .int u7, .int u8, .ref 143, .ref 144, .ref 145, .ref 146, .ref 147, .ref 148, .int 0, .ref 149, .ref 150, .ref 151, .int u10, .ref 152, .ref 153, .ref 154, .ref 155, .ref 156, .ref 157, .ref 158, .ref 159, .int u11, .ref 160, .int u12, .ref 161, .ref 162, .ref 163, .ref 164, .int u13, .ref 165, .ref 166]) kc_32_173 rfl rfl rfl eh89.1 rfl rfl rfl (Nat.le_of_ble_eq_true rfl) rfl (fun hh93 eh92 => ?_)
                      have K94 := xk_pf (k := 41) (v := 0) K91 (xk_wf rfl) xD_115 eh89.1 rfl (by first | omega | decide) (by first | omega | decide) eh92 rfl
                      refine xi_aload_n (pc' := 177) (x := 115) kc_32_176 rfl rfl ?_
                      refine xi_getfield (pc' := 180) (v := .int v88) kc_32_177 rfl rfl rfl eh92.1 rfl ?_
                      refine xi_iconst (pc' := 181) (v := 1) kc_32_180 rfl rfl ?_
                      refine xcps2 (α := Int32) (v88 - 1) (fun v95 ev95 => ?_)
                      have zv95 : v95.toInt = u5.toInt := by rw [← ev95]; exact (xz_sub (X := (u5.toInt + 1)) (Y := 1) zv88 (by decide) (by omega) (by omega)).trans (by omega)
                      refine xi_isub (pc' := 182) (v := v95) kc_32_181 rfl ev95 ?_
                      refine xi_ireturn kc_32_182 mr_32 rfl ?_
                      exact kk v95 hh93 (by omega) K94
              · refine xi_iff (pc' := 73) kc_32_70 rfl (xc_ge_f (X := x4.toInt) (Y := 0) rfl (by decide) (by omega)) ?_
                refine xi_aload_n (pc' := 74) (x := 115) kc_32_73 rfl rfl ?_
                refine xi_bipush (pc' := 76) (v := (-4)) kc_32_74 rfl rfl ?_
                refine xi_virtual (mj := 12) (as := [.int (-4)]) (st1 := []) (lv0 := [(0, .ref 115), (1, .int (-4))]) kc_32_76 rfl rfl rfl rfl rfl eh15.1 (Nat.le_of_ble_eq_true rfl) (hJ _ _ _ _ (by decide)) (xm_le ml_12 rfl) rfl ?_
                refine xi_aload_n (pc' := 1) (x := 115) kc_12_0 rfl rfl ?_
                refine xi_getfield (pc' := 4) (v := .ref 140) kc_12_1 rfl rfl rfl eh15.1 rfl ?_
                refine xi_iload_n (pc' := 5) (x := (-4)) kc_12_4 rfl rfl ?_
                refine xi_ineg (pc' := 6) (v := 4) kc_12_5 rfl rfl ?_
                refine xi_dup2 (pc' := 7) kc_12_6 rfl ⟨rfl, rfl⟩ ?_
                refine xcps4 (xk_arr K17.1 xD_140) (fun y96 A96 hy96 ry96 => ?_)
                refine xcps4 (xj_get hy96 ry96 (i := 4) (by decide) (by decide)) (fun v97 ev97 bv97 dv97 => ?_)
                refine xi_iaload (pc' := 8) (v := v97) kc_12_7 rfl A96 (by decide) rfl (xi_in (by decide) (by rw [hy96]; decide)) ev97 ?_
                refine xi_iconst (pc' := 9) (v := 1) kc_12_8 rfl rfl ?_
                refine xcps2 (α := Int32) ((v97 : Int32) + 1) (fun v98 ev98 => ?_)
                have rv98 := xc_rng v98
                refine xi_iadd (pc' := 10) (v := v98) kc_12_9 rfl ev98 ?_
                refine xcps4 (xj_set (v := v98) hy96 ry96 4 (by first | omega | decide) (by first | omega | decide)) (fun y99 s99 hy99 ry99 => ?_)
                refine xi_iastore (pc' := 11) (x' := y99) kc_12_10 rfl A96 rfl (xi_in (by decide) (by rw [hy96]; decide)) s99 (fun hh99 eh99 => ?_)
                have K100 := xk_pa K17 (xk_wa rfl) xD_140 hy99 ry99 eh99
                refine xi_iload_n (pc' := 12) (x := (-4)) kc_12_11 rfl rfl ?_
                refine xi_ireturn kc_12_12 mr_12 rfl ?_
                show xw J ov (d + 3) 32 (79, [(0, .ref 115), (1, .int x1), (2, .int x2), (3, .int x3), (4, .int x4)], [.int (-4)], hh99) _
                refine xi_ireturn kc_32_79 mr_32 rfl ?_
                have zcm4 : ((-4) : Int32).toInt = (-4) := by decide
                exact kk (-4) hh99 (by omega) K100
      · refine xi_cmt (pc' := 36) kc_32_23 rfl (xc_ne_t (X := x1.toInt) (Y := 3) rfl (by decide) (by omega)) ?_
        refine xi_aload_n (pc' := 37) (x := 115) kc_32_36 rfl rfl ?_
        refine xi_iload_n (pc' := 38) (x := x2) kc_32_37 rfl rfl ?_
        refine xi_virtual (mj := 31) (as := [.int x2]) (st1 := []) (lv0 := [(0, .ref 115), (1, .int x2)]) kc_32_38 rfl rfl rfl rfl rfl eh15.1 (Nat.le_of_ble_eq_true rfl) (hJ _ _ _ _ (by decide)) (xm_le ml_31 rfl) rfl ?_
        refine xi_iload_n (pc' := 1) (x := x2) kc_31_0 rfl rfl ?_
        refine xi_static (mj := 24) (as := [.int x2]) (st1 := []) (lv0 := [(0, .int x2)]) kc_31_1 rfl rfl (Nat.le_of_ble_eq_true rfl) rfl rfl (Nat.le_of_ble_eq_true rfl) (hJ _ _ _ _ (by decide)) (xm_le ml_24 rfl) rfl ?_
        refine xi_iload_n (pc' := 1) (x := x2) kc_24_0 rfl rfl ?_
        refine xi_iconst (pc' := 2) (v := 0) kc_24_1 rfl rfl ?_
        refine xi_bipush (pc' := 4) (v := 11) kc_24_2 rfl rfl ?_
        refine xi_static (mj := 11) (as := [.int x2, .int 0, .int 11]) (st1 := []) (lv0 := [(0, .int x2), (1, .int 0), (2, .int 11)]) kc_24_4 rfl rfl (Nat.le_of_ble_eq_true rfl) rfl rfl (Nat.le_of_ble_eq_true rfl) (hJ _ _ _ _ (by decide)) (xm_le ml_11 rfl) rfl ?_
        refine xi_iload_n (pc' := 1) (x := x2) kc_11_0 rfl rfl ?_
        refine xi_iload_n (pc' := 2) (x := 0) kc_11_1 rfl rfl ?_
        by_cases c101 : x2.toInt < 0
        · refine xi_cmt (pc' := 14) kc_11_2 rfl (xc_lt_t (X := x2.toInt) (Y := 0) rfl (by decide) (by omega)) ?_
          refine xi_iconst (pc' := 15) (v := 0) kc_11_14 rfl rfl ?_
          refine xi_ireturn kc_11_15 mr_11 rfl ?_
          show xw J ov (d + 1) 24 (7, [(0, .int x2)], [.int 0], hh16) _
          refine xi_ireturn kc_24_7 mr_24 rfl ?_
          show xw J ov (d + 2) 31 (4, [(0, .ref 115), (1, .int x2)], [.int 0], hh16) _
          refine xi_ift (pc' := 20) kc_31_4 rfl rfl ?_
          refine xi_iconst (pc' := 21) (v := 0) kc_31_20 rfl rfl ?_
          refine xi_ireturn kc_31_21 mr_31 rfl ?_
          show xw J ov (d + 3) 32 (41, [(0, .ref 115), (1, .int x1), (2, .int x2), (3, .int x3), (4, .int x4)], [.int 0], hh16) _
          refine xi_ift (pc' := 57) kc_32_41 rfl rfl ?_
          refine xi_aload_n (pc' := 58) (x := 115) kc_32_57 rfl rfl ?_
          refine xi_iconst (pc' := 59) (v := (-1)) kc_32_58 rfl rfl ?_
          refine xi_virtual (mj := 12) (as := [.int (-1)]) (st1 := []) (lv0 := [(0, .ref 115), (1, .int (-1))]) kc_32_59 rfl rfl rfl rfl rfl eh15.1 (Nat.le_of_ble_eq_true rfl) (hJ _ _ _ _ (by decide)) (xm_le ml_12 rfl) rfl ?_
          refine xi_aload_n (pc' := 1) (x := 115) kc_12_0 rfl rfl ?_
          refine xi_getfield (pc' := 4) (v := .ref 140) kc_12_1 rfl rfl rfl eh15.1 rfl ?_
          refine xi_iload_n (pc' := 5) (x := (-1)) kc_12_4 rfl rfl ?_
          refine xi_ineg (pc' := 6) (v := 1) kc_12_5 rfl rfl ?_
          refine xi_dup2 (pc' := 7) kc_12_6 rfl ⟨rfl, rfl⟩ ?_
          refine xcps4 (xk_arr K17.1 xD_140) (fun y102 A102 hy102 ry102 => ?_)
          refine xcps4 (xj_get hy102 ry102 (i := 1) (by decide) (by decide)) (fun v103 ev103 bv103 dv103 => ?_)
          refine xi_iaload (pc' := 8) (v := v103) kc_12_7 rfl A102 (by decide) rfl (xi_in (by decide) (by rw [hy102]; decide)) ev103 ?_
          refine xi_iconst (pc' := 9) (v := 1) kc_12_8 rfl rfl ?_
          refine xcps2 (α := Int32) ((v103 : Int32) + 1) (fun v104 ev104 => ?_)
          have rv104 := xc_rng v104
          refine xi_iadd (pc' := 10) (v := v104) kc_12_9 rfl ev104 ?_
          refine xcps4 (xj_set (v := v104) hy102 ry102 1 (by first | omega | decide) (by first | omega | decide)) (fun y105 s105 hy105 ry105 => ?_)
          refine xi_iastore (pc' := 11) (x' := y105) kc_12_10 rfl A102 rfl (xi_in (by decide) (by rw [hy102]; decide)) s105 (fun hh105 eh105 => ?_)
          have K106 := xk_pa K17 (xk_wa rfl) xD_140 hy105 ry105 eh105
          refine xi_iload_n (pc' := 12) (x := (-1)) kc_12_11 rfl rfl ?_
          refine xi_ireturn kc_12_12 mr_12 rfl ?_
          show xw J ov (d + 3) 32 (62, [(0, .ref 115), (1, .int x1), (2, .int x2), (3, .int x3), (4, .int x4)], [.int (-1)], hh105) _
          refine xi_ireturn kc_32_62 mr_32 rfl ?_
          have zcm1 : ((-1) : Int32).toInt = (-1) := by decide
          exact kk (-1) hh105 (by omega) K106
        · refine xi_cmf (pc' := 5) kc_11_2 rfl (xc_lt_f (X := x2.toInt) (Y := 0) rfl (by decide) (by omega)) ?_
          refine xi_iload_n (pc' := 6) (x := x2) kc_11_5 rfl rfl ?_
          refine xi_iload_n (pc' := 7) (x := 11) kc_11_6 rfl rfl ?_
          by_cases c107 : 11 < x2.toInt
          · refine xi_cmt (pc' := 14) kc_11_7 rfl (xc_gt_t (X := x2.toInt) (Y := 11) rfl (by decide) (by omega)) ?_
            refine xi_iconst (pc' := 15) (v := 0) kc_11_14 rfl rfl ?_
            refine xi_ireturn kc_11_15 mr_11 rfl ?_
            show xw J ov (d + 1) 24 (7, [(0, .int x2)], [.int 0], hh16) _
            refine xi_ireturn kc_24_7 mr_24 rfl ?_
            show xw J ov (d + 2) 31 (4, [(0, .ref 115), (1, .int x2)], [.int 0], hh16) _
            refine xi_ift (pc' := 20) kc_31_4 rfl rfl ?_
            refine xi_iconst (pc' := 21) (v := 0) kc_31_20 rfl rfl ?_
            refine xi_ireturn kc_31_21 mr_31 rfl ?_
            show xw J ov (d + 3) 32 (41, [(0, .ref 115), (1, .int x1), (2, .int x2), (3, .int x3), (4, .int x4)], [.int 0], hh16) _
            refine xi_ift (pc' := 57) kc_32_41 rfl rfl ?_
            refine xi_aload_n (pc' := 58) (x := 115) kc_32_57 rfl rfl ?_
            refine xi_iconst (pc' := 59) (v := (-1)) kc_32_58 rfl rfl ?_
            refine xi_virtual (mj := 12) (as := [.int (-1)]) (st1 := []) (lv0 := [(0, .ref 115), (1, .int (-1))]) kc_32_59 rfl rfl rfl rfl rfl eh15.1 (Nat.le_of_ble_eq_true rfl) (hJ _ _ _ _ (by decide)) (xm_le ml_12 rfl) rfl ?_
            refine xi_aload_n (pc' := 1) (x := 115) kc_12_0 rfl rfl ?_
            refine xi_getfield (pc' := 4) (v := .ref 140) kc_12_1 rfl rfl rfl eh15.1 rfl ?_
            refine xi_iload_n (pc' := 5) (x := (-1)) kc_12_4 rfl rfl ?_
            refine xi_ineg (pc' := 6) (v := 1) kc_12_5 rfl rfl ?_
            refine xi_dup2 (pc' := 7) kc_12_6 rfl ⟨rfl, rfl⟩ ?_
            refine xcps4 (xk_arr K17.1 xD_140) (fun y108 A108 hy108 ry108 => ?_)
            refine xcps4 (xj_get hy108 ry108 (i := 1) (by decide) (by decide)) (fun v109 ev109 bv109 dv109 => ?_)
            refine xi_iaload (pc' := 8) (v := v109) kc_12_7 rfl A108 (by decide) rfl (xi_in (by decide) (by rw [hy108]; decide)) ev109 ?_
            refine xi_iconst (pc' := 9) (v := 1) kc_12_8 rfl rfl ?_
            refine xcps2 (α := Int32) ((v109 : Int32) + 1) (fun v110 ev110 => ?_)
            have rv110 := xc_rng v110
            refine xi_iadd (pc' := 10) (v := v110) kc_12_9 rfl ev110 ?_
            refine xcps4 (xj_set (v := v110) hy108 ry108 1 (by first | omega | decide) (by first | omega | decide)) (fun y111 s111 hy111 ry111 => ?_)
            refine xi_iastore (pc' := 11) (x' := y111) kc_12_10 rfl A108 rfl (xi_in (by decide) (by rw [hy108]; decide)) s111 (fun hh111 eh111 => ?_)
            have K112 := xk_pa K17 (xk_wa rfl) xD_140 hy111 ry111 eh111
            refine xi_iload_n (pc' := 12) (x := (-1)) kc_12_11 rfl rfl ?_
            refine xi_ireturn kc_12_12 mr_12 rfl ?_
            show xw J ov (d + 3) 32 (62, [(0, .ref 115), (1, .int x1), (2, .int x2), (3, .int x3), (4, .int x4)], [.int (-1)], hh111) _
            refine xi_ireturn kc_32_62 mr_32 rfl ?_
            have zcm1 : ((-1) : Int32).toInt = (-1) := by decide
            exact kk (-1) hh111 (by omega) K112
          · refine xi_cmf (pc' := 10) kc_11_7 rfl (xc_gt_f (X := x2.toInt) (Y := 11) rfl (by decide) (by omega)) ?_
            refine xi_iconst (pc' := 11) (v := 1) kc_11_10 rfl rfl ?_
            refine xi_goto (pc' := 15) kc_11_11 rfl ?_
            refine xi_ireturn kc_11_15 mr_11 rfl ?_
            show xw J ov (d + 1) 24 (7, [(0, .int x2)], [.int 1], hh16) _
            refine xi_ireturn kc_24_7 mr_24 rfl ?_
            show xw J ov (d + 2) 31 (4, [(0, .ref 115), (1, .int x2)], [.int 1], hh16) _
            refine xi_iff (pc' := 7) kc_31_4 rfl rfl ?_
            refine xi_aload_n (pc' := 8) (x := 115) kc_31_7 rfl rfl ?_
            refine xi_getfield (pc' := 11) (v := .ref 125) kc_31_8 rfl rfl rfl eh15.1 rfl ?_
            refine xi_iload_n (pc' := 12) (x := x2) kc_31_11 rfl rfl ?_
            refine xcps4 (xk_arr K17.1 xD_125) (fun y113 A113 hy113 ry113 => ?_)
            refine xcps4 (xj_get hy113 ry113 (i := x2) (by omega) (by omega)) (fun v114 ev114 bv114 dv114 => ?_)
            refine xi_iaload (pc' := 13) (v := v114) kc_31_12 rfl A113 (by decide) rfl (xi_in (by omega) (by rw [hy113]; omega)) ev114 ?_
            by_cases c115 : v114.toInt < 0
            · refine xi_ift (pc' := 20) kc_31_13 rfl (xc_lt_t (X := v114.toInt) (Y := 0) rfl (by decide) (by omega)) ?_
              refine xi_iconst (pc' := 21) (v := 0) kc_31_20 rfl rfl ?_
              refine xi_ireturn kc_31_21 mr_31 rfl ?_
              show xw J ov (d + 3) 32 (41, [(0, .ref 115), (1, .int x1), (2, .int x2), (3, .int x3), (4, .int x4)], [.int 0], hh16) _
              refine xi_ift (pc' := 57) kc_32_41 rfl rfl ?_
              refine xi_aload_n (pc' := 58) (x := 115) kc_32_57 rfl rfl ?_
              refine xi_iconst (pc' := 59) (v := (-1)) kc_32_58 rfl rfl ?_
              refine xi_virtual (mj := 12) (as := [.int (-1)]) (st1 := []) (lv0 := [(0, .ref 115), (1, .int (-1))]) kc_32_59 rfl rfl rfl rfl rfl eh15.1 (Nat.le_of_ble_eq_true rfl) (hJ _ _ _ _ (by decide)) (xm_le ml_12 rfl) rfl ?_
              refine xi_aload_n (pc' := 1) (x := 115) kc_12_0 rfl rfl ?_
              refine xi_getfield (pc' := 4) (v := .ref 140) kc_12_1 rfl rfl rfl eh15.1 rfl ?_
              refine xi_iload_n (pc' := 5) (x := (-1)) kc_12_4 rfl rfl ?_
              refine xi_ineg (pc' := 6) (v := 1) kc_12_5 rfl rfl ?_
              refine xi_dup2 (pc' := 7) kc_12_6 rfl ⟨rfl, rfl⟩ ?_
              refine xcps4 (xk_arr K17.1 xD_140) (fun y116 A116 hy116 ry116 => ?_)
              refine xcps4 (xj_get hy116 ry116 (i := 1) (by decide) (by decide)) (fun v117 ev117 bv117 dv117 => ?_)
              refine xi_iaload (pc' := 8) (v := v117) kc_12_7 rfl A116 (by decide) rfl (xi_in (by decide) (by rw [hy116]; decide)) ev117 ?_
              refine xi_iconst (pc' := 9) (v := 1) kc_12_8 rfl rfl ?_
              refine xcps2 (α := Int32) ((v117 : Int32) + 1) (fun v118 ev118 => ?_)
              have rv118 := xc_rng v118
              refine xi_iadd (pc' := 10) (v := v118) kc_12_9 rfl ev118 ?_
              refine xcps4 (xj_set (v := v118) hy116 ry116 1 (by first | omega | decide) (by first | omega | decide)) (fun y119 s119 hy119 ry119 => ?_)
              refine xi_iastore (pc' := 11) (x' := y119) kc_12_10 rfl A116 rfl (xi_in (by decide) (by rw [hy116]; decide)) s119 (fun hh119 eh119 => ?_)
              have K120 := xk_pa K17 (xk_wa rfl) xD_140 hy119 ry119 eh119
              refine xi_iload_n (pc' := 12) (x := (-1)) kc_12_11 rfl rfl ?_
              refine xi_ireturn kc_12_12 mr_12 rfl ?_
              show xw J ov (d + 3) 32 (62, [(0, .ref 115), (1, .int x1), (2, .int x2), (3, .int x3), (4, .int x4)], [.int (-1)], hh119) _
              refine xi_ireturn kc_32_62 mr_32 rfl ?_
              have zcm1 : ((-1) : Int32).toInt = (-1) := by decide
              exact kk (-1) hh119 (by omega) K120
            · refine xi_iff (pc' := 16) kc_31_13 rfl (xc_lt_f (X := v114.toInt) (Y := 0) rfl (by decide) (by omega)) ?_
              refine xi_iconst (pc' := 17) (v := 1) kc_31_16 rfl rfl ?_
              refine xi_goto (pc' := 21) kc_31_17 rfl ?_
              refine xi_ireturn kc_31_21 mr_31 rfl ?_
              show xw J ov (d + 3) 32 (41, [(0, .ref 115), (1, .int x1), (2, .int x2), (3, .int x3), (4, .int x4)], [.int 1], hh16) _
              refine xi_iff (pc' := 44) kc_32_41 rfl rfl ?_
              refine xi_iload_n (pc' := 45) (x := x1) kc_32_44 rfl rfl ?_
              by_cases c121 : x1.toInt = 0
              · refine xi_iff (pc' := 48) kc_32_45 rfl (xc_ne_f (X := x1.toInt) (Y := 0) rfl (by decide) (by omega)) ?_
                refine xi_aload_n (pc' := 49) (x := 115) kc_32_48 rfl rfl ?_
                refine xi_getfield (pc' := 52) (v := .ref 127) kc_32_49 rfl rfl rfl eh15.1 rfl ?_
                refine xi_iload_n (pc' := 53) (x := x2) kc_32_52 rfl rfl ?_
                refine xcps4 (xk_arr K17.1 xD_127) (fun y122 A122 hy122 ry122 => ?_)
                refine xcps4 (xj_get hy122 ry122 (i := x2) (by omega) (by omega)) (fun v123 ev123 bv123 dv123 => ?_)
                refine xi_baload (pc' := 54) (v := v123) kc_32_53 rfl A122 rfl (xi_in (by omega) (by rw [hy122]; omega)) ev123 ?_
                by_cases c124 : v123.toInt = 0
                · refine xi_iff (pc' := 57) kc_32_54 rfl (xc_ne_f (X := v123.toInt) (Y := 0) rfl (by decide) (by omega)) ?_
                  refine xi_aload_n (pc' := 58) (x := 115) kc_32_57 rfl rfl ?_
                  refine xi_iconst (pc' := 59) (v := (-1)) kc_32_58 rfl rfl ?_
                  refine xi_virtual (mj := 12) (as := [.int (-1)]) (st1 := []) (lv0 := [(0, .ref 115), (1, .int (-1))]) kc_32_59 rfl rfl rfl rfl rfl eh15.1 (Nat.le_of_ble_eq_true rfl) (hJ _ _ _ _ (by decide)) (xm_le ml_12 rfl) rfl ?_
                  refine xi_aload_n (pc' := 1) (x := 115) kc_12_0 rfl rfl ?_
                  refine xi_getfield (pc' := 4) (v := .ref 140) kc_12_1 rfl rfl rfl eh15.1 rfl ?_
                  refine xi_iload_n (pc' := 5) (x := (-1)) kc_12_4 rfl rfl ?_
                  refine xi_ineg (pc' := 6) (v := 1) kc_12_5 rfl rfl ?_
                  refine xi_dup2 (pc' := 7) kc_12_6 rfl ⟨rfl, rfl⟩ ?_
                  refine xcps4 (xk_arr K17.1 xD_140) (fun y125 A125 hy125 ry125 => ?_)
                  refine xcps4 (xj_get hy125 ry125 (i := 1) (by decide) (by decide)) (fun v126 ev126 bv126 dv126 => ?_)
                  refine xi_iaload (pc' := 8) (v := v126) kc_12_7 rfl A125 (by decide) rfl (xi_in (by decide) (by rw [hy125]; decide)) ev126 ?_
                  refine xi_iconst (pc' := 9) (v := 1) kc_12_8 rfl rfl ?_
                  refine xcps2 (α := Int32) ((v126 : Int32) + 1) (fun v127 ev127 => ?_)
                  have rv127 := xc_rng v127
                  refine xi_iadd (pc' := 10) (v := v127) kc_12_9 rfl ev127 ?_
                  refine xcps4 (xj_set (v := v127) hy125 ry125 1 (by first | omega | decide) (by first | omega | decide)) (fun y128 s128 hy128 ry128 => ?_)
                  refine xi_iastore (pc' := 11) (x' := y128) kc_12_10 rfl A125 rfl (xi_in (by decide) (by rw [hy125]; decide)) s128 (fun hh128 eh128 => ?_)
                  have K129 := xk_pa K17 (xk_wa rfl) xD_140 hy128 ry128 eh128
                  refine xi_iload_n (pc' := 12) (x := (-1)) kc_12_11 rfl rfl ?_
                  refine xi_ireturn kc_12_12 mr_12 rfl ?_
                  show xw J ov (d + 3) 32 (62, [(0, .ref 115), (1, .int x1), (2, .int x2), (3, .int x3), (4, .int x4)], [.int (-1)], hh128) _
                  refine xi_ireturn kc_32_62 mr_32 rfl ?_
                  have zcm1 : ((-1) : Int32).toInt = (-1) := by decide
                  exact kk (-1) hh128 (by omega) K129
                · refine xi_ift (pc' := 63) kc_32_54 rfl (xc_ne_t (X := v123.toInt) (Y := 0) rfl (by decide) (by omega)) ?_
                  refine xi_iload_n (pc' := 64) (x := x3) kc_32_63 rfl rfl ?_
                  refine xi_iconst (pc' := 65) (v := 1) kc_32_64 rfl rfl ?_
                  by_cases c130 : x3.toInt < 1
                  · refine xi_cmt (pc' := 73) kc_32_65 rfl (xc_lt_t (X := x3.toInt) (Y := 1) rfl (by decide) (by omega)) ?_
                    refine xi_aload_n (pc' := 74) (x := 115) kc_32_73 rfl rfl ?_
                    refine xi_bipush (pc' := 76) (v := (-4)) kc_32_74 rfl rfl ?_
                    refine xi_virtual (mj := 12) (as := [.int (-4)]) (st1 := []) (lv0 := [(0, .ref 115), (1, .int (-4))]) kc_32_76 rfl rfl rfl rfl rfl eh15.1 (Nat.le_of_ble_eq_true rfl) (hJ _ _ _ _ (by decide)) (xm_le ml_12 rfl) rfl ?_
                    refine xi_aload_n (pc' := 1) (x := 115) kc_12_0 rfl rfl ?_
                    refine xi_getfield (pc' := 4) (v := .ref 140) kc_12_1 rfl rfl rfl eh15.1 rfl ?_
                    refine xi_iload_n (pc' := 5) (x := (-4)) kc_12_4 rfl rfl ?_
                    refine xi_ineg (pc' := 6) (v := 4) kc_12_5 rfl rfl ?_
                    refine xi_dup2 (pc' := 7) kc_12_6 rfl ⟨rfl, rfl⟩ ?_
                    refine xcps4 (xk_arr K17.1 xD_140) (fun y131 A131 hy131 ry131 => ?_)
                    refine xcps4 (xj_get hy131 ry131 (i := 4) (by decide) (by decide)) (fun v132 ev132 bv132 dv132 => ?_)
                    refine xi_iaload (pc' := 8) (v := v132) kc_12_7 rfl A131 (by decide) rfl (xi_in (by decide) (by rw [hy131]; decide)) ev132 ?_
                    refine xi_iconst (pc' := 9) (v := 1) kc_12_8 rfl rfl ?_
                    refine xcps2 (α := Int32) ((v132 : Int32) + 1) (fun v133 ev133 => ?_)
                    have rv133 := xc_rng v133
                    refine xi_iadd (pc' := 10) (v := v133) kc_12_9 rfl ev133 ?_
                    refine xcps4 (xj_set (v := v133) hy131 ry131 4 (by first | omega | decide) (by first | omega | decide)) (fun y134 s134 hy134 ry134 => ?_)
                    refine xi_iastore (pc' := 11) (x' := y134) kc_12_10 rfl A131 rfl (xi_in (by decide) (by rw [hy131]; decide)) s134 (fun hh134 eh134 => ?_)
                    have K135 := xk_pa K17 (xk_wa rfl) xD_140 hy134 ry134 eh134
                    refine xi_iload_n (pc' := 12) (x := (-4)) kc_12_11 rfl rfl ?_
                    refine xi_ireturn kc_12_12 mr_12 rfl ?_
                    show xw J ov (d + 3) 32 (79, [(0, .ref 115), (1, .int x1), (2, .int x2), (3, .int x3), (4, .int x4)], [.int (-4)], hh134) _
                    refine xi_ireturn kc_32_79 mr_32 rfl ?_
                    have zcm4 : ((-4) : Int32).toInt = (-4) := by decide
                    exact kk (-4) hh134 (by omega) K135
                  · refine xi_cmf (pc' := 68) kc_32_65 rfl (xc_lt_f (X := x3.toInt) (Y := 1) rfl (by decide) (by omega)) ?_
                    refine xi_iload (pc' := 70) (x := x4) kc_32_68 rfl rfl ?_
                    by_cases c136 : 0 ≤ x4.toInt
                    · refine xi_ift (pc' := 80) kc_32_70 rfl (xc_ge_t (X := x4.toInt) (Y := 0) rfl (by decide) (by omega)) ?_
                      refine xi_iload_n (pc' := 81) (x := x3) kc_32_80 rfl rfl ?_
                      refine xi_bipush (pc' := 83) (v := 99) kc_32_81 rfl rfl ?_
                      by_cases c137 : 99 < x3.toInt
                      · refine xi_cmt (pc' := 103) kc_32_83 rfl (xc_gt_t (X := x3.toInt) (Y := 99) rfl (by decide) (by omega)) ?_
                        refine xi_aload_n (pc' := 104) (x := 115) kc_32_103 rfl rfl ?_
                        refine xi_bipush (pc' := 106) (v := (-6)) kc_32_104 rfl rfl ?_
                        refine xi_virtual (mj := 12) (as := [.int (-6)]) (st1 := []) (lv0 := [(0, .ref 115), (1, .int (-6))]) kc_32_106 rfl rfl rfl rfl rfl eh15.1 (Nat.le_of_ble_eq_true rfl) (hJ _ _ _ _ (by decide)) (xm_le ml_12 rfl) rfl ?_
                        refine xi_aload_n (pc' := 1) (x := 115) kc_12_0 rfl rfl ?_
                        refine xi_getfield (pc' := 4) (v := .ref 140) kc_12_1 rfl rfl rfl eh15.1 rfl ?_
                        refine xi_iload_n (pc' := 5) (x := (-6)) kc_12_4 rfl rfl ?_
                        refine xi_ineg (pc' := 6) (v := 6) kc_12_5 rfl rfl ?_
                        refine xi_dup2 (pc' := 7) kc_12_6 rfl ⟨rfl, rfl⟩ ?_
                        refine xcps4 (xk_arr K17.1 xD_140) (fun y138 A138 hy138 ry138 => ?_)
                        refine xcps4 (xj_get hy138 ry138 (i := 6) (by decide) (by decide)) (fun v139 ev139 bv139 dv139 => ?_)
                        refine xi_iaload (pc' := 8) (v := v139) kc_12_7 rfl A138 (by decide) rfl (xi_in (by decide) (by rw [hy138]; decide)) ev139 ?_
                        refine xi_iconst (pc' := 9) (v := 1) kc_12_8 rfl rfl ?_
                        refine xcps2 (α := Int32) ((v139 : Int32) + 1) (fun v140 ev140 => ?_)
                        have rv140 := xc_rng v140
                        refine xi_iadd (pc' := 10) (v := v140) kc_12_9 rfl ev140 ?_
                        refine xcps4 (xj_set (v := v140) hy138 ry138 6 (by first | omega | decide) (by first | omega | decide)) (fun y141 s141 hy141 ry141 => ?_)
                        refine xi_iastore (pc' := 11) (x' := y141) kc_12_10 rfl A138 rfl (xi_in (by decide) (by rw [hy138]; decide)) s141 (fun hh141 eh141 => ?_)
                        have K142 := xk_pa K17 (xk_wa rfl) xD_140 hy141 ry141 eh141
                        refine xi_iload_n (pc' := 12) (x := (-6)) kc_12_11 rfl rfl ?_
                        refine xi_ireturn kc_12_12 mr_12 rfl ?_
                        show xw J ov (d + 3) 32 (109, [(0, .ref 115), (1, .int x1), (2, .int x2), (3, .int x3), (4, .int x4)], [.int (-6)], hh141) _
                        refine xi_ireturn kc_32_109 mr_32 rfl ?_
                        have zcm6 : ((-6) : Int32).toInt = (-6) := by decide
                        exact kk (-6) hh141 (by omega) K142
                      · refine xi_cmf (pc' := 86) kc_32_83 rfl (xc_gt_f (X := x3.toInt) (Y := 99) rfl (by decide) (by omega)) ?_
                        refine xi_iload (pc' := 88) (x := x4) kc_32_86 rfl rfl ?_
                        refine xi_sipush (pc' := 91) (v := 600) kc_32_88 rfl rfl ?_
                        by_cases c143 : 600 < x4.toInt
                        · refine xi_cmt (pc' := 103) kc_32_91 rfl (xc_gt_t (X := x4.toInt) (Y := 600) rfl (by decide) (by omega)) ?_
                          refine xi_aload_n (pc' := 104) (x := 115) kc_32_103 rfl rfl ?_
                          refine xi_bipush (pc' := 106) (v := (-6)) kc_32_104 rfl rfl ?_
                          refine xi_virtual (mj := 12) (as := [.int (-6)]) (st1 := []) (lv0 := [(0, .ref 115), (1, .int (-6))]) kc_32_106 rfl rfl rfl rfl rfl eh15.1 (Nat.le_of_ble_eq_true rfl) (hJ _ _ _ _ (by decide)) (xm_le ml_12 rfl) rfl ?_
                          refine xi_aload_n (pc' := 1) (x := 115) kc_12_0 rfl rfl ?_
                          refine xi_getfield (pc' := 4) (v := .ref 140) kc_12_1 rfl rfl rfl eh15.1 rfl ?_
                          refine xi_iload_n (pc' := 5) (x := (-6)) kc_12_4 rfl rfl ?_
                          refine xi_ineg (pc' := 6) (v := 6) kc_12_5 rfl rfl ?_
                          refine xi_dup2 (pc' := 7) kc_12_6 rfl ⟨rfl, rfl⟩ ?_
                          refine xcps4 (xk_arr K17.1 xD_140) (fun y144 A144 hy144 ry144 => ?_)
                          refine xcps4 (xj_get hy144 ry144 (i := 6) (by decide) (by decide)) (fun v145 ev145 bv145 dv145 => ?_)
                          refine xi_iaload (pc' := 8) (v := v145) kc_12_7 rfl A144 (by decide) rfl (xi_in (by decide) (by rw [hy144]; decide)) ev145 ?_
                          refine xi_iconst (pc' := 9) (v := 1) kc_12_8 rfl rfl ?_
                          refine xcps2 (α := Int32) ((v145 : Int32) + 1) (fun v146 ev146 => ?_)
                          have rv146 := xc_rng v146
                          refine xi_iadd (pc' := 10) (v := v146) kc_12_9 rfl ev146 ?_
                          refine xcps4 (xj_set (v := v146) hy144 ry144 6 (by first | omega | decide) (by first | omega | decide)) (fun y147 s147 hy147 ry147 => ?_)
                          refine xi_iastore (pc' := 11) (x' := y147) kc_12_10 rfl A144 rfl (xi_in (by decide) (by rw [hy144]; decide)) s147 (fun hh147 eh147 => ?_)
                          have K148 := xk_pa K17 (xk_wa rfl) xD_140 hy147 ry147 eh147
                          refine xi_iload_n (pc' := 12) (x := (-6)) kc_12_11 rfl rfl ?_
                          refine xi_ireturn kc_12_12 mr_12 rfl ?_
                          show xw J ov (d + 3) 32 (109, [(0, .ref 115), (1, .int x1), (2, .int x2), (3, .int x3), (4, .int x4)], [.int (-6)], hh147) _
                          refine xi_ireturn kc_32_109 mr_32 rfl ?_
                          have zcm6 : ((-6) : Int32).toInt = (-6) := by decide
                          exact kk (-6) hh147 (by omega) K148
                        · refine xi_cmf (pc' := 94) kc_32_91 rfl (xc_gt_f (X := x4.toInt) (Y := 600) rfl (by decide) (by omega)) ?_
                          refine xi_aload_n (pc' := 95) (x := 115) kc_32_94 rfl rfl ?_
                          refine xi_getfield (pc' := 98) (v := .int u5) kc_32_95 rfl rfl rfl eh15.1 rfl ?_
                          refine xi_bipush (pc' := 100) (v := 10) kc_32_98 rfl rfl ?_
                          by_cases c149 : u5.toInt = 10
                          · refine xi_cmf (pc' := 103) kc_32_100 rfl (xc_ne_f (X := u5.toInt) (Y := 10) rfl (by decide) (by omega)) ?_
                            refine xi_aload_n (pc' := 104) (x := 115) kc_32_103 rfl rfl ?_
                            refine xi_bipush (pc' := 106) (v := (-6)) kc_32_104 rfl rfl ?_
                            refine xi_virtual (mj := 12) (as := [.int (-6)]) (st1 := []) (lv0 := [(0, .ref 115), (1, .int (-6))]) kc_32_106 rfl rfl rfl rfl rfl eh15.1 (Nat.le_of_ble_eq_true rfl) (hJ _ _ _ _ (by decide)) (xm_le ml_12 rfl) rfl ?_
                            refine xi_aload_n (pc' := 1) (x := 115) kc_12_0 rfl rfl ?_
                            refine xi_getfield (pc' := 4) (v := .ref 140) kc_12_1 rfl rfl rfl eh15.1 rfl ?_
                            refine xi_iload_n (pc' := 5) (x := (-6)) kc_12_4 rfl rfl ?_
                            refine xi_ineg (pc' := 6) (v := 6) kc_12_5 rfl rfl ?_
                            refine xi_dup2 (pc' := 7) kc_12_6 rfl ⟨rfl, rfl⟩ ?_
                            refine xcps4 (xk_arr K17.1 xD_140) (fun y150 A150 hy150 ry150 => ?_)
                            refine xcps4 (xj_get hy150 ry150 (i := 6) (by decide) (by decide)) (fun v151 ev151 bv151 dv151 => ?_)
                            refine xi_iaload (pc' := 8) (v := v151) kc_12_7 rfl A150 (by decide) rfl (xi_in (by decide) (by rw [hy150]; decide)) ev151 ?_
                            refine xi_iconst (pc' := 9) (v := 1) kc_12_8 rfl rfl ?_
                            refine xcps2 (α := Int32) ((v151 : Int32) + 1) (fun v152 ev152 => ?_)
                            have rv152 := xc_rng v152
                            refine xi_iadd (pc' := 10) (v := v152) kc_12_9 rfl ev152 ?_
                            refine xcps4 (xj_set (v := v152) hy150 ry150 6 (by first | omega | decide) (by first | omega | decide)) (fun y153 s153 hy153 ry153 => ?_)
                            refine xi_iastore (pc' := 11) (x' := y153) kc_12_10 rfl A150 rfl (xi_in (by decide) (by rw [hy150]; decide)) s153 (fun hh153 eh153 => ?_)
                            have K154 := xk_pa K17 (xk_wa rfl) xD_140 hy153 ry153 eh153
                            refine xi_iload_n (pc' := 12) (x := (-6)) kc_12_11 rfl rfl ?_
                            refine xi_ireturn kc_12_12 mr_12 rfl ?_
                            show xw J ov (d + 3) 32 (109, [(0, .ref 115), (1, .int x1), (2, .int x2), (3, .int x3), (4, .int x4)], [.int (-6)], hh153) _
                            refine xi_ireturn kc_32_109 mr_32 rfl ?_
                            have zcm6 : ((-6) : Int32).toInt = (-6) := by decide
                            exact kk (-6) hh153 (by omega) K154
                          · refine xi_cmt (pc' := 110) kc_32_100 rfl (xc_ne_t (X := u5.toInt) (Y := 10) rfl (by decide) (by omega)) ?_
                            refine xi_aload_n (pc' := 111) (x := 115) kc_32_110 rfl rfl ?_
                            refine xi_getfield (pc' := 114) (v := .ref 135) kc_32_111 rfl rfl rfl eh15.1 rfl ?_
                            refine xi_aload_n (pc' := 115) (x := 115) kc_32_114 rfl rfl ?_
                            refine xi_getfield (pc' := 118) (v := .int u5) kc_32_115 rfl rfl rfl eh15.1 rfl ?_
                            refine xi_iload_n (pc' := 119) (x := x1) kc_32_118 rfl rfl ?_
                            refine xcps4 (xk_arr K17.1 xD_135) (fun y155 A155 hy155 ry155 => ?_)
                            refine xcps4 (xj_set (v := x1) hy155 ry155 u5 (by first | omega | decide) (by first | omega | decide)) (fun y156 s156 hy156 ry156 => ?_)
                            refine xi_iastore (pc' := 120) (x' := y156) kc_32_119 rfl A155 rfl (xi_in (by omega) (by rw [hy155]; omega)) s156 (fun hh156 eh156 => ?_)
                            have K157 := xk_pa K17 (xk_wa rfl) xD_135 hy156 ry156 eh156
                            refine xi_aload_n (pc' := 121) (x := 115) kc_32_120 rfl rfl ?_
                            have A158 := ((eh156.2.1 115 (by decide)).trans eh15.1)
                            refine xi_getfield (pc' := 124) (v := .ref 136) kc_32_121 rfl rfl rfl A158 rfl ?_
                            refine xi_aload_n (pc' := 125) (x := 115) kc_32_124 rfl rfl ?_
                            refine xi_getfield (pc' := 128) (v := .int u5) kc_32_125 rfl rfl rfl A158 rfl ?_
                            refine xi_iload_n (pc' := 129) (x := x2) kc_32_128 rfl rfl ?_
                            refine xcps4 (xk_arr K157.1 xD_136) (fun y159 A159 hy159 ry159 => ?_)
                            refine xcps4 (xj_set (v := x2) hy159 ry159 u5 (by first | omega | decide) (by first | omega | decide)) (fun y160 s160 hy160 ry160 => ?_)
                            refine xi_iastore (pc' := 130) (x' := y160) kc_32_129 rfl A159 rfl (xi_in (by omega) (by rw [hy159]; omega)) s160 (fun hh160 eh160 => ?_)
                            have K161 := xk_pa K157 (xk_wa rfl) xD_136 hy160 ry160 eh160
                            refine xi_aload_n (pc' := 131) (x := 115) kc_32_130 rfl rfl ?_
                            have A162 := ((eh160.2.1 115 (by decide)).trans A158)
                            refine xi_getfield (pc' := 134) (v := .ref 137) kc_32_131 rfl rfl rfl A162 rfl ?_
                            refine xi_aload_n (pc' := 135) (x := 115) kc_32_134 rfl rfl ?_
                            refine xi_getfield (pc' := 138) (v := .int u5) kc_32_135 rfl rfl rfl A162 rfl ?_
                            refine xi_iload_n (pc' := 139) (x := x3) kc_32_138 rfl rfl ?_
                            refine xcps4 (xk_arr K161.1 xD_137) (fun y163 A163 hy163 ry163 => ?_)
                            refine xcps4 (xj_set (v := x3) hy163 ry163 u5 (by first | omega | decide) (by first | omega | decide)) (fun y164 s164 hy164 ry164 => ?_)
                            refine xi_iastore (pc' := 140) (x' := y164) kc_32_139 rfl A163 rfl (xi_in (by omega) (by rw [hy163]; omega)) s164 (fun hh164 eh164 => ?_)
                            have K165 := xk_pa K161 (xk_wa rfl) xD_137 hy164 ry164 eh164
                            refine xi_aload_n (pc' := 141) (x := 115) kc_32_140 rfl rfl ?_
                            have A166 := ((eh164.2.1 115 (by decide)).trans A162)
                            refine xi_getfield (pc' := 144) (v := .ref 138) kc_32_141 rfl rfl rfl A166 rfl ?_
                            refine xi_aload_n (pc' := 145) (x := 115) kc_32_144 rfl rfl ?_
                            refine xi_getfield (pc' := 148) (v := .int u5) kc_32_145 rfl rfl rfl A166 rfl ?_
                            refine xi_iload (pc' := 150) (x := x4) kc_32_148 rfl rfl ?_
                            refine xcps4 (xk_arr K165.1 xD_138) (fun y167 A167 hy167 ry167 => ?_)
                            refine xcps4 (xj_set (v := x4) hy167 ry167 u5 (by first | omega | decide) (by first | omega | decide)) (fun y168 s168 hy168 ry168 => ?_)
                            refine xi_iastore (pc' := 151) (x' := y168) kc_32_150 rfl A167 rfl (xi_in (by omega) (by rw [hy167]; omega)) s168 (fun hh168 eh168 => ?_)
                            have K169 := xk_pa K165 (xk_wa rfl) xD_138 hy168 ry168 eh168
                            refine xi_aload_n (pc' := 152) (x := 115) kc_32_151 rfl rfl ?_
                            have A170 := ((eh168.2.1 115 (by decide)).trans A166)
                            refine xi_getfield (pc' := 155) (v := .ref 139) kc_32_152 rfl rfl rfl A170 rfl ?_
                            refine xi_aload_n (pc' := 156) (x := 115) kc_32_155 rfl rfl ?_
                            refine xi_getfield (pc' := 159) (v := .int u5) kc_32_156 rfl rfl rfl A170 rfl ?_
                            refine xi_iconst (pc' := 160) (v := 0) kc_32_159 rfl rfl ?_
                            refine xcps4 (xk_arr K169.1 xD_139) (fun y171 A171 hy171 ry171 => ?_)
                            refine xcps4 (xj_set (v := 0) hy171 ry171 u5 (by first | omega | decide) (by first | omega | decide)) (fun y172 s172 hy172 ry172 => ?_)
                            refine xi_bastore (pc' := 161) (x' := y172) kc_32_160 rfl A171 rfl (xi_in (by omega) (by rw [hy171]; omega)) s172 (fun hh172 eh172 => ?_)
                            have K173 := xk_pa K169 (xk_wa rfl) xD_139 hy172 ry172 eh172
                            refine xi_aload_n (pc' := 162) (x := 115) kc_32_161 rfl rfl ?_
                            refine xi_dup (pc' := 163) kc_32_162 rfl rfl ?_
                            have A174 := ((eh172.2.1 115 (by decide)).trans A170)
                            refine xi_getfield (pc' := 166) (v := .int u5) kc_32_163 rfl rfl rfl A174 rfl ?_
                            refine xi_iconst (pc' := 167) (v := 1) kc_32_166 rfl rfl ?_
                            refine xcps2 (α := Int32) (u5 + 1) (fun v175 ev175 => ?_)
                            have zv175 : v175.toInt = (u5.toInt + 1) := by rw [← ev175]; exact (xz_add (X := u5.toInt) (Y := 1) rfl (by decide) (by omega) (by omega)).trans (by omega)
                            refine xi_iadd (pc' := 168) (v := v175) kc_32_167 rfl ev175 ?_
                            refine xi_putfield (pc' := 171) (fs' := [.int 0, .int u2, .ref 116, .ref 117, .ref 118, .ref 119, .ref 120, .ref 121, .ref 122, .ref 123, .ref 124, .ref 125, .ref 126, .ref 127, .ref 128, .ref 129, .int u3, .ref 130, .int u4, .ref 131, .ref 132, .ref 133, .ref 134, .int v175, .ref 135, .ref 136, .ref 137, .ref 138, .ref 139, .ref 140, .ref 141, .ref 142, .int u6, .int u7, .int u8, .ref 143, .ref 144, .ref 145, .ref 146, .ref 147, .ref 148, .int u9, .ref 149, .ref 150, .ref 151, .int u10, .ref 152, .ref 153, .ref 154, .ref 155, .ref 156, .ref 157, .ref 158, .ref 159, .int u11, .ref 160, .int u12, .ref 161, .ref 162, .ref 163, .ref 164, .int u13, .ref 165, .ref 166]) kc_32_168 rfl rfl rfl A174 rfl rfl rfl (Nat.le_of_ble_eq_true rfl) rfl (fun hh177 eh176 => ?_)
                            have K178 := xk_pf (k := 23) (v := v175) K173 (xk_wf rfl) xD_115 A174 rfl (by first | omega | decide) (by first | omega | decide) eh176 rfl
                            refine xi_aload_n (pc' := 172) (x := 115) kc_32_171 rfl rfl ?_
                            refine xi_iconst (pc' := 173) (v := 0) kc_32_172 rfl rfl ?_
                            refine xi_putfield (pc' := 176) (fs' := [.int 0, .int u2, .ref 116, .ref 117, .ref 118, .ref 119, .ref 120, .ref 121, .ref 122, .ref 123, .ref 124, .ref 125, .ref 126, .ref 127, .ref 128, .ref 129, .int u3, .ref 130, .int u4, .ref 131, .ref 132, .ref 133, .ref 134, .int v175, .ref 135, .ref 136, .ref 137, .ref 138, .ref 139, .ref 140, .ref 141, .ref 142, .int u6, .int u7, .int u8, .ref 143, .ref 144, .ref 145, .ref 146, .ref 147, .ref 148, .int 0, .ref 149, .ref 150, .ref 151, .int u10, .ref 152, .ref 153, .ref 154, .ref 155, .ref 156, .ref 157, .ref 158, .ref 159, .int u11, .ref 160, .int u12, .ref 161, .ref 162, .ref 163, .ref 164, .int u13, .ref 165, .ref 166]) kc_32_173 rfl rfl rfl eh176.1 rfl rfl rfl (Nat.le_of_ble_eq_true rfl) rfl (fun hh180 eh179 => ?_)
                            have K181 := xk_pf (k := 41) (v := 0) K178 (xk_wf rfl) xD_115 eh176.1 rfl (by first | omega | decide) (by first | omega | decide) eh179 rfl
                            refine xi_aload_n (pc' := 177) (x := 115) kc_32_176 rfl rfl ?_
                            refine xi_getfield (pc' := 180) (v := .int v175) kc_32_177 rfl rfl rfl eh179.1 rfl ?_
                            refine xi_iconst (pc' := 181) (v := 1) kc_32_180 rfl rfl ?_
                            refine xcps2 (α := Int32) (v175 - 1) (fun v182 ev182 => ?_)
                            have zv182 : v182.toInt = u5.toInt := by rw [← ev182]; exact (xz_sub (X := (u5.toInt + 1)) (Y := 1) zv175 (by decide) (by omega) (by omega)).trans (by omega)
                            refine xi_isub (pc' := 182) (v := v182) kc_32_181 rfl ev182 ?_
                            refine xi_ireturn kc_32_182 mr_32 rfl ?_
                            exact kk v182 hh180 (by omega) K181
                    · refine xi_iff (pc' := 73) kc_32_70 rfl (xc_ge_f (X := x4.toInt) (Y := 0) rfl (by decide) (by omega)) ?_
                      refine xi_aload_n (pc' := 74) (x := 115) kc_32_73 rfl rfl ?_
                      refine xi_bipush (pc' := 76) (v := (-4)) kc_32_74 rfl rfl ?_
                      refine xi_virtual (mj := 12) (as := [.int (-4)]) (st1 := []) (lv0 := [(0, .ref 115), (1, .int (-4))]) kc_32_76 rfl rfl rfl rfl rfl eh15.1 (Nat.le_of_ble_eq_true rfl) (hJ _ _ _ _ (by decide)) (xm_le ml_12 rfl) rfl ?_
                      refine xi_aload_n (pc' := 1) (x := 115) kc_12_0 rfl rfl ?_
                      refine xi_getfield (pc' := 4) (v := .ref 140) kc_12_1 rfl rfl rfl eh15.1 rfl ?_
                      refine xi_iload_n (pc' := 5) (x := (-4)) kc_12_4 rfl rfl ?_
                      refine xi_ineg (pc' := 6) (v := 4) kc_12_5 rfl rfl ?_
                      refine xi_dup2 (pc' := 7) kc_12_6 rfl ⟨rfl, rfl⟩ ?_
                      refine xcps4 (xk_arr K17.1 xD_140) (fun y183 A183 hy183 ry183 => ?_)
                      refine xcps4 (xj_get hy183 ry183 (i := 4) (by decide) (by decide)) (fun v184 ev184 bv184 dv184 => ?_)
                      refine xi_iaload (pc' := 8) (v := v184) kc_12_7 rfl A183 (by decide) rfl (xi_in (by decide) (by rw [hy183]; decide)) ev184 ?_
                      refine xi_iconst (pc' := 9) (v := 1) kc_12_8 rfl rfl ?_
                      refine xcps2 (α := Int32) ((v184 : Int32) + 1) (fun v185 ev185 => ?_)
                      have rv185 := xc_rng v185
                      refine xi_iadd (pc' := 10) (v := v185) kc_12_9 rfl ev185 ?_
                      refine xcps4 (xj_set (v := v185) hy183 ry183 4 (by first | omega | decide) (by first | omega | decide)) (fun y186 s186 hy186 ry186 => ?_)
                      refine xi_iastore (pc' := 11) (x' := y186) kc_12_10 rfl A183 rfl (xi_in (by decide) (by rw [hy183]; decide)) s186 (fun hh186 eh186 => ?_)
                      have K187 := xk_pa K17 (xk_wa rfl) xD_140 hy186 ry186 eh186
                      refine xi_iload_n (pc' := 12) (x := (-4)) kc_12_11 rfl rfl ?_
                      refine xi_ireturn kc_12_12 mr_12 rfl ?_
                      show xw J ov (d + 3) 32 (79, [(0, .ref 115), (1, .int x1), (2, .int x2), (3, .int x3), (4, .int x4)], [.int (-4)], hh186) _
                      refine xi_ireturn kc_32_79 mr_32 rfl ?_
                      have zcm4 : ((-4) : Int32).toInt = (-4) := by decide
                      exact kk (-4) hh186 (by omega) K187
              · refine xi_ift (pc' := 63) kc_32_45 rfl (xc_ne_t (X := x1.toInt) (Y := 0) rfl (by decide) (by omega)) ?_
                refine xi_iload_n (pc' := 64) (x := x3) kc_32_63 rfl rfl ?_
                refine xi_iconst (pc' := 65) (v := 1) kc_32_64 rfl rfl ?_
                by_cases c188 : x3.toInt < 1
                · refine xi_cmt (pc' := 73) kc_32_65 rfl (xc_lt_t (X := x3.toInt) (Y := 1) rfl (by decide) (by omega)) ?_
                  refine xi_aload_n (pc' := 74) (x := 115) kc_32_73 rfl rfl ?_
                  refine xi_bipush (pc' := 76) (v := (-4)) kc_32_74 rfl rfl ?_
                  refine xi_virtual (mj := 12) (as := [.int (-4)]) (st1 := []) (lv0 := [(0, .ref 115), (1, .int (-4))]) kc_32_76 rfl rfl rfl rfl rfl eh15.1 (Nat.le_of_ble_eq_true rfl) (hJ _ _ _ _ (by decide)) (xm_le ml_12 rfl) rfl ?_
                  refine xi_aload_n (pc' := 1) (x := 115) kc_12_0 rfl rfl ?_
                  refine xi_getfield (pc' := 4) (v := .ref 140) kc_12_1 rfl rfl rfl eh15.1 rfl ?_
                  refine xi_iload_n (pc' := 5) (x := (-4)) kc_12_4 rfl rfl ?_
                  refine xi_ineg (pc' := 6) (v := 4) kc_12_5 rfl rfl ?_
                  refine xi_dup2 (pc' := 7) kc_12_6 rfl ⟨rfl, rfl⟩ ?_
                  refine xcps4 (xk_arr K17.1 xD_140) (fun y189 A189 hy189 ry189 => ?_)
                  refine xcps4 (xj_get hy189 ry189 (i := 4) (by decide) (by decide)) (fun v190 ev190 bv190 dv190 => ?_)
                  refine xi_iaload (pc' := 8) (v := v190) kc_12_7 rfl A189 (by decide) rfl (xi_in (by decide) (by rw [hy189]; decide)) ev190 ?_
                  refine xi_iconst (pc' := 9) (v := 1) kc_12_8 rfl rfl ?_
                  refine xcps2 (α := Int32) ((v190 : Int32) + 1) (fun v191 ev191 => ?_)
                  have rv191 := xc_rng v191
                  refine xi_iadd (pc' := 10) (v := v191) kc_12_9 rfl ev191 ?_
                  refine xcps4 (xj_set (v := v191) hy189 ry189 4 (by first | omega | decide) (by first | omega | decide)) (fun y192 s192 hy192 ry192 => ?_)
                  refine xi_iastore (pc' := 11) (x' := y192) kc_12_10 rfl A189 rfl (xi_in (by decide) (by rw [hy189]; decide)) s192 (fun hh192 eh192 => ?_)
                  have K193 := xk_pa K17 (xk_wa rfl) xD_140 hy192 ry192 eh192
                  refine xi_iload_n (pc' := 12) (x := (-4)) kc_12_11 rfl rfl ?_
                  refine xi_ireturn kc_12_12 mr_12 rfl ?_
                  show xw J ov (d + 3) 32 (79, [(0, .ref 115), (1, .int x1), (2, .int x2), (3, .int x3), (4, .int x4)], [.int (-4)], hh192) _
                  refine xi_ireturn kc_32_79 mr_32 rfl ?_
                  have zcm4 : ((-4) : Int32).toInt = (-4) := by decide
                  exact kk (-4) hh192 (by omega) K193
                · refine xi_cmf (pc' := 68) kc_32_65 rfl (xc_lt_f (X := x3.toInt) (Y := 1) rfl (by decide) (by omega)) ?_
                  refine xi_iload (pc' := 70) (x := x4) kc_32_68 rfl rfl ?_
                  by_cases c194 : 0 ≤ x4.toInt
                  · refine xi_ift (pc' := 80) kc_32_70 rfl (xc_ge_t (X := x4.toInt) (Y := 0) rfl (by decide) (by omega)) ?_
                    refine xi_iload_n (pc' := 81) (x := x3) kc_32_80 rfl rfl ?_
                    refine xi_bipush (pc' := 83) (v := 99) kc_32_81 rfl rfl ?_
                    by_cases c195 : 99 < x3.toInt
                    · refine xi_cmt (pc' := 103) kc_32_83 rfl (xc_gt_t (X := x3.toInt) (Y := 99) rfl (by decide) (by omega)) ?_
                      refine xi_aload_n (pc' := 104) (x := 115) kc_32_103 rfl rfl ?_
                      refine xi_bipush (pc' := 106) (v := (-6)) kc_32_104 rfl rfl ?_
                      refine xi_virtual (mj := 12) (as := [.int (-6)]) (st1 := []) (lv0 := [(0, .ref 115), (1, .int (-6))]) kc_32_106 rfl rfl rfl rfl rfl eh15.1 (Nat.le_of_ble_eq_true rfl) (hJ _ _ _ _ (by decide)) (xm_le ml_12 rfl) rfl ?_
                      refine xi_aload_n (pc' := 1) (x := 115) kc_12_0 rfl rfl ?_
                      refine xi_getfield (pc' := 4) (v := .ref 140) kc_12_1 rfl rfl rfl eh15.1 rfl ?_
                      refine xi_iload_n (pc' := 5) (x := (-6)) kc_12_4 rfl rfl ?_
                      refine xi_ineg (pc' := 6) (v := 6) kc_12_5 rfl rfl ?_
                      refine xi_dup2 (pc' := 7) kc_12_6 rfl ⟨rfl, rfl⟩ ?_
                      refine xcps4 (xk_arr K17.1 xD_140) (fun y196 A196 hy196 ry196 => ?_)
                      refine xcps4 (xj_get hy196 ry196 (i := 6) (by decide) (by decide)) (fun v197 ev197 bv197 dv197 => ?_)
                      refine xi_iaload (pc' := 8) (v := v197) kc_12_7 rfl A196 (by decide) rfl (xi_in (by decide) (by rw [hy196]; decide)) ev197 ?_
                      refine xi_iconst (pc' := 9) (v := 1) kc_12_8 rfl rfl ?_
                      refine xcps2 (α := Int32) ((v197 : Int32) + 1) (fun v198 ev198 => ?_)
                      have rv198 := xc_rng v198
                      refine xi_iadd (pc' := 10) (v := v198) kc_12_9 rfl ev198 ?_
                      refine xcps4 (xj_set (v := v198) hy196 ry196 6 (by first | omega | decide) (by first | omega | decide)) (fun y199 s199 hy199 ry199 => ?_)
                      refine xi_iastore (pc' := 11) (x' := y199) kc_12_10 rfl A196 rfl (xi_in (by decide) (by rw [hy196]; decide)) s199 (fun hh199 eh199 => ?_)
                      have K200 := xk_pa K17 (xk_wa rfl) xD_140 hy199 ry199 eh199
                      refine xi_iload_n (pc' := 12) (x := (-6)) kc_12_11 rfl rfl ?_
                      refine xi_ireturn kc_12_12 mr_12 rfl ?_
                      show xw J ov (d + 3) 32 (109, [(0, .ref 115), (1, .int x1), (2, .int x2), (3, .int x3), (4, .int x4)], [.int (-6)], hh199) _
                      refine xi_ireturn kc_32_109 mr_32 rfl ?_
                      have zcm6 : ((-6) : Int32).toInt = (-6) := by decide
                      exact kk (-6) hh199 (by omega) K200
                    · refine xi_cmf (pc' := 86) kc_32_83 rfl (xc_gt_f (X := x3.toInt) (Y := 99) rfl (by decide) (by omega)) ?_
                      refine xi_iload (pc' := 88) (x := x4) kc_32_86 rfl rfl ?_
                      refine xi_sipush (pc' := 91) (v := 600) kc_32_88 rfl rfl ?_
                      by_cases c201 : 600 < x4.toInt
                      · refine xi_cmt (pc' := 103) kc_32_91 rfl (xc_gt_t (X := x4.toInt) (Y := 600) rfl (by decide) (by omega)) ?_
                        refine xi_aload_n (pc' := 104) (x := 115) kc_32_103 rfl rfl ?_
                        refine xi_bipush (pc' := 106) (v := (-6)) kc_32_104 rfl rfl ?_
                        refine xi_virtual (mj := 12) (as := [.int (-6)]) (st1 := []) (lv0 := [(0, .ref 115), (1, .int (-6))]) kc_32_106 rfl rfl rfl rfl rfl eh15.1 (Nat.le_of_ble_eq_true rfl) (hJ _ _ _ _ (by decide)) (xm_le ml_12 rfl) rfl ?_
                        refine xi_aload_n (pc' := 1) (x := 115) kc_12_0 rfl rfl ?_
                        refine xi_getfield (pc' := 4) (v := .ref 140) kc_12_1 rfl rfl rfl eh15.1 rfl ?_
                        refine xi_iload_n (pc' := 5) (x := (-6)) kc_12_4 rfl rfl ?_
                        refine xi_ineg (pc' := 6) (v := 6) kc_12_5 rfl rfl ?_
                        refine xi_dup2 (pc' := 7) kc_12_6 rfl ⟨rfl, rfl⟩ ?_
                        refine xcps4 (xk_arr K17.1 xD_140) (fun y202 A202 hy202 ry202 => ?_)
                        refine xcps4 (xj_get hy202 ry202 (i := 6) (by decide) (by decide)) (fun v203 ev203 bv203 dv203 => ?_)
                        refine xi_iaload (pc' := 8) (v := v203) kc_12_7 rfl A202 (by decide) rfl (xi_in (by decide) (by rw [hy202]; decide)) ev203 ?_
                        refine xi_iconst (pc' := 9) (v := 1) kc_12_8 rfl rfl ?_
                        refine xcps2 (α := Int32) ((v203 : Int32) + 1) (fun v204 ev204 => ?_)
                        have rv204 := xc_rng v204
                        refine xi_iadd (pc' := 10) (v := v204) kc_12_9 rfl ev204 ?_
                        refine xcps4 (xj_set (v := v204) hy202 ry202 6 (by first | omega | decide) (by first | omega | decide)) (fun y205 s205 hy205 ry205 => ?_)
                        refine xi_iastore (pc' := 11) (x' := y205) kc_12_10 rfl A202 rfl (xi_in (by decide) (by rw [hy202]; decide)) s205 (fun hh205 eh205 => ?_)
                        have K206 := xk_pa K17 (xk_wa rfl) xD_140 hy205 ry205 eh205
                        refine xi_iload_n (pc' := 12) (x := (-6)) kc_12_11 rfl rfl ?_
                        refine xi_ireturn kc_12_12 mr_12 rfl ?_
                        show xw J ov (d + 3) 32 (109, [(0, .ref 115), (1, .int x1), (2, .int x2), (3, .int x3), (4, .int x4)], [.int (-6)], hh205) _
                        refine xi_ireturn kc_32_109 mr_32 rfl ?_
                        have zcm6 : ((-6) : Int32).toInt = (-6) := by decide
                        exact kk (-6) hh205 (by omega) K206
                      · refine xi_cmf (pc' := 94) kc_32_91 rfl (xc_gt_f (X := x4.toInt) (Y := 600) rfl (by decide) (by omega)) ?_
                        refine xi_aload_n (pc' := 95) (x := 115) kc_32_94 rfl rfl ?_
                        refine xi_getfield (pc' := 98) (v := .int u5) kc_32_95 rfl rfl rfl eh15.1 rfl ?_
                        refine xi_bipush (pc' := 100) (v := 10) kc_32_98 rfl rfl ?_
                        by_cases c207 : u5.toInt = 10
                        · refine xi_cmf (pc' := 103) kc_32_100 rfl (xc_ne_f (X := u5.toInt) (Y := 10) rfl (by decide) (by omega)) ?_
                          refine xi_aload_n (pc' := 104) (x := 115) kc_32_103 rfl rfl ?_
                          refine xi_bipush (pc' := 106) (v := (-6)) kc_32_104 rfl rfl ?_
                          refine xi_virtual (mj := 12) (as := [.int (-6)]) (st1 := []) (lv0 := [(0, .ref 115), (1, .int (-6))]) kc_32_106 rfl rfl rfl rfl rfl eh15.1 (Nat.le_of_ble_eq_true rfl) (hJ _ _ _ _ (by decide)) (xm_le ml_12 rfl) rfl ?_
                          refine xi_aload_n (pc' := 1) (x := 115) kc_12_0 rfl rfl ?_
                          refine xi_getfield (pc' := 4) (v := .ref 140) kc_12_1 rfl rfl rfl eh15.1 rfl ?_
                          refine xi_iload_n (pc' := 5) (x := (-6)) kc_12_4 rfl rfl ?_
                          refine xi_ineg (pc' := 6) (v := 6) kc_12_5 rfl rfl ?_
                          refine xi_dup2 (pc' := 7) kc_12_6 rfl ⟨rfl, rfl⟩ ?_
                          refine xcps4 (xk_arr K17.1 xD_140) (fun y208 A208 hy208 ry208 => ?_)
                          refine xcps4 (xj_get hy208 ry208 (i := 6) (by decide) (by decide)) (fun v209 ev209 bv209 dv209 => ?_)
                          refine xi_iaload (pc' := 8) (v := v209) kc_12_7 rfl A208 (by decide) rfl (xi_in (by decide) (by rw [hy208]; decide)) ev209 ?_
                          refine xi_iconst (pc' := 9) (v := 1) kc_12_8 rfl rfl ?_
                          refine xcps2 (α := Int32) ((v209 : Int32) + 1) (fun v210 ev210 => ?_)
                          have rv210 := xc_rng v210
                          refine xi_iadd (pc' := 10) (v := v210) kc_12_9 rfl ev210 ?_
                          refine xcps4 (xj_set (v := v210) hy208 ry208 6 (by first | omega | decide) (by first | omega | decide)) (fun y211 s211 hy211 ry211 => ?_)
                          refine xi_iastore (pc' := 11) (x' := y211) kc_12_10 rfl A208 rfl (xi_in (by decide) (by rw [hy208]; decide)) s211 (fun hh211 eh211 => ?_)
                          have K212 := xk_pa K17 (xk_wa rfl) xD_140 hy211 ry211 eh211
                          refine xi_iload_n (pc' := 12) (x := (-6)) kc_12_11 rfl rfl ?_
                          refine xi_ireturn kc_12_12 mr_12 rfl ?_
                          show xw J ov (d + 3) 32 (109, [(0, .ref 115), (1, .int x1), (2, .int x2), (3, .int x3), (4, .int x4)], [.int (-6)], hh211) _
                          refine xi_ireturn kc_32_109 mr_32 rfl ?_
                          have zcm6 : ((-6) : Int32).toInt = (-6) := by decide
                          exact kk (-6) hh211 (by omega) K212
                        · refine xi_cmt (pc' := 110) kc_32_100 rfl (xc_ne_t (X := u5.toInt) (Y := 10) rfl (by decide) (by omega)) ?_
                          refine xi_aload_n (pc' := 111) (x := 115) kc_32_110 rfl rfl ?_
                          refine xi_getfield (pc' := 114) (v := .ref 135) kc_32_111 rfl rfl rfl eh15.1 rfl ?_
                          refine xi_aload_n (pc' := 115) (x := 115) kc_32_114 rfl rfl ?_
                          refine xi_getfield (pc' := 118) (v := .int u5) kc_32_115 rfl rfl rfl eh15.1 rfl ?_
                          refine xi_iload_n (pc' := 119) (x := x1) kc_32_118 rfl rfl ?_
                          refine xcps4 (xk_arr K17.1 xD_135) (fun y213 A213 hy213 ry213 => ?_)
                          refine xcps4 (xj_set (v := x1) hy213 ry213 u5 (by first | omega | decide) (by first | omega | decide)) (fun y214 s214 hy214 ry214 => ?_)
                          refine xi_iastore (pc' := 120) (x' := y214) kc_32_119 rfl A213 rfl (xi_in (by omega) (by rw [hy213]; omega)) s214 (fun hh214 eh214 => ?_)
                          have K215 := xk_pa K17 (xk_wa rfl) xD_135 hy214 ry214 eh214
                          refine xi_aload_n (pc' := 121) (x := 115) kc_32_120 rfl rfl ?_
                          have A216 := ((eh214.2.1 115 (by decide)).trans eh15.1)
                          refine xi_getfield (pc' := 124) (v := .ref 136) kc_32_121 rfl rfl rfl A216 rfl ?_
                          refine xi_aload_n (pc' := 125) (x := 115) kc_32_124 rfl rfl ?_
                          refine xi_getfield (pc' := 128) (v := .int u5) kc_32_125 rfl rfl rfl A216 rfl ?_
                          refine xi_iload_n (pc' := 129) (x := x2) kc_32_128 rfl rfl ?_
                          refine xcps4 (xk_arr K215.1 xD_136) (fun y217 A217 hy217 ry217 => ?_)
                          refine xcps4 (xj_set (v := x2) hy217 ry217 u5 (by first | omega | decide) (by first | omega | decide)) (fun y218 s218 hy218 ry218 => ?_)
                          refine xi_iastore (pc' := 130) (x' := y218) kc_32_129 rfl A217 rfl (xi_in (by omega) (by rw [hy217]; omega)) s218 (fun hh218 eh218 => ?_)
                          have K219 := xk_pa K215 (xk_wa rfl) xD_136 hy218 ry218 eh218
                          refine xi_aload_n (pc' := 131) (x := 115) kc_32_130 rfl rfl ?_
                          have A220 := ((eh218.2.1 115 (by decide)).trans A216)
                          refine xi_getfield (pc' := 134) (v := .ref 137) kc_32_131 rfl rfl rfl A220 rfl ?_
                          refine xi_aload_n (pc' := 135) (x := 115) kc_32_134 rfl rfl ?_
                          refine xi_getfield (pc' := 138) (v := .int u5) kc_32_135 rfl rfl rfl A220 rfl ?_
                          refine xi_iload_n (pc' := 139) (x := x3) kc_32_138 rfl rfl ?_
                          refine xcps4 (xk_arr K219.1 xD_137) (fun y221 A221 hy221 ry221 => ?_)
                          refine xcps4 (xj_set (v := x3) hy221 ry221 u5 (by first | omega | decide) (by first | omega | decide)) (fun y222 s222 hy222 ry222 => ?_)
                          refine xi_iastore (pc' := 140) (x' := y222) kc_32_139 rfl A221 rfl (xi_in (by omega) (by rw [hy221]; omega)) s222 (fun hh222 eh222 => ?_)
                          have K223 := xk_pa K219 (xk_wa rfl) xD_137 hy222 ry222 eh222
                          refine xi_aload_n (pc' := 141) (x := 115) kc_32_140 rfl rfl ?_
                          have A224 := ((eh222.2.1 115 (by decide)).trans A220)
                          refine xi_getfield (pc' := 144) (v := .ref 138) kc_32_141 rfl rfl rfl A224 rfl ?_
                          refine xi_aload_n (pc' := 145) (x := 115) kc_32_144 rfl rfl ?_
                          refine xi_getfield (pc' := 148) (v := .int u5) kc_32_145 rfl rfl rfl A224 rfl ?_
                          refine xi_iload (pc' := 150) (x := x4) kc_32_148 rfl rfl ?_
                          refine xcps4 (xk_arr K223.1 xD_138) (fun y225 A225 hy225 ry225 => ?_)
                          refine xcps4 (xj_set (v := x4) hy225 ry225 u5 (by first | omega | decide) (by first | omega | decide)) (fun y226 s226 hy226 ry226 => ?_)
                          refine xi_iastore (pc' := 151) (x' := y226) kc_32_150 rfl A225 rfl (xi_in (by omega) (by rw [hy225]; omega)) s226 (fun hh226 eh226 => ?_)
                          have K227 := xk_pa K223 (xk_wa rfl) xD_138 hy226 ry226 eh226
                          refine xi_aload_n (pc' := 152) (x := 115) kc_32_151 rfl rfl ?_
                          have A228 := ((eh226.2.1 115 (by decide)).trans A224)
                          refine xi_getfield (pc' := 155) (v := .ref 139) kc_32_152 rfl rfl rfl A228 rfl ?_
                          refine xi_aload_n (pc' := 156) (x := 115) kc_32_155 rfl rfl ?_
                          refine xi_getfield (pc' := 159) (v := .int u5) kc_32_156 rfl rfl rfl A228 rfl ?_
                          refine xi_iconst (pc' := 160) (v := 0) kc_32_159 rfl rfl ?_
                          refine xcps4 (xk_arr K227.1 xD_139) (fun y229 A229 hy229 ry229 => ?_)
                          refine xcps4 (xj_set (v := 0) hy229 ry229 u5 (by first | omega | decide) (by first | omega | decide)) (fun y230 s230 hy230 ry230 => ?_)
                          refine xi_bastore (pc' := 161) (x' := y230) kc_32_160 rfl A229 rfl (xi_in (by omega) (by rw [hy229]; omega)) s230 (fun hh230 eh230 => ?_)
                          have K231 := xk_pa K227 (xk_wa rfl) xD_139 hy230 ry230 eh230
                          refine xi_aload_n (pc' := 162) (x := 115) kc_32_161 rfl rfl ?_
                          refine xi_dup (pc' := 163) kc_32_162 rfl rfl ?_
                          have A232 := ((eh230.2.1 115 (by decide)).trans A228)
                          refine xi_getfield (pc' := 166) (v := .int u5) kc_32_163 rfl rfl rfl A232 rfl ?_
                          refine xi_iconst (pc' := 167) (v := 1) kc_32_166 rfl rfl ?_
                          refine xcps2 (α := Int32) (u5 + 1) (fun v233 ev233 => ?_)
                          have zv233 : v233.toInt = (u5.toInt + 1) := by rw [← ev233]; exact (xz_add (X := u5.toInt) (Y := 1) rfl (by decide) (by omega) (by omega)).trans (by omega)
                          refine xi_iadd (pc' := 168) (v := v233) kc_32_167 rfl ev233 ?_
                          refine xi_putfield (pc' := 171) (fs' := [.int 0, .int u2, .ref 116, .ref 117, .ref 118, .ref 119, .ref 120, .ref 121, .ref 122, .ref 123, .ref 124, .ref 125, .ref 126, .ref 127, .ref 128, .ref 129, .int u3, .ref 130, .int u4, .ref 131, .ref 132, .ref 133, .ref 134, .int v233, .ref 135, .ref 136, .ref 137, .ref 138, .ref 139, .ref 140, .ref 141, .ref 142, .int u6, .int u7, .int u8, .ref 143, .ref 144, .ref 145, .ref 146, .ref 147, .ref 148, .int u9, .ref 149, .ref 150, .ref 151, .int u10, .ref 152, .ref 153, .ref 154, .ref 155, .ref 156, .ref 157, .ref 158, .ref 159, .int u11, .ref 160, .int u12, .ref 161, .ref 162, .ref 163, .ref 164, .int u13, .ref 165, .ref 166]) kc_32_168 rfl rfl rfl A232 rfl rfl rfl (Nat.le_of_ble_eq_true rfl) rfl (fun hh235 eh234 => ?_)
                          have K236 := xk_pf (k := 23) (v := v233) K231 (xk_wf rfl) xD_115 A232 rfl (by first | omega | decide) (by first | omega | decide) eh234 rfl
                          refine xi_aload_n (pc' := 172) (x := 115) kc_32_171 rfl rfl ?_
                          refine xi_iconst (pc' := 173) (v := 0) kc_32_172 rfl rfl ?_
                          refine xi_putfield (pc' := 176) (fs' := [.int 0, .int u2, .ref 116, .ref 117, .ref 118, .ref 119, .ref 120, .ref 121, .ref 122, .ref 123, .ref 124, .ref 125, .ref 126, .ref 127, .ref 128, .ref 129, .int u3, .ref 130, .int u4, .ref 131, .ref 132, .ref 133, .ref 134, .int v233, .ref 135, .ref 136, .ref 137, .ref 138, .ref 139, .ref 140, .ref 141, .ref 142, .int u6, .int u7, .int u8, .ref 143, .ref 144, .ref 145, .ref 146, .ref 147, .ref 148, .int 0, .ref 149, .ref 150, .ref 151, .int u10, .ref 152, .ref 153, .ref 154, .ref 155, .ref 156, .ref 157, .ref 158, .ref 159, .int u11, .ref 160, .int u12, .ref 161, .ref 162, .ref 163, .ref 164, .int u13, .ref 165, .ref 166]) kc_32_173 rfl rfl rfl eh234.1 rfl rfl rfl (Nat.le_of_ble_eq_true rfl) rfl (fun hh238 eh237 => ?_)
                          have K239 := xk_pf (k := 41) (v := 0) K236 (xk_wf rfl) xD_115 eh234.1 rfl (by first | omega | decide) (by first | omega | decide) eh237 rfl
                          refine xi_aload_n (pc' := 177) (x := 115) kc_32_176 rfl rfl ?_
                          refine xi_getfield (pc' := 180) (v := .int v233) kc_32_177 rfl rfl rfl eh237.1 rfl ?_
                          refine xi_iconst (pc' := 181) (v := 1) kc_32_180 rfl rfl ?_
                          refine xcps2 (α := Int32) (v233 - 1) (fun v240 ev240 => ?_)
                          have zv240 : v240.toInt = u5.toInt := by rw [← ev240]; exact (xz_sub (X := (u5.toInt + 1)) (Y := 1) zv233 (by decide) (by omega) (by omega)).trans (by omega)
                          refine xi_isub (pc' := 182) (v := v240) kc_32_181 rfl ev240 ?_
                          refine xi_ireturn kc_32_182 mr_32 rfl ?_
                          exact kk v240 hh238 (by omega) K239
                  · refine xi_iff (pc' := 73) kc_32_70 rfl (xc_ge_f (X := x4.toInt) (Y := 0) rfl (by decide) (by omega)) ?_
                    refine xi_aload_n (pc' := 74) (x := 115) kc_32_73 rfl rfl ?_
                    refine xi_bipush (pc' := 76) (v := (-4)) kc_32_74 rfl rfl ?_
                    refine xi_virtual (mj := 12) (as := [.int (-4)]) (st1 := []) (lv0 := [(0, .ref 115), (1, .int (-4))]) kc_32_76 rfl rfl rfl rfl rfl eh15.1 (Nat.le_of_ble_eq_true rfl) (hJ _ _ _ _ (by decide)) (xm_le ml_12 rfl) rfl ?_
                    refine xi_aload_n (pc' := 1) (x := 115) kc_12_0 rfl rfl ?_
                    refine xi_getfield (pc' := 4) (v := .ref 140) kc_12_1 rfl rfl rfl eh15.1 rfl ?_
                    refine xi_iload_n (pc' := 5) (x := (-4)) kc_12_4 rfl rfl ?_
                    refine xi_ineg (pc' := 6) (v := 4) kc_12_5 rfl rfl ?_
                    refine xi_dup2 (pc' := 7) kc_12_6 rfl ⟨rfl, rfl⟩ ?_
                    refine xcps4 (xk_arr K17.1 xD_140) (fun y241 A241 hy241 ry241 => ?_)
                    refine xcps4 (xj_get hy241 ry241 (i := 4) (by decide) (by decide)) (fun v242 ev242 bv242 dv242 => ?_)
                    refine xi_iaload (pc' := 8) (v := v242) kc_12_7 rfl A241 (by decide) rfl (xi_in (by decide) (by rw [hy241]; decide)) ev242 ?_
                    refine xi_iconst (pc' := 9) (v := 1) kc_12_8 rfl rfl ?_
                    refine xcps2 (α := Int32) ((v242 : Int32) + 1) (fun v243 ev243 => ?_)
                    have rv243 := xc_rng v243
                    refine xi_iadd (pc' := 10) (v := v243) kc_12_9 rfl ev243 ?_
                    refine xcps4 (xj_set (v := v243) hy241 ry241 4 (by first | omega | decide) (by first | omega | decide)) (fun y244 s244 hy244 ry244 => ?_)
                    refine xi_iastore (pc' := 11) (x' := y244) kc_12_10 rfl A241 rfl (xi_in (by decide) (by rw [hy241]; decide)) s244 (fun hh244 eh244 => ?_)
                    have K245 := xk_pa K17 (xk_wa rfl) xD_140 hy244 ry244 eh244
                    refine xi_iload_n (pc' := 12) (x := (-4)) kc_12_11 rfl rfl ?_
                    refine xi_ireturn kc_12_12 mr_12 rfl ?_
                    show xw J ov (d + 3) 32 (79, [(0, .ref 115), (1, .int x1), (2, .int x2), (3, .int x3), (4, .int x4)], [.int (-4)], hh244) _
                    refine xi_ireturn kc_32_79 mr_32 rfl ?_
                    have zcm4 : ((-4) : Int32).toInt = (-4) := by decide
                    exact kk (-4) hh244 (by omega) K245
set_option maxHeartbeats 4000000 in
theorem mt_33_0 {J : xe_J} {ov : List (List Int32)} (hJ : ∀ d mj as h, mj ≠ xe_loff → J d mj as h = none) (hov1 : ov[1]? = some [10, 0, 0, 0, 0, 0]) (hov2 : ov[2]? = some [99, 30, 50, 50, 1, 99999]) {d : Nat} {Q : Option Value → xe_H → Prop} {h : xe_H} {x1 : Int32} {x2 : Int32} (T : xt h) (b2 : (0 ≤ x2.toInt ∧ x2.toInt ≤ 1)) (kk : (∀ (r : Int32) (h' : xe_H), ((-1) ≤ r.toInt ∧ r.toInt ≤ 1) → xk [(0, 9), (115, 1), (83, 0), (81, 0), (156, 0), (82, 0), (157, 0), (158, 0)] h h' → Q (some (.int r)) h')) : xw J ov (d + 1) 33 (0, [(0, .ref 115), (1, .int x1), (2, .int x2)], [], h) Q := by
  have K : xk [(0, 9), (115, 1), (83, 0), (81, 0), (156, 0), (82, 0), (157, 0), (158, 0)] h h := xk_re T
  have rx1 := xc_rng x1
  refine xi_aload_n (pc' := 1) (x := 115) kc_33_0 rfl rfl ?_
  refine xi_iconst (pc' := 2) (v := 0) kc_33_1 rfl rfl ?_
  refine xp_115 K.1 (fun u1 u2 u3 u4 u5 u6 u7 u8 u9 u10 u11 u12 u13 bu1 bu2 bu3 bu4 bu5 bu6 bu7 bu8 bu9 bu10 bu11 bu12 bu13 A14 => ?_)
  refine xi_putfield (pc' := 5) (fs' := [.int 0, .int u2, .ref 116, .ref 117, .ref 118, .ref 119, .ref 120, .ref 121, .ref 122, .ref 123, .ref 124, .ref 125, .ref 126, .ref 127, .ref 128, .ref 129, .int u3, .ref 130, .int u4, .ref 131, .ref 132, .ref 133, .ref 134, .int u5, .ref 135, .ref 136, .ref 137, .ref 138, .ref 139, .ref 140, .ref 141, .ref 142, .int u6, .int u7, .int u8, .ref 143, .ref 144, .ref 145, .ref 146, .ref 147, .ref 148, .int u9, .ref 149, .ref 150, .ref 151, .int u10, .ref 152, .ref 153, .ref 154, .ref 155, .ref 156, .ref 157, .ref 158, .ref 159, .int u11, .ref 160, .int u12, .ref 161, .ref 162, .ref 163, .ref 164, .int u13, .ref 165, .ref 166]) kc_33_2 rfl rfl rfl A14 rfl rfl rfl (Nat.le_of_ble_eq_true rfl) rfl (fun hh16 eh15 => ?_)
  have K17 := xk_pf (k := 0) (v := 0) K (xk_wf rfl) xD_115 A14 rfl (by first | omega | decide) (by first | omega | decide) eh15 rfl
  refine xi_iload_n (pc' := 6) (x := x1) kc_33_5 rfl rfl ?_
  refine xi_iconst (pc' := 7) (v := 0) kc_33_6 rfl rfl ?_
  refine xi_aload_n (pc' := 8) (x := 115) kc_33_7 rfl rfl ?_
  refine xi_getfield (pc' := 11) (v := .int u5) kc_33_8 rfl rfl rfl eh15.1 rfl ?_
  refine xi_iconst (pc' := 12) (v := 1) kc_33_11 rfl rfl ?_
  refine xcps2 (α := Int32) (u5 - 1) (fun v18 ev18 => ?_)
  have zv18 : v18.toInt = (u5.toInt + (-1)) := by rw [← ev18]; exact (xz_sub (X := u5.toInt) (Y := 1) rfl (by decide) (by omega) (by omega)).trans (by omega)
  refine xi_isub (pc' := 13) (v := v18) kc_33_12 rfl ev18 ?_
  refine xi_static (mj := 11) (as := [.int x1, .int 0, .int v18]) (st1 := []) (lv0 := [(0, .int x1), (1, .int 0), (2, .int v18)]) kc_33_13 rfl rfl (Nat.le_of_ble_eq_true rfl) rfl rfl (Nat.le_of_ble_eq_true rfl) (hJ _ _ _ _ (by decide)) (xm_le ml_11 rfl) rfl ?_
  refine xi_iload_n (pc' := 1) (x := x1) kc_11_0 rfl rfl ?_
  refine xi_iload_n (pc' := 2) (x := 0) kc_11_1 rfl rfl ?_
  by_cases c19 : x1.toInt < 0
  · refine xi_cmt (pc' := 14) kc_11_2 rfl (xc_lt_t (X := x1.toInt) (Y := 0) rfl (by decide) (by omega)) ?_
    refine xi_iconst (pc' := 15) (v := 0) kc_11_14 rfl rfl ?_
    refine xi_ireturn kc_11_15 mr_11 rfl ?_
    show xw J ov (d + 1) 33 (16, [(0, .ref 115), (1, .int x1), (2, .int x2)], [.int 0], hh16) _
    refine xi_iff (pc' := 19) kc_33_16 rfl rfl ?_
    refine xi_aload_n (pc' := 20) (x := 115) kc_33_19 rfl rfl ?_
    refine xi_iconst (pc' := 21) (v := (-1)) kc_33_20 rfl rfl ?_
    refine xi_virtual (mj := 12) (as := [.int (-1)]) (st1 := []) (lv0 := [(0, .ref 115), (1, .int (-1))]) kc_33_21 rfl rfl rfl rfl rfl eh15.1 (Nat.le_of_ble_eq_true rfl) (hJ _ _ _ _ (by decide)) (xm_le ml_12 rfl) rfl ?_
    refine xi_aload_n (pc' := 1) (x := 115) kc_12_0 rfl rfl ?_
    refine xi_getfield (pc' := 4) (v := .ref 140) kc_12_1 rfl rfl rfl eh15.1 rfl ?_
    refine xi_iload_n (pc' := 5) (x := (-1)) kc_12_4 rfl rfl ?_
    refine xi_ineg (pc' := 6) (v := 1) kc_12_5 rfl rfl ?_
    refine xi_dup2 (pc' := 7) kc_12_6 rfl ⟨rfl, rfl⟩ ?_
    refine xcps4 (xk_arr K17.1 xD_140) (fun y20 A20 hy20 ry20 => ?_)
    refine xcps4 (xj_get hy20 ry20 (i := 1) (by decide) (by decide)) (fun v21 ev21 bv21 dv21 => ?_)
    refine xi_iaload (pc' := 8) (v := v21) kc_12_7 rfl A20 (by decide) rfl (xi_in (by decide) (by rw [hy20]; decide)) ev21 ?_
    refine xi_iconst (pc' := 9) (v := 1) kc_12_8 rfl rfl ?_
    refine xcps2 (α := Int32) ((v21 : Int32) + 1) (fun v22 ev22 => ?_)
    have rv22 := xc_rng v22
    refine xi_iadd (pc' := 10) (v := v22) kc_12_9 rfl ev22 ?_
    refine xcps4 (xj_set (v := v22) hy20 ry20 1 (by first | omega | decide) (by first | omega | decide)) (fun y23 s23 hy23 ry23 => ?_)
    refine xi_iastore (pc' := 11) (x' := y23) kc_12_10 rfl A20 rfl (xi_in (by decide) (by rw [hy20]; decide)) s23 (fun hh23 eh23 => ?_)
    have K24 := xk_pa K17 (xk_wa rfl) xD_140 hy23 ry23 eh23
    refine xi_iload_n (pc' := 12) (x := (-1)) kc_12_11 rfl rfl ?_
    refine xi_ireturn kc_12_12 mr_12 rfl ?_
    show xw J ov (d + 1) 33 (24, [(0, .ref 115), (1, .int x1), (2, .int x2)], [.int (-1)], hh23) _
    refine xi_ireturn kc_33_24 mr_33 rfl ?_
    have zcm1 : ((-1) : Int32).toInt = (-1) := by decide
    exact kk (-1) hh23 (by omega) K24
  · refine xi_cmf (pc' := 5) kc_11_2 rfl (xc_lt_f (X := x1.toInt) (Y := 0) rfl (by decide) (by omega)) ?_
    refine xi_iload_n (pc' := 6) (x := x1) kc_11_5 rfl rfl ?_
    refine xi_iload_n (pc' := 7) (x := v18) kc_11_6 rfl rfl ?_
    by_cases c25 : (u5.toInt + (-1)) < x1.toInt
    · refine xi_cmt (pc' := 14) kc_11_7 rfl (xc_gt_t (X := x1.toInt) (Y := (u5.toInt + (-1))) rfl zv18 (by omega)) ?_
      refine xi_iconst (pc' := 15) (v := 0) kc_11_14 rfl rfl ?_
      refine xi_ireturn kc_11_15 mr_11 rfl ?_
      show xw J ov (d + 1) 33 (16, [(0, .ref 115), (1, .int x1), (2, .int x2)], [.int 0], hh16) _
      refine xi_iff (pc' := 19) kc_33_16 rfl rfl ?_
      refine xi_aload_n (pc' := 20) (x := 115) kc_33_19 rfl rfl ?_
      refine xi_iconst (pc' := 21) (v := (-1)) kc_33_20 rfl rfl ?_
      refine xi_virtual (mj := 12) (as := [.int (-1)]) (st1 := []) (lv0 := [(0, .ref 115), (1, .int (-1))]) kc_33_21 rfl rfl rfl rfl rfl eh15.1 (Nat.le_of_ble_eq_true rfl) (hJ _ _ _ _ (by decide)) (xm_le ml_12 rfl) rfl ?_
      refine xi_aload_n (pc' := 1) (x := 115) kc_12_0 rfl rfl ?_
      refine xi_getfield (pc' := 4) (v := .ref 140) kc_12_1 rfl rfl rfl eh15.1 rfl ?_
      refine xi_iload_n (pc' := 5) (x := (-1)) kc_12_4 rfl rfl ?_
      refine xi_ineg (pc' := 6) (v := 1) kc_12_5 rfl rfl ?_
      refine xi_dup2 (pc' := 7) kc_12_6 rfl ⟨rfl, rfl⟩ ?_
      refine xcps4 (xk_arr K17.1 xD_140) (fun y26 A26 hy26 ry26 => ?_)
      refine xcps4 (xj_get hy26 ry26 (i := 1) (by decide) (by decide)) (fun v27 ev27 bv27 dv27 => ?_)
      refine xi_iaload (pc' := 8) (v := v27) kc_12_7 rfl A26 (by decide) rfl (xi_in (by decide) (by rw [hy26]; decide)) ev27 ?_
      refine xi_iconst (pc' := 9) (v := 1) kc_12_8 rfl rfl ?_
      refine xcps2 (α := Int32) ((v27 : Int32) + 1) (fun v28 ev28 => ?_)
      have rv28 := xc_rng v28
      refine xi_iadd (pc' := 10) (v := v28) kc_12_9 rfl ev28 ?_
      refine xcps4 (xj_set (v := v28) hy26 ry26 1 (by first | omega | decide) (by first | omega | decide)) (fun y29 s29 hy29 ry29 => ?_)
      refine xi_iastore (pc' := 11) (x' := y29) kc_12_10 rfl A26 rfl (xi_in (by decide) (by rw [hy26]; decide)) s29 (fun hh29 eh29 => ?_)
      have K30 := xk_pa K17 (xk_wa rfl) xD_140 hy29 ry29 eh29
      refine xi_iload_n (pc' := 12) (x := (-1)) kc_12_11 rfl rfl ?_
      refine xi_ireturn kc_12_12 mr_12 rfl ?_
      show xw J ov (d + 1) 33 (24, [(0, .ref 115), (1, .int x1), (2, .int x2)], [.int (-1)], hh29) _
      refine xi_ireturn kc_33_24 mr_33 rfl ?_
      have zcm1 : ((-1) : Int32).toInt = (-1) := by decide
      exact kk (-1) hh29 (by omega) K30
    · refine xi_cmf (pc' := 10) kc_11_7 rfl (xc_gt_f (X := x1.toInt) (Y := (u5.toInt + (-1))) rfl zv18 (by omega)) ?_
      refine xi_iconst (pc' := 11) (v := 1) kc_11_10 rfl rfl ?_
      refine xi_goto (pc' := 15) kc_11_11 rfl ?_
      refine xi_ireturn kc_11_15 mr_11 rfl ?_
      show xw J ov (d + 1) 33 (16, [(0, .ref 115), (1, .int x1), (2, .int x2)], [.int 1], hh16) _
      refine xi_ift (pc' := 25) kc_33_16 rfl rfl ?_
      refine xi_aload_n (pc' := 26) (x := 115) kc_33_25 rfl rfl ?_
      refine xi_getfield (pc' := 29) (v := .ref 139) kc_33_26 rfl rfl rfl eh15.1 rfl ?_
      refine xi_iload_n (pc' := 30) (x := x1) kc_33_29 rfl rfl ?_
      refine xcps4 (xk_arr K17.1 xD_139) (fun y31 A31 hy31 ry31 => ?_)
      refine xcps4 (xj_get hy31 ry31 (i := x1) (by omega) (by omega)) (fun v32 ev32 bv32 dv32 => ?_)
      refine xi_baload (pc' := 31) (v := v32) kc_33_30 rfl A31 rfl (xi_in (by omega) (by rw [hy31]; omega)) ev32 ?_
      refine xi_istore_n (pc' := 32) (lv' := [(3, .int v32), (0, .ref 115), (1, .int x1), (2, .int x2)]) kc_33_31 rfl rfl (xm_lt ml_33 rfl) ?_
      refine xi_aload_n (pc' := 33) (x := 115) kc_33_32 rfl rfl ?_
      refine xi_getfield (pc' := 36) (v := .ref 139) kc_33_33 rfl rfl rfl eh15.1 rfl ?_
      refine xi_iload_n (pc' := 37) (x := x1) kc_33_36 rfl rfl ?_
      refine xi_iload_n (pc' := 38) (x := x2) kc_33_37 rfl rfl ?_
      by_cases c33 : x2.toInt = 0
      · have qx2 : x2 = 0 := xc_of (Eq.trans (by omega) (show (0 : Int) = (0 : Int32).toInt by decide))
        subst qx2
        refine xcps4 (xj_set (v := 0) hy31 ry31 x1 (by first | omega | decide) (by first | omega | decide)) (fun y34 s34 hy34 ry34 => ?_)
        refine xi_bastore (pc' := 39) (x' := y34) kc_33_38 rfl A31 rfl (xi_in (by omega) (by rw [hy31]; omega)) s34 (fun hh34 eh34 => ?_)
        have K35 := xk_pa K17 (xk_wa rfl) xD_139 hy34 ry34 eh34
        refine xi_iload_n (pc' := 40) (x := v32) kc_33_39 rfl rfl ?_
        refine xi_iload_n (pc' := 41) (x := 0) kc_33_40 rfl rfl ?_
        by_cases c36 : v32.toInt = 0
        · refine xi_cmf (pc' := 44) kc_33_41 rfl (xc_ne_f (X := v32.toInt) (Y := 0) rfl (by decide) (by omega)) ?_
          refine xi_iconst (pc' := 45) (v := 0) kc_33_44 rfl rfl ?_
          refine xi_goto (pc' := 49) kc_33_45 rfl ?_
          refine xi_ireturn kc_33_49 mr_33 rfl ?_
          have zc0 : (0 : Int32).toInt = 0 := by decide
          exact kk 0 hh34 (by omega) K35
        · refine xi_cmt (pc' := 48) kc_33_41 rfl (xc_ne_t (X := v32.toInt) (Y := 0) rfl (by decide) (by omega)) ?_
          refine xi_iconst (pc' := 49) (v := 1) kc_33_48 rfl rfl ?_
          refine xi_ireturn kc_33_49 mr_33 rfl ?_
          have zc1 : (1 : Int32).toInt = 1 := by decide
          exact kk 1 hh34 (by omega) K35
      have qx2 : x2 = 1 := xc_of (Eq.trans (by omega) (show (1 : Int) = (1 : Int32).toInt by decide))
      subst qx2
      refine xcps4 (xj_set (v := 1) hy31 ry31 x1 (by first | omega | decide) (by first | omega | decide)) (fun y37 s37 hy37 ry37 => ?_)
      refine xi_bastore (pc' := 39) (x' := y37) kc_33_38 rfl A31 rfl (xi_in (by omega) (by rw [hy31]; omega)) s37 (fun hh37 eh37 => ?_)
      have K38 := xk_pa K17 (xk_wa rfl) xD_139 hy37 ry37 eh37
      refine xi_iload_n (pc' := 40) (x := v32) kc_33_39 rfl rfl ?_
      refine xi_iload_n (pc' := 41) (x := 1) kc_33_40 rfl rfl ?_
      by_cases c39 : v32.toInt = 1
      · refine xi_cmf (pc' := 44) kc_33_41 rfl (xc_ne_f (X := v32.toInt) (Y := 1) rfl (by decide) (by omega)) ?_
        refine xi_iconst (pc' := 45) (v := 0) kc_33_44 rfl rfl ?_
        refine xi_goto (pc' := 49) kc_33_45 rfl ?_
        refine xi_ireturn kc_33_49 mr_33 rfl ?_
        have zc0 : (0 : Int32).toInt = 0 := by decide
        exact kk 0 hh37 (by omega) K38
      · refine xi_cmt (pc' := 48) kc_33_41 rfl (xc_ne_t (X := v32.toInt) (Y := 1) rfl (by decide) (by omega)) ?_
        refine xi_iconst (pc' := 49) (v := 1) kc_33_48 rfl rfl ?_
        refine xi_ireturn kc_33_49 mr_33 rfl ?_
        have zc1 : (1 : Int32).toInt = 1 := by decide
        exact kk 1 hh37 (by omega) K38
set_option maxHeartbeats 4000000 in
theorem mt_38_0 {J : xe_J} {ov : List (List Int32)} (hJ : ∀ d mj as h, mj ≠ xe_loff → J d mj as h = none) (hov1 : ov[1]? = some [10, 0, 0, 0, 0, 0]) (hov2 : ov[2]? = some [99, 30, 50, 50, 1, 99999]) {d : Nat} {Q : Option Value → xe_H → Prop} {h : xe_H} {x1 : Int32} {x2 : Int32} {x3 : Int32} {x4 : Int32} (T : xt h) (b1 : (0 ≤ x1.toInt ∧ x1.toInt ≤ 9)) (b2 : (0 ≤ x2.toInt ∧ x2.toInt ≤ 63)) (b3 : (0 ≤ x3.toInt ∧ x3.toInt ≤ 1)) (b4 : (0 ≤ x4.toInt ∧ x4.toInt ≤ 599)) (kk : (∀ (r : Int32) (h' : xe_H), (0 ≤ r.toInt ∧ r.toInt ≤ 1) → xk [(0, 9), (115, 1), (83, 0), (81, 0), (156, 0), (82, 0), (157, 0), (158, 0)] h h' → Q (some (.int r)) h')) : xw J ov (d + 1) 38 (0, [(0, .ref 115), (1, .int x1), (2, .int x2), (3, .int x3), (4, .int x4)], [], h) Q := by
  have K : xk [(0, 9), (115, 1), (83, 0), (81, 0), (156, 0), (82, 0), (157, 0), (158, 0)] h h := xk_re T
  refine xi_iload_n (pc' := 1) (x := x3) kc_38_0 rfl rfl ?_
  by_cases c1 : x3.toInt = 0
  · refine xi_ift (pc' := 16) kc_38_1 rfl (xc_eq_t (X := x3.toInt) (Y := 0) rfl (by decide) (by omega)) ?_
    refine xi_iload_n (pc' := 17) (x := x2) kc_38_16 rfl rfl ?_
    refine xi_iload_n (pc' := 18) (x := x1) kc_38_17 rfl rfl ?_
    refine xcps2 (α := Int32) ((x2 : Int32) >>> (x1 &&& 31)) (fun v2 ev2 => ?_)
    have rv2 := xc_rng v2
    refine xi_ishr (pc' := 19) (v := v2) kc_38_18 rfl ev2 ?_
    refine xi_iconst (pc' := 20) (v := 1) kc_38_19 rfl rfl ?_
    refine xcps2 (α := Int32) ((v2 : Int32) &&& 1) (fun v3 ev3 => ?_)
    have rv3 := xc_rng v3
    refine xi_iand (pc' := 21) (v := v3) kc_38_20 rfl ev3 ?_
    refine xi_iconst (pc' := 22) (v := 1) kc_38_21 rfl rfl ?_
    by_cases c4 : v3.toInt = 1
    · refine xi_cmf (pc' := 25) kc_38_22 rfl (xc_ne_f (X := v3.toInt) (Y := 1) rfl (by decide) (by omega)) ?_
      refine xi_aload_n (pc' := 26) (x := 115) kc_38_25 rfl rfl ?_
      refine xp_115 K.1 (fun u5 u6 u7 u8 u9 u10 u11 u12 u13 u14 u15 u16 u17 bu5 bu6 bu7 bu8 bu9 bu10 bu11 bu12 bu13 bu14 bu15 bu16 bu17 A18 => ?_)
      refine xi_getfield (pc' := 29) (v := .ref 138) kc_38_26 rfl rfl rfl A18 rfl ?_
      refine xi_iload_n (pc' := 30) (x := x1) kc_38_29 rfl rfl ?_
      refine xcps4 (xk_arr K.1 xD_138) (fun y19 A19 hy19 ry19 => ?_)
      refine xcps4 (xj_get hy19 ry19 (i := x1) (by omega) (by omega)) (fun v20 ev20 bv20 dv20 => ?_)
      refine xi_iaload (pc' := 31) (v := v20) kc_38_30 rfl A19 (by decide) rfl (xi_in (by omega) (by rw [hy19]; omega)) ev20 ?_
      refine xi_iload (pc' := 33) (x := x4) kc_38_31 rfl rfl ?_
      by_cases c21 : x4.toInt < v20.toInt
      · refine xi_cmt (pc' := 40) kc_38_33 rfl (xc_gt_t (X := v20.toInt) (Y := x4.toInt) rfl rfl (by omega)) ?_
        refine xi_iconst (pc' := 41) (v := 0) kc_38_40 rfl rfl ?_
        refine xi_ireturn kc_38_41 mr_38 rfl ?_
        have zc0 : (0 : Int32).toInt = 0 := by decide
        exact kk 0 h (by omega) K
      · refine xi_cmf (pc' := 36) kc_38_33 rfl (xc_gt_f (X := v20.toInt) (Y := x4.toInt) rfl rfl (by omega)) ?_
        refine xi_iconst (pc' := 37) (v := 1) kc_38_36 rfl rfl ?_
        refine xi_goto (pc' := 41) kc_38_37 rfl ?_
        refine xi_ireturn kc_38_41 mr_38 rfl ?_
        have zc1 : (1 : Int32).toInt = 1 := by decide
        exact kk 1 h (by omega) K
    · refine xi_cmt (pc' := 40) kc_38_22 rfl (xc_ne_t (X := v3.toInt) (Y := 1) rfl (by decide) (by omega)) ?_
      refine xi_iconst (pc' := 41) (v := 0) kc_38_40 rfl rfl ?_
      refine xi_ireturn kc_38_41 mr_38 rfl ?_
      have zc0 : (0 : Int32).toInt = 0 := by decide
      exact kk 0 h (by omega) K
  · refine xi_iff (pc' := 4) kc_38_1 rfl (xc_eq_f (X := x3.toInt) (Y := 0) rfl (by decide) (by omega)) ?_
    refine xi_aload_n (pc' := 5) (x := 115) kc_38_4 rfl rfl ?_
    refine xp_115 K.1 (fun u22 u23 u24 u25 u26 u27 u28 u29 u30 u31 u32 u33 u34 bu22 bu23 bu24 bu25 bu26 bu27 bu28 bu29 bu30 bu31 bu32 bu33 bu34 A35 => ?_)
    refine xi_getfield (pc' := 8) (v := .ref 139) kc_38_5 rfl rfl rfl A35 rfl ?_
    refine xi_iload_n (pc' := 9) (x := x1) kc_38_8 rfl rfl ?_
    refine xcps4 (xk_arr K.1 xD_139) (fun y36 A36 hy36 ry36 => ?_)
    refine xcps4 (xj_get hy36 ry36 (i := x1) (by omega) (by omega)) (fun v37 ev37 bv37 dv37 => ?_)
    refine xi_baload (pc' := 10) (v := v37) kc_38_9 rfl A36 rfl (xi_in (by omega) (by rw [hy36]; omega)) ev37 ?_
    by_cases c38 : v37.toInt = 0
    · refine xi_ift (pc' := 40) kc_38_10 rfl (xc_eq_t (X := v37.toInt) (Y := 0) rfl (by decide) (by omega)) ?_
      refine xi_iconst (pc' := 41) (v := 0) kc_38_40 rfl rfl ?_
      refine xi_ireturn kc_38_41 mr_38 rfl ?_
      have zc0 : (0 : Int32).toInt = 0 := by decide
      exact kk 0 h (by omega) K
    · refine xi_iff (pc' := 13) kc_38_10 rfl (xc_eq_f (X := v37.toInt) (Y := 0) rfl (by decide) (by omega)) ?_
      refine xi_goto (pc' := 25) kc_38_13 rfl ?_
      refine xi_aload_n (pc' := 26) (x := 115) kc_38_25 rfl rfl ?_
      refine xi_getfield (pc' := 29) (v := .ref 138) kc_38_26 rfl rfl rfl A35 rfl ?_
      refine xi_iload_n (pc' := 30) (x := x1) kc_38_29 rfl rfl ?_
      refine xcps4 (xk_arr K.1 xD_138) (fun y39 A39 hy39 ry39 => ?_)
      refine xcps4 (xj_get hy39 ry39 (i := x1) (by omega) (by omega)) (fun v40 ev40 bv40 dv40 => ?_)
      refine xi_iaload (pc' := 31) (v := v40) kc_38_30 rfl A39 (by decide) rfl (xi_in (by omega) (by rw [hy39]; omega)) ev40 ?_
      refine xi_iload (pc' := 33) (x := x4) kc_38_31 rfl rfl ?_
      by_cases c41 : x4.toInt < v40.toInt
      · refine xi_cmt (pc' := 40) kc_38_33 rfl (xc_gt_t (X := v40.toInt) (Y := x4.toInt) rfl rfl (by omega)) ?_
        refine xi_iconst (pc' := 41) (v := 0) kc_38_40 rfl rfl ?_
        refine xi_ireturn kc_38_41 mr_38 rfl ?_
        have zc0 : (0 : Int32).toInt = 0 := by decide
        exact kk 0 h (by omega) K
      · refine xi_cmf (pc' := 36) kc_38_33 rfl (xc_gt_f (X := v40.toInt) (Y := x4.toInt) rfl rfl (by omega)) ?_
        refine xi_iconst (pc' := 37) (v := 1) kc_38_36 rfl rfl ?_
        refine xi_goto (pc' := 41) kc_38_37 rfl ?_
        refine xi_ireturn kc_38_41 mr_38 rfl ?_
        have zc1 : (1 : Int32).toInt = 1 := by decide
        exact kk 1 h (by omega) K
set_option maxHeartbeats 4000000 in
theorem mt_39_0 {J : xe_J} {ov : List (List Int32)} (hJ : ∀ d mj as h, mj ≠ xe_loff → J d mj as h = none) (hov1 : ov[1]? = some [10, 0, 0, 0, 0, 0]) (hov2 : ov[2]? = some [99, 30, 50, 50, 1, 99999]) {d : Nat} {Q : Option Value → xe_H → Prop} {h : xe_H} {x0 : Int32} (T : xt h) (kk : (∀ (r : Int32) (h' : xe_H), (0 ≤ r.toInt ∧ r.toInt ≤ 99999) → xk [(0, 9), (115, 1), (83, 0), (81, 0), (156, 0), (82, 0), (157, 0), (158, 0)] h h' → Q (some (.int r)) h')) : xw J ov (d + 1) 39 (0, [(0, .int x0)], [], h) Q := by
  have K : xk [(0, 9), (115, 1), (83, 0), (81, 0), (156, 0), (82, 0), (157, 0), (158, 0)] h h := xk_re T
  have rx0 := xc_rng x0
  refine xi_iload_n (pc' := 1) (x := x0) kc_39_0 rfl rfl ?_
  by_cases c1 : 0 ≤ x0.toInt
  · refine xi_ift (pc' := 8) kc_39_1 rfl (xc_ge_t (X := x0.toInt) (Y := 0) rfl (by decide) (by omega)) ?_
    refine xi_iload_n (pc' := 9) (x := x0) kc_39_8 rfl rfl ?_
    refine xi_ldc (pc' := 11) (v := 99999) kc_39_9 rfl rfl ?_
    by_cases c2 : x0.toInt ≤ 99999
    · refine xi_cmt (pc' := 19) kc_39_11 rfl (xc_le_t (X := x0.toInt) (Y := 99999) rfl (by decide) (by omega)) ?_
      refine xi_iload_n (pc' := 20) (x := x0) kc_39_19 rfl rfl ?_
      refine xi_ireturn kc_39_20 mr_39 rfl ?_
      exact kk x0 h (by omega) K
    · refine xi_cmf (pc' := 14) kc_39_11 rfl (xc_le_f (X := x0.toInt) (Y := 99999) rfl (by decide) (by omega)) ?_
      refine xi_ldc (pc' := 16) (v := 99999) kc_39_14 rfl rfl ?_
      refine xi_goto (pc' := 20) kc_39_16 rfl ?_
      refine xi_ireturn kc_39_20 mr_39 rfl ?_
      have zc99999 : (99999 : Int32).toInt = 99999 := by decide
      exact kk 99999 h (by omega) K
  · refine xi_iff (pc' := 4) kc_39_1 rfl (xc_ge_f (X := x0.toInt) (Y := 0) rfl (by decide) (by omega)) ?_
    refine xi_iconst (pc' := 5) (v := 0) kc_39_4 rfl rfl ?_
    refine xi_goto (pc' := 20) kc_39_5 rfl ?_
    refine xi_ireturn kc_39_20 mr_39 rfl ?_
    have zc0 : (0 : Int32).toInt = 0 := by decide
    exact kk 0 h (by omega) K
set_option maxHeartbeats 4000000 in
theorem lp_40_0 {J : xe_J} {ov : List (List Int32)} (hJ : ∀ d mj as h, mj ≠ xe_loff → J d mj as h = none) (hov1 : ov[1]? = some [10, 0, 0, 0, 0, 0]) (hov2 : ov[2]? = some [99, 30, 50, 50, 1, 99999]) {d : Nat} {Q : Option Value → xe_H → Prop} {hb : xe_H} (kk : (∀ h' : xe_H, xk [(0, 9), (115, 1), (83, 0), (81, 0), (156, 0), (82, 0), (157, 0), (158, 0)] hb h' → Q none h')) : ∀ m : Nat, (∀ (x1 : Int32) (x2 : Int32) (x3 : Int32) (x4 : Int32) (x5 : Int32) (h : xe_H), (0 ≤ x1.toInt ∧ x1.toInt ≤ 5) → (1 ≤ x2.toInt ∧ x2.toInt ≤ 2147483647) → ((-1) ≤ x4.toInt ∧ x4.toInt ≤ 11) → ((-1) ≤ x5.toInt ∧ x5.toInt ≤ 11) → xk [(0, 9), (115, 1), (83, 0), (81, 0), (156, 0), (82, 0), (157, 0), (158, 0)] hb h → (1) * x5.toInt + 14 < (m : Int) → xw J ov (d + 2) 40 (9, [(0, .ref 115), (1, .int x1), (2, .int x2), (3, .int x3), (4, .int x4), (5, .int x5)], [], h) Q) ∧ (∀ (x1 : Int32) (x2 : Int32) (x3 : Int32) (x4 : Int32) (x5 : Int32) (x6 : Int32) (h : xe_H), (0 ≤ x1.toInt ∧ x1.toInt ≤ 5) → (1 ≤ x2.toInt ∧ x2.toInt ≤ 2147483647) → ((-1) ≤ x4.toInt ∧ x4.toInt ≤ 11) → (0 ≤ x6.toInt ∧ x6.toInt ≤ 12) → xk [(0, 9), (115, 1), (83, 0), (81, 0), (156, 0), (82, 0), (157, 0), (158, 0)] hb h → (-1) * x6.toInt + 12 < (m : Int) → xw J ov (d + 2) 40 (79, [(0, .ref 115), (1, .int x1), (2, .int x2), (3, .int x3), (4, .int x4), (5, .int x5), (6, .int x6)], [], h) Q) := by
  intro m
  induction m with
  | zero =>
    refine ⟨?_, ?_⟩
    · intro x1 x2 x3 x4 x5 h b1 b2 b4 b5 K hm; have rx3 := xc_rng x3; exfalso; omega
    · intro x1 x2 x3 x4 x5 x6 h b1 b2 b4 b6 K hm; have rx3 := xc_rng x3; have rx5 := xc_rng x5; exfalso; omega
  | succ m ih =>
    obtain ⟨i0, i1⟩ := ih
    refine ⟨?_, ?_⟩
    · intro x1 x2 x3 x4 x5 h b1 b2 b4 b5 K hm
      have rx3 := xc_rng x3
      refine xi_iload (pc' := 11) (x := x5) kc_40_9 rfl rfl ?_
      by_cases c1 : x5.toInt < 0
      · refine xi_ift (pc' := 73) kc_40_11 rfl (xc_lt_t (X := x5.toInt) (Y := 0) rfl (by decide) (by omega)) ?_
        refine xi_iload_n (pc' := 74) (x := x2) kc_40_73 rfl rfl ?_
        refine xi_istore (pc' := 76) (lv' := [(5, .int x2), (0, .ref 115), (1, .int x1), (2, .int x2), (3, .int x3), (4, .int x4)]) kc_40_74 rfl rfl (xm_lt ml_40 rfl) ?_
        refine xi_iconst (pc' := 77) (v := 0) kc_40_76 rfl rfl ?_
        refine xi_istore (pc' := 79) (lv' := [(6, .int 0), (5, .int x2), (0, .ref 115), (1, .int x1), (2, .int x2), (3, .int x3), (4, .int x4)]) kc_40_77 rfl rfl (xm_lt ml_40 rfl) ?_
        have zc0 : (0 : Int32).toInt = 0 := by decide
        refine xw_lv (b := [(0, .ref 115), (1, .int x1), (2, .int x2), (3, .int x3), (4, .int x4), (5, .int x2), (6, .int 0)]) (lvS_cons (lvS_cons (lvS_cons (lvS_cons (lvS_cons (lvS_cons (lvS_cons (lvS_nil (show ([6, 5, 0, 1, 2, 3, 4] : List Nat).Nodup by decide)) rfl) rfl) rfl) rfl) rfl) rfl) rfl) ?_
        exact i1 x1 x2 x3 x4 x2 0 h (by omega) (by omega) (by omega) (by omega) K (by omega)
      · refine xi_iff (pc' := 14) kc_40_11 rfl (xc_lt_f (X := x5.toInt) (Y := 0) rfl (by decide) (by omega)) ?_
        refine xi_aload_n (pc' := 15) (x := 115) kc_40_14 rfl rfl ?_
        refine xp_115 K.1 (fun u2 u3 u4 u5 u6 u7 u8 u9 u10 u11 u12 u13 u14 bu2 bu3 bu4 bu5 bu6 bu7 bu8 bu9 bu10 bu11 bu12 bu13 bu14 A15 => ?_)
        refine xi_getfield (pc' := 18) (v := .ref 125) kc_40_15 rfl rfl rfl A15 rfl ?_
        refine xi_iload (pc' := 20) (x := x5) kc_40_18 rfl rfl ?_
        refine xcps4 (xk_arr K.1 xD_125) (fun y16 A16 hy16 ry16 => ?_)
        refine xcps4 (xj_get hy16 ry16 (i := x5) (by omega) (by omega)) (fun v17 ev17 bv17 dv17 => ?_)
        refine xi_iaload (pc' := 21) (v := v17) kc_40_20 rfl A16 (by decide) rfl (xi_in (by omega) (by rw [hy16]; omega)) ev17 ?_
        refine xi_iload_n (pc' := 22) (x := x1) kc_40_21 rfl rfl ?_
        by_cases c18 : v17.toInt = x1.toInt
        · refine xi_cmf (pc' := 25) kc_40_22 rfl (xc_ne_f (X := v17.toInt) (Y := x1.toInt) rfl rfl (by omega)) ?_
          refine xi_aload_n (pc' := 26) (x := 115) kc_40_25 rfl rfl ?_
          refine xi_getfield (pc' := 29) (v := .ref 117) kc_40_26 rfl rfl rfl A15 rfl ?_
          refine xi_iload_n (pc' := 30) (x := x1) kc_40_29 rfl rfl ?_
          refine xcps4 (xk_arr K.1 xD_117) (fun y19 A19 hy19 ry19 => ?_)
          refine xcps4 (xj_get hy19 ry19 (i := x1) (by omega) (by omega)) (fun v20 ev20 bv20 dv20 => ?_)
          refine xi_iaload (pc' := 31) (v := v20) kc_40_30 rfl A19 (by decide) rfl (xi_in (by omega) (by rw [hy19]; omega)) ev20 ?_
          refine xi_aload_n (pc' := 32) (x := 115) kc_40_31 rfl rfl ?_
          refine xi_getfield (pc' := 35) (v := .int u7) kc_40_32 rfl rfl rfl A15 rfl ?_
          refine xcps2 (α := Int32) ((v20 : Int32) - u7) (fun v21 ev21 => ?_)
          have rv21 := xc_rng v21
          refine xi_isub (pc' := 36) (v := v21) kc_40_35 rfl ev21 ?_
          refine xi_aload_n (pc' := 37) (x := 115) kc_40_36 rfl rfl ?_
          refine xi_getfield (pc' := 40) (v := .ref 126) kc_40_37 rfl rfl rfl A15 rfl ?_
          refine xi_iload (pc' := 42) (x := x5) kc_40_40 rfl rfl ?_
          refine xcps4 (xk_arr K.1 xD_126) (fun y22 A22 hy22 ry22 => ?_)
          refine xcps4 (xj_get hy22 ry22 (i := x5) (by omega) (by omega)) (fun v23 ev23 bv23 dv23 => ?_)
          refine xi_iaload (pc' := 43) (v := v23) kc_40_42 rfl A22 (by decide) rfl (xi_in (by omega) (by rw [hy22]; omega)) ev23 ?_
          refine xcps2 (α := Int32) ((v21 : Int32) * v23) (fun v24 ev24 => ?_)
          have rv24 := xc_rng v24
          refine xi_imul (pc' := 44) (v := v24) kc_40_43 rfl ev24 ?_
          refine xi_bipush (pc' := 46) (v := 100) kc_40_44 rfl rfl ?_
          refine xcps2 (α := Int32) (v24 / 100) (fun v25 ev25 => ?_)
          have dv25 : 100 * v25.toInt ≤ v24.toInt + 99 ∧ v24.toInt ≤ 100 * v25.toInt + 99 := by rw [← ev25]; exact xz_div (X := v24.toInt) (Y := 100) rfl (by decide) (by decide)
          have bv25 : -21474837 ≤ v25.toInt ∧ v25.toInt ≤ 21474837 := by omega
          refine xi_idiv (pc' := 47) (v := v25) kc_40_46 rfl ev25 (by decide) ?_
          refine xi_istore (pc' := 49) (lv' := [(6, .int v25), (0, .ref 115), (1, .int x1), (2, .int x2), (3, .int x3), (4, .int x4), (5, .int x5)]) kc_40_47 rfl rfl (xm_lt ml_40 rfl) ?_
          refine xi_iload_n (pc' := 50) (x := x3) kc_40_49 rfl rfl ?_
          refine xi_iload (pc' := 52) (x := v25) kc_40_50 rfl rfl ?_
          by_cases c26 : 0 ≤ v25.toInt
          · refine xi_ift (pc' := 59) kc_40_52 rfl (xc_ge_t (X := v25.toInt) (Y := 0) rfl (by decide) (by omega)) ?_
            refine xi_iload (pc' := 61) (x := v25) kc_40_59 rfl rfl ?_
            refine xcps2 (α := Int32) ((x3 : Int32) + v25) (fun v27 ev27 => ?_)
            have rv27 := xc_rng v27
            refine xi_iadd (pc' := 62) (v := v27) kc_40_61 rfl ev27 ?_
            refine xi_istore_n (pc' := 63) (lv' := [(3, .int v27), (6, .int v25), (0, .ref 115), (1, .int x1), (2, .int x2), (4, .int x4), (5, .int x5)]) kc_40_62 rfl rfl (xm_lt ml_40 rfl) ?_
            refine xi_iload (pc' := 65) (x := x5) kc_40_63 rfl rfl ?_
            refine xi_istore (pc' := 67) (lv' := [(4, .int x5), (3, .int v27), (6, .int v25), (0, .ref 115), (1, .int x1), (2, .int x2), (5, .int x5)]) kc_40_65 rfl rfl (xm_lt ml_40 rfl) ?_
            refine xcps2 (α := Int32) (x5 + (-1)) (fun v28 ev28 => ?_)
            have zv28 : v28.toInt = (x5.toInt + (-1)) := by rw [← ev28]; exact (xz_add (X := x5.toInt) (Y := (-1)) rfl (by decide) (by omega) (by omega)).trans (by omega)
            refine xi_iinc (pc' := 70) (x := x5) (v := v28) (lv' := [(5, .int v28), (4, .int x5), (3, .int v27), (6, .int v25), (0, .ref 115), (1, .int x1), (2, .int x2)]) kc_40_67 rfl rfl ev28 rfl (xm_lt ml_40 rfl) ?_
            refine xi_goto (pc' := 9) kc_40_70 rfl ?_
            refine xw_lv (b := [(0, .ref 115), (1, .int x1), (2, .int x2), (3, .int v27), (4, .int x5), (5, .int v28)]) (lvS_cons (lvS_cons (lvS_cons (lvS_cons (lvS_cons (lvS_cons (lvS_nil (show ([5, 4, 3, 6, 0, 1, 2] : List Nat).Nodup by decide)) rfl) rfl) rfl) rfl) rfl) rfl) ?_
            exact i0 x1 x2 v27 x5 v28 h (by omega) (by omega) (by omega) (by omega) K (by omega)
          · refine xi_iff (pc' := 55) kc_40_52 rfl (xc_ge_f (X := v25.toInt) (Y := 0) rfl (by decide) (by omega)) ?_
            refine xi_iconst (pc' := 56) (v := 0) kc_40_55 rfl rfl ?_
            refine xi_goto (pc' := 61) kc_40_56 rfl ?_
            refine xcps2 (α := Int32) (x3 + 0) (fun v29 ev29 => ?_)
            have zv29 : v29.toInt = x3.toInt := by rw [← ev29]; exact (xz_add (X := x3.toInt) (Y := 0) rfl (by decide) (by omega) (by omega)).trans (by omega)
            refine xi_iadd (pc' := 62) (v := v29) kc_40_61 rfl ev29 ?_
            refine xi_istore_n (pc' := 63) (lv' := [(3, .int v29), (6, .int v25), (0, .ref 115), (1, .int x1), (2, .int x2), (4, .int x4), (5, .int x5)]) kc_40_62 rfl rfl (xm_lt ml_40 rfl) ?_
            refine xi_iload (pc' := 65) (x := x5) kc_40_63 rfl rfl ?_
            refine xi_istore (pc' := 67) (lv' := [(4, .int x5), (3, .int v29), (6, .int v25), (0, .ref 115), (1, .int x1), (2, .int x2), (5, .int x5)]) kc_40_65 rfl rfl (xm_lt ml_40 rfl) ?_
            refine xcps2 (α := Int32) (x5 + (-1)) (fun v30 ev30 => ?_)
            have zv30 : v30.toInt = (x5.toInt + (-1)) := by rw [← ev30]; exact (xz_add (X := x5.toInt) (Y := (-1)) rfl (by decide) (by omega) (by omega)).trans (by omega)
            refine xi_iinc (pc' := 70) (x := x5) (v := v30) (lv' := [(5, .int v30), (4, .int x5), (3, .int v29), (6, .int v25), (0, .ref 115), (1, .int x1), (2, .int x2)]) kc_40_67 rfl rfl ev30 rfl (xm_lt ml_40 rfl) ?_
            refine xi_goto (pc' := 9) kc_40_70 rfl ?_
            refine xw_lv (b := [(0, .ref 115), (1, .int x1), (2, .int x2), (3, .int v29), (4, .int x5), (5, .int v30)]) (lvS_cons (lvS_cons (lvS_cons (lvS_cons (lvS_cons (lvS_cons (lvS_nil (show ([5, 4, 3, 6, 0, 1, 2] : List Nat).Nodup by decide)) rfl) rfl) rfl) rfl) rfl) rfl) ?_
            exact i0 x1 x2 v29 x5 v30 h (by omega) (by omega) (by omega) (by omega) K (by omega)
        · refine xi_cmt (pc' := 67) kc_40_22 rfl (xc_ne_t (X := v17.toInt) (Y := x1.toInt) rfl rfl (by omega)) ?_
          refine xcps2 (α := Int32) (x5 + (-1)) (fun v31 ev31 => ?_)
          have zv31 : v31.toInt = (x5.toInt + (-1)) := by rw [← ev31]; exact (xz_add (X := x5.toInt) (Y := (-1)) rfl (by decide) (by omega) (by omega)).trans (by omega)
          refine xi_iinc (pc' := 70) (x := x5) (v := v31) (lv' := [(5, .int v31), (0, .ref 115), (1, .int x1), (2, .int x2), (3, .int x3), (4, .int x4)]) kc_40_67 rfl rfl ev31 rfl (xm_lt ml_40 rfl) ?_
          refine xi_goto (pc' := 9) kc_40_70 rfl ?_
          refine xw_lv (b := [(0, .ref 115), (1, .int x1), (2, .int x2), (3, .int x3), (4, .int x4), (5, .int v31)]) (lvS_cons (lvS_cons (lvS_cons (lvS_cons (lvS_cons (lvS_cons (lvS_nil (show ([5, 0, 1, 2, 3, 4] : List Nat).Nodup by decide)) rfl) rfl) rfl) rfl) rfl) rfl) ?_
          exact i0 x1 x2 x3 x4 v31 h (by omega) (by omega) (by omega) (by omega) K (by omega)
    · intro x1 x2 x3 x4 x5 x6 h b1 b2 b4 b6 K hm
      have rx3 := xc_rng x3
      have rx5 := xc_rng x5
      refine xi_iload (pc' := 81) (x := x6) kc_40_79 rfl rfl ?_
      refine xi_bipush (pc' := 83) (v := 12) kc_40_81 rfl rfl ?_
      by_cases c1 : 12 ≤ x6.toInt
      · refine xi_cmt (pc' := 179) kc_40_83 rfl (xc_ge_t (X := x6.toInt) (Y := 12) rfl (by decide) (by omega)) ?_
        refine xi_iload (pc' := 181) (x := x4) kc_40_179 rfl rfl ?_
        by_cases c2 : x4.toInt < 0
        · refine xi_ift (pc' := 204) kc_40_181 rfl (xc_lt_t (X := x4.toInt) (Y := 0) rfl (by decide) (by omega)) ?_
          refine xi_return kc_40_204 mr_40 ?_
          exact kk h K
        · refine xi_iff (pc' := 184) kc_40_181 rfl (xc_lt_f (X := x4.toInt) (Y := 0) rfl (by decide) (by omega)) ?_
          refine xi_aload_n (pc' := 185) (x := 115) kc_40_184 rfl rfl ?_
          refine xp_115 K.1 (fun u3 u4 u5 u6 u7 u8 u9 u10 u11 u12 u13 u14 u15 bu3 bu4 bu5 bu6 bu7 bu8 bu9 bu10 bu11 bu12 bu13 bu14 bu15 A16 => ?_)
          refine xi_getfield (pc' := 188) (v := .ref 142) kc_40_185 rfl rfl rfl A16 rfl ?_
          refine xi_iload (pc' := 190) (x := x4) kc_40_188 rfl rfl ?_
          refine xi_aload_n (pc' := 191) (x := 115) kc_40_190 rfl rfl ?_
          refine xi_getfield (pc' := 194) (v := .ref 142) kc_40_191 rfl rfl rfl A16 rfl ?_
          refine xi_iload (pc' := 196) (x := x4) kc_40_194 rfl rfl ?_
          refine xcps4 (xk_arr K.1 xD_142) (fun y17 A17 hy17 ry17 => ?_)
          refine xcps4 (xj_get hy17 ry17 (i := x4) (by omega) (by omega)) (fun v18 ev18 bv18 dv18 => ?_)
          refine xi_iaload (pc' := 197) (v := v18) kc_40_196 rfl A17 (by decide) rfl (xi_in (by omega) (by rw [hy17]; omega)) ev18 ?_
          refine xi_iload (pc' := 199) (x := x5) kc_40_197 rfl rfl ?_
          refine xcps2 (α := Int32) ((v18 : Int32) + x5) (fun v19 ev19 => ?_)
          have rv19 := xc_rng v19
          refine xi_iadd (pc' := 200) (v := v19) kc_40_199 rfl ev19 ?_
          refine xi_static (mj := 39) (as := [.int v19]) (st1 := [.int x4, .ref 142]) (lv0 := [(0, .int v19)]) kc_40_200 rfl rfl (Nat.le_of_ble_eq_true rfl) rfl rfl (Nat.le_of_ble_eq_true rfl) (hJ _ _ _ _ (by decide)) (xm_le ml_39 rfl) rfl ?_
          refine mt_39_0 hJ hov1 hov2 (d := d) (x0 := v19) K.1 (fun r20 hh21 br20 K22 => ?_)
          have K23 := xk_tr K K22 rfl
          refine xp_115 K23.1 (fun u24 u25 u26 u27 u28 u29 u30 u31 u32 u33 u34 u35 u36 bu24 bu25 bu26 bu27 bu28 bu29 bu30 bu31 bu32 bu33 bu34 bu35 bu36 A37 => ?_)
          have e38 : u4 = u25 := xk_eqi (q := 1) K22 rfl A16 A37 rfl rfl
          subst e38
          show xw J ov (d + 2) 40 (203, [(0, .ref 115), (1, .int x1), (2, .int x2), (3, .int x3), (4, .int x4), (5, .int x5), (6, .int x6)], [.int r20, .int x4, .ref 142], hh21) _
          refine xcps4 (xk_arr K23.1 xD_142) (fun y39 A39 hy39 ry39 => ?_)
          refine xcps4 (xj_set (v := r20) hy39 ry39 x4 (by first | omega | decide) (by first | omega | decide)) (fun y40 s40 hy40 ry40 => ?_)
          refine xi_iastore (pc' := 204) (x' := y40) kc_40_203 rfl A39 rfl (xi_in (by omega) (by rw [hy39]; omega)) s40 (fun hh40 eh40 => ?_)
          have K41 := xk_pa K23 (xk_wa rfl) xD_142 hy40 ry40 eh40
          refine xi_return kc_40_204 mr_40 ?_
          exact kk hh40 K41
      · refine xi_cmf (pc' := 86) kc_40_83 rfl (xc_ge_f (X := x6.toInt) (Y := 12) rfl (by decide) (by omega)) ?_
        refine xi_iload_n (pc' := 87) (x := x3) kc_40_86 rfl rfl ?_
        by_cases c42 : x3.toInt ≤ 0
        · refine xi_ift (pc' := 179) kc_40_87 rfl (xc_le_t (X := x3.toInt) (Y := 0) rfl (by decide) (by omega)) ?_
          refine xi_iload (pc' := 181) (x := x4) kc_40_179 rfl rfl ?_
          by_cases c43 : x4.toInt < 0
          · refine xi_ift (pc' := 204) kc_40_181 rfl (xc_lt_t (X := x4.toInt) (Y := 0) rfl (by decide) (by omega)) ?_
            refine xi_return kc_40_204 mr_40 ?_
            exact kk h K
          · refine xi_iff (pc' := 184) kc_40_181 rfl (xc_lt_f (X := x4.toInt) (Y := 0) rfl (by decide) (by omega)) ?_
            refine xi_aload_n (pc' := 185) (x := 115) kc_40_184 rfl rfl ?_
            refine xp_115 K.1 (fun u44 u45 u46 u47 u48 u49 u50 u51 u52 u53 u54 u55 u56 bu44 bu45 bu46 bu47 bu48 bu49 bu50 bu51 bu52 bu53 bu54 bu55 bu56 A57 => ?_)
            refine xi_getfield (pc' := 188) (v := .ref 142) kc_40_185 rfl rfl rfl A57 rfl ?_
            refine xi_iload (pc' := 190) (x := x4) kc_40_188 rfl rfl ?_
            refine xi_aload_n (pc' := 191) (x := 115) kc_40_190 rfl rfl ?_
            refine xi_getfield (pc' := 194) (v := .ref 142) kc_40_191 rfl rfl rfl A57 rfl ?_
            refine xi_iload (pc' := 196) (x := x4) kc_40_194 rfl rfl ?_
            refine xcps4 (xk_arr K.1 xD_142) (fun y58 A58 hy58 ry58 => ?_)
            refine xcps4 (xj_get hy58 ry58 (i := x4) (by omega) (by omega)) (fun v59 ev59 bv59 dv59 => ?_)
            refine xi_iaload (pc' := 197) (v := v59) kc_40_196 rfl A58 (by decide) rfl (xi_in (by omega) (by rw [hy58]; omega)) ev59 ?_
            refine xi_iload (pc' := 199) (x := x5) kc_40_197 rfl rfl ?_
            refine xcps2 (α := Int32) ((v59 : Int32) + x5) (fun v60 ev60 => ?_)
            have rv60 := xc_rng v60
            refine xi_iadd (pc' := 200) (v := v60) kc_40_199 rfl ev60 ?_
            refine xi_static (mj := 39) (as := [.int v60]) (st1 := [.int x4, .ref 142]) (lv0 := [(0, .int v60)]) kc_40_200 rfl rfl (Nat.le_of_ble_eq_true rfl) rfl rfl (Nat.le_of_ble_eq_true rfl) (hJ _ _ _ _ (by decide)) (xm_le ml_39 rfl) rfl ?_
            refine mt_39_0 hJ hov1 hov2 (d := d) (x0 := v60) K.1 (fun r61 hh62 br61 K63 => ?_)
            have K64 := xk_tr K K63 rfl
            refine xp_115 K64.1 (fun u65 u66 u67 u68 u69 u70 u71 u72 u73 u74 u75 u76 u77 bu65 bu66 bu67 bu68 bu69 bu70 bu71 bu72 bu73 bu74 bu75 bu76 bu77 A78 => ?_)
            have e79 : u45 = u66 := xk_eqi (q := 1) K63 rfl A57 A78 rfl rfl
            subst e79
            show xw J ov (d + 2) 40 (203, [(0, .ref 115), (1, .int x1), (2, .int x2), (3, .int x3), (4, .int x4), (5, .int x5), (6, .int x6)], [.int r61, .int x4, .ref 142], hh62) _
            refine xcps4 (xk_arr K64.1 xD_142) (fun y80 A80 hy80 ry80 => ?_)
            refine xcps4 (xj_set (v := r61) hy80 ry80 x4 (by first | omega | decide) (by first | omega | decide)) (fun y81 s81 hy81 ry81 => ?_)
            refine xi_iastore (pc' := 204) (x' := y81) kc_40_203 rfl A80 rfl (xi_in (by omega) (by rw [hy80]; omega)) s81 (fun hh81 eh81 => ?_)
            have K82 := xk_pa K64 (xk_wa rfl) xD_142 hy81 ry81 eh81
            refine xi_return kc_40_204 mr_40 ?_
            exact kk hh81 K82
        · refine xi_iff (pc' := 90) kc_40_87 rfl (xc_le_f (X := x3.toInt) (Y := 0) rfl (by decide) (by omega)) ?_
          refine xi_aload_n (pc' := 91) (x := 115) kc_40_90 rfl rfl ?_
          refine xp_115 K.1 (fun u83 u84 u85 u86 u87 u88 u89 u90 u91 u92 u93 u94 u95 bu83 bu84 bu85 bu86 bu87 bu88 bu89 bu90 bu91 bu92 bu93 bu94 bu95 A96 => ?_)
          refine xi_getfield (pc' := 94) (v := .ref 125) kc_40_91 rfl rfl rfl A96 rfl ?_
          refine xi_iload (pc' := 96) (x := x6) kc_40_94 rfl rfl ?_
          refine xcps4 (xk_arr K.1 xD_125) (fun y97 A97 hy97 ry97 => ?_)
          refine xcps4 (xj_get hy97 ry97 (i := x6) (by omega) (by omega)) (fun v98 ev98 bv98 dv98 => ?_)
          refine xi_iaload (pc' := 97) (v := v98) kc_40_96 rfl A97 (by decide) rfl (xi_in (by omega) (by rw [hy97]; omega)) ev98 ?_
          refine xi_iload_n (pc' := 98) (x := x1) kc_40_97 rfl rfl ?_
          by_cases c99 : v98.toInt = x1.toInt
          · refine xi_cmf (pc' := 101) kc_40_98 rfl (xc_ne_f (X := v98.toInt) (Y := x1.toInt) rfl rfl (by omega)) ?_
            refine xi_aload_n (pc' := 102) (x := 115) kc_40_101 rfl rfl ?_
            refine xi_getfield (pc' := 105) (v := .ref 117) kc_40_102 rfl rfl rfl A96 rfl ?_
            refine xi_iload_n (pc' := 106) (x := x1) kc_40_105 rfl rfl ?_
            refine xcps4 (xk_arr K.1 xD_117) (fun y100 A100 hy100 ry100 => ?_)
            refine xcps4 (xj_get hy100 ry100 (i := x1) (by omega) (by omega)) (fun v101 ev101 bv101 dv101 => ?_)
            refine xi_iaload (pc' := 107) (v := v101) kc_40_106 rfl A100 (by decide) rfl (xi_in (by omega) (by rw [hy100]; omega)) ev101 ?_
            refine xi_aload_n (pc' := 108) (x := 115) kc_40_107 rfl rfl ?_
            refine xi_getfield (pc' := 111) (v := .int u88) kc_40_108 rfl rfl rfl A96 rfl ?_
            refine xcps2 (α := Int32) ((v101 : Int32) - u88) (fun v102 ev102 => ?_)
            have rv102 := xc_rng v102
            refine xi_isub (pc' := 112) (v := v102) kc_40_111 rfl ev102 ?_
            refine xi_aload_n (pc' := 113) (x := 115) kc_40_112 rfl rfl ?_
            refine xi_getfield (pc' := 116) (v := .ref 126) kc_40_113 rfl rfl rfl A96 rfl ?_
            refine xi_iload (pc' := 118) (x := x6) kc_40_116 rfl rfl ?_
            refine xcps4 (xk_arr K.1 xD_126) (fun y103 A103 hy103 ry103 => ?_)
            refine xcps4 (xj_get hy103 ry103 (i := x6) (by omega) (by omega)) (fun v104 ev104 bv104 dv104 => ?_)
            refine xi_iaload (pc' := 119) (v := v104) kc_40_118 rfl A103 (by decide) rfl (xi_in (by omega) (by rw [hy103]; omega)) ev104 ?_
            refine xcps2 (α := Int32) ((v102 : Int32) * v104) (fun v105 ev105 => ?_)
            have rv105 := xc_rng v105
            refine xi_imul (pc' := 120) (v := v105) kc_40_119 rfl ev105 ?_
            refine xi_bipush (pc' := 122) (v := 100) kc_40_120 rfl rfl ?_
            refine xcps2 (α := Int32) (v105 / 100) (fun v106 ev106 => ?_)
            have dv106 : 100 * v106.toInt ≤ v105.toInt + 99 ∧ v105.toInt ≤ 100 * v106.toInt + 99 := by rw [← ev106]; exact xz_div (X := v105.toInt) (Y := 100) rfl (by decide) (by decide)
            have bv106 : -21474837 ≤ v106.toInt ∧ v106.toInt ≤ 21474837 := by omega
            refine xi_idiv (pc' := 123) (v := v106) kc_40_122 rfl ev106 (by decide) ?_
            refine xi_istore (pc' := 125) (lv' := [(7, .int v106), (0, .ref 115), (1, .int x1), (2, .int x2), (3, .int x3), (4, .int x4), (5, .int x5), (6, .int x6)]) kc_40_123 rfl rfl (xm_lt ml_40 rfl) ?_
            refine xi_iload (pc' := 127) (x := v106) kc_40_125 rfl rfl ?_
            by_cases c107 : 0 ≤ v106.toInt
            · refine xi_ift (pc' := 134) kc_40_127 rfl (xc_ge_t (X := v106.toInt) (Y := 0) rfl (by decide) (by omega)) ?_
              refine xi_iload_n (pc' := 135) (x := x2) kc_40_134 rfl rfl ?_
              obtain ⟨v108, ev108⟩ : ∃ q, (x2 : Int32).toInt64 = q := ⟨_, rfl⟩
              have zv108 : v108 ≠ 0 := xj_l0 ev108 (by omega)
              refine xi_i2l (pc' := 136) (v := v108) kc_40_135 rfl ev108 ?_
              refine xi_iload (pc' := 138) (x := v106) kc_40_136 rfl rfl ?_
              obtain ⟨v109, ev109⟩ : ∃ q, (v106 : Int32).toInt64 = q := ⟨_, rfl⟩
              refine xi_i2l (pc' := 139) (v := v109) kc_40_138 rfl ev109 ?_
              refine xcps2 (α := Int64) ((v108 : Int64) * v109) (fun v110 ev110 => ?_)
              refine xi_lmul (pc' := 140) (v := v110) kc_40_139 rfl ev110 ?_
              refine xi_iload_n (pc' := 141) (x := x3) kc_40_140 rfl rfl ?_
              obtain ⟨v111, ev111⟩ : ∃ q, (x3 : Int32).toInt64 = q := ⟨_, rfl⟩
              have zv111 : v111 ≠ 0 := xj_l0 ev111 (by omega)
              refine xi_i2l (pc' := 142) (v := v111) kc_40_141 rfl ev111 ?_
              refine xcps2 (α := Int64) ((v110 : Int64) / v111) (fun v112 ev112 => ?_)
              refine xi_ldiv (pc' := 143) (v := v112) kc_40_142 rfl ev112 zv111 ?_
              obtain ⟨v113, ev113⟩ : ∃ q, (v112 : Int64).toInt32 = q := ⟨_, rfl⟩
              have rv113 := xc_rng v113
              refine xi_l2i (pc' := 144) (v := v113) kc_40_143 rfl ev113 ?_
              refine xi_istore (pc' := 146) (lv' := [(8, .int v113), (7, .int v106), (0, .ref 115), (1, .int x1), (2, .int x2), (3, .int x3), (4, .int x4), (5, .int x5), (6, .int x6)]) kc_40_144 rfl rfl (xm_lt ml_40 rfl) ?_
              refine xi_aload_n (pc' := 147) (x := 115) kc_40_146 rfl rfl ?_
              refine xi_getfield (pc' := 150) (v := .ref 142) kc_40_147 rfl rfl rfl A96 rfl ?_
              refine xi_iload (pc' := 152) (x := x6) kc_40_150 rfl rfl ?_
              refine xi_aload_n (pc' := 153) (x := 115) kc_40_152 rfl rfl ?_
              refine xi_getfield (pc' := 156) (v := .ref 142) kc_40_153 rfl rfl rfl A96 rfl ?_
              refine xi_iload (pc' := 158) (x := x6) kc_40_156 rfl rfl ?_
              refine xcps4 (xk_arr K.1 xD_142) (fun y114 A114 hy114 ry114 => ?_)
              refine xcps4 (xj_get hy114 ry114 (i := x6) (by omega) (by omega)) (fun v115 ev115 bv115 dv115 => ?_)
              refine xi_iaload (pc' := 159) (v := v115) kc_40_158 rfl A114 (by decide) rfl (xi_in (by omega) (by rw [hy114]; omega)) ev115 ?_
              refine xi_iload (pc' := 161) (x := v113) kc_40_159 rfl rfl ?_
              refine xcps2 (α := Int32) ((v115 : Int32) + v113) (fun v116 ev116 => ?_)
              have rv116 := xc_rng v116
              refine xi_iadd (pc' := 162) (v := v116) kc_40_161 rfl ev116 ?_
              refine xi_static (mj := 39) (as := [.int v116]) (st1 := [.int x6, .ref 142]) (lv0 := [(0, .int v116)]) kc_40_162 rfl rfl (Nat.le_of_ble_eq_true rfl) rfl rfl (Nat.le_of_ble_eq_true rfl) (hJ _ _ _ _ (by decide)) (xm_le ml_39 rfl) rfl ?_
              refine mt_39_0 hJ hov1 hov2 (d := d) (x0 := v116) K.1 (fun r117 hh118 br117 K119 => ?_)
              have K120 := xk_tr K K119 rfl
              refine xp_115 K120.1 (fun u121 u122 u123 u124 u125 u126 u127 u128 u129 u130 u131 u132 u133 bu121 bu122 bu123 bu124 bu125 bu126 bu127 bu128 bu129 bu130 bu131 bu132 bu133 A134 => ?_)
              have e135 : u84 = u122 := xk_eqi (q := 1) K119 rfl A96 A134 rfl rfl
              subst e135
              show xw J ov (d + 2) 40 (165, [(8, .int v113), (7, .int v106), (0, .ref 115), (1, .int x1), (2, .int x2), (3, .int x3), (4, .int x4), (5, .int x5), (6, .int x6)], [.int r117, .int x6, .ref 142], hh118) _
              refine xcps4 (xk_arr K120.1 xD_142) (fun y136 A136 hy136 ry136 => ?_)
              refine xcps4 (xj_set (v := r117) hy136 ry136 x6 (by first | omega | decide) (by first | omega | decide)) (fun y137 s137 hy137 ry137 => ?_)
              refine xi_iastore (pc' := 166) (x' := y137) kc_40_165 rfl A136 rfl (xi_in (by omega) (by rw [hy136]; omega)) s137 (fun hh137 eh137 => ?_)
              have K138 := xk_pa K120 (xk_wa rfl) xD_142 hy137 ry137 eh137
              refine xi_iload (pc' := 168) (x := x5) kc_40_166 rfl rfl ?_
              refine xi_iload (pc' := 170) (x := v113) kc_40_168 rfl rfl ?_
              refine xcps2 (α := Int32) ((x5 : Int32) - v113) (fun v139 ev139 => ?_)
              have rv139 := xc_rng v139
              refine xi_isub (pc' := 171) (v := v139) kc_40_170 rfl ev139 ?_
              refine xi_istore (pc' := 173) (lv' := [(5, .int v139), (8, .int v113), (7, .int v106), (0, .ref 115), (1, .int x1), (2, .int x2), (3, .int x3), (4, .int x4), (6, .int x6)]) kc_40_171 rfl rfl (xm_lt ml_40 rfl) ?_
              refine xcps2 (α := Int32) (x6 + 1) (fun v140 ev140 => ?_)
              have zv140 : v140.toInt = (x6.toInt + 1) := by rw [← ev140]; exact (xz_add (X := x6.toInt) (Y := 1) rfl (by decide) (by omega) (by omega)).trans (by omega)
              refine xi_iinc (pc' := 176) (x := x6) (v := v140) (lv' := [(6, .int v140), (5, .int v139), (8, .int v113), (7, .int v106), (0, .ref 115), (1, .int x1), (2, .int x2), (3, .int x3), (4, .int x4)]) kc_40_173 rfl rfl ev140 rfl (xm_lt ml_40 rfl) ?_
              refine xi_goto (pc' := 79) kc_40_176 rfl ?_
              refine xw_lv (b := [(0, .ref 115), (1, .int x1), (2, .int x2), (3, .int x3), (4, .int x4), (5, .int v139), (6, .int v140)]) (lvS_cons (lvS_cons (lvS_cons (lvS_cons (lvS_cons (lvS_cons (lvS_cons (lvS_nil (show ([6, 5, 8, 7, 0, 1, 2, 3, 4] : List Nat).Nodup by decide)) rfl) rfl) rfl) rfl) rfl) rfl) rfl) ?_
              exact i1 x1 x2 x3 x4 v139 v140 hh137 (by omega) (by omega) (by omega) (by omega) K138 (by omega)
            · refine xi_iff (pc' := 130) kc_40_127 rfl (xc_ge_f (X := v106.toInt) (Y := 0) rfl (by decide) (by omega)) ?_
              refine xi_iconst (pc' := 131) (v := 0) kc_40_130 rfl rfl ?_
              refine xi_goto (pc' := 144) kc_40_131 rfl ?_
              refine xi_istore (pc' := 146) (lv' := [(8, .int 0), (7, .int v106), (0, .ref 115), (1, .int x1), (2, .int x2), (3, .int x3), (4, .int x4), (5, .int x5), (6, .int x6)]) kc_40_144 rfl rfl (xm_lt ml_40 rfl) ?_
              refine xi_aload_n (pc' := 147) (x := 115) kc_40_146 rfl rfl ?_
              refine xi_getfield (pc' := 150) (v := .ref 142) kc_40_147 rfl rfl rfl A96 rfl ?_
              refine xi_iload (pc' := 152) (x := x6) kc_40_150 rfl rfl ?_
              refine xi_aload_n (pc' := 153) (x := 115) kc_40_152 rfl rfl ?_
              refine xi_getfield (pc' := 156) (v := .ref 142) kc_40_153 rfl rfl rfl A96 rfl ?_
              refine xi_iload (pc' := 158) (x := x6) kc_40_156 rfl rfl ?_
              refine xcps4 (xk_arr K.1 xD_142) (fun y141 A141 hy141 ry141 => ?_)
              refine xcps4 (xj_get hy141 ry141 (i := x6) (by omega) (by omega)) (fun v142 ev142 bv142 dv142 => ?_)
              refine xi_iaload (pc' := 159) (v := v142) kc_40_158 rfl A141 (by decide) rfl (xi_in (by omega) (by rw [hy141]; omega)) ev142 ?_
              refine xi_iload (pc' := 161) (x := 0) kc_40_159 rfl rfl ?_
              refine xcps2 (α := Int32) (v142 + 0) (fun v143 ev143 => ?_)
              have zv143 : v143.toInt = v142.toInt := by rw [← ev143]; exact (xz_add (X := v142.toInt) (Y := 0) rfl (by decide) (by omega) (by omega)).trans (by omega)
              refine xi_iadd (pc' := 162) (v := v143) kc_40_161 rfl ev143 ?_
              refine xi_static (mj := 39) (as := [.int v143]) (st1 := [.int x6, .ref 142]) (lv0 := [(0, .int v143)]) kc_40_162 rfl rfl (Nat.le_of_ble_eq_true rfl) rfl rfl (Nat.le_of_ble_eq_true rfl) (hJ _ _ _ _ (by decide)) (xm_le ml_39 rfl) rfl ?_
              refine mt_39_0 hJ hov1 hov2 (d := d) (x0 := v143) K.1 (fun r144 hh145 br144 K146 => ?_)
              have K147 := xk_tr K K146 rfl
              refine xp_115 K147.1 (fun u148 u149 u150 u151 u152 u153 u154 u155 u156 u157 u158 u159 u160 bu148 bu149 bu150 bu151 bu152 bu153 bu154 bu155 bu156 bu157 bu158 bu159 bu160 A161 => ?_)
              have e162 : u84 = u149 := xk_eqi (q := 1) K146 rfl A96 A161 rfl rfl
              subst e162
              show xw J ov (d + 2) 40 (165, [(8, .int 0), (7, .int v106), (0, .ref 115), (1, .int x1), (2, .int x2), (3, .int x3), (4, .int x4), (5, .int x5), (6, .int x6)], [.int r144, .int x6, .ref 142], hh145) _
              refine xcps4 (xk_arr K147.1 xD_142) (fun y163 A163 hy163 ry163 => ?_)
              refine xcps4 (xj_set (v := r144) hy163 ry163 x6 (by first | omega | decide) (by first | omega | decide)) (fun y164 s164 hy164 ry164 => ?_)
              refine xi_iastore (pc' := 166) (x' := y164) kc_40_165 rfl A163 rfl (xi_in (by omega) (by rw [hy163]; omega)) s164 (fun hh164 eh164 => ?_)
              have K165 := xk_pa K147 (xk_wa rfl) xD_142 hy164 ry164 eh164
              refine xi_iload (pc' := 168) (x := x5) kc_40_166 rfl rfl ?_
              refine xi_iload (pc' := 170) (x := 0) kc_40_168 rfl rfl ?_
              refine xcps2 (α := Int32) (x5 - 0) (fun v166 ev166 => ?_)
              have zv166 : v166.toInt = x5.toInt := by rw [← ev166]; exact (xz_sub (X := x5.toInt) (Y := 0) rfl (by decide) (by omega) (by omega)).trans (by omega)
              refine xi_isub (pc' := 171) (v := v166) kc_40_170 rfl ev166 ?_
              refine xi_istore (pc' := 173) (lv' := [(5, .int v166), (8, .int 0), (7, .int v106), (0, .ref 115), (1, .int x1), (2, .int x2), (3, .int x3), (4, .int x4), (6, .int x6)]) kc_40_171 rfl rfl (xm_lt ml_40 rfl) ?_
              refine xcps2 (α := Int32) (x6 + 1) (fun v167 ev167 => ?_)
              have zv167 : v167.toInt = (x6.toInt + 1) := by rw [← ev167]; exact (xz_add (X := x6.toInt) (Y := 1) rfl (by decide) (by omega) (by omega)).trans (by omega)
              refine xi_iinc (pc' := 176) (x := x6) (v := v167) (lv' := [(6, .int v167), (5, .int v166), (8, .int 0), (7, .int v106), (0, .ref 115), (1, .int x1), (2, .int x2), (3, .int x3), (4, .int x4)]) kc_40_173 rfl rfl ev167 rfl (xm_lt ml_40 rfl) ?_
              refine xi_goto (pc' := 79) kc_40_176 rfl ?_
              refine xw_lv (b := [(0, .ref 115), (1, .int x1), (2, .int x2), (3, .int x3), (4, .int x4), (5, .int v166), (6, .int v167)]) (lvS_cons (lvS_cons (lvS_cons (lvS_cons (lvS_cons (lvS_cons (lvS_cons (lvS_nil (show ([6, 5, 8, 7, 0, 1, 2, 3, 4] : List Nat).Nodup by decide)) rfl) rfl) rfl) rfl) rfl) rfl) rfl) ?_
              exact i1 x1 x2 x3 x4 v166 v167 hh164 (by omega) (by omega) (by omega) (by omega) K165 (by omega)
          · refine xi_cmt (pc' := 173) kc_40_98 rfl (xc_ne_t (X := v98.toInt) (Y := x1.toInt) rfl rfl (by omega)) ?_
            refine xcps2 (α := Int32) (x6 + 1) (fun v168 ev168 => ?_)
            have zv168 : v168.toInt = (x6.toInt + 1) := by rw [← ev168]; exact (xz_add (X := x6.toInt) (Y := 1) rfl (by decide) (by omega) (by omega)).trans (by omega)
            refine xi_iinc (pc' := 176) (x := x6) (v := v168) (lv' := [(6, .int v168), (0, .ref 115), (1, .int x1), (2, .int x2), (3, .int x3), (4, .int x4), (5, .int x5)]) kc_40_173 rfl rfl ev168 rfl (xm_lt ml_40 rfl) ?_
            refine xi_goto (pc' := 79) kc_40_176 rfl ?_
            refine xw_lv (b := [(0, .ref 115), (1, .int x1), (2, .int x2), (3, .int x3), (4, .int x4), (5, .int x5), (6, .int v168)]) (lvS_cons (lvS_cons (lvS_cons (lvS_cons (lvS_cons (lvS_cons (lvS_cons (lvS_nil (show ([6, 0, 1, 2, 3, 4, 5] : List Nat).Nodup by decide)) rfl) rfl) rfl) rfl) rfl) rfl) rfl) ?_
            exact i1 x1 x2 x3 x4 x5 v168 h (by omega) (by omega) (by omega) (by omega) K (by omega)
set_option maxHeartbeats 4000000 in
theorem mt_40_0 {J : xe_J} {ov : List (List Int32)} (hJ : ∀ d mj as h, mj ≠ xe_loff → J d mj as h = none) (hov1 : ov[1]? = some [10, 0, 0, 0, 0, 0]) (hov2 : ov[2]? = some [99, 30, 50, 50, 1, 99999]) {d : Nat} {Q : Option Value → xe_H → Prop} {h : xe_H} {x1 : Int32} {x2 : Int32} (T : xt h) (b1 : (0 ≤ x1.toInt ∧ x1.toInt ≤ 5)) (b2 : (1 ≤ x2.toInt ∧ x2.toInt ≤ 2147483647)) (kk : (∀ h' : xe_H, xk [(0, 9), (115, 1), (83, 0), (81, 0), (156, 0), (82, 0), (157, 0), (158, 0)] h h' → Q none h')) : xw J ov (d + 2) 40 (0, [(0, .ref 115), (1, .int x1), (2, .int x2)], [], h) Q := by
  have K : xk [(0, 9), (115, 1), (83, 0), (81, 0), (156, 0), (82, 0), (157, 0), (158, 0)] h h := xk_re T
  refine xi_iconst (pc' := 1) (v := 0) kc_40_0 rfl rfl ?_
  refine xi_istore_n (pc' := 2) (lv' := [(3, .int 0), (0, .ref 115), (1, .int x1), (2, .int x2)]) kc_40_1 rfl rfl (xm_lt ml_40 rfl) ?_
  refine xi_iconst (pc' := 3) (v := (-1)) kc_40_2 rfl rfl ?_
  refine xi_istore (pc' := 5) (lv' := [(4, .int (-1)), (3, .int 0), (0, .ref 115), (1, .int x1), (2, .int x2)]) kc_40_3 rfl rfl (xm_lt ml_40 rfl) ?_
  refine xi_bipush (pc' := 7) (v := 11) kc_40_5 rfl rfl ?_
  refine xi_istore (pc' := 9) (lv' := [(5, .int 11), (4, .int (-1)), (3, .int 0), (0, .ref 115), (1, .int x1), (2, .int x2)]) kc_40_7 rfl rfl (xm_lt ml_40 rfl) ?_
  have zcm1 : ((-1) : Int32).toInt = (-1) := by decide
  have zc0 : (0 : Int32).toInt = 0 := by decide
  have zc11 : (11 : Int32).toInt = 11 := by decide
  refine xw_lv (b := [(0, .ref 115), (1, .int x1), (2, .int x2), (3, .int 0), (4, .int (-1)), (5, .int 11)]) (lvS_cons (lvS_cons (lvS_cons (lvS_cons (lvS_cons (lvS_cons (lvS_nil (show ([5, 4, 3, 0, 1, 2] : List Nat).Nodup by decide)) rfl) rfl) rfl) rfl) rfl) rfl) ?_
  exact (lp_40_0 hJ hov1 hov2 (d := d) (hb := h) (fun h9 K9 => kk h9 (xk_tr K K9 rfl)) 26).1 x1 x2 0 (-1) 11 h (by omega) (by omega) (by omega) (by omega) (xk_re K.1) (by omega)
set_option maxHeartbeats 4000000 in
theorem lp_37_0 {J : xe_J} {ov : List (List Int32)} (hJ : ∀ d mj as h, mj ≠ xe_loff → J d mj as h = none) (hov1 : ov[1]? = some [10, 0, 0, 0, 0, 0]) (hov2 : ov[2]? = some [99, 30, 50, 50, 1, 99999]) {d : Nat} {Q : Option Value → xe_H → Prop} {hb : xe_H} (kk : (∀ h' : xe_H, xk [(0, 9), (115, 1), (83, 0), (81, 0), (156, 0), (82, 0), (157, 0), (158, 0)] hb h' → Q none h')) : ∀ m : Nat, (∀ (x1 : Int32) (x2 : Int32) (x3 : Int32) (x4 : Int32) (x5 : Int32) (x6 : Int32) (h : xe_H), (0 ≤ x1.toInt ∧ x1.toInt ≤ 5) → (0 ≤ x2.toInt ∧ x2.toInt ≤ 63) → (0 ≤ x3.toInt ∧ x3.toInt ≤ 1) → (0 ≤ x4.toInt ∧ x4.toInt ≤ 599) → (0 ≤ x6.toInt ∧ x6.toInt ≤ 10) → xk [(0, 9), (115, 1), (83, 0), (81, 0), (156, 0), (82, 0), (157, 0), (158, 0)] hb h → (-1) * x6.toInt + 10 < (m : Int) → xw J ov (d + 3) 37 (27, [(0, .ref 115), (1, .int x1), (2, .int x2), (3, .int x3), (4, .int x4), (5, .int x5), (6, .int x6)], [], h) Q) := by
  intro m
  induction m with
  | zero =>
    intro x1 x2 x3 x4 x5 x6 h b1 b2 b3 b4 b6 K hm; have rx5 := xc_rng x5; exfalso; omega
  | succ m ih =>
    have i0 := ih
    intro x1 x2 x3 x4 x5 x6 h b1 b2 b3 b4 b6 K hm
    have rx5 := xc_rng x5
    refine xi_iload (pc' := 29) (x := x6) kc_37_27 rfl rfl ?_
    refine xi_aload_n (pc' := 30) (x := 115) kc_37_29 rfl rfl ?_
    refine xp_115 K.1 (fun u1 u2 u3 u4 u5 u6 u7 u8 u9 u10 u11 u12 u13 bu1 bu2 bu3 bu4 bu5 bu6 bu7 bu8 bu9 bu10 bu11 bu12 bu13 A14 => ?_)
    refine xi_getfield (pc' := 33) (v := .int u5) kc_37_30 rfl rfl rfl A14 rfl ?_
    by_cases c15 : u5.toInt ≤ x6.toInt
    · refine xi_cmt (pc' := 93) kc_37_33 rfl (xc_ge_t (X := x6.toInt) (Y := u5.toInt) rfl rfl (by omega)) ?_
      refine xi_iload (pc' := 95) (x := x5) kc_37_93 rfl rfl ?_
      refine xi_static (mj := 39) (as := [.int x5]) (st1 := []) (lv0 := [(0, .int x5)]) kc_37_95 rfl rfl (Nat.le_of_ble_eq_true rfl) rfl rfl (Nat.le_of_ble_eq_true rfl) (hJ _ _ _ _ (by decide)) (xm_le ml_39 rfl) rfl ?_
      refine mt_39_0 hJ hov1 hov2 (d := d + 1) (x0 := x5) K.1 (fun r16 hh17 br16 K18 => ?_)
      have K19 := xk_tr K K18 rfl
      refine xp_115 K19.1 (fun u20 u21 u22 u23 u24 u25 u26 u27 u28 u29 u30 u31 u32 bu20 bu21 bu22 bu23 bu24 bu25 bu26 bu27 bu28 bu29 bu30 bu31 bu32 A33 => ?_)
      have e34 : u2 = u21 := xk_eqi (q := 1) K18 rfl A14 A33 rfl rfl
      subst e34
      show xw J ov (d + 3) 37 (98, [(0, .ref 115), (1, .int x1), (2, .int x2), (3, .int x3), (4, .int x4), (5, .int x5), (6, .int x6)], [.int r16], hh17) _
      refine xi_istore (pc' := 100) (lv' := [(5, .int r16), (0, .ref 115), (1, .int x1), (2, .int x2), (3, .int x3), (4, .int x4), (6, .int x6)]) kc_37_98 rfl rfl (xm_lt ml_37 rfl) ?_
      refine xi_aload_n (pc' := 101) (x := 115) kc_37_100 rfl rfl ?_
      refine xi_getfield (pc' := 104) (v := .ref 116) kc_37_101 rfl rfl rfl A33 rfl ?_
      refine xi_iload_n (pc' := 105) (x := x1) kc_37_104 rfl rfl ?_
      refine xcps4 (xk_arr K19.1 xD_116) (fun y35 A35 hy35 ry35 => ?_)
      refine xcps4 (xj_get hy35 ry35 (i := x1) (by omega) (by omega)) (fun v36 ev36 bv36 dv36 => ?_)
      refine xi_iaload (pc' := 106) (v := v36) kc_37_105 rfl A35 (by decide) rfl (xi_in (by omega) (by rw [hy35]; omega)) ev36 ?_
      refine xi_aload_n (pc' := 107) (x := 115) kc_37_106 rfl rfl ?_
      refine xi_getfield (pc' := 110) (v := .int u25) kc_37_107 rfl rfl rfl A33 rfl ?_
      refine xi_static (mj := 22) (as := [.int u25]) (st1 := [.int v36]) (lv0 := [(0, .int u25)]) kc_37_110 rfl rfl (Nat.le_of_ble_eq_true rfl) rfl rfl (Nat.le_of_ble_eq_true rfl) (hJ _ _ _ _ (by decide)) (xm_le ml_22 rfl) rfl ?_
      refine mt_22_0 hJ hov1 hov2 (d := d + 1) (x0 := u25) K19.1 (fun r37 hh38 br37 K39 => ?_)
      have K40 := xk_tr K19 K39 rfl
      refine xp_115 K40.1 (fun u41 u42 u43 u44 u45 u46 u47 u48 u49 u50 u51 u52 u53 bu41 bu42 bu43 bu44 bu45 bu46 bu47 bu48 bu49 bu50 bu51 bu52 bu53 A54 => ?_)
      have e55 : u2 = u42 := xk_eqi (q := 1) K39 rfl A33 A54 rfl rfl
      subst e55
      show xw J ov (d + 3) 37 (113, [(5, .int r16), (0, .ref 115), (1, .int x1), (2, .int x2), (3, .int x3), (4, .int x4), (6, .int x6)], [.int r37, .int v36], hh38) _
      refine xcps2 (α := Int32) ((v36 : Int32) * r37) (fun v56 ev56 => ?_)
      have rv56 := xc_rng v56
      refine xi_imul (pc' := 114) (v := v56) kc_37_113 rfl ev56 ?_
      refine xi_iconst (pc' := 115) (v := 2) kc_37_114 rfl rfl ?_
      refine xcps2 (α := Int32) (v56 / 2) (fun v57 ev57 => ?_)
      have dv57 : 2 * v57.toInt ≤ v56.toInt + 1 ∧ v56.toInt ≤ 2 * v57.toInt + 1 := by rw [← ev57]; exact xz_div (X := v56.toInt) (Y := 2) rfl (by decide) (by decide)
      have bv57 : -1073741825 ≤ v57.toInt ∧ v57.toInt ≤ 1073741824 := by omega
      refine xi_idiv (pc' := 116) (v := v57) kc_37_115 rfl ev57 (by decide) ?_
      refine xi_istore (pc' := 118) (lv' := [(6, .int v57), (5, .int r16), (0, .ref 115), (1, .int x1), (2, .int x2), (3, .int x3), (4, .int x4)]) kc_37_116 rfl rfl (xm_lt ml_37 rfl) ?_
      refine xi_iload (pc' := 120) (x := r16) kc_37_118 rfl rfl ?_
      refine xi_iload (pc' := 122) (x := r16) kc_37_120 rfl rfl ?_
      refine xi_iload (pc' := 124) (x := v57) kc_37_122 rfl rfl ?_
      refine xcps2 (α := Int32) (r16 - v57) (fun v58 ev58 => ?_)
      have zv58 : v58.toInt = (r16.toInt + (-1) * v57.toInt) := by rw [← ev58]; exact (xz_sub (X := r16.toInt) (Y := v57.toInt) rfl rfl (by omega) (by omega)).trans (by omega)
      refine xi_isub (pc' := 125) (v := v58) kc_37_124 rfl ev58 ?_
      refine xi_aload_n (pc' := 126) (x := 115) kc_37_125 rfl rfl ?_
      refine xi_getfield (pc' := 129) (v := .ref 118) kc_37_126 rfl rfl rfl A54 rfl ?_
      refine xi_iload_n (pc' := 130) (x := x1) kc_37_129 rfl rfl ?_
      refine xcps4 (xk_arr K40.1 xD_118) (fun y59 A59 hy59 ry59 => ?_)
      refine xcps4 (xj_get hy59 ry59 (i := x1) (by omega) (by omega)) (fun v60 ev60 bv60 dv60 => ?_)
      refine xi_iaload (pc' := 131) (v := v60) kc_37_130 rfl A59 (by decide) rfl (xi_in (by omega) (by rw [hy59]; omega)) ev60 ?_
      refine xi_aload_n (pc' := 132) (x := 115) kc_37_131 rfl rfl ?_
      refine xi_getfield (pc' := 135) (v := .ref 120) kc_37_132 rfl rfl rfl A54 rfl ?_
      refine xi_iload_n (pc' := 136) (x := x1) kc_37_135 rfl rfl ?_
      refine xcps4 (xk_arr K40.1 xD_120) (fun y61 A61 hy61 ry61 => ?_)
      refine xcps4 (xj_get hy61 ry61 (i := x1) (by omega) (by omega)) (fun v62 ev62 bv62 dv62 => ?_)
      refine xi_iaload (pc' := 137) (v := v62) kc_37_136 rfl A61 (by decide) rfl (xi_in (by omega) (by rw [hy61]; omega)) ev62 ?_
      refine xi_iconst (pc' := 138) (v := 1) kc_37_137 rfl rfl ?_
      by_cases c63 : v62.toInt = 1
      · refine xi_cmf (pc' := 141) kc_37_138 rfl (xc_ne_f (X := v62.toInt) (Y := 1) rfl (by decide) (by omega)) ?_
        refine xi_aload_n (pc' := 142) (x := 115) kc_37_141 rfl rfl ?_
        refine xi_getfield (pc' := 145) (v := .ref 119) kc_37_142 rfl rfl rfl A54 rfl ?_
        refine xi_iload_n (pc' := 146) (x := x1) kc_37_145 rfl rfl ?_
        refine xcps4 (xk_arr K40.1 xD_119) (fun y64 A64 hy64 ry64 => ?_)
        refine xcps4 (xj_get hy64 ry64 (i := x1) (by omega) (by omega)) (fun v65 ev65 bv65 dv65 => ?_)
        refine xi_iaload (pc' := 147) (v := v65) kc_37_146 rfl A64 (by decide) rfl (xi_in (by omega) (by rw [hy64]; omega)) ev65 ?_
        refine xi_goto (pc' := 151) kc_37_147 rfl ?_
        refine xcps2 (α := Int32) ((v60 : Int32) + v65) (fun v66 ev66 => ?_)
        have rv66 := xc_rng v66
        refine xi_iadd (pc' := 152) (v := v66) kc_37_151 rfl ev66 ?_
        refine xcps2 (α := Int32) ((v58 : Int32) * v66) (fun v67 ev67 => ?_)
        have rv67 := xc_rng v67
        refine xi_imul (pc' := 153) (v := v67) kc_37_152 rfl ev67 ?_
        refine xi_bipush (pc' := 155) (v := 100) kc_37_153 rfl rfl ?_
        refine xcps2 (α := Int32) (v67 / 100) (fun v68 ev68 => ?_)
        have dv68 : 100 * v68.toInt ≤ v67.toInt + 99 ∧ v67.toInt ≤ 100 * v68.toInt + 99 := by rw [← ev68]; exact xz_div (X := v67.toInt) (Y := 100) rfl (by decide) (by decide)
        have bv68 : -21474837 ≤ v68.toInt ∧ v68.toInt ≤ 21474837 := by omega
        refine xi_idiv (pc' := 156) (v := v68) kc_37_155 rfl ev68 (by decide) ?_
        refine xcps2 (α := Int32) (r16 - v68) (fun v69 ev69 => ?_)
        have zv69 : v69.toInt = (r16.toInt + (-1) * v68.toInt) := by rw [← ev69]; exact (xz_sub (X := r16.toInt) (Y := v68.toInt) rfl rfl (by omega) (by omega)).trans (by omega)
        refine xi_isub (pc' := 157) (v := v69) kc_37_156 rfl ev69 ?_
        refine xi_static (mj := 39) (as := [.int v69]) (st1 := []) (lv0 := [(0, .int v69)]) kc_37_157 rfl rfl (Nat.le_of_ble_eq_true rfl) rfl rfl (Nat.le_of_ble_eq_true rfl) (hJ _ _ _ _ (by decide)) (xm_le ml_39 rfl) rfl ?_
        refine mt_39_0 hJ hov1 hov2 (d := d + 1) (x0 := v69) K40.1 (fun r70 hh71 br70 K72 => ?_)
        have K73 := xk_tr K40 K72 rfl
        refine xp_115 K73.1 (fun u74 u75 u76 u77 u78 u79 u80 u81 u82 u83 u84 u85 u86 bu74 bu75 bu76 bu77 bu78 bu79 bu80 bu81 bu82 bu83 bu84 bu85 bu86 A87 => ?_)
        have e88 : u2 = u75 := xk_eqi (q := 1) K72 rfl A54 A87 rfl rfl
        subst e88
        show xw J ov (d + 3) 37 (160, [(6, .int v57), (5, .int r16), (0, .ref 115), (1, .int x1), (2, .int x2), (3, .int x3), (4, .int x4)], [.int r70], hh71) _
        refine xi_istore (pc' := 162) (lv' := [(5, .int r70), (6, .int v57), (0, .ref 115), (1, .int x1), (2, .int x2), (3, .int x3), (4, .int x4)]) kc_37_160 rfl rfl (xm_lt ml_37 rfl) ?_
        refine xi_aload_n (pc' := 163) (x := 115) kc_37_162 rfl rfl ?_
        refine xi_getfield (pc' := 166) (v := .ref 116) kc_37_163 rfl rfl rfl A87 rfl ?_
        refine xi_iload_n (pc' := 167) (x := x1) kc_37_166 rfl rfl ?_
        refine xcps4 (xk_arr K73.1 xD_116) (fun y89 A89 hy89 ry89 => ?_)
        refine xcps4 (xj_get hy89 ry89 (i := x1) (by omega) (by omega)) (fun v90 ev90 bv90 dv90 => ?_)
        refine xi_iaload (pc' := 168) (v := v90) kc_37_167 rfl A89 (by decide) rfl (xi_in (by omega) (by rw [hy89]; omega)) ev90 ?_
        refine xi_aload_n (pc' := 169) (x := 115) kc_37_168 rfl rfl ?_
        refine xi_getfield (pc' := 172) (v := .ref 117) kc_37_169 rfl rfl rfl A87 rfl ?_
        refine xi_iload_n (pc' := 173) (x := x1) kc_37_172 rfl rfl ?_
        refine xcps4 (xk_arr K73.1 xD_117) (fun y91 A91 hy91 ry91 => ?_)
        refine xcps4 (xj_get hy91 ry91 (i := x1) (by omega) (by omega)) (fun v92 ev92 bv92 dv92 => ?_)
        refine xi_iaload (pc' := 174) (v := v92) kc_37_173 rfl A91 (by decide) rfl (xi_in (by omega) (by rw [hy91]; omega)) ev92 ?_
        refine xi_static (mj := 22) (as := [.int v92]) (st1 := [.int v90]) (lv0 := [(0, .int v92)]) kc_37_174 rfl rfl (Nat.le_of_ble_eq_true rfl) rfl rfl (Nat.le_of_ble_eq_true rfl) (hJ _ _ _ _ (by decide)) (xm_le ml_22 rfl) rfl ?_
        refine mt_22_0 hJ hov1 hov2 (d := d + 1) (x0 := v92) K73.1 (fun r93 hh94 br93 K95 => ?_)
        have K96 := xk_tr K73 K95 rfl
        refine xp_115 K96.1 (fun u97 u98 u99 u100 u101 u102 u103 u104 u105 u106 u107 u108 u109 bu97 bu98 bu99 bu100 bu101 bu102 bu103 bu104 bu105 bu106 bu107 bu108 bu109 A110 => ?_)
        have e111 : u2 = u98 := xk_eqi (q := 1) K95 rfl A87 A110 rfl rfl
        subst e111
        show xw J ov (d + 3) 37 (177, [(5, .int r70), (6, .int v57), (0, .ref 115), (1, .int x1), (2, .int x2), (3, .int x3), (4, .int x4)], [.int r93, .int v90], hh94) _
        refine xcps2 (α := Int32) ((v90 : Int32) * r93) (fun v112 ev112 => ?_)
        have rv112 := xc_rng v112
        refine xi_imul (pc' := 178) (v := v112) kc_37_177 rfl ev112 ?_
        refine xi_istore (pc' := 180) (lv' := [(7, .int v112), (5, .int r70), (6, .int v57), (0, .ref 115), (1, .int x1), (2, .int x2), (3, .int x3), (4, .int x4)]) kc_37_178 rfl rfl (xm_lt ml_37 rfl) ?_
        refine xi_iload (pc' := 182) (x := r70) kc_37_180 rfl rfl ?_
        refine xi_iload (pc' := 184) (x := v112) kc_37_182 rfl rfl ?_
        by_cases c113 : r70.toInt ≤ v112.toInt
        · refine xi_cmt (pc' := 195) kc_37_184 rfl (xc_le_t (X := r70.toInt) (Y := v112.toInt) rfl rfl (by omega)) ?_
          refine xi_iconst (pc' := 196) (v := 0) kc_37_195 rfl rfl ?_
          refine xi_istore (pc' := 198) (lv' := [(8, .int 0), (7, .int v112), (5, .int r70), (6, .int v57), (0, .ref 115), (1, .int x1), (2, .int x2), (3, .int x3), (4, .int x4)]) kc_37_196 rfl rfl (xm_lt ml_37 rfl) ?_
          refine xi_aload_n (pc' := 199) (x := 115) kc_37_198 rfl rfl ?_
          refine xi_getfield (pc' := 202) (v := .ref 141) kc_37_199 rfl rfl rfl A110 rfl ?_
          refine xi_iload_n (pc' := 203) (x := x1) kc_37_202 rfl rfl ?_
          refine xi_iload (pc' := 205) (x := r70) kc_37_203 rfl rfl ?_
          refine xi_iload (pc' := 207) (x := 0) kc_37_205 rfl rfl ?_
          refine xcps2 (α := Int32) (r70 - 0) (fun v114 ev114 => ?_)
          have zv114 : v114.toInt = r70.toInt := by rw [← ev114]; exact (xz_sub (X := r70.toInt) (Y := 0) rfl (by decide) (by omega) (by omega)).trans (by omega)
          refine xi_isub (pc' := 208) (v := v114) kc_37_207 rfl ev114 ?_
          refine xcps4 (xk_arr K96.1 xD_141) (fun y115 A115 hy115 ry115 => ?_)
          refine xcps4 (xj_set (v := v114) hy115 ry115 x1 (by first | omega | decide) (by first | omega | decide)) (fun y116 s116 hy116 ry116 => ?_)
          refine xi_iastore (pc' := 209) (x' := y116) kc_37_208 rfl A115 rfl (xi_in (by omega) (by rw [hy115]; omega)) s116 (fun hh116 eh116 => ?_)
          have K117 := xk_pa K96 (xk_wa rfl) xD_141 hy116 ry116 eh116
          refine xi_iload (pc' := 211) (x := 0) kc_37_209 rfl rfl ?_
          refine xi_ift (pc' := 221) kc_37_211 rfl rfl ?_
          refine xi_return kc_37_221 mr_37 ?_
          exact kk hh116 K117
        · refine xi_cmf (pc' := 187) kc_37_184 rfl (xc_le_f (X := r70.toInt) (Y := v112.toInt) rfl rfl (by omega)) ?_
          refine xi_iload (pc' := 189) (x := r70) kc_37_187 rfl rfl ?_
          refine xi_iload (pc' := 191) (x := v112) kc_37_189 rfl rfl ?_
          refine xcps2 (α := Int32) ((r70 : Int32) - v112) (fun v118 ev118 => ?_)
          have rv118 := xc_rng v118
          refine xi_isub (pc' := 192) (v := v118) kc_37_191 rfl ev118 ?_
          refine xi_goto (pc' := 196) kc_37_192 rfl ?_
          refine xi_istore (pc' := 198) (lv' := [(8, .int v118), (7, .int v112), (5, .int r70), (6, .int v57), (0, .ref 115), (1, .int x1), (2, .int x2), (3, .int x3), (4, .int x4)]) kc_37_196 rfl rfl (xm_lt ml_37 rfl) ?_
          refine xi_aload_n (pc' := 199) (x := 115) kc_37_198 rfl rfl ?_
          refine xi_getfield (pc' := 202) (v := .ref 141) kc_37_199 rfl rfl rfl A110 rfl ?_
          refine xi_iload_n (pc' := 203) (x := x1) kc_37_202 rfl rfl ?_
          refine xi_iload (pc' := 205) (x := r70) kc_37_203 rfl rfl ?_
          refine xi_iload (pc' := 207) (x := v118) kc_37_205 rfl rfl ?_
          refine xcps2 (α := Int32) ((r70 : Int32) - v118) (fun v119 ev119 => ?_)
          have rv119 := xc_rng v119
          refine xi_isub (pc' := 208) (v := v119) kc_37_207 rfl ev119 ?_
          refine xcps4 (xk_arr K96.1 xD_141) (fun y120 A120 hy120 ry120 => ?_)
          refine xcps4 (xj_set (v := v119) hy120 ry120 x1 (by first | omega | decide) (by first | omega | decide)) (fun y121 s121 hy121 ry121 => ?_)
          refine xi_iastore (pc' := 209) (x' := y121) kc_37_208 rfl A120 rfl (xi_in (by omega) (by rw [hy120]; omega)) s121 (fun hh121 eh121 => ?_)
          have K122 := xk_pa K96 (xk_wa rfl) xD_141 hy121 ry121 eh121
          refine xi_iload (pc' := 211) (x := v118) kc_37_209 rfl rfl ?_
          by_cases c123 : v118.toInt ≤ 0
          · refine xi_ift (pc' := 221) kc_37_211 rfl (xc_le_t (X := v118.toInt) (Y := 0) rfl (by decide) (by omega)) ?_
            refine xi_return kc_37_221 mr_37 ?_
            exact kk hh121 K122
          · refine xi_iff (pc' := 214) kc_37_211 rfl (xc_le_f (X := v118.toInt) (Y := 0) rfl (by decide) (by omega)) ?_
            refine xi_aload_n (pc' := 215) (x := 115) kc_37_214 rfl rfl ?_
            refine xi_iload_n (pc' := 216) (x := x1) kc_37_215 rfl rfl ?_
            refine xi_iload (pc' := 218) (x := v118) kc_37_216 rfl rfl ?_
            have A124 := ((eh121.2.1 115 (by decide)).trans A110)
            refine xi_virtual (mj := 40) (as := [.int x1, .int v118]) (st1 := []) (lv0 := [(0, .ref 115), (1, .int x1), (2, .int v118)]) kc_37_218 rfl rfl rfl rfl rfl A124 (Nat.le_of_ble_eq_true rfl) (hJ _ _ _ _ (by decide)) (xm_le ml_40 rfl) rfl ?_
            refine mt_40_0 hJ hov1 hov2 (d := d) (x1 := x1) (x2 := v118) K122.1 (by first | omega | decide) (by first | omega | decide) (fun hh126 K127 => ?_)
            have K128 := xk_tr K122 K127 rfl
            refine xp_115 K128.1 (fun u129 u130 u131 u132 u133 u134 u135 u136 u137 u138 u139 u140 u141 bu129 bu130 bu131 bu132 bu133 bu134 bu135 bu136 bu137 bu138 bu139 bu140 bu141 A142 => ?_)
            have e143 : u2 = u130 := xk_eqi (q := 1) K127 rfl A124 A142 rfl rfl
            subst e143
            show xw J ov (d + 3) 37 (221, [(8, .int v118), (7, .int v112), (5, .int r70), (6, .int v57), (0, .ref 115), (1, .int x1), (2, .int x2), (3, .int x3), (4, .int x4)], [], hh126) _
            refine xi_return kc_37_221 mr_37 ?_
            exact kk hh126 K128
      · refine xi_cmt (pc' := 150) kc_37_138 rfl (xc_ne_t (X := v62.toInt) (Y := 1) rfl (by decide) (by omega)) ?_
        refine xi_iconst (pc' := 151) (v := 0) kc_37_150 rfl rfl ?_
        refine xcps2 (α := Int32) (v60 + 0) (fun v144 ev144 => ?_)
        have zv144 : v144.toInt = v60.toInt := by rw [← ev144]; exact (xz_add (X := v60.toInt) (Y := 0) rfl (by decide) (by omega) (by omega)).trans (by omega)
        refine xi_iadd (pc' := 152) (v := v144) kc_37_151 rfl ev144 ?_
        refine xcps2 (α := Int32) ((v58 : Int32) * v144) (fun v145 ev145 => ?_)
        have rv145 := xc_rng v145
        refine xi_imul (pc' := 153) (v := v145) kc_37_152 rfl ev145 ?_
        refine xi_bipush (pc' := 155) (v := 100) kc_37_153 rfl rfl ?_
        refine xcps2 (α := Int32) (v145 / 100) (fun v146 ev146 => ?_)
        have dv146 : 100 * v146.toInt ≤ v145.toInt + 99 ∧ v145.toInt ≤ 100 * v146.toInt + 99 := by rw [← ev146]; exact xz_div (X := v145.toInt) (Y := 100) rfl (by decide) (by decide)
        have bv146 : -21474837 ≤ v146.toInt ∧ v146.toInt ≤ 21474837 := by omega
        refine xi_idiv (pc' := 156) (v := v146) kc_37_155 rfl ev146 (by decide) ?_
        refine xcps2 (α := Int32) (r16 - v146) (fun v147 ev147 => ?_)
        have zv147 : v147.toInt = (r16.toInt + (-1) * v146.toInt) := by rw [← ev147]; exact (xz_sub (X := r16.toInt) (Y := v146.toInt) rfl rfl (by omega) (by omega)).trans (by omega)
        refine xi_isub (pc' := 157) (v := v147) kc_37_156 rfl ev147 ?_
        refine xi_static (mj := 39) (as := [.int v147]) (st1 := []) (lv0 := [(0, .int v147)]) kc_37_157 rfl rfl (Nat.le_of_ble_eq_true rfl) rfl rfl (Nat.le_of_ble_eq_true rfl) (hJ _ _ _ _ (by decide)) (xm_le ml_39 rfl) rfl ?_
        refine mt_39_0 hJ hov1 hov2 (d := d + 1) (x0 := v147) K40.1 (fun r148 hh149 br148 K150 => ?_)
        have K151 := xk_tr K40 K150 rfl
        refine xp_115 K151.1 (fun u152 u153 u154 u155 u156 u157 u158 u159 u160 u161 u162 u163 u164 bu152 bu153 bu154 bu155 bu156 bu157 bu158 bu159 bu160 bu161 bu162 bu163 bu164 A165 => ?_)
        have e166 : u2 = u153 := xk_eqi (q := 1) K150 rfl A54 A165 rfl rfl
        subst e166
        show xw J ov (d + 3) 37 (160, [(6, .int v57), (5, .int r16), (0, .ref 115), (1, .int x1), (2, .int x2), (3, .int x3), (4, .int x4)], [.int r148], hh149) _
        refine xi_istore (pc' := 162) (lv' := [(5, .int r148), (6, .int v57), (0, .ref 115), (1, .int x1), (2, .int x2), (3, .int x3), (4, .int x4)]) kc_37_160 rfl rfl (xm_lt ml_37 rfl) ?_
        refine xi_aload_n (pc' := 163) (x := 115) kc_37_162 rfl rfl ?_
        refine xi_getfield (pc' := 166) (v := .ref 116) kc_37_163 rfl rfl rfl A165 rfl ?_
        refine xi_iload_n (pc' := 167) (x := x1) kc_37_166 rfl rfl ?_
        refine xcps4 (xk_arr K151.1 xD_116) (fun y167 A167 hy167 ry167 => ?_)
        refine xcps4 (xj_get hy167 ry167 (i := x1) (by omega) (by omega)) (fun v168 ev168 bv168 dv168 => ?_)
        refine xi_iaload (pc' := 168) (v := v168) kc_37_167 rfl A167 (by decide) rfl (xi_in (by omega) (by rw [hy167]; omega)) ev168 ?_
        refine xi_aload_n (pc' := 169) (x := 115) kc_37_168 rfl rfl ?_
        refine xi_getfield (pc' := 172) (v := .ref 117) kc_37_169 rfl rfl rfl A165 rfl ?_
        refine xi_iload_n (pc' := 173) (x := x1) kc_37_172 rfl rfl ?_
        refine xcps4 (xk_arr K151.1 xD_117) (fun y169 A169 hy169 ry169 => ?_)
        refine xcps4 (xj_get hy169 ry169 (i := x1) (by omega) (by omega)) (fun v170 ev170 bv170 dv170 => ?_)
        refine xi_iaload (pc' := 174) (v := v170) kc_37_173 rfl A169 (by decide) rfl (xi_in (by omega) (by rw [hy169]; omega)) ev170 ?_
        refine xi_static (mj := 22) (as := [.int v170]) (st1 := [.int v168]) (lv0 := [(0, .int v170)]) kc_37_174 rfl rfl (Nat.le_of_ble_eq_true rfl) rfl rfl (Nat.le_of_ble_eq_true rfl) (hJ _ _ _ _ (by decide)) (xm_le ml_22 rfl) rfl ?_
        refine mt_22_0 hJ hov1 hov2 (d := d + 1) (x0 := v170) K151.1 (fun r171 hh172 br171 K173 => ?_)
        have K174 := xk_tr K151 K173 rfl
        refine xp_115 K174.1 (fun u175 u176 u177 u178 u179 u180 u181 u182 u183 u184 u185 u186 u187 bu175 bu176 bu177 bu178 bu179 bu180 bu181 bu182 bu183 bu184 bu185 bu186 bu187 A188 => ?_)
        have e189 : u2 = u176 := xk_eqi (q := 1) K173 rfl A165 A188 rfl rfl
        subst e189
        show xw J ov (d + 3) 37 (177, [(5, .int r148), (6, .int v57), (0, .ref 115), (1, .int x1), (2, .int x2), (3, .int x3), (4, .int x4)], [.int r171, .int v168], hh172) _
        refine xcps2 (α := Int32) ((v168 : Int32) * r171) (fun v190 ev190 => ?_)
        have rv190 := xc_rng v190
        refine xi_imul (pc' := 178) (v := v190) kc_37_177 rfl ev190 ?_
        refine xi_istore (pc' := 180) (lv' := [(7, .int v190), (5, .int r148), (6, .int v57), (0, .ref 115), (1, .int x1), (2, .int x2), (3, .int x3), (4, .int x4)]) kc_37_178 rfl rfl (xm_lt ml_37 rfl) ?_
        refine xi_iload (pc' := 182) (x := r148) kc_37_180 rfl rfl ?_
        refine xi_iload (pc' := 184) (x := v190) kc_37_182 rfl rfl ?_
        by_cases c191 : r148.toInt ≤ v190.toInt
        · refine xi_cmt (pc' := 195) kc_37_184 rfl (xc_le_t (X := r148.toInt) (Y := v190.toInt) rfl rfl (by omega)) ?_
          refine xi_iconst (pc' := 196) (v := 0) kc_37_195 rfl rfl ?_
          refine xi_istore (pc' := 198) (lv' := [(8, .int 0), (7, .int v190), (5, .int r148), (6, .int v57), (0, .ref 115), (1, .int x1), (2, .int x2), (3, .int x3), (4, .int x4)]) kc_37_196 rfl rfl (xm_lt ml_37 rfl) ?_
          refine xi_aload_n (pc' := 199) (x := 115) kc_37_198 rfl rfl ?_
          refine xi_getfield (pc' := 202) (v := .ref 141) kc_37_199 rfl rfl rfl A188 rfl ?_
          refine xi_iload_n (pc' := 203) (x := x1) kc_37_202 rfl rfl ?_
          refine xi_iload (pc' := 205) (x := r148) kc_37_203 rfl rfl ?_
          refine xi_iload (pc' := 207) (x := 0) kc_37_205 rfl rfl ?_
          refine xcps2 (α := Int32) (r148 - 0) (fun v192 ev192 => ?_)
          have zv192 : v192.toInt = r148.toInt := by rw [← ev192]; exact (xz_sub (X := r148.toInt) (Y := 0) rfl (by decide) (by omega) (by omega)).trans (by omega)
          refine xi_isub (pc' := 208) (v := v192) kc_37_207 rfl ev192 ?_
          refine xcps4 (xk_arr K174.1 xD_141) (fun y193 A193 hy193 ry193 => ?_)
          refine xcps4 (xj_set (v := v192) hy193 ry193 x1 (by first | omega | decide) (by first | omega | decide)) (fun y194 s194 hy194 ry194 => ?_)
          refine xi_iastore (pc' := 209) (x' := y194) kc_37_208 rfl A193 rfl (xi_in (by omega) (by rw [hy193]; omega)) s194 (fun hh194 eh194 => ?_)
          have K195 := xk_pa K174 (xk_wa rfl) xD_141 hy194 ry194 eh194
          refine xi_iload (pc' := 211) (x := 0) kc_37_209 rfl rfl ?_
          refine xi_ift (pc' := 221) kc_37_211 rfl rfl ?_
          refine xi_return kc_37_221 mr_37 ?_
          exact kk hh194 K195
        · refine xi_cmf (pc' := 187) kc_37_184 rfl (xc_le_f (X := r148.toInt) (Y := v190.toInt) rfl rfl (by omega)) ?_
          refine xi_iload (pc' := 189) (x := r148) kc_37_187 rfl rfl ?_
          refine xi_iload (pc' := 191) (x := v190) kc_37_189 rfl rfl ?_
          refine xcps2 (α := Int32) ((r148 : Int32) - v190) (fun v196 ev196 => ?_)
          have rv196 := xc_rng v196
          refine xi_isub (pc' := 192) (v := v196) kc_37_191 rfl ev196 ?_
          refine xi_goto (pc' := 196) kc_37_192 rfl ?_
          refine xi_istore (pc' := 198) (lv' := [(8, .int v196), (7, .int v190), (5, .int r148), (6, .int v57), (0, .ref 115), (1, .int x1), (2, .int x2), (3, .int x3), (4, .int x4)]) kc_37_196 rfl rfl (xm_lt ml_37 rfl) ?_
          refine xi_aload_n (pc' := 199) (x := 115) kc_37_198 rfl rfl ?_
          refine xi_getfield (pc' := 202) (v := .ref 141) kc_37_199 rfl rfl rfl A188 rfl ?_
          refine xi_iload_n (pc' := 203) (x := x1) kc_37_202 rfl rfl ?_
          refine xi_iload (pc' := 205) (x := r148) kc_37_203 rfl rfl ?_
          refine xi_iload (pc' := 207) (x := v196) kc_37_205 rfl rfl ?_
          refine xcps2 (α := Int32) ((r148 : Int32) - v196) (fun v197 ev197 => ?_)
          have rv197 := xc_rng v197
          refine xi_isub (pc' := 208) (v := v197) kc_37_207 rfl ev197 ?_
          refine xcps4 (xk_arr K174.1 xD_141) (fun y198 A198 hy198 ry198 => ?_)
          refine xcps4 (xj_set (v := v197) hy198 ry198 x1 (by first | omega | decide) (by first | omega | decide)) (fun y199 s199 hy199 ry199 => ?_)
          refine xi_iastore (pc' := 209) (x' := y199) kc_37_208 rfl A198 rfl (xi_in (by omega) (by rw [hy198]; omega)) s199 (fun hh199 eh199 => ?_)
          have K200 := xk_pa K174 (xk_wa rfl) xD_141 hy199 ry199 eh199
          refine xi_iload (pc' := 211) (x := v196) kc_37_209 rfl rfl ?_
          by_cases c201 : v196.toInt ≤ 0
          · refine xi_ift (pc' := 221) kc_37_211 rfl (xc_le_t (X := v196.toInt) (Y := 0) rfl (by decide) (by omega)) ?_
            refine xi_return kc_37_221 mr_37 ?_
            exact kk hh199 K200
          · refine xi_iff (pc' := 214) kc_37_211 rfl (xc_le_f (X := v196.toInt) (Y := 0) rfl (by decide) (by omega)) ?_
            refine xi_aload_n (pc' := 215) (x := 115) kc_37_214 rfl rfl ?_
            refine xi_iload_n (pc' := 216) (x := x1) kc_37_215 rfl rfl ?_
            refine xi_iload (pc' := 218) (x := v196) kc_37_216 rfl rfl ?_
            have A202 := ((eh199.2.1 115 (by decide)).trans A188)
            refine xi_virtual (mj := 40) (as := [.int x1, .int v196]) (st1 := []) (lv0 := [(0, .ref 115), (1, .int x1), (2, .int v196)]) kc_37_218 rfl rfl rfl rfl rfl A202 (Nat.le_of_ble_eq_true rfl) (hJ _ _ _ _ (by decide)) (xm_le ml_40 rfl) rfl ?_
            refine mt_40_0 hJ hov1 hov2 (d := d) (x1 := x1) (x2 := v196) K200.1 (by first | omega | decide) (by first | omega | decide) (fun hh204 K205 => ?_)
            have K206 := xk_tr K200 K205 rfl
            refine xp_115 K206.1 (fun u207 u208 u209 u210 u211 u212 u213 u214 u215 u216 u217 u218 u219 bu207 bu208 bu209 bu210 bu211 bu212 bu213 bu214 bu215 bu216 bu217 bu218 bu219 A220 => ?_)
            have e221 : u2 = u208 := xk_eqi (q := 1) K205 rfl A202 A220 rfl rfl
            subst e221
            show xw J ov (d + 3) 37 (221, [(8, .int v196), (7, .int v190), (5, .int r148), (6, .int v57), (0, .ref 115), (1, .int x1), (2, .int x2), (3, .int x3), (4, .int x4)], [], hh204) _
            refine xi_return kc_37_221 mr_37 ?_
            exact kk hh204 K206
    · refine xi_cmf (pc' := 36) kc_37_33 rfl (xc_ge_f (X := x6.toInt) (Y := u5.toInt) rfl rfl (by omega)) ?_
      refine xi_iload (pc' := 38) (x := x5) kc_37_36 rfl rfl ?_
      refine xi_aload_n (pc' := 39) (x := 115) kc_37_38 rfl rfl ?_
      refine xi_getfield (pc' := 42) (v := .ref 135) kc_37_39 rfl rfl rfl A14 rfl ?_
      refine xi_iload (pc' := 44) (x := x6) kc_37_42 rfl rfl ?_
      refine xcps4 (xk_arr K.1 xD_135) (fun y222 A222 hy222 ry222 => ?_)
      refine xcps4 (xj_get hy222 ry222 (i := x6) (by omega) (by omega)) (fun v223 ev223 bv223 dv223 => ?_)
      refine xi_iaload (pc' := 45) (v := v223) kc_37_44 rfl A222 (by decide) rfl (xi_in (by omega) (by rw [hy222]; omega)) ev223 ?_
      refine xi_iconst (pc' := 46) (v := 3) kc_37_45 rfl rfl ?_
      by_cases c224 : v223.toInt = 3
      · refine xi_cmf (pc' := 49) kc_37_46 rfl (xc_ne_f (X := v223.toInt) (Y := 3) rfl (by decide) (by omega)) ?_
        refine xi_aload_n (pc' := 50) (x := 115) kc_37_49 rfl rfl ?_
        refine xi_getfield (pc' := 53) (v := .ref 136) kc_37_50 rfl rfl rfl A14 rfl ?_
        refine xi_iload (pc' := 55) (x := x6) kc_37_53 rfl rfl ?_
        refine xcps4 (xk_arr K.1 xD_136) (fun y225 A225 hy225 ry225 => ?_)
        refine xcps4 (xj_get hy225 ry225 (i := x6) (by omega) (by omega)) (fun v226 ev226 bv226 dv226 => ?_)
        refine xi_iaload (pc' := 56) (v := v226) kc_37_55 rfl A225 (by decide) rfl (xi_in (by omega) (by rw [hy225]; omega)) ev226 ?_
        refine xi_iload_n (pc' := 57) (x := x1) kc_37_56 rfl rfl ?_
        by_cases c227 : v226.toInt = x1.toInt
        · refine xi_cmf (pc' := 60) kc_37_57 rfl (xc_ne_f (X := v226.toInt) (Y := x1.toInt) rfl rfl (by omega)) ?_
          refine xi_aload_n (pc' := 61) (x := 115) kc_37_60 rfl rfl ?_
          refine xi_iload (pc' := 63) (x := x6) kc_37_61 rfl rfl ?_
          refine xi_iload_n (pc' := 64) (x := x2) kc_37_63 rfl rfl ?_
          refine xi_iload_n (pc' := 65) (x := x3) kc_37_64 rfl rfl ?_
          refine xi_iload (pc' := 67) (x := x4) kc_37_65 rfl rfl ?_
          refine xi_virtual (mj := 38) (as := [.int x6, .int x2, .int x3, .int x4]) (st1 := [.int x5]) (lv0 := [(0, .ref 115), (1, .int x6), (2, .int x2), (3, .int x3), (4, .int x4)]) kc_37_67 rfl rfl rfl rfl rfl A14 (Nat.le_of_ble_eq_true rfl) (hJ _ _ _ _ (by decide)) (xm_le ml_38 rfl) rfl ?_
          refine mt_38_0 hJ hov1 hov2 (d := d + 1) (x1 := x6) (x2 := x2) (x3 := x3) (x4 := x4) K.1 (by first | omega | decide) (by first | omega | decide) (by first | omega | decide) (by first | omega | decide) (fun r228 hh229 br228 K230 => ?_)
          have K231 := xk_tr K K230 rfl
          refine xp_115 K231.1 (fun u232 u233 u234 u235 u236 u237 u238 u239 u240 u241 u242 u243 u244 bu232 bu233 bu234 bu235 bu236 bu237 bu238 bu239 bu240 bu241 bu242 bu243 bu244 A245 => ?_)
          have e246 : u2 = u233 := xk_eqi (q := 1) K230 rfl A14 A245 rfl rfl
          subst e246
          show xw J ov (d + 3) 37 (70, [(0, .ref 115), (1, .int x1), (2, .int x2), (3, .int x3), (4, .int x4), (5, .int x5), (6, .int x6)], [.int r228, .int x5], hh229) _
          by_cases c247 : r228.toInt = 0
          · refine xi_ift (pc' := 83) kc_37_70 rfl (xc_eq_t (X := r228.toInt) (Y := 0) rfl (by decide) (by omega)) ?_
            refine xi_iconst (pc' := 84) (v := 0) kc_37_83 rfl rfl ?_
            refine xcps2 (α := Int32) (x5 + 0) (fun v248 ev248 => ?_)
            have zv248 : v248.toInt = x5.toInt := by rw [← ev248]; exact (xz_add (X := x5.toInt) (Y := 0) rfl (by decide) (by omega) (by omega)).trans (by omega)
            refine xi_iadd (pc' := 85) (v := v248) kc_37_84 rfl ev248 ?_
            refine xi_istore (pc' := 87) (lv' := [(5, .int v248), (0, .ref 115), (1, .int x1), (2, .int x2), (3, .int x3), (4, .int x4), (6, .int x6)]) kc_37_85 rfl rfl (xm_lt ml_37 rfl) ?_
            refine xcps2 (α := Int32) (x6 + 1) (fun v249 ev249 => ?_)
            have zv249 : v249.toInt = (x6.toInt + 1) := by rw [← ev249]; exact (xz_add (X := x6.toInt) (Y := 1) rfl (by decide) (by omega) (by omega)).trans (by omega)
            refine xi_iinc (pc' := 90) (x := x6) (v := v249) (lv' := [(6, .int v249), (5, .int v248), (0, .ref 115), (1, .int x1), (2, .int x2), (3, .int x3), (4, .int x4)]) kc_37_87 rfl rfl ev249 rfl (xm_lt ml_37 rfl) ?_
            refine xi_goto (pc' := 27) kc_37_90 rfl ?_
            refine xw_lv (b := [(0, .ref 115), (1, .int x1), (2, .int x2), (3, .int x3), (4, .int x4), (5, .int v248), (6, .int v249)]) (lvS_cons (lvS_cons (lvS_cons (lvS_cons (lvS_cons (lvS_cons (lvS_cons (lvS_nil (show ([6, 5, 0, 1, 2, 3, 4] : List Nat).Nodup by decide)) rfl) rfl) rfl) rfl) rfl) rfl) rfl) ?_
            exact i0 x1 x2 x3 x4 v248 v249 hh229 (by omega) (by omega) (by omega) (by omega) (by omega) K231 (by omega)
          · refine xi_iff (pc' := 73) kc_37_70 rfl (xc_eq_f (X := r228.toInt) (Y := 0) rfl (by decide) (by omega)) ?_
            refine xi_aload_n (pc' := 74) (x := 115) kc_37_73 rfl rfl ?_
            refine xi_getfield (pc' := 77) (v := .ref 137) kc_37_74 rfl rfl rfl A245 rfl ?_
            refine xi_iload (pc' := 79) (x := x6) kc_37_77 rfl rfl ?_
            refine xcps4 (xk_arr K231.1 xD_137) (fun y250 A250 hy250 ry250 => ?_)
            refine xcps4 (xj_get hy250 ry250 (i := x6) (by omega) (by omega)) (fun v251 ev251 bv251 dv251 => ?_)
            refine xi_iaload (pc' := 80) (v := v251) kc_37_79 rfl A250 (by decide) rfl (xi_in (by omega) (by rw [hy250]; omega)) ev251 ?_
            refine xi_goto (pc' := 84) kc_37_80 rfl ?_
            refine xcps2 (α := Int32) ((x5 : Int32) + v251) (fun v252 ev252 => ?_)
            have rv252 := xc_rng v252
            refine xi_iadd (pc' := 85) (v := v252) kc_37_84 rfl ev252 ?_
            refine xi_istore (pc' := 87) (lv' := [(5, .int v252), (0, .ref 115), (1, .int x1), (2, .int x2), (3, .int x3), (4, .int x4), (6, .int x6)]) kc_37_85 rfl rfl (xm_lt ml_37 rfl) ?_
            refine xcps2 (α := Int32) (x6 + 1) (fun v253 ev253 => ?_)
            have zv253 : v253.toInt = (x6.toInt + 1) := by rw [← ev253]; exact (xz_add (X := x6.toInt) (Y := 1) rfl (by decide) (by omega) (by omega)).trans (by omega)
            refine xi_iinc (pc' := 90) (x := x6) (v := v253) (lv' := [(6, .int v253), (5, .int v252), (0, .ref 115), (1, .int x1), (2, .int x2), (3, .int x3), (4, .int x4)]) kc_37_87 rfl rfl ev253 rfl (xm_lt ml_37 rfl) ?_
            refine xi_goto (pc' := 27) kc_37_90 rfl ?_
            refine xw_lv (b := [(0, .ref 115), (1, .int x1), (2, .int x2), (3, .int x3), (4, .int x4), (5, .int v252), (6, .int v253)]) (lvS_cons (lvS_cons (lvS_cons (lvS_cons (lvS_cons (lvS_cons (lvS_cons (lvS_nil (show ([6, 5, 0, 1, 2, 3, 4] : List Nat).Nodup by decide)) rfl) rfl) rfl) rfl) rfl) rfl) rfl) ?_
            exact i0 x1 x2 x3 x4 v252 v253 hh229 (by omega) (by omega) (by omega) (by omega) (by omega) K231 (by omega)
        · refine xi_cmt (pc' := 83) kc_37_57 rfl (xc_ne_t (X := v226.toInt) (Y := x1.toInt) rfl rfl (by omega)) ?_
          refine xi_iconst (pc' := 84) (v := 0) kc_37_83 rfl rfl ?_
          refine xcps2 (α := Int32) (x5 + 0) (fun v254 ev254 => ?_)
          have zv254 : v254.toInt = x5.toInt := by rw [← ev254]; exact (xz_add (X := x5.toInt) (Y := 0) rfl (by decide) (by omega) (by omega)).trans (by omega)
          refine xi_iadd (pc' := 85) (v := v254) kc_37_84 rfl ev254 ?_
          refine xi_istore (pc' := 87) (lv' := [(5, .int v254), (0, .ref 115), (1, .int x1), (2, .int x2), (3, .int x3), (4, .int x4), (6, .int x6)]) kc_37_85 rfl rfl (xm_lt ml_37 rfl) ?_
          refine xcps2 (α := Int32) (x6 + 1) (fun v255 ev255 => ?_)
          have zv255 : v255.toInt = (x6.toInt + 1) := by rw [← ev255]; exact (xz_add (X := x6.toInt) (Y := 1) rfl (by decide) (by omega) (by omega)).trans (by omega)
          refine xi_iinc (pc' := 90) (x := x6) (v := v255) (lv' := [(6, .int v255), (5, .int v254), (0, .ref 115), (1, .int x1), (2, .int x2), (3, .int x3), (4, .int x4)]) kc_37_87 rfl rfl ev255 rfl (xm_lt ml_37 rfl) ?_
          refine xi_goto (pc' := 27) kc_37_90 rfl ?_
          refine xw_lv (b := [(0, .ref 115), (1, .int x1), (2, .int x2), (3, .int x3), (4, .int x4), (5, .int v254), (6, .int v255)]) (lvS_cons (lvS_cons (lvS_cons (lvS_cons (lvS_cons (lvS_cons (lvS_cons (lvS_nil (show ([6, 5, 0, 1, 2, 3, 4] : List Nat).Nodup by decide)) rfl) rfl) rfl) rfl) rfl) rfl) rfl) ?_
          exact i0 x1 x2 x3 x4 v254 v255 h (by omega) (by omega) (by omega) (by omega) (by omega) K (by omega)
      · refine xi_cmt (pc' := 83) kc_37_46 rfl (xc_ne_t (X := v223.toInt) (Y := 3) rfl (by decide) (by omega)) ?_
        refine xi_iconst (pc' := 84) (v := 0) kc_37_83 rfl rfl ?_
        refine xcps2 (α := Int32) (x5 + 0) (fun v256 ev256 => ?_)
        have zv256 : v256.toInt = x5.toInt := by rw [← ev256]; exact (xz_add (X := x5.toInt) (Y := 0) rfl (by decide) (by omega) (by omega)).trans (by omega)
        refine xi_iadd (pc' := 85) (v := v256) kc_37_84 rfl ev256 ?_
        refine xi_istore (pc' := 87) (lv' := [(5, .int v256), (0, .ref 115), (1, .int x1), (2, .int x2), (3, .int x3), (4, .int x4), (6, .int x6)]) kc_37_85 rfl rfl (xm_lt ml_37 rfl) ?_
        refine xcps2 (α := Int32) (x6 + 1) (fun v257 ev257 => ?_)
        have zv257 : v257.toInt = (x6.toInt + 1) := by rw [← ev257]; exact (xz_add (X := x6.toInt) (Y := 1) rfl (by decide) (by omega) (by omega)).trans (by omega)
        refine xi_iinc (pc' := 90) (x := x6) (v := v257) (lv' := [(6, .int v257), (5, .int v256), (0, .ref 115), (1, .int x1), (2, .int x2), (3, .int x3), (4, .int x4)]) kc_37_87 rfl rfl ev257 rfl (xm_lt ml_37 rfl) ?_
        refine xi_goto (pc' := 27) kc_37_90 rfl ?_
        refine xw_lv (b := [(0, .ref 115), (1, .int x1), (2, .int x2), (3, .int x3), (4, .int x4), (5, .int v256), (6, .int v257)]) (lvS_cons (lvS_cons (lvS_cons (lvS_cons (lvS_cons (lvS_cons (lvS_cons (lvS_nil (show ([6, 5, 0, 1, 2, 3, 4] : List Nat).Nodup by decide)) rfl) rfl) rfl) rfl) rfl) rfl) rfl) ?_
        exact i0 x1 x2 x3 x4 v256 v257 h (by omega) (by omega) (by omega) (by omega) (by omega) K (by omega)
set_option maxHeartbeats 4000000 in
theorem mt_37_0 {J : xe_J} {ov : List (List Int32)} (hJ : ∀ d mj as h, mj ≠ xe_loff → J d mj as h = none) (hov1 : ov[1]? = some [10, 0, 0, 0, 0, 0]) (hov2 : ov[2]? = some [99, 30, 50, 50, 1, 99999]) {d : Nat} {Q : Option Value → xe_H → Prop} {h : xe_H} {x1 : Int32} {x2 : Int32} {x3 : Int32} {x4 : Int32} (T : xt h) (b1 : (0 ≤ x1.toInt ∧ x1.toInt ≤ 5)) (b2 : (0 ≤ x2.toInt ∧ x2.toInt ≤ 63)) (b3 : (0 ≤ x3.toInt ∧ x3.toInt ≤ 1)) (b4 : (0 ≤ x4.toInt ∧ x4.toInt ≤ 599)) (kk : (∀ h' : xe_H, xk [(0, 9), (115, 1), (83, 0), (81, 0), (156, 0), (82, 0), (157, 0), (158, 0)] h h' → Q none h')) : xw J ov (d + 3) 37 (0, [(0, .ref 115), (1, .int x1), (2, .int x2), (3, .int x3), (4, .int x4)], [], h) Q := by
  have K : xk [(0, 9), (115, 1), (83, 0), (81, 0), (156, 0), (82, 0), (157, 0), (158, 0)] h h := xk_re T
  refine xi_aload_n (pc' := 1) (x := 115) kc_37_0 rfl rfl ?_
  refine xp_115 K.1 (fun u1 u2 u3 u4 u5 u6 u7 u8 u9 u10 u11 u12 u13 bu1 bu2 bu3 bu4 bu5 bu6 bu7 bu8 bu9 bu10 bu11 bu12 bu13 A14 => ?_)
  refine xi_getfield (pc' := 4) (v := .ref 141) kc_37_1 rfl rfl rfl A14 rfl ?_
  refine xi_iload_n (pc' := 5) (x := x1) kc_37_4 rfl rfl ?_
  refine xcps4 (xk_arr K.1 xD_141) (fun y15 A15 hy15 ry15 => ?_)
  refine xcps4 (xj_get hy15 ry15 (i := x1) (by omega) (by omega)) (fun v16 ev16 bv16 dv16 => ?_)
  refine xi_iaload (pc' := 6) (v := v16) kc_37_5 rfl A15 (by decide) rfl (xi_in (by omega) (by rw [hy15]; omega)) ev16 ?_
  refine xi_aload_n (pc' := 7) (x := 115) kc_37_6 rfl rfl ?_
  refine xi_getfield (pc' := 10) (v := .ref 122) kc_37_7 rfl rfl rfl A14 rfl ?_
  refine xi_bipush (pc' := 12) (v := 24) kc_37_10 rfl rfl ?_
  refine xi_iload_n (pc' := 13) (x := x1) kc_37_12 rfl rfl ?_
  refine xcps2 (α := Int32) (24 * x1) (fun v17 ev17 => ?_)
  have zv17 : v17.toInt = (24) * x1.toInt := by rw [← ev17]; exact (xz_mul (X := 24) (Y := x1.toInt) (by decide) rfl (by omega) (by omega)).trans (by omega)
  refine xi_imul (pc' := 14) (v := v17) kc_37_13 rfl ev17 ?_
  refine xi_iload (pc' := 16) (x := x4) kc_37_14 rfl rfl ?_
  refine xi_bipush (pc' := 18) (v := 24) kc_37_16 rfl rfl ?_
  refine xcps2 (α := Int32) (x4 - x4 / 24 * 24) (fun v18 ev18 => ?_)
  have dv18 : v18.toInt = x4.toInt % 24 := by rw [← ev18]; exact xz_reme (X := x4.toInt) (Y := 24) rfl (by decide) (by omega) (by decide)
  have bv18 : 0 ≤ v18.toInt ∧ v18.toInt ≤ 23 := by omega
  refine xi_irem (pc' := 19) (v := v18) kc_37_18 rfl ev18 (by decide) ?_
  refine xcps2 (α := Int32) (v17 + v18) (fun v19 ev19 => ?_)
  have zv19 : v19.toInt = ((24) * x1.toInt + v18.toInt) := by rw [← ev19]; exact (xz_add (X := (24) * x1.toInt) (Y := v18.toInt) zv17 rfl (by omega) (by omega)).trans (by omega)
  refine xi_iadd (pc' := 20) (v := v19) kc_37_19 rfl ev19 ?_
  refine xcps4 (xk_arr K.1 xD_122) (fun y20 A20 hy20 ry20 => ?_)
  refine xcps4 (xj_get hy20 ry20 (i := v19) (by rw [zv19]; omega) (by rw [zv19]; omega)) (fun v21 ev21 bv21 dv21 => ?_)
  refine xi_iaload (pc' := 21) (v := v21) kc_37_20 rfl A20 (by decide) rfl (xi_in (by rw [zv19]; omega) (by rw [hy20]; rw [zv19]; omega)) ev21 ?_
  refine xcps2 (α := Int32) ((v16 : Int32) + v21) (fun v22 ev22 => ?_)
  have rv22 := xc_rng v22
  refine xi_iadd (pc' := 22) (v := v22) kc_37_21 rfl ev22 ?_
  refine xi_istore (pc' := 24) (lv' := [(5, .int v22), (0, .ref 115), (1, .int x1), (2, .int x2), (3, .int x3), (4, .int x4)]) kc_37_22 rfl rfl (xm_lt ml_37 rfl) ?_
  refine xi_iconst (pc' := 25) (v := 0) kc_37_24 rfl rfl ?_
  refine xi_istore (pc' := 27) (lv' := [(6, .int 0), (5, .int v22), (0, .ref 115), (1, .int x1), (2, .int x2), (3, .int x3), (4, .int x4)]) kc_37_25 rfl rfl (xm_lt ml_37 rfl) ?_
  have zc0 : (0 : Int32).toInt = 0 := by decide
  refine xw_lv (b := [(0, .ref 115), (1, .int x1), (2, .int x2), (3, .int x3), (4, .int x4), (5, .int v22), (6, .int 0)]) (lvS_cons (lvS_cons (lvS_cons (lvS_cons (lvS_cons (lvS_cons (lvS_cons (lvS_nil (show ([6, 5, 0, 1, 2, 3, 4] : List Nat).Nodup by decide)) rfl) rfl) rfl) rfl) rfl) rfl) rfl) ?_
  exact (lp_37_0 hJ hov1 hov2 (d := d) (hb := h) (fun h9 K9 => kk h9 (xk_tr K K9 rfl)) 11) x1 x2 x3 x4 v22 0 h (by omega) (by omega) (by omega) (by omega) (by omega) (xk_re K.1) (by omega)
set_option maxHeartbeats 4000000 in
theorem lp_36_0 {J : xe_J} {ov : List (List Int32)} (hJ : ∀ d mj as h, mj ≠ xe_loff → J d mj as h = none) (hov1 : ov[1]? = some [10, 0, 0, 0, 0, 0]) (hov2 : ov[2]? = some [99, 30, 50, 50, 1, 99999]) {d : Nat} {Q : Option Value → xe_H → Prop} {hb : xe_H} (kk : (∀ h' : xe_H, xk [(0, 9), (115, 1), (83, 0), (81, 0), (156, 0), (82, 0), (157, 0), (158, 0)] hb h' → Q none h')) : ∀ m : Nat, (∀ (x1 : Int32) (x2 : Int32) (x3 : Int32) (x4 : Int32) (h : xe_H), (0 ≤ x1.toInt ∧ x1.toInt ≤ 63) → (0 ≤ x2.toInt ∧ x2.toInt ≤ 1) → (0 ≤ x3.toInt ∧ x3.toInt ≤ 599) → (0 ≤ x4.toInt ∧ x4.toInt ≤ 6) → xk [(0, 9), (115, 1), (83, 0), (81, 0), (156, 0), (82, 0), (157, 0), (158, 0)] hb h → (-1) * x4.toInt + 30 < (m : Int) → xw J ov (d + 4) 36 (3, [(0, .ref 115), (1, .int x1), (2, .int x2), (3, .int x3), (4, .int x4)], [], h) Q) ∧ (∀ (x1 : Int32) (x2 : Int32) (x3 : Int32) (x4 : Int32) (h : xe_H), (0 ≤ x1.toInt ∧ x1.toInt ≤ 63) → (0 ≤ x2.toInt ∧ x2.toInt ≤ 1) → (0 ≤ x3.toInt ∧ x3.toInt ≤ 599) → (0 ≤ x4.toInt ∧ x4.toInt ≤ 10) → xk [(0, 9), (115, 1), (83, 0), (81, 0), (156, 0), (82, 0), (157, 0), (158, 0)] hb h → (-1) * x4.toInt + 23 < (m : Int) → xw J ov (d + 4) 36 (28, [(0, .ref 115), (1, .int x1), (2, .int x2), (3, .int x3), (4, .int x4)], [], h) Q) ∧ (∀ (x4 : Int32) (h : xe_H), (0 ≤ x4.toInt ∧ x4.toInt ≤ 12) → xk [(0, 9), (115, 1), (83, 0), (81, 0), (156, 0), (82, 0), (157, 0), (158, 0)] hb h → (-1) * x4.toInt + 12 < (m : Int) → xw J ov (d + 4) 36 (157, [(0, .ref 115), (4, .int x4)], [], h) Q) := by
  intro m
  induction m with
  | zero =>
    refine ⟨?_, ?_, ?_⟩
    · intro x1 x2 x3 x4 h b1 b2 b3 b4 K hm; exfalso; omega
    · intro x1 x2 x3 x4 h b1 b2 b3 b4 K hm; exfalso; omega
    · intro x4 h b4 K hm; exfalso; omega
  | succ m ih =>
    obtain ⟨i0, i1, i2⟩ := ih
    refine ⟨?_, ?_, ?_⟩
    · intro x1 x2 x3 x4 h b1 b2 b3 b4 K hm
      refine xi_iload (pc' := 5) (x := x4) kc_36_3 rfl rfl ?_
      refine xi_bipush (pc' := 7) (v := 6) kc_36_5 rfl rfl ?_
      by_cases c1 : 6 ≤ x4.toInt
      · refine xi_cmt (pc' := 25) kc_36_7 rfl (xc_ge_t (X := x4.toInt) (Y := 6) rfl (by decide) (by omega)) ?_
        refine xi_iconst (pc' := 26) (v := 0) kc_36_25 rfl rfl ?_
        refine xi_istore (pc' := 28) (lv' := [(4, .int 0), (0, .ref 115), (1, .int x1), (2, .int x2), (3, .int x3)]) kc_36_26 rfl rfl (xm_lt ml_36 rfl) ?_
        have zc0 : (0 : Int32).toInt = 0 := by decide
        refine xw_lv (b := [(0, .ref 115), (1, .int x1), (2, .int x2), (3, .int x3), (4, .int 0)]) (lvS_cons (lvS_cons (lvS_cons (lvS_cons (lvS_cons (lvS_nil (show ([4, 0, 1, 2, 3] : List Nat).Nodup by decide)) rfl) rfl) rfl) rfl) rfl) ?_
        exact i1 x1 x2 x3 0 h (by omega) (by omega) (by omega) (by omega) K (by omega)
      · refine xi_cmf (pc' := 10) kc_36_7 rfl (xc_ge_f (X := x4.toInt) (Y := 6) rfl (by decide) (by omega)) ?_
        refine xi_aload_n (pc' := 11) (x := 115) kc_36_10 rfl rfl ?_
        refine xi_iload (pc' := 13) (x := x4) kc_36_11 rfl rfl ?_
        refine xi_iload_n (pc' := 14) (x := x1) kc_36_13 rfl rfl ?_
        refine xi_iload_n (pc' := 15) (x := x2) kc_36_14 rfl rfl ?_
        refine xi_iload_n (pc' := 16) (x := x3) kc_36_15 rfl rfl ?_
        refine xp_115 K.1 (fun u2 u3 u4 u5 u6 u7 u8 u9 u10 u11 u12 u13 u14 bu2 bu3 bu4 bu5 bu6 bu7 bu8 bu9 bu10 bu11 bu12 bu13 bu14 A15 => ?_)
        refine xi_virtual (mj := 37) (as := [.int x4, .int x1, .int x2, .int x3]) (st1 := []) (lv0 := [(0, .ref 115), (1, .int x4), (2, .int x1), (3, .int x2), (4, .int x3)]) kc_36_16 rfl rfl rfl rfl rfl A15 (Nat.le_of_ble_eq_true rfl) (hJ _ _ _ _ (by decide)) (xm_le ml_37 rfl) rfl ?_
        refine mt_37_0 hJ hov1 hov2 (d := d) (x1 := x4) (x2 := x1) (x3 := x2) (x4 := x3) K.1 (by first | omega | decide) (by first | omega | decide) (by first | omega | decide) (by first | omega | decide) (fun hh17 K18 => ?_)
        have K19 := xk_tr K K18 rfl
        refine xp_115 K19.1 (fun u20 u21 u22 u23 u24 u25 u26 u27 u28 u29 u30 u31 u32 bu20 bu21 bu22 bu23 bu24 bu25 bu26 bu27 bu28 bu29 bu30 bu31 bu32 A33 => ?_)
        have e34 : u3 = u21 := xk_eqi (q := 1) K18 rfl A15 A33 rfl rfl
        subst e34
        show xw J ov (d + 4) 36 (19, [(0, .ref 115), (1, .int x1), (2, .int x2), (3, .int x3), (4, .int x4)], [], hh17) _
        refine xcps2 (α := Int32) (x4 + 1) (fun v35 ev35 => ?_)
        have zv35 : v35.toInt = (x4.toInt + 1) := by rw [← ev35]; exact (xz_add (X := x4.toInt) (Y := 1) rfl (by decide) (by omega) (by omega)).trans (by omega)
        refine xi_iinc (pc' := 22) (x := x4) (v := v35) (lv' := [(4, .int v35), (0, .ref 115), (1, .int x1), (2, .int x2), (3, .int x3)]) kc_36_19 rfl rfl ev35 rfl (xm_lt ml_36 rfl) ?_
        refine xi_goto (pc' := 3) kc_36_22 rfl ?_
        refine xw_lv (b := [(0, .ref 115), (1, .int x1), (2, .int x2), (3, .int x3), (4, .int v35)]) (lvS_cons (lvS_cons (lvS_cons (lvS_cons (lvS_cons (lvS_nil (show ([4, 0, 1, 2, 3] : List Nat).Nodup by decide)) rfl) rfl) rfl) rfl) rfl) ?_
        exact i0 x1 x2 x3 v35 hh17 (by omega) (by omega) (by omega) (by omega) K19 (by omega)
    · intro x1 x2 x3 x4 h b1 b2 b3 b4 K hm
      refine xi_iload (pc' := 30) (x := x4) kc_36_28 rfl rfl ?_
      refine xi_aload_n (pc' := 31) (x := 115) kc_36_30 rfl rfl ?_
      refine xp_115 K.1 (fun u1 u2 u3 u4 u5 u6 u7 u8 u9 u10 u11 u12 u13 bu1 bu2 bu3 bu4 bu5 bu6 bu7 bu8 bu9 bu10 bu11 bu12 bu13 A14 => ?_)
      refine xi_getfield (pc' := 34) (v := .int u5) kc_36_31 rfl rfl rfl A14 rfl ?_
      by_cases c15 : u5.toInt ≤ x4.toInt
      · refine xi_cmt (pc' := 154) kc_36_34 rfl (xc_ge_t (X := x4.toInt) (Y := u5.toInt) rfl rfl (by omega)) ?_
        refine xi_iconst (pc' := 155) (v := 0) kc_36_154 rfl rfl ?_
        refine xi_istore (pc' := 157) (lv' := [(4, .int 0), (0, .ref 115), (1, .int x1), (2, .int x2), (3, .int x3)]) kc_36_155 rfl rfl (xm_lt ml_36 rfl) ?_
        have zc0 : (0 : Int32).toInt = 0 := by decide
        refine xw_lv (b := [(0, .ref 115), (4, .int 0)]) (lvS_cons (lvS_cons (lvS_nil (show ([4, 0, 1, 2, 3] : List Nat).Nodup by decide)) rfl) rfl) ?_
        exact i2 0 h (by omega) K (by omega)
      · refine xi_cmf (pc' := 37) kc_36_34 rfl (xc_ge_f (X := x4.toInt) (Y := u5.toInt) rfl rfl (by omega)) ?_
        refine xi_aload_n (pc' := 38) (x := 115) kc_36_37 rfl rfl ?_
        refine xi_getfield (pc' := 41) (v := .ref 135) kc_36_38 rfl rfl rfl A14 rfl ?_
        refine xi_iload (pc' := 43) (x := x4) kc_36_41 rfl rfl ?_
        refine xcps4 (xk_arr K.1 xD_135) (fun y16 A16 hy16 ry16 => ?_)
        refine xcps4 (xj_get hy16 ry16 (i := x4) (by omega) (by omega)) (fun v17 ev17 bv17 dv17 => ?_)
        refine xi_iaload (pc' := 44) (v := v17) kc_36_43 rfl A16 (by decide) rfl (xi_in (by omega) (by rw [hy16]; omega)) ev17 ?_
        refine xi_iconst (pc' := 45) (v := 3) kc_36_44 rfl rfl ?_
        by_cases c18 : 3 ≤ v17.toInt
        · refine xi_cmt (pc' := 148) kc_36_45 rfl (xc_ge_t (X := v17.toInt) (Y := 3) rfl (by decide) (by omega)) ?_
          refine xcps2 (α := Int32) (x4 + 1) (fun v19 ev19 => ?_)
          have zv19 : v19.toInt = (x4.toInt + 1) := by rw [← ev19]; exact (xz_add (X := x4.toInt) (Y := 1) rfl (by decide) (by omega) (by omega)).trans (by omega)
          refine xi_iinc (pc' := 151) (x := x4) (v := v19) (lv' := [(4, .int v19), (0, .ref 115), (1, .int x1), (2, .int x2), (3, .int x3)]) kc_36_148 rfl rfl ev19 rfl (xm_lt ml_36 rfl) ?_
          refine xi_goto (pc' := 28) kc_36_151 rfl ?_
          refine xw_lv (b := [(0, .ref 115), (1, .int x1), (2, .int x2), (3, .int x3), (4, .int v19)]) (lvS_cons (lvS_cons (lvS_cons (lvS_cons (lvS_cons (lvS_nil (show ([4, 0, 1, 2, 3] : List Nat).Nodup by decide)) rfl) rfl) rfl) rfl) rfl) ?_
          exact i1 x1 x2 x3 v19 h (by omega) (by omega) (by omega) (by omega) K (by omega)
        · refine xi_cmf (pc' := 48) kc_36_45 rfl (xc_ge_f (X := v17.toInt) (Y := 3) rfl (by decide) (by omega)) ?_
          refine xi_aload_n (pc' := 49) (x := 115) kc_36_48 rfl rfl ?_
          refine xi_iload (pc' := 51) (x := x4) kc_36_49 rfl rfl ?_
          refine xi_iload_n (pc' := 52) (x := x1) kc_36_51 rfl rfl ?_
          refine xi_iload_n (pc' := 53) (x := x2) kc_36_52 rfl rfl ?_
          refine xi_iload_n (pc' := 54) (x := x3) kc_36_53 rfl rfl ?_
          refine xi_virtual (mj := 38) (as := [.int x4, .int x1, .int x2, .int x3]) (st1 := []) (lv0 := [(0, .ref 115), (1, .int x4), (2, .int x1), (3, .int x2), (4, .int x3)]) kc_36_54 rfl rfl rfl rfl rfl A14 (Nat.le_of_ble_eq_true rfl) (hJ _ _ _ _ (by decide)) (xm_le ml_38 rfl) rfl ?_
          refine mt_38_0 hJ hov1 hov2 (d := d + 2) (x1 := x4) (x2 := x1) (x3 := x2) (x4 := x3) K.1 (by first | omega | decide) (by first | omega | decide) (by first | omega | decide) (by first | omega | decide) (fun r20 hh21 br20 K22 => ?_)
          have K23 := xk_tr K K22 rfl
          refine xp_115 K23.1 (fun u24 u25 u26 u27 u28 u29 u30 u31 u32 u33 u34 u35 u36 bu24 bu25 bu26 bu27 bu28 bu29 bu30 bu31 bu32 bu33 bu34 bu35 bu36 A37 => ?_)
          have e38 : u2 = u25 := xk_eqi (q := 1) K22 rfl A14 A37 rfl rfl
          subst e38
          show xw J ov (d + 4) 36 (57, [(0, .ref 115), (1, .int x1), (2, .int x2), (3, .int x3), (4, .int x4)], [.int r20], hh21) _
          by_cases c39 : r20.toInt = 0
          · refine xi_ift (pc' := 148) kc_36_57 rfl (xc_eq_t (X := r20.toInt) (Y := 0) rfl (by decide) (by omega)) ?_
            refine xcps2 (α := Int32) (x4 + 1) (fun v40 ev40 => ?_)
            have zv40 : v40.toInt = (x4.toInt + 1) := by rw [← ev40]; exact (xz_add (X := x4.toInt) (Y := 1) rfl (by decide) (by omega) (by omega)).trans (by omega)
            refine xi_iinc (pc' := 151) (x := x4) (v := v40) (lv' := [(4, .int v40), (0, .ref 115), (1, .int x1), (2, .int x2), (3, .int x3)]) kc_36_148 rfl rfl ev40 rfl (xm_lt ml_36 rfl) ?_
            refine xi_goto (pc' := 28) kc_36_151 rfl ?_
            refine xw_lv (b := [(0, .ref 115), (1, .int x1), (2, .int x2), (3, .int x3), (4, .int v40)]) (lvS_cons (lvS_cons (lvS_cons (lvS_cons (lvS_cons (lvS_nil (show ([4, 0, 1, 2, 3] : List Nat).Nodup by decide)) rfl) rfl) rfl) rfl) rfl) ?_
            exact i1 x1 x2 x3 v40 hh21 (by omega) (by omega) (by omega) (by omega) K23 (by omega)
          · refine xi_iff (pc' := 60) kc_36_57 rfl (xc_eq_f (X := r20.toInt) (Y := 0) rfl (by decide) (by omega)) ?_
            refine xi_aload_n (pc' := 61) (x := 115) kc_36_60 rfl rfl ?_
            refine xi_getfield (pc' := 64) (v := .ref 135) kc_36_61 rfl rfl rfl A37 rfl ?_
            refine xi_iload (pc' := 66) (x := x4) kc_36_64 rfl rfl ?_
            refine xcps4 (xk_arr K23.1 xD_135) (fun y41 A41 hy41 ry41 => ?_)
            refine xcps4 (xj_get hy41 ry41 (i := x4) (by omega) (by omega)) (fun v42 ev42 bv42 dv42 => ?_)
            refine xi_iaload (pc' := 67) (v := v42) kc_36_66 rfl A41 (by decide) rfl (xi_in (by omega) (by rw [hy41]; omega)) ev42 ?_
            by_cases c43 : v42.toInt = 0
            · refine xi_iff (pc' := 70) kc_36_67 rfl (xc_ne_f (X := v42.toInt) (Y := 0) rfl (by decide) (by omega)) ?_
              refine xi_aload_n (pc' := 71) (x := 115) kc_36_70 rfl rfl ?_
              refine xi_getfield (pc' := 74) (v := .ref 137) kc_36_71 rfl rfl rfl A37 rfl ?_
              refine xi_iload (pc' := 76) (x := x4) kc_36_74 rfl rfl ?_
              refine xcps4 (xk_arr K23.1 xD_137) (fun y44 A44 hy44 ry44 => ?_)
              refine xcps4 (xj_get hy44 ry44 (i := x4) (by omega) (by omega)) (fun v45 ev45 bv45 dv45 => ?_)
              refine xi_iaload (pc' := 77) (v := v45) kc_36_76 rfl A44 (by decide) rfl (xi_in (by omega) (by rw [hy44]; omega)) ev45 ?_
              refine xi_aload_n (pc' := 78) (x := 115) kc_36_77 rfl rfl ?_
              refine xi_getfield (pc' := 81) (v := .int u30) kc_36_78 rfl rfl rfl A37 rfl ?_
              refine xcps2 (α := Int32) ((v45 : Int32) * u30) (fun v46 ev46 => ?_)
              have rv46 := xc_rng v46
              refine xi_imul (pc' := 82) (v := v46) kc_36_81 rfl ev46 ?_
              refine xi_goto (pc' := 116) kc_36_82 rfl ?_
              refine xi_istore (pc' := 118) (lv' := [(5, .int v46), (0, .ref 115), (1, .int x1), (2, .int x2), (3, .int x3), (4, .int x4)]) kc_36_116 rfl rfl (xm_lt ml_36 rfl) ?_
              refine xi_aload_n (pc' := 119) (x := 115) kc_36_118 rfl rfl ?_
              refine xi_getfield (pc' := 122) (v := .ref 142) kc_36_119 rfl rfl rfl A37 rfl ?_
              refine xi_aload_n (pc' := 123) (x := 115) kc_36_122 rfl rfl ?_
              refine xi_getfield (pc' := 126) (v := .ref 136) kc_36_123 rfl rfl rfl A37 rfl ?_
              refine xi_iload (pc' := 128) (x := x4) kc_36_126 rfl rfl ?_
              refine xcps4 (xk_arr K23.1 xD_136) (fun y47 A47 hy47 ry47 => ?_)
              refine xcps4 (xj_get hy47 ry47 (i := x4) (by omega) (by omega)) (fun v48 ev48 bv48 dv48 => ?_)
              refine xi_iaload (pc' := 129) (v := v48) kc_36_128 rfl A47 (by decide) rfl (xi_in (by omega) (by rw [hy47]; omega)) ev48 ?_
              refine xi_aload_n (pc' := 130) (x := 115) kc_36_129 rfl rfl ?_
              refine xi_getfield (pc' := 133) (v := .ref 142) kc_36_130 rfl rfl rfl A37 rfl ?_
              refine xi_aload_n (pc' := 134) (x := 115) kc_36_133 rfl rfl ?_
              refine xi_getfield (pc' := 137) (v := .ref 136) kc_36_134 rfl rfl rfl A37 rfl ?_
              refine xi_iload (pc' := 139) (x := x4) kc_36_137 rfl rfl ?_
              refine xi_iaload (pc' := 140) (v := v48) kc_36_139 rfl A47 (by decide) rfl (xi_in (by omega) (by rw [hy47]; omega)) ev48 ?_
              refine xcps4 (xk_arr K23.1 xD_142) (fun y49 A49 hy49 ry49 => ?_)
              refine xcps4 (xj_get hy49 ry49 (i := v48) (by omega) (by omega)) (fun v50 ev50 bv50 dv50 => ?_)
              refine xi_iaload (pc' := 141) (v := v50) kc_36_140 rfl A49 (by decide) rfl (xi_in (by omega) (by rw [hy49]; omega)) ev50 ?_
              refine xi_iload (pc' := 143) (x := v46) kc_36_141 rfl rfl ?_
              refine xcps2 (α := Int32) ((v50 : Int32) + v46) (fun v51 ev51 => ?_)
              have rv51 := xc_rng v51
              refine xi_iadd (pc' := 144) (v := v51) kc_36_143 rfl ev51 ?_
              refine xi_static (mj := 39) (as := [.int v51]) (st1 := [.int v48, .ref 142]) (lv0 := [(0, .int v51)]) kc_36_144 rfl rfl (Nat.le_of_ble_eq_true rfl) rfl rfl (Nat.le_of_ble_eq_true rfl) (hJ _ _ _ _ (by decide)) (xm_le ml_39 rfl) rfl ?_
              refine mt_39_0 hJ hov1 hov2 (d := d + 2) (x0 := v51) K23.1 (fun r52 hh53 br52 K54 => ?_)
              have K55 := xk_tr K23 K54 rfl
              refine xp_115 K55.1 (fun u56 u57 u58 u59 u60 u61 u62 u63 u64 u65 u66 u67 u68 bu56 bu57 bu58 bu59 bu60 bu61 bu62 bu63 bu64 bu65 bu66 bu67 bu68 A69 => ?_)
              have e70 : u2 = u57 := xk_eqi (q := 1) K54 rfl A37 A69 rfl rfl
              subst e70
              show xw J ov (d + 4) 36 (147, [(5, .int v46), (0, .ref 115), (1, .int x1), (2, .int x2), (3, .int x3), (4, .int x4)], [.int r52, .int v48, .ref 142], hh53) _
              refine xcps4 (xk_arr K55.1 xD_142) (fun y71 A71 hy71 ry71 => ?_)
              refine xcps4 (xj_set (v := r52) hy71 ry71 v48 (by first | omega | decide) (by first | omega | decide)) (fun y72 s72 hy72 ry72 => ?_)
              refine xi_iastore (pc' := 148) (x' := y72) kc_36_147 rfl A71 rfl (xi_in (by omega) (by rw [hy71]; omega)) s72 (fun hh72 eh72 => ?_)
              have K73 := xk_pa K55 (xk_wa rfl) xD_142 hy72 ry72 eh72
              refine xcps2 (α := Int32) (x4 + 1) (fun v74 ev74 => ?_)
              have zv74 : v74.toInt = (x4.toInt + 1) := by rw [← ev74]; exact (xz_add (X := x4.toInt) (Y := 1) rfl (by decide) (by omega) (by omega)).trans (by omega)
              refine xi_iinc (pc' := 151) (x := x4) (v := v74) (lv' := [(4, .int v74), (5, .int v46), (0, .ref 115), (1, .int x1), (2, .int x2), (3, .int x3)]) kc_36_148 rfl rfl ev74 rfl (xm_lt ml_36 rfl) ?_
              refine xi_goto (pc' := 28) kc_36_151 rfl ?_
              refine xw_lv (b := [(0, .ref 115), (1, .int x1), (2, .int x2), (3, .int x3), (4, .int v74)]) (lvS_cons (lvS_cons (lvS_cons (lvS_cons (lvS_cons (lvS_nil (show ([4, 5, 0, 1, 2, 3] : List Nat).Nodup by decide)) rfl) rfl) rfl) rfl) rfl) ?_
              exact i1 x1 x2 x3 v74 hh72 (by omega) (by omega) (by omega) (by omega) K73 (by omega)
            · refine xi_ift (pc' := 85) kc_36_67 rfl (xc_ne_t (X := v42.toInt) (Y := 0) rfl (by decide) (by omega)) ?_
              refine xi_aload_n (pc' := 86) (x := 115) kc_36_85 rfl rfl ?_
              refine xi_getfield (pc' := 89) (v := .ref 135) kc_36_86 rfl rfl rfl A37 rfl ?_
              refine xi_iload (pc' := 91) (x := x4) kc_36_89 rfl rfl ?_
              refine xi_iaload (pc' := 92) (v := v42) kc_36_91 rfl A41 (by decide) rfl (xi_in (by omega) (by rw [hy41]; omega)) ev42 ?_
              refine xi_iconst (pc' := 93) (v := 1) kc_36_92 rfl rfl ?_
              by_cases c75 : v42.toInt = 1
              · refine xi_cmt (pc' := 105) kc_36_93 rfl (xc_eq_t (X := v42.toInt) (Y := 1) rfl (by decide) (by omega)) ?_
                refine xi_aload_n (pc' := 106) (x := 115) kc_36_105 rfl rfl ?_
                refine xi_getfield (pc' := 109) (v := .ref 137) kc_36_106 rfl rfl rfl A37 rfl ?_
                refine xi_iload (pc' := 111) (x := x4) kc_36_109 rfl rfl ?_
                refine xcps4 (xk_arr K23.1 xD_137) (fun y76 A76 hy76 ry76 => ?_)
                refine xcps4 (xj_get hy76 ry76 (i := x4) (by omega) (by omega)) (fun v77 ev77 bv77 dv77 => ?_)
                refine xi_iaload (pc' := 112) (v := v77) kc_36_111 rfl A76 (by decide) rfl (xi_in (by omega) (by rw [hy76]; omega)) ev77 ?_
                refine xi_goto (pc' := 116) kc_36_112 rfl ?_
                refine xi_istore (pc' := 118) (lv' := [(5, .int v77), (0, .ref 115), (1, .int x1), (2, .int x2), (3, .int x3), (4, .int x4)]) kc_36_116 rfl rfl (xm_lt ml_36 rfl) ?_
                refine xi_aload_n (pc' := 119) (x := 115) kc_36_118 rfl rfl ?_
                refine xi_getfield (pc' := 122) (v := .ref 142) kc_36_119 rfl rfl rfl A37 rfl ?_
                refine xi_aload_n (pc' := 123) (x := 115) kc_36_122 rfl rfl ?_
                refine xi_getfield (pc' := 126) (v := .ref 136) kc_36_123 rfl rfl rfl A37 rfl ?_
                refine xi_iload (pc' := 128) (x := x4) kc_36_126 rfl rfl ?_
                refine xcps4 (xk_arr K23.1 xD_136) (fun y78 A78 hy78 ry78 => ?_)
                refine xcps4 (xj_get hy78 ry78 (i := x4) (by omega) (by omega)) (fun v79 ev79 bv79 dv79 => ?_)
                refine xi_iaload (pc' := 129) (v := v79) kc_36_128 rfl A78 (by decide) rfl (xi_in (by omega) (by rw [hy78]; omega)) ev79 ?_
                refine xi_aload_n (pc' := 130) (x := 115) kc_36_129 rfl rfl ?_
                refine xi_getfield (pc' := 133) (v := .ref 142) kc_36_130 rfl rfl rfl A37 rfl ?_
                refine xi_aload_n (pc' := 134) (x := 115) kc_36_133 rfl rfl ?_
                refine xi_getfield (pc' := 137) (v := .ref 136) kc_36_134 rfl rfl rfl A37 rfl ?_
                refine xi_iload (pc' := 139) (x := x4) kc_36_137 rfl rfl ?_
                refine xi_iaload (pc' := 140) (v := v79) kc_36_139 rfl A78 (by decide) rfl (xi_in (by omega) (by rw [hy78]; omega)) ev79 ?_
                refine xcps4 (xk_arr K23.1 xD_142) (fun y80 A80 hy80 ry80 => ?_)
                refine xcps4 (xj_get hy80 ry80 (i := v79) (by omega) (by omega)) (fun v81 ev81 bv81 dv81 => ?_)
                refine xi_iaload (pc' := 141) (v := v81) kc_36_140 rfl A80 (by decide) rfl (xi_in (by omega) (by rw [hy80]; omega)) ev81 ?_
                refine xi_iload (pc' := 143) (x := v77) kc_36_141 rfl rfl ?_
                refine xcps2 (α := Int32) ((v81 : Int32) + v77) (fun v82 ev82 => ?_)
                have rv82 := xc_rng v82
                refine xi_iadd (pc' := 144) (v := v82) kc_36_143 rfl ev82 ?_
                refine xi_static (mj := 39) (as := [.int v82]) (st1 := [.int v79, .ref 142]) (lv0 := [(0, .int v82)]) kc_36_144 rfl rfl (Nat.le_of_ble_eq_true rfl) rfl rfl (Nat.le_of_ble_eq_true rfl) (hJ _ _ _ _ (by decide)) (xm_le ml_39 rfl) rfl ?_
                refine mt_39_0 hJ hov1 hov2 (d := d + 2) (x0 := v82) K23.1 (fun r83 hh84 br83 K85 => ?_)
                have K86 := xk_tr K23 K85 rfl
                refine xp_115 K86.1 (fun u87 u88 u89 u90 u91 u92 u93 u94 u95 u96 u97 u98 u99 bu87 bu88 bu89 bu90 bu91 bu92 bu93 bu94 bu95 bu96 bu97 bu98 bu99 A100 => ?_)
                have e101 : u2 = u88 := xk_eqi (q := 1) K85 rfl A37 A100 rfl rfl
                subst e101
                show xw J ov (d + 4) 36 (147, [(5, .int v77), (0, .ref 115), (1, .int x1), (2, .int x2), (3, .int x3), (4, .int x4)], [.int r83, .int v79, .ref 142], hh84) _
                refine xcps4 (xk_arr K86.1 xD_142) (fun y102 A102 hy102 ry102 => ?_)
                refine xcps4 (xj_set (v := r83) hy102 ry102 v79 (by first | omega | decide) (by first | omega | decide)) (fun y103 s103 hy103 ry103 => ?_)
                refine xi_iastore (pc' := 148) (x' := y103) kc_36_147 rfl A102 rfl (xi_in (by omega) (by rw [hy102]; omega)) s103 (fun hh103 eh103 => ?_)
                have K104 := xk_pa K86 (xk_wa rfl) xD_142 hy103 ry103 eh103
                refine xcps2 (α := Int32) (x4 + 1) (fun v105 ev105 => ?_)
                have zv105 : v105.toInt = (x4.toInt + 1) := by rw [← ev105]; exact (xz_add (X := x4.toInt) (Y := 1) rfl (by decide) (by omega) (by omega)).trans (by omega)
                refine xi_iinc (pc' := 151) (x := x4) (v := v105) (lv' := [(4, .int v105), (5, .int v77), (0, .ref 115), (1, .int x1), (2, .int x2), (3, .int x3)]) kc_36_148 rfl rfl ev105 rfl (xm_lt ml_36 rfl) ?_
                refine xi_goto (pc' := 28) kc_36_151 rfl ?_
                refine xw_lv (b := [(0, .ref 115), (1, .int x1), (2, .int x2), (3, .int x3), (4, .int v105)]) (lvS_cons (lvS_cons (lvS_cons (lvS_cons (lvS_cons (lvS_nil (show ([4, 5, 0, 1, 2, 3] : List Nat).Nodup by decide)) rfl) rfl) rfl) rfl) rfl) ?_
                exact i1 x1 x2 x3 v105 hh103 (by omega) (by omega) (by omega) (by omega) K104 (by omega)
              · refine xi_cmf (pc' := 96) kc_36_93 rfl (xc_eq_f (X := v42.toInt) (Y := 1) rfl (by decide) (by omega)) ?_
                refine xi_iload_n (pc' := 97) (x := x3) kc_36_96 rfl rfl ?_
                refine xi_bipush (pc' := 99) (v := 24) kc_36_97 rfl rfl ?_
                refine xcps2 (α := Int32) (x3 - x3 / 24 * 24) (fun v106 ev106 => ?_)
                have dv106 : v106.toInt = x3.toInt % 24 := by rw [← ev106]; exact xz_reme (X := x3.toInt) (Y := 24) rfl (by decide) (by omega) (by decide)
                have bv106 : 0 ≤ v106.toInt ∧ v106.toInt ≤ 23 := by omega
                refine xi_irem (pc' := 100) (v := v106) kc_36_99 rfl ev106 (by decide) ?_
                refine xi_bipush (pc' := 102) (v := 6) kc_36_100 rfl rfl ?_
                by_cases c107 : 6 ≤ v106.toInt
                · refine xi_cmt (pc' := 115) kc_36_102 rfl (xc_ge_t (X := v106.toInt) (Y := 6) rfl (by decide) (by omega)) ?_
                  refine xi_iconst (pc' := 116) (v := 0) kc_36_115 rfl rfl ?_
                  refine xi_istore (pc' := 118) (lv' := [(5, .int 0), (0, .ref 115), (1, .int x1), (2, .int x2), (3, .int x3), (4, .int x4)]) kc_36_116 rfl rfl (xm_lt ml_36 rfl) ?_
                  refine xi_aload_n (pc' := 119) (x := 115) kc_36_118 rfl rfl ?_
                  refine xi_getfield (pc' := 122) (v := .ref 142) kc_36_119 rfl rfl rfl A37 rfl ?_
                  refine xi_aload_n (pc' := 123) (x := 115) kc_36_122 rfl rfl ?_
                  refine xi_getfield (pc' := 126) (v := .ref 136) kc_36_123 rfl rfl rfl A37 rfl ?_
                  refine xi_iload (pc' := 128) (x := x4) kc_36_126 rfl rfl ?_
                  refine xcps4 (xk_arr K23.1 xD_136) (fun y108 A108 hy108 ry108 => ?_)
                  refine xcps4 (xj_get hy108 ry108 (i := x4) (by omega) (by omega)) (fun v109 ev109 bv109 dv109 => ?_)
                  refine xi_iaload (pc' := 129) (v := v109) kc_36_128 rfl A108 (by decide) rfl (xi_in (by omega) (by rw [hy108]; omega)) ev109 ?_
                  refine xi_aload_n (pc' := 130) (x := 115) kc_36_129 rfl rfl ?_
                  refine xi_getfield (pc' := 133) (v := .ref 142) kc_36_130 rfl rfl rfl A37 rfl ?_
                  refine xi_aload_n (pc' := 134) (x := 115) kc_36_133 rfl rfl ?_
                  refine xi_getfield (pc' := 137) (v := .ref 136) kc_36_134 rfl rfl rfl A37 rfl ?_
                  refine xi_iload (pc' := 139) (x := x4) kc_36_137 rfl rfl ?_
                  refine xi_iaload (pc' := 140) (v := v109) kc_36_139 rfl A108 (by decide) rfl (xi_in (by omega) (by rw [hy108]; omega)) ev109 ?_
                  refine xcps4 (xk_arr K23.1 xD_142) (fun y110 A110 hy110 ry110 => ?_)
                  refine xcps4 (xj_get hy110 ry110 (i := v109) (by omega) (by omega)) (fun v111 ev111 bv111 dv111 => ?_)
                  refine xi_iaload (pc' := 141) (v := v111) kc_36_140 rfl A110 (by decide) rfl (xi_in (by omega) (by rw [hy110]; omega)) ev111 ?_
                  refine xi_iload (pc' := 143) (x := 0) kc_36_141 rfl rfl ?_
                  refine xcps2 (α := Int32) (v111 + 0) (fun v112 ev112 => ?_)
                  have zv112 : v112.toInt = v111.toInt := by rw [← ev112]; exact (xz_add (X := v111.toInt) (Y := 0) rfl (by decide) (by omega) (by omega)).trans (by omega)
                  refine xi_iadd (pc' := 144) (v := v112) kc_36_143 rfl ev112 ?_
                  refine xi_static (mj := 39) (as := [.int v112]) (st1 := [.int v109, .ref 142]) (lv0 := [(0, .int v112)]) kc_36_144 rfl rfl (Nat.le_of_ble_eq_true rfl) rfl rfl (Nat.le_of_ble_eq_true rfl) (hJ _ _ _ _ (by decide)) (xm_le ml_39 rfl) rfl ?_
                  refine mt_39_0 hJ hov1 hov2 (d := d + 2) (x0 := v112) K23.1 (fun r113 hh114 br113 K115 => ?_)
                  have K116 := xk_tr K23 K115 rfl
                  refine xp_115 K116.1 (fun u117 u118 u119 u120 u121 u122 u123 u124 u125 u126 u127 u128 u129 bu117 bu118 bu119 bu120 bu121 bu122 bu123 bu124 bu125 bu126 bu127 bu128 bu129 A130 => ?_)
                  have e131 : u2 = u118 := xk_eqi (q := 1) K115 rfl A37 A130 rfl rfl
                  subst e131
                  show xw J ov (d + 4) 36 (147, [(5, .int 0), (0, .ref 115), (1, .int x1), (2, .int x2), (3, .int x3), (4, .int x4)], [.int r113, .int v109, .ref 142], hh114) _
                  refine xcps4 (xk_arr K116.1 xD_142) (fun y132 A132 hy132 ry132 => ?_)
                  refine xcps4 (xj_set (v := r113) hy132 ry132 v109 (by first | omega | decide) (by first | omega | decide)) (fun y133 s133 hy133 ry133 => ?_)
                  refine xi_iastore (pc' := 148) (x' := y133) kc_36_147 rfl A132 rfl (xi_in (by omega) (by rw [hy132]; omega)) s133 (fun hh133 eh133 => ?_)
                  have K134 := xk_pa K116 (xk_wa rfl) xD_142 hy133 ry133 eh133
                  refine xcps2 (α := Int32) (x4 + 1) (fun v135 ev135 => ?_)
                  have zv135 : v135.toInt = (x4.toInt + 1) := by rw [← ev135]; exact (xz_add (X := x4.toInt) (Y := 1) rfl (by decide) (by omega) (by omega)).trans (by omega)
                  refine xi_iinc (pc' := 151) (x := x4) (v := v135) (lv' := [(4, .int v135), (5, .int 0), (0, .ref 115), (1, .int x1), (2, .int x2), (3, .int x3)]) kc_36_148 rfl rfl ev135 rfl (xm_lt ml_36 rfl) ?_
                  refine xi_goto (pc' := 28) kc_36_151 rfl ?_
                  refine xw_lv (b := [(0, .ref 115), (1, .int x1), (2, .int x2), (3, .int x3), (4, .int v135)]) (lvS_cons (lvS_cons (lvS_cons (lvS_cons (lvS_cons (lvS_nil (show ([4, 5, 0, 1, 2, 3] : List Nat).Nodup by decide)) rfl) rfl) rfl) rfl) rfl) ?_
                  exact i1 x1 x2 x3 v135 hh133 (by omega) (by omega) (by omega) (by omega) K134 (by omega)
                · refine xi_cmf (pc' := 105) kc_36_102 rfl (xc_ge_f (X := v106.toInt) (Y := 6) rfl (by decide) (by omega)) ?_
                  refine xi_aload_n (pc' := 106) (x := 115) kc_36_105 rfl rfl ?_
                  refine xi_getfield (pc' := 109) (v := .ref 137) kc_36_106 rfl rfl rfl A37 rfl ?_
                  refine xi_iload (pc' := 111) (x := x4) kc_36_109 rfl rfl ?_
                  refine xcps4 (xk_arr K23.1 xD_137) (fun y136 A136 hy136 ry136 => ?_)
                  refine xcps4 (xj_get hy136 ry136 (i := x4) (by omega) (by omega)) (fun v137 ev137 bv137 dv137 => ?_)
                  refine xi_iaload (pc' := 112) (v := v137) kc_36_111 rfl A136 (by decide) rfl (xi_in (by omega) (by rw [hy136]; omega)) ev137 ?_
                  refine xi_goto (pc' := 116) kc_36_112 rfl ?_
                  refine xi_istore (pc' := 118) (lv' := [(5, .int v137), (0, .ref 115), (1, .int x1), (2, .int x2), (3, .int x3), (4, .int x4)]) kc_36_116 rfl rfl (xm_lt ml_36 rfl) ?_
                  refine xi_aload_n (pc' := 119) (x := 115) kc_36_118 rfl rfl ?_
                  refine xi_getfield (pc' := 122) (v := .ref 142) kc_36_119 rfl rfl rfl A37 rfl ?_
                  refine xi_aload_n (pc' := 123) (x := 115) kc_36_122 rfl rfl ?_
                  refine xi_getfield (pc' := 126) (v := .ref 136) kc_36_123 rfl rfl rfl A37 rfl ?_
                  refine xi_iload (pc' := 128) (x := x4) kc_36_126 rfl rfl ?_
                  refine xcps4 (xk_arr K23.1 xD_136) (fun y138 A138 hy138 ry138 => ?_)
                  refine xcps4 (xj_get hy138 ry138 (i := x4) (by omega) (by omega)) (fun v139 ev139 bv139 dv139 => ?_)
                  refine xi_iaload (pc' := 129) (v := v139) kc_36_128 rfl A138 (by decide) rfl (xi_in (by omega) (by rw [hy138]; omega)) ev139 ?_
                  refine xi_aload_n (pc' := 130) (x := 115) kc_36_129 rfl rfl ?_
                  refine xi_getfield (pc' := 133) (v := .ref 142) kc_36_130 rfl rfl rfl A37 rfl ?_
                  refine xi_aload_n (pc' := 134) (x := 115) kc_36_133 rfl rfl ?_
                  refine xi_getfield (pc' := 137) (v := .ref 136) kc_36_134 rfl rfl rfl A37 rfl ?_
                  refine xi_iload (pc' := 139) (x := x4) kc_36_137 rfl rfl ?_
                  refine xi_iaload (pc' := 140) (v := v139) kc_36_139 rfl A138 (by decide) rfl (xi_in (by omega) (by rw [hy138]; omega)) ev139 ?_
                  refine xcps4 (xk_arr K23.1 xD_142) (fun y140 A140 hy140 ry140 => ?_)
                  refine xcps4 (xj_get hy140 ry140 (i := v139) (by omega) (by omega)) (fun v141 ev141 bv141 dv141 => ?_)
                  refine xi_iaload (pc' := 141) (v := v141) kc_36_140 rfl A140 (by decide) rfl (xi_in (by omega) (by rw [hy140]; omega)) ev141 ?_
                  refine xi_iload (pc' := 143) (x := v137) kc_36_141 rfl rfl ?_
                  refine xcps2 (α := Int32) ((v141 : Int32) + v137) (fun v142 ev142 => ?_)
                  have rv142 := xc_rng v142
                  refine xi_iadd (pc' := 144) (v := v142) kc_36_143 rfl ev142 ?_
                  refine xi_static (mj := 39) (as := [.int v142]) (st1 := [.int v139, .ref 142]) (lv0 := [(0, .int v142)]) kc_36_144 rfl rfl (Nat.le_of_ble_eq_true rfl) rfl rfl (Nat.le_of_ble_eq_true rfl) (hJ _ _ _ _ (by decide)) (xm_le ml_39 rfl) rfl ?_
                  refine mt_39_0 hJ hov1 hov2 (d := d + 2) (x0 := v142) K23.1 (fun r143 hh144 br143 K145 => ?_)
                  have K146 := xk_tr K23 K145 rfl
                  refine xp_115 K146.1 (fun u147 u148 u149 u150 u151 u152 u153 u154 u155 u156 u157 u158 u159 bu147 bu148 bu149 bu150 bu151 bu152 bu153 bu154 bu155 bu156 bu157 bu158 bu159 A160 => ?_)
                  have e161 : u2 = u148 := xk_eqi (q := 1) K145 rfl A37 A160 rfl rfl
                  subst e161
                  show xw J ov (d + 4) 36 (147, [(5, .int v137), (0, .ref 115), (1, .int x1), (2, .int x2), (3, .int x3), (4, .int x4)], [.int r143, .int v139, .ref 142], hh144) _
                  refine xcps4 (xk_arr K146.1 xD_142) (fun y162 A162 hy162 ry162 => ?_)
                  refine xcps4 (xj_set (v := r143) hy162 ry162 v139 (by first | omega | decide) (by first | omega | decide)) (fun y163 s163 hy163 ry163 => ?_)
                  refine xi_iastore (pc' := 148) (x' := y163) kc_36_147 rfl A162 rfl (xi_in (by omega) (by rw [hy162]; omega)) s163 (fun hh163 eh163 => ?_)
                  have K164 := xk_pa K146 (xk_wa rfl) xD_142 hy163 ry163 eh163
                  refine xcps2 (α := Int32) (x4 + 1) (fun v165 ev165 => ?_)
                  have zv165 : v165.toInt = (x4.toInt + 1) := by rw [← ev165]; exact (xz_add (X := x4.toInt) (Y := 1) rfl (by decide) (by omega) (by omega)).trans (by omega)
                  refine xi_iinc (pc' := 151) (x := x4) (v := v165) (lv' := [(4, .int v165), (5, .int v137), (0, .ref 115), (1, .int x1), (2, .int x2), (3, .int x3)]) kc_36_148 rfl rfl ev165 rfl (xm_lt ml_36 rfl) ?_
                  refine xi_goto (pc' := 28) kc_36_151 rfl ?_
                  refine xw_lv (b := [(0, .ref 115), (1, .int x1), (2, .int x2), (3, .int x3), (4, .int v165)]) (lvS_cons (lvS_cons (lvS_cons (lvS_cons (lvS_cons (lvS_nil (show ([4, 5, 0, 1, 2, 3] : List Nat).Nodup by decide)) rfl) rfl) rfl) rfl) rfl) ?_
                  exact i1 x1 x2 x3 v165 hh163 (by omega) (by omega) (by omega) (by omega) K164 (by omega)
    · intro x4 h b4 K hm
      refine xi_iload (pc' := 159) (x := x4) kc_36_157 rfl rfl ?_
      refine xi_bipush (pc' := 161) (v := 12) kc_36_159 rfl rfl ?_
      by_cases c1 : 12 ≤ x4.toInt
      · refine xi_cmt (pc' := 198) kc_36_161 rfl (xc_ge_t (X := x4.toInt) (Y := 12) rfl (by decide) (by omega)) ?_
        refine xi_return kc_36_198 mr_36 ?_
        exact kk h K
      · refine xi_cmf (pc' := 164) kc_36_161 rfl (xc_ge_f (X := x4.toInt) (Y := 12) rfl (by decide) (by omega)) ?_
        refine xi_aload_n (pc' := 165) (x := 115) kc_36_164 rfl rfl ?_
        refine xp_115 K.1 (fun u2 u3 u4 u5 u6 u7 u8 u9 u10 u11 u12 u13 u14 bu2 bu3 bu4 bu5 bu6 bu7 bu8 bu9 bu10 bu11 bu12 bu13 bu14 A15 => ?_)
        refine xi_getfield (pc' := 168) (v := .ref 142) kc_36_165 rfl rfl rfl A15 rfl ?_
        refine xi_iload (pc' := 170) (x := x4) kc_36_168 rfl rfl ?_
        refine xi_dup2 (pc' := 171) kc_36_170 rfl ⟨rfl, rfl⟩ ?_
        refine xcps4 (xk_arr K.1 xD_142) (fun y16 A16 hy16 ry16 => ?_)
        refine xcps4 (xj_get hy16 ry16 (i := x4) (by omega) (by omega)) (fun v17 ev17 bv17 dv17 => ?_)
        refine xi_iaload (pc' := 172) (v := v17) kc_36_171 rfl A16 (by decide) rfl (xi_in (by omega) (by rw [hy16]; omega)) ev17 ?_
        refine xi_aload_n (pc' := 173) (x := 115) kc_36_172 rfl rfl ?_
        refine xi_getfield (pc' := 176) (v := .ref 142) kc_36_173 rfl rfl rfl A15 rfl ?_
        refine xi_iload (pc' := 178) (x := x4) kc_36_176 rfl rfl ?_
        refine xi_iaload (pc' := 179) (v := v17) kc_36_178 rfl A16 (by decide) rfl (xi_in (by omega) (by rw [hy16]; omega)) ev17 ?_
        refine xi_aload_n (pc' := 180) (x := 115) kc_36_179 rfl rfl ?_
        refine xi_getfield (pc' := 183) (v := .int u4) kc_36_180 rfl rfl rfl A15 rfl ?_
        refine xcps2 (α := Int32) ((v17 : Int32) * u4) (fun v18 ev18 => ?_)
        have rv18 := xc_rng v18
        refine xi_imul (pc' := 184) (v := v18) kc_36_183 rfl ev18 ?_
        refine xi_bipush (pc' := 186) (v := 99) kc_36_184 rfl rfl ?_
        refine xcps2 (α := Int32) ((v18 : Int32) + 99) (fun v19 ev19 => ?_)
        have rv19 := xc_rng v19
        refine xi_iadd (pc' := 187) (v := v19) kc_36_186 rfl ev19 ?_
        refine xi_bipush (pc' := 189) (v := 100) kc_36_187 rfl rfl ?_
        refine xcps2 (α := Int32) (v19 / 100) (fun v20 ev20 => ?_)
        have dv20 : 100 * v20.toInt ≤ v19.toInt + 99 ∧ v19.toInt ≤ 100 * v20.toInt + 99 := by rw [← ev20]; exact xz_div (X := v19.toInt) (Y := 100) rfl (by decide) (by decide)
        have bv20 : -21474837 ≤ v20.toInt ∧ v20.toInt ≤ 21474837 := by omega
        refine xi_idiv (pc' := 190) (v := v20) kc_36_189 rfl ev20 (by decide) ?_
        refine xcps2 (α := Int32) ((v17 : Int32) - v20) (fun v21 ev21 => ?_)
        have rv21 := xc_rng v21
        refine xi_isub (pc' := 191) (v := v21) kc_36_190 rfl ev21 ?_
        refine xcps4 (xj_set (v := v21) hy16 ry16 x4 (by first | omega | decide) (by first | omega | decide)) (fun y22 s22 hy22 ry22 => ?_)
        refine xi_iastore (pc' := 192) (x' := y22) kc_36_191 rfl A16 rfl (xi_in (by omega) (by rw [hy16]; omega)) s22 (fun hh22 eh22 => ?_)
        have K23 := xk_pa K (xk_wa rfl) xD_142 hy22 ry22 eh22
        refine xcps2 (α := Int32) (x4 + 1) (fun v24 ev24 => ?_)
        have zv24 : v24.toInt = (x4.toInt + 1) := by rw [← ev24]; exact (xz_add (X := x4.toInt) (Y := 1) rfl (by decide) (by omega) (by omega)).trans (by omega)
        refine xi_iinc (pc' := 195) (x := x4) (v := v24) (lv' := [(4, .int v24), (0, .ref 115)]) kc_36_192 rfl rfl ev24 rfl (xm_lt ml_36 rfl) ?_
        refine xi_goto (pc' := 157) kc_36_195 rfl ?_
        refine xw_lv (b := [(0, .ref 115), (4, .int v24)]) (lvS_cons (lvS_cons (lvS_nil (show ([4, 0] : List Nat).Nodup by decide)) rfl) rfl) ?_
        exact i2 v24 hh22 (by omega) K23 (by omega)
set_option maxHeartbeats 4000000 in
theorem mt_36_0 {J : xe_J} {ov : List (List Int32)} (hJ : ∀ d mj as h, mj ≠ xe_loff → J d mj as h = none) (hov1 : ov[1]? = some [10, 0, 0, 0, 0, 0]) (hov2 : ov[2]? = some [99, 30, 50, 50, 1, 99999]) {d : Nat} {Q : Option Value → xe_H → Prop} {h : xe_H} {x1 : Int32} {x2 : Int32} {x3 : Int32} (T : xt h) (b1 : (0 ≤ x1.toInt ∧ x1.toInt ≤ 63)) (b2 : (0 ≤ x2.toInt ∧ x2.toInt ≤ 1)) (b3 : (0 ≤ x3.toInt ∧ x3.toInt ≤ 599)) (kk : (∀ h' : xe_H, xk [(0, 9), (115, 1), (83, 0), (81, 0), (156, 0), (82, 0), (157, 0), (158, 0)] h h' → Q none h')) : xw J ov (d + 4) 36 (0, [(0, .ref 115), (1, .int x1), (2, .int x2), (3, .int x3)], [], h) Q := by
  have K : xk [(0, 9), (115, 1), (83, 0), (81, 0), (156, 0), (82, 0), (157, 0), (158, 0)] h h := xk_re T
  refine xi_iconst (pc' := 1) (v := 0) kc_36_0 rfl rfl ?_
  refine xi_istore (pc' := 3) (lv' := [(4, .int 0), (0, .ref 115), (1, .int x1), (2, .int x2), (3, .int x3)]) kc_36_1 rfl rfl (xm_lt ml_36 rfl) ?_
  have zc0 : (0 : Int32).toInt = 0 := by decide
  refine xw_lv (b := [(0, .ref 115), (1, .int x1), (2, .int x2), (3, .int x3), (4, .int 0)]) (lvS_cons (lvS_cons (lvS_cons (lvS_cons (lvS_cons (lvS_nil (show ([4, 0, 1, 2, 3] : List Nat).Nodup by decide)) rfl) rfl) rfl) rfl) rfl) ?_
  exact (lp_36_0 hJ hov1 hov2 (d := d) (hb := h) (fun h9 K9 => kk h9 (xk_tr K K9 rfl)) 31).1 x1 x2 x3 0 h (by omega) (by omega) (by omega) (by omega) (xk_re K.1) (by omega)
set_option maxHeartbeats 4000000 in
theorem lp_35_0 {J : xe_J} {ov : List (List Int32)} (hJ : ∀ d mj as h, mj ≠ xe_loff → J d mj as h = none) (hov1 : ov[1]? = some [10, 0, 0, 0, 0, 0]) (hov2 : ov[2]? = some [99, 30, 50, 50, 1, 99999]) {d : Nat} {Q : Option Value → xe_H → Prop} {hb : xe_H} {u0 : Int32} (bgu0 : (0 ≤ u0.toInt ∧ u0.toInt ≤ 599)) (kk : (∀ h' : xe_H, (∀ v : Int32, xl h' (115, 1) = some (.inl (.int v)) → v.toInt + (-1) * u0.toInt + (-1) = 0) → xk [(0, 9), (83, 0), (81, 0), (156, 0), (82, 0), (157, 0), (158, 0)] hb h' → Q none h')) : ∀ m : Nat, (∀ (x1 : Int32) (h : xe_H), (0 ≤ x1.toInt ∧ x1.toInt ≤ 20) → (∀ v : Int32, xl h (115, 1) = some (.inl (.int v)) → v.toInt + (-1) * u0.toInt + 0 = 0) → xk [(0, 9), (83, 0), (81, 0), (156, 0), (82, 0), (157, 0), (158, 0)] hb h → (-1) * x1.toInt + 81 < (m : Int) → xw J ov (d + 5) 35 (2, [(0, .ref 115), (1, .int x1)], [], h) Q) ∧ (∀ (x1 : Int32) (h : xe_H), (0 ≤ x1.toInt ∧ x1.toInt ≤ 6) → (∀ v : Int32, xl h (115, 1) = some (.inl (.int v)) → v.toInt + (-1) * u0.toInt + 0 = 0) → xk [(0, 9), (83, 0), (81, 0), (156, 0), (82, 0), (157, 0), (158, 0)] hb h → (-1) * x1.toInt + 60 < (m : Int) → xw J ov (d + 5) 35 (93, [(0, .ref 115), (1, .int x1)], [], h) Q) ∧ (∀ (x1 : Int32) (h : xe_H), (0 ≤ x1.toInt ∧ x1.toInt ≤ 12) → (∀ v : Int32, xl h (115, 1) = some (.inl (.int v)) → v.toInt + (-1) * u0.toInt + 0 = 0) → xk [(0, 9), (83, 0), (81, 0), (156, 0), (82, 0), (157, 0), (158, 0)] hb h → (-1) * x1.toInt + 53 < (m : Int) → xw J ov (d + 5) 35 (119, [(0, .ref 115), (1, .int x1)], [], h) Q) ∧ (∀ (x1 : Int32) (h : xe_H), (0 ≤ x1.toInt ∧ x1.toInt ≤ 6) → (∀ v : Int32, xl h (115, 1) = some (.inl (.int v)) → v.toInt + (-1) * u0.toInt + 0 = 0) → xk [(0, 9), (83, 0), (81, 0), (156, 0), (82, 0), (157, 0), (158, 0)] hb h → (-1) * x1.toInt + 40 < (m : Int) → xw J ov (d + 5) 35 (179, [(0, .ref 115), (1, .int x1)], [], h) Q) ∧ (∀ (x1 : Int32) (h : xe_H), (0 ≤ x1.toInt ∧ x1.toInt ≤ 12) → (∀ v : Int32, xl h (115, 1) = some (.inl (.int v)) → v.toInt + (-1) * u0.toInt + 0 = 0) → xk [(0, 9), (83, 0), (81, 0), (156, 0), (82, 0), (157, 0), (158, 0)] hb h → (-1) * x1.toInt + 33 < (m : Int) → xw J ov (d + 5) 35 (205, [(0, .ref 115), (1, .int x1)], [], h) Q) ∧ (∀ (x1 : Int32) (h : xe_H), (0 ≤ x1.toInt ∧ x1.toInt ≤ 20) → (∀ v : Int32, xl h (115, 1) = some (.inl (.int v)) → v.toInt + (-1) * u0.toInt + (-1) = 0) → xk [(0, 9), (83, 0), (81, 0), (156, 0), (82, 0), (157, 0), (158, 0)] hb h → (-1) * x1.toInt + 20 < (m : Int) → xw J ov (d + 5) 35 (286, [(0, .ref 115), (1, .int x1)], [], h) Q) := by
  intro m
  induction m with
  | zero =>
    refine ⟨?_, ?_, ?_, ?_, ?_, ?_⟩
    · intro x1 h b1 gh0 K hm; exfalso; omega
    · intro x1 h b1 gh0 K hm; exfalso; omega
    · intro x1 h b1 gh0 K hm; exfalso; omega
    · intro x1 h b1 gh0 K hm; exfalso; omega
    · intro x1 h b1 gh0 K hm; exfalso; omega
    · intro x1 h b1 gh0 K hm; exfalso; omega
  | succ m ih =>
    obtain ⟨i0, i1, i2, i3, i4, i5⟩ := ih
    refine ⟨?_, ?_, ?_, ?_, ?_, ?_⟩
    · intro x1 h b1 gh0 K hm
      refine xp_115 K.1 (fun u1 u2 u3 u4 u5 u6 u7 u8 u9 u10 u11 u12 u13 bu1 bu2 bu3 bu4 bu5 bu6 bu7 bu8 bu9 bu10 bu11 bu12 bu13 A14 => ?_)
      have gh0' := gh0 _ (xl_of A14 rfl)
      refine xi_iload_n (pc' := 3) (x := x1) kc_35_2 rfl rfl ?_
      refine xi_aload_n (pc' := 4) (x := 115) kc_35_3 rfl rfl ?_
      refine xi_getfield (pc' := 7) (v := .int u8) kc_35_4 rfl rfl rfl A14 rfl ?_
      by_cases c15 : u8.toInt ≤ x1.toInt
      · refine xi_cmt (pc' := 91) kc_35_7 rfl (xc_ge_t (X := x1.toInt) (Y := u8.toInt) rfl rfl (by omega)) ?_
        refine xi_iconst (pc' := 92) (v := 0) kc_35_91 rfl rfl ?_
        refine xi_istore_n (pc' := 93) (lv' := [(1, .int 0), (0, .ref 115)]) kc_35_92 rfl rfl (xm_lt ml_35 rfl) ?_
        have zc0 : (0 : Int32).toInt = 0 := by decide
        refine xw_lv (b := [(0, .ref 115), (1, .int 0)]) (lvS_cons (lvS_cons (lvS_nil (show ([1, 0] : List Nat).Nodup by decide)) rfl) rfl) ?_
        exact i1 0 h (by omega) (fun v e => by have e2 := xl_val (u := u2) A14 rfl e; subst e2; omega) K (by omega)
      · refine xi_cmf (pc' := 10) kc_35_7 rfl (xc_ge_f (X := x1.toInt) (Y := u8.toInt) rfl rfl (by omega)) ?_
        refine xi_aload_n (pc' := 11) (x := 115) kc_35_10 rfl rfl ?_
        refine xi_getfield (pc' := 14) (v := .ref 146) kc_35_11 rfl rfl rfl A14 rfl ?_
        refine xi_iload_n (pc' := 15) (x := x1) kc_35_14 rfl rfl ?_
        refine xcps4 (xk_arr K.1 xD_146) (fun y16 A16 hy16 ry16 => ?_)
        refine xcps4 (xj_get hy16 ry16 (i := x1) (by omega) (by omega)) (fun v17 ev17 bv17 dv17 => ?_)
        refine xi_iaload (pc' := 16) (v := v17) kc_35_15 rfl A16 (by decide) rfl (xi_in (by omega) (by rw [hy16]; omega)) ev17 ?_
        refine xi_aload_n (pc' := 17) (x := 115) kc_35_16 rfl rfl ?_
        refine xi_getfield (pc' := 20) (v := .int u2) kc_35_17 rfl rfl rfl A14 rfl ?_
        by_cases c18 : v17.toInt = u2.toInt
        · refine xi_cmf (pc' := 23) kc_35_20 rfl (xc_ne_f (X := v17.toInt) (Y := u2.toInt) rfl rfl (by omega)) ?_
          refine xi_aload_n (pc' := 24) (x := 115) kc_35_23 rfl rfl ?_
          refine xi_getfield (pc' := 27) (v := .ref 144) kc_35_24 rfl rfl rfl A14 rfl ?_
          refine xi_iload_n (pc' := 28) (x := x1) kc_35_27 rfl rfl ?_
          refine xcps4 (xk_arr K.1 xD_144) (fun y19 A19 hy19 ry19 => ?_)
          refine xcps4 (xj_get hy19 ry19 (i := x1) (by omega) (by omega)) (fun v20 ev20 bv20 dv20 => ?_)
          refine xi_iaload (pc' := 29) (v := v20) kc_35_28 rfl A19 (by decide) rfl (xi_in (by omega) (by rw [hy19]; omega)) ev20 ?_
          by_cases c21 : v20.toInt = 0
          · refine xi_iff (pc' := 32) kc_35_29 rfl (xc_ne_f (X := v20.toInt) (Y := 0) rfl (by decide) (by omega)) ?_
            refine xi_iconst (pc' := 33) (v := 4) kc_35_32 rfl rfl ?_
            refine xi_goto (pc' := 37) kc_35_33 rfl ?_
            refine xi_istore_n (pc' := 38) (lv' := [(2, .int 4), (0, .ref 115), (1, .int x1)]) kc_35_37 rfl rfl (xm_lt ml_35 rfl) ?_
            refine xi_aload_n (pc' := 39) (x := 115) kc_35_38 rfl rfl ?_
            refine xi_getfield (pc' := 42) (v := .ref 148) kc_35_39 rfl rfl rfl A14 rfl ?_
            refine xi_iload_n (pc' := 43) (x := x1) kc_35_42 rfl rfl ?_
            refine xi_aload_n (pc' := 44) (x := 115) kc_35_43 rfl rfl ?_
            refine xi_aload_n (pc' := 45) (x := 115) kc_35_44 rfl rfl ?_
            refine xi_getfield (pc' := 48) (v := .ref 143) kc_35_45 rfl rfl rfl A14 rfl ?_
            refine xi_iload_n (pc' := 49) (x := x1) kc_35_48 rfl rfl ?_
            refine xcps4 (xk_arr K.1 xD_143) (fun y22 A22 hy22 ry22 => ?_)
            refine xcps4 (xj_get hy22 ry22 (i := x1) (by omega) (by omega)) (fun v23 ev23 bv23 dv23 => ?_)
            refine xi_iaload (pc' := 50) (v := v23) kc_35_49 rfl A22 (by decide) rfl (xi_in (by omega) (by rw [hy22]; omega)) ev23 ?_
            refine xi_iload_n (pc' := 51) (x := 4) kc_35_50 rfl rfl ?_
            refine xi_virtual (mj := 13) (as := [.int v23, .int 4]) (st1 := [.int x1, .ref 148]) (lv0 := [(0, .ref 115), (1, .int v23), (2, .int 4)]) kc_35_51 rfl rfl rfl rfl rfl A14 (Nat.le_of_ble_eq_true rfl) (hJ _ _ _ _ (by decide)) (xm_le ml_13 rfl) rfl ?_
            refine xi_iload_n (pc' := 1) (x := 4) kc_13_0 rfl rfl ?_
            refine xi_tsi (pc' := 64) (z := 4) kc_13_1 (rfl) rfl (by decide) ?_
            refine xi_aload_n (pc' := 65) (x := 115) kc_13_64 rfl rfl ?_
            refine xi_getfield (pc' := 68) (v := .ref 120) kc_13_65 rfl rfl rfl A14 rfl ?_
            refine xi_iload_n (pc' := 69) (x := v23) kc_13_68 rfl rfl ?_
            refine xcps4 (xk_arr K.1 xD_120) (fun y24 A24 hy24 ry24 => ?_)
            refine xcps4 (xj_get hy24 ry24 (i := v23) (by omega) (by omega)) (fun v25 ev25 bv25 dv25 => ?_)
            refine xi_iaload (pc' := 70) (v := v25) kc_13_69 rfl A24 (by decide) rfl (xi_in (by omega) (by rw [hy24]; omega)) ev25 ?_
            refine xi_ireturn kc_13_70 mr_13 rfl ?_
            show xw J ov (d + 5) 35 (54, [(2, .int 4), (0, .ref 115), (1, .int x1)], [.int v25, .int x1, .ref 148], h) _
            refine xcps4 (xk_arr K.1 xD_148) (fun y26 A26 hy26 ry26 => ?_)
            refine xcps4 (xj_set (v := v25) hy26 ry26 x1 (by first | omega | decide) (by first | omega | decide)) (fun y27 s27 hy27 ry27 => ?_)
            refine xi_iastore (pc' := 55) (x' := y27) kc_35_54 rfl A26 rfl (xi_in (by omega) (by rw [hy26]; omega)) s27 (fun hh27 eh27 => ?_)
            have K28 := xk_pa K (xk_wa rfl) xD_148 hy27 ry27 eh27
            refine xi_aload_n (pc' := 56) (x := 115) kc_35_55 rfl rfl ?_
            refine xi_aload_n (pc' := 57) (x := 115) kc_35_56 rfl rfl ?_
            have A29 := ((eh27.2.1 115 (by decide)).trans A14)
            refine xi_getfield (pc' := 60) (v := .ref 143) kc_35_57 rfl rfl rfl A29 rfl ?_
            refine xi_iload_n (pc' := 61) (x := x1) kc_35_60 rfl rfl ?_
            have A30 := ((eh27.2.1 143 (by decide)).trans A22)
            refine xi_iaload (pc' := 62) (v := v23) kc_35_61 rfl A30 (by decide) rfl (xi_in (by omega) (by rw [hy22]; omega)) ev23 ?_
            refine xi_iload_n (pc' := 63) (x := 4) kc_35_62 rfl rfl ?_
            refine xi_aload_n (pc' := 64) (x := 115) kc_35_63 rfl rfl ?_
            refine xi_getfield (pc' := 67) (v := .ref 144) kc_35_64 rfl rfl rfl A29 rfl ?_
            refine xi_iload_n (pc' := 68) (x := x1) kc_35_67 rfl rfl ?_
            have A31 := ((eh27.2.1 144 (by decide)).trans A19)
            refine xi_iaload (pc' := 69) (v := v20) kc_35_68 rfl A31 (by decide) rfl (xi_in (by omega) (by rw [hy19]; omega)) ev20 ?_
            refine xi_iff (pc' := 72) kc_35_69 rfl (xc_ne_f (X := v20.toInt) (Y := 0) rfl (by decide) (by omega)) ?_
            refine xi_iconst (pc' := 73) (v := 1) kc_35_72 rfl rfl ?_
            refine xi_goto (pc' := 82) kc_35_73 rfl ?_
            refine xi_virtual (mj := 14) (as := [.int v23, .int 4, .int 1]) (st1 := []) (lv0 := [(0, .ref 115), (1, .int v23), (2, .int 4), (3, .int 1)]) kc_35_82 rfl rfl rfl rfl rfl A29 (Nat.le_of_ble_eq_true rfl) (hJ _ _ _ _ (by decide)) (xm_le ml_14 rfl) rfl ?_
            have zc1 : (1 : Int32).toInt = 1 := by decide
            have zc4 : (4 : Int32).toInt = 4 := by decide
            refine mt_14_0 hJ hov1 hov2 (d := d + 3) (x1 := v23) (x2 := 4) (x3 := 1) K28.1 (by first | omega | decide) (by first | omega | decide) (fun hh33 K34 => ?_)
            have K35 := xk_tr K28 K34 rfl
            refine xp_115 K35.1 (fun u36 u37 u38 u39 u40 u41 u42 u43 u44 u45 u46 u47 u48 bu36 bu37 bu38 bu39 bu40 bu41 bu42 bu43 bu44 bu45 bu46 bu47 bu48 A49 => ?_)
            have e50 : u2 = u37 := xk_eqi (q := 1) K34 rfl A29 A49 rfl rfl
            subst e50
            show xw J ov (d + 5) 35 (85, [(2, .int 4), (0, .ref 115), (1, .int x1)], [], hh33) _
            refine xcps2 (α := Int32) (x1 + 1) (fun v51 ev51 => ?_)
            have zv51 : v51.toInt = (x1.toInt + 1) := by rw [← ev51]; exact (xz_add (X := x1.toInt) (Y := 1) rfl (by decide) (by omega) (by omega)).trans (by omega)
            refine xi_iinc (pc' := 88) (x := x1) (v := v51) (lv' := [(1, .int v51), (2, .int 4), (0, .ref 115)]) kc_35_85 rfl rfl ev51 rfl (xm_lt ml_35 rfl) ?_
            refine xi_goto (pc' := 2) kc_35_88 rfl ?_
            refine xw_lv (b := [(0, .ref 115), (1, .int v51)]) (lvS_cons (lvS_cons (lvS_nil (show ([1, 2, 0] : List Nat).Nodup by decide)) rfl) rfl) ?_
            exact i0 v51 hh33 (by omega) (fun v e => by have e2 := xl_val (u := u2) A49 rfl e; subst e2; omega) K35 (by omega)
          · refine xi_ift (pc' := 36) kc_35_29 rfl (xc_ne_t (X := v20.toInt) (Y := 0) rfl (by decide) (by omega)) ?_
            refine xi_iconst (pc' := 37) (v := 2) kc_35_36 rfl rfl ?_
            refine xi_istore_n (pc' := 38) (lv' := [(2, .int 2), (0, .ref 115), (1, .int x1)]) kc_35_37 rfl rfl (xm_lt ml_35 rfl) ?_
            refine xi_aload_n (pc' := 39) (x := 115) kc_35_38 rfl rfl ?_
            refine xi_getfield (pc' := 42) (v := .ref 148) kc_35_39 rfl rfl rfl A14 rfl ?_
            refine xi_iload_n (pc' := 43) (x := x1) kc_35_42 rfl rfl ?_
            refine xi_aload_n (pc' := 44) (x := 115) kc_35_43 rfl rfl ?_
            refine xi_aload_n (pc' := 45) (x := 115) kc_35_44 rfl rfl ?_
            refine xi_getfield (pc' := 48) (v := .ref 143) kc_35_45 rfl rfl rfl A14 rfl ?_
            refine xi_iload_n (pc' := 49) (x := x1) kc_35_48 rfl rfl ?_
            refine xcps4 (xk_arr K.1 xD_143) (fun y52 A52 hy52 ry52 => ?_)
            refine xcps4 (xj_get hy52 ry52 (i := x1) (by omega) (by omega)) (fun v53 ev53 bv53 dv53 => ?_)
            refine xi_iaload (pc' := 50) (v := v53) kc_35_49 rfl A52 (by decide) rfl (xi_in (by omega) (by rw [hy52]; omega)) ev53 ?_
            refine xi_iload_n (pc' := 51) (x := 2) kc_35_50 rfl rfl ?_
            refine xi_virtual (mj := 13) (as := [.int v53, .int 2]) (st1 := [.int x1, .ref 148]) (lv0 := [(0, .ref 115), (1, .int v53), (2, .int 2)]) kc_35_51 rfl rfl rfl rfl rfl A14 (Nat.le_of_ble_eq_true rfl) (hJ _ _ _ _ (by decide)) (xm_le ml_13 rfl) rfl ?_
            refine xi_iload_n (pc' := 1) (x := 2) kc_13_0 rfl rfl ?_
            refine xi_tsi (pc' := 50) (z := 2) kc_13_1 (rfl) rfl (by decide) ?_
            refine xi_aload_n (pc' := 51) (x := 115) kc_13_50 rfl rfl ?_
            refine xi_getfield (pc' := 54) (v := .ref 118) kc_13_51 rfl rfl rfl A14 rfl ?_
            refine xi_iload_n (pc' := 55) (x := v53) kc_13_54 rfl rfl ?_
            refine xcps4 (xk_arr K.1 xD_118) (fun y54 A54 hy54 ry54 => ?_)
            refine xcps4 (xj_get hy54 ry54 (i := v53) (by omega) (by omega)) (fun v55 ev55 bv55 dv55 => ?_)
            refine xi_iaload (pc' := 56) (v := v55) kc_13_55 rfl A54 (by decide) rfl (xi_in (by omega) (by rw [hy54]; omega)) ev55 ?_
            refine xi_ireturn kc_13_56 mr_13 rfl ?_
            show xw J ov (d + 5) 35 (54, [(2, .int 2), (0, .ref 115), (1, .int x1)], [.int v55, .int x1, .ref 148], h) _
            refine xcps4 (xk_arr K.1 xD_148) (fun y56 A56 hy56 ry56 => ?_)
            refine xcps4 (xj_set (v := v55) hy56 ry56 x1 (by first | omega | decide) (by first | omega | decide)) (fun y57 s57 hy57 ry57 => ?_)
            refine xi_iastore (pc' := 55) (x' := y57) kc_35_54 rfl A56 rfl (xi_in (by omega) (by rw [hy56]; omega)) s57 (fun hh57 eh57 => ?_)
            have K58 := xk_pa K (xk_wa rfl) xD_148 hy57 ry57 eh57
            refine xi_aload_n (pc' := 56) (x := 115) kc_35_55 rfl rfl ?_
            refine xi_aload_n (pc' := 57) (x := 115) kc_35_56 rfl rfl ?_
            have A59 := ((eh57.2.1 115 (by decide)).trans A14)
            refine xi_getfield (pc' := 60) (v := .ref 143) kc_35_57 rfl rfl rfl A59 rfl ?_
            refine xi_iload_n (pc' := 61) (x := x1) kc_35_60 rfl rfl ?_
            have A60 := ((eh57.2.1 143 (by decide)).trans A52)
            refine xi_iaload (pc' := 62) (v := v53) kc_35_61 rfl A60 (by decide) rfl (xi_in (by omega) (by rw [hy52]; omega)) ev53 ?_
            refine xi_iload_n (pc' := 63) (x := 2) kc_35_62 rfl rfl ?_
            refine xi_aload_n (pc' := 64) (x := 115) kc_35_63 rfl rfl ?_
            refine xi_getfield (pc' := 67) (v := .ref 144) kc_35_64 rfl rfl rfl A59 rfl ?_
            refine xi_iload_n (pc' := 68) (x := x1) kc_35_67 rfl rfl ?_
            have A61 := ((eh57.2.1 144 (by decide)).trans A19)
            refine xi_iaload (pc' := 69) (v := v20) kc_35_68 rfl A61 (by decide) rfl (xi_in (by omega) (by rw [hy19]; omega)) ev20 ?_
            refine xi_ift (pc' := 76) kc_35_69 rfl (xc_ne_t (X := v20.toInt) (Y := 0) rfl (by decide) (by omega)) ?_
            refine xi_aload_n (pc' := 77) (x := 115) kc_35_76 rfl rfl ?_
            refine xi_getfield (pc' := 80) (v := .ref 145) kc_35_77 rfl rfl rfl A59 rfl ?_
            refine xi_iload_n (pc' := 81) (x := x1) kc_35_80 rfl rfl ?_
            refine xcps4 (xk_arr K58.1 xD_145) (fun y62 A62 hy62 ry62 => ?_)
            refine xcps4 (xj_get hy62 ry62 (i := x1) (by omega) (by omega)) (fun v63 ev63 bv63 dv63 => ?_)
            refine xi_iaload (pc' := 82) (v := v63) kc_35_81 rfl A62 (by decide) rfl (xi_in (by omega) (by rw [hy62]; omega)) ev63 ?_
            refine xi_virtual (mj := 14) (as := [.int v53, .int 2, .int v63]) (st1 := []) (lv0 := [(0, .ref 115), (1, .int v53), (2, .int 2), (3, .int v63)]) kc_35_82 rfl rfl rfl rfl rfl A59 (Nat.le_of_ble_eq_true rfl) (hJ _ _ _ _ (by decide)) (xm_le ml_14 rfl) rfl ?_
            have zc2 : (2 : Int32).toInt = 2 := by decide
            refine mt_14_0 hJ hov1 hov2 (d := d + 3) (x1 := v53) (x2 := 2) (x3 := v63) K58.1 (by first | omega | decide) (by first | omega | decide) (fun hh65 K66 => ?_)
            have K67 := xk_tr K58 K66 rfl
            refine xp_115 K67.1 (fun u68 u69 u70 u71 u72 u73 u74 u75 u76 u77 u78 u79 u80 bu68 bu69 bu70 bu71 bu72 bu73 bu74 bu75 bu76 bu77 bu78 bu79 bu80 A81 => ?_)
            have e82 : u2 = u69 := xk_eqi (q := 1) K66 rfl A59 A81 rfl rfl
            subst e82
            show xw J ov (d + 5) 35 (85, [(2, .int 2), (0, .ref 115), (1, .int x1)], [], hh65) _
            refine xcps2 (α := Int32) (x1 + 1) (fun v83 ev83 => ?_)
            have zv83 : v83.toInt = (x1.toInt + 1) := by rw [← ev83]; exact (xz_add (X := x1.toInt) (Y := 1) rfl (by decide) (by omega) (by omega)).trans (by omega)
            refine xi_iinc (pc' := 88) (x := x1) (v := v83) (lv' := [(1, .int v83), (2, .int 2), (0, .ref 115)]) kc_35_85 rfl rfl ev83 rfl (xm_lt ml_35 rfl) ?_
            refine xi_goto (pc' := 2) kc_35_88 rfl ?_
            refine xw_lv (b := [(0, .ref 115), (1, .int v83)]) (lvS_cons (lvS_cons (lvS_nil (show ([1, 2, 0] : List Nat).Nodup by decide)) rfl) rfl) ?_
            exact i0 v83 hh65 (by omega) (fun v e => by have e2 := xl_val (u := u2) A81 rfl e; subst e2; omega) K67 (by omega)
        · refine xi_cmt (pc' := 85) kc_35_20 rfl (xc_ne_t (X := v17.toInt) (Y := u2.toInt) rfl rfl (by omega)) ?_
          refine xcps2 (α := Int32) (x1 + 1) (fun v84 ev84 => ?_)
          have zv84 : v84.toInt = (x1.toInt + 1) := by rw [← ev84]; exact (xz_add (X := x1.toInt) (Y := 1) rfl (by decide) (by omega) (by omega)).trans (by omega)
          refine xi_iinc (pc' := 88) (x := x1) (v := v84) (lv' := [(1, .int v84), (0, .ref 115)]) kc_35_85 rfl rfl ev84 rfl (xm_lt ml_35 rfl) ?_
          refine xi_goto (pc' := 2) kc_35_88 rfl ?_
          refine xw_lv (b := [(0, .ref 115), (1, .int v84)]) (lvS_cons (lvS_cons (lvS_nil (show ([1, 0] : List Nat).Nodup by decide)) rfl) rfl) ?_
          exact i0 v84 h (by omega) (fun v e => by have e2 := xl_val (u := u2) A14 rfl e; subst e2; omega) K (by omega)
    · intro x1 h b1 gh0 K hm
      refine xp_115 K.1 (fun u1 u2 u3 u4 u5 u6 u7 u8 u9 u10 u11 u12 u13 bu1 bu2 bu3 bu4 bu5 bu6 bu7 bu8 bu9 bu10 bu11 bu12 bu13 A14 => ?_)
      have gh0' := gh0 _ (xl_of A14 rfl)
      refine xi_iload_n (pc' := 94) (x := x1) kc_35_93 rfl rfl ?_
      refine xi_bipush (pc' := 96) (v := 6) kc_35_94 rfl rfl ?_
      by_cases c15 : 6 ≤ x1.toInt
      · refine xi_cmt (pc' := 117) kc_35_96 rfl (xc_ge_t (X := x1.toInt) (Y := 6) rfl (by decide) (by omega)) ?_
        refine xi_iconst (pc' := 118) (v := 0) kc_35_117 rfl rfl ?_
        refine xi_istore_n (pc' := 119) (lv' := [(1, .int 0), (0, .ref 115)]) kc_35_118 rfl rfl (xm_lt ml_35 rfl) ?_
        have zc0 : (0 : Int32).toInt = 0 := by decide
        refine xw_lv (b := [(0, .ref 115), (1, .int 0)]) (lvS_cons (lvS_cons (lvS_nil (show ([1, 0] : List Nat).Nodup by decide)) rfl) rfl) ?_
        exact i2 0 h (by omega) (fun v e => by have e2 := xl_val (u := u2) A14 rfl e; subst e2; omega) K (by omega)
      · refine xi_cmf (pc' := 99) kc_35_96 rfl (xc_ge_f (X := x1.toInt) (Y := 6) rfl (by decide) (by omega)) ?_
        refine xi_aload_n (pc' := 100) (x := 115) kc_35_99 rfl rfl ?_
        refine xi_getfield (pc' := 103) (v := .ref 141) kc_35_100 rfl rfl rfl A14 rfl ?_
        refine xi_iload_n (pc' := 104) (x := x1) kc_35_103 rfl rfl ?_
        refine xi_aload_n (pc' := 105) (x := 115) kc_35_104 rfl rfl ?_
        refine xi_getfield (pc' := 108) (v := .ref 121) kc_35_105 rfl rfl rfl A14 rfl ?_
        refine xi_iload_n (pc' := 109) (x := x1) kc_35_108 rfl rfl ?_
        refine xcps4 (xk_arr K.1 xD_121) (fun y16 A16 hy16 ry16 => ?_)
        refine xcps4 (xj_get hy16 ry16 (i := x1) (by omega) (by omega)) (fun v17 ev17 bv17 dv17 => ?_)
        refine xi_iaload (pc' := 110) (v := v17) kc_35_109 rfl A16 (by decide) rfl (xi_in (by omega) (by rw [hy16]; omega)) ev17 ?_
        refine xcps4 (xk_arr K.1 xD_141) (fun y18 A18 hy18 ry18 => ?_)
        refine xcps4 (xj_set (v := v17) hy18 ry18 x1 (by first | omega | decide) (by first | omega | decide)) (fun y19 s19 hy19 ry19 => ?_)
        refine xi_iastore (pc' := 111) (x' := y19) kc_35_110 rfl A18 rfl (xi_in (by omega) (by rw [hy18]; omega)) s19 (fun hh19 eh19 => ?_)
        have K20 := xk_pa K (xk_wa rfl) xD_141 hy19 ry19 eh19
        refine xcps2 (α := Int32) (x1 + 1) (fun v21 ev21 => ?_)
        have zv21 : v21.toInt = (x1.toInt + 1) := by rw [← ev21]; exact (xz_add (X := x1.toInt) (Y := 1) rfl (by decide) (by omega) (by omega)).trans (by omega)
        refine xi_iinc (pc' := 114) (x := x1) (v := v21) (lv' := [(1, .int v21), (0, .ref 115)]) kc_35_111 rfl rfl ev21 rfl (xm_lt ml_35 rfl) ?_
        refine xi_goto (pc' := 93) kc_35_114 rfl ?_
        have A22 := ((eh19.2.1 115 (by decide)).trans A14)
        refine xw_lv (b := [(0, .ref 115), (1, .int v21)]) (lvS_cons (lvS_cons (lvS_nil (show ([1, 0] : List Nat).Nodup by decide)) rfl) rfl) ?_
        exact i1 v21 hh19 (by omega) (fun v e => by have e2 := xl_val (u := u2) A22 rfl e; subst e2; omega) K20 (by omega)
    · intro x1 h b1 gh0 K hm
      refine xp_115 K.1 (fun u1 u2 u3 u4 u5 u6 u7 u8 u9 u10 u11 u12 u13 bu1 bu2 bu3 bu4 bu5 bu6 bu7 bu8 bu9 bu10 bu11 bu12 bu13 A14 => ?_)
      have gh0' := gh0 _ (xl_of A14 rfl)
      refine xi_iload_n (pc' := 120) (x := x1) kc_35_119 rfl rfl ?_
      refine xi_bipush (pc' := 122) (v := 12) kc_35_120 rfl rfl ?_
      by_cases c15 : 12 ≤ x1.toInt
      · refine xi_cmt (pc' := 143) kc_35_122 rfl (xc_ge_t (X := x1.toInt) (Y := 12) rfl (by decide) (by omega)) ?_
        refine xi_aload_n (pc' := 144) (x := 115) kc_35_143 rfl rfl ?_
        refine xi_aload_n (pc' := 145) (x := 115) kc_35_144 rfl rfl ?_
        refine xi_aload_n (pc' := 146) (x := 115) kc_35_145 rfl rfl ?_
        refine xi_getfield (pc' := 149) (v := .int u2) kc_35_146 rfl rfl rfl A14 rfl ?_
        refine xi_virtual (mj := 19) (as := [.int u2]) (st1 := [.ref 115]) (lv0 := [(0, .ref 115), (1, .int u2)]) kc_35_149 rfl rfl rfl rfl rfl A14 (Nat.le_of_ble_eq_true rfl) (hJ _ _ _ _ (by decide)) (xm_le ml_19 rfl) rfl ?_
        refine mt_19_0 hJ hov1 hov2 (d := d + 3) (x1 := u2) K.1 (by first | omega | decide) (fun r16 hh17 K18 => ?_)
        have br16 := xc_rng r16
        have K19 := xk_tr K K18 rfl
        refine xp_115 K19.1 (fun u20 u21 u22 u23 u24 u25 u26 u27 u28 u29 u30 u31 u32 bu20 bu21 bu22 bu23 bu24 bu25 bu26 bu27 bu28 bu29 bu30 bu31 bu32 A33 => ?_)
        have e34 : u2 = u21 := xk_eqi (q := 1) K18 rfl A14 A33 rfl rfl
        subst e34
        show xw J ov (d + 5) 35 (152, [(0, .ref 115), (1, .int x1)], [.int r16, .ref 115], hh17) _
        refine xi_putfield (pc' := 155) (fs' := [.int u20, .int u2, .ref 116, .ref 117, .ref 118, .ref 119, .ref 120, .ref 121, .ref 122, .ref 123, .ref 124, .ref 125, .ref 126, .ref 127, .ref 128, .ref 129, .int u22, .ref 130, .int u23, .ref 131, .ref 132, .ref 133, .ref 134, .int u24, .ref 135, .ref 136, .ref 137, .ref 138, .ref 139, .ref 140, .ref 141, .ref 142, .int r16, .int u26, .int u27, .ref 143, .ref 144, .ref 145, .ref 146, .ref 147, .ref 148, .int u28, .ref 149, .ref 150, .ref 151, .int u29, .ref 152, .ref 153, .ref 154, .ref 155, .ref 156, .ref 157, .ref 158, .ref 159, .int u30, .ref 160, .int u31, .ref 161, .ref 162, .ref 163, .ref 164, .int u32, .ref 165, .ref 166]) kc_35_152 rfl rfl rfl A33 rfl rfl rfl (Nat.le_of_ble_eq_true rfl) rfl (fun hh36 eh35 => ?_)
        have K37 := xk_pf (k := 32) (v := r16) K19 (xk_wf rfl) xD_115 A33 rfl (by first | omega | decide) (by first | omega | decide) eh35 rfl
        refine xi_aload_n (pc' := 156) (x := 115) kc_35_155 rfl rfl ?_
        refine xi_aload_n (pc' := 157) (x := 115) kc_35_156 rfl rfl ?_
        refine xi_aload_n (pc' := 158) (x := 115) kc_35_157 rfl rfl ?_
        refine xi_getfield (pc' := 161) (v := .int u2) kc_35_158 rfl rfl rfl eh35.1 rfl ?_
        refine xi_virtual (mj := 20) (as := [.int u2]) (st1 := [.ref 115]) (lv0 := [(0, .ref 115), (1, .int u2)]) kc_35_161 rfl rfl rfl rfl rfl eh35.1 (Nat.le_of_ble_eq_true rfl) (hJ _ _ _ _ (by decide)) (xm_le ml_20 rfl) rfl ?_
        refine mt_20_0 hJ hov1 hov2 (d := d + 3) (x1 := u2) K37.1 (by first | omega | decide) (fun r38 hh39 K40 => ?_)
        have br38 := xc_rng r38
        have K41 := xk_tr K37 K40 rfl
        refine xp_115 K41.1 (fun u42 u43 u44 u45 u46 u47 u48 u49 u50 u51 u52 u53 u54 bu42 bu43 bu44 bu45 bu46 bu47 bu48 bu49 bu50 bu51 bu52 bu53 bu54 A55 => ?_)
        have e56 : u2 = u43 := xk_eqi (q := 1) K40 rfl eh35.1 A55 rfl rfl
        subst e56
        show xw J ov (d + 5) 35 (164, [(0, .ref 115), (1, .int x1)], [.int r38, .ref 115], hh39) _
        refine xi_putfield (pc' := 167) (fs' := [.int u42, .int u2, .ref 116, .ref 117, .ref 118, .ref 119, .ref 120, .ref 121, .ref 122, .ref 123, .ref 124, .ref 125, .ref 126, .ref 127, .ref 128, .ref 129, .int u44, .ref 130, .int u45, .ref 131, .ref 132, .ref 133, .ref 134, .int u46, .ref 135, .ref 136, .ref 137, .ref 138, .ref 139, .ref 140, .ref 141, .ref 142, .int u47, .int r38, .int u49, .ref 143, .ref 144, .ref 145, .ref 146, .ref 147, .ref 148, .int u50, .ref 149, .ref 150, .ref 151, .int u51, .ref 152, .ref 153, .ref 154, .ref 155, .ref 156, .ref 157, .ref 158, .ref 159, .int u52, .ref 160, .int u53, .ref 161, .ref 162, .ref 163, .ref 164, .int u54, .ref 165, .ref 166]) kc_35_164 rfl rfl rfl A55 rfl rfl rfl (Nat.le_of_ble_eq_true rfl) rfl (fun hh58 eh57 => ?_)
        have K59 := xk_pf (k := 33) (v := r38) K41 (xk_wf rfl) xD_115 A55 rfl (by first | omega | decide) (by first | omega | decide) eh57 rfl
        refine xi_aload_n (pc' := 168) (x := 115) kc_35_167 rfl rfl ?_
        refine xi_iconst (pc' := 169) (v := 0) kc_35_168 rfl rfl ?_
        refine xi_iconst (pc' := 170) (v := 1) kc_35_169 rfl rfl ?_
        refine xi_aload_n (pc' := 171) (x := 115) kc_35_170 rfl rfl ?_
        refine xi_getfield (pc' := 174) (v := .int u2) kc_35_171 rfl rfl rfl eh57.1 rfl ?_
        refine xi_virtual (mj := 36) (as := [.int 0, .int 1, .int u2]) (st1 := []) (lv0 := [(0, .ref 115), (1, .int 0), (2, .int 1), (3, .int u2)]) kc_35_174 rfl rfl rfl rfl rfl eh57.1 (Nat.le_of_ble_eq_true rfl) (hJ _ _ _ _ (by decide)) (xm_le ml_36 rfl) rfl ?_
        have zc0 : (0 : Int32).toInt = 0 := by decide
        have zc1 : (1 : Int32).toInt = 1 := by decide
        refine mt_36_0 hJ hov1 hov2 (d := d) (x1 := 0) (x2 := 1) (x3 := u2) K59.1 (by first | omega | decide) (by first | omega | decide) (by first | omega | decide) (fun hh61 K62 => ?_)
        have K63 := xk_tr K59 K62 rfl
        refine xp_115 K63.1 (fun u64 u65 u66 u67 u68 u69 u70 u71 u72 u73 u74 u75 u76 bu64 bu65 bu66 bu67 bu68 bu69 bu70 bu71 bu72 bu73 bu74 bu75 bu76 A77 => ?_)
        have e78 : u2 = u65 := xk_eqi (q := 1) K62 rfl eh57.1 A77 rfl rfl
        subst e78
        show xw J ov (d + 5) 35 (177, [(0, .ref 115), (1, .int x1)], [], hh61) _
        refine xi_iconst (pc' := 178) (v := 0) kc_35_177 rfl rfl ?_
        refine xi_istore_n (pc' := 179) (lv' := [(1, .int 0), (0, .ref 115)]) kc_35_178 rfl rfl (xm_lt ml_35 rfl) ?_
        have zc0 : (0 : Int32).toInt = 0 := by decide
        refine xw_lv (b := [(0, .ref 115), (1, .int 0)]) (lvS_cons (lvS_cons (lvS_nil (show ([1, 0] : List Nat).Nodup by decide)) rfl) rfl) ?_
        exact i3 0 hh61 (by omega) (fun v e => by have e2 := xl_val (u := u2) A77 rfl e; subst e2; omega) K63 (by omega)
      · refine xi_cmf (pc' := 125) kc_35_122 rfl (xc_ge_f (X := x1.toInt) (Y := 12) rfl (by decide) (by omega)) ?_
        refine xi_aload_n (pc' := 126) (x := 115) kc_35_125 rfl rfl ?_
        refine xi_getfield (pc' := 129) (v := .ref 142) kc_35_126 rfl rfl rfl A14 rfl ?_
        refine xi_iload_n (pc' := 130) (x := x1) kc_35_129 rfl rfl ?_
        refine xi_aload_n (pc' := 131) (x := 115) kc_35_130 rfl rfl ?_
        refine xi_getfield (pc' := 134) (v := .ref 128) kc_35_131 rfl rfl rfl A14 rfl ?_
        refine xi_iload_n (pc' := 135) (x := x1) kc_35_134 rfl rfl ?_
        refine xcps4 (xk_arr K.1 xD_128) (fun y79 A79 hy79 ry79 => ?_)
        refine xcps4 (xj_get hy79 ry79 (i := x1) (by omega) (by omega)) (fun v80 ev80 bv80 dv80 => ?_)
        refine xi_iaload (pc' := 136) (v := v80) kc_35_135 rfl A79 (by decide) rfl (xi_in (by omega) (by rw [hy79]; omega)) ev80 ?_
        refine xcps4 (xk_arr K.1 xD_142) (fun y81 A81 hy81 ry81 => ?_)
        refine xcps4 (xj_set (v := v80) hy81 ry81 x1 (by first | omega | decide) (by first | omega | decide)) (fun y82 s82 hy82 ry82 => ?_)
        refine xi_iastore (pc' := 137) (x' := y82) kc_35_136 rfl A81 rfl (xi_in (by omega) (by rw [hy81]; omega)) s82 (fun hh82 eh82 => ?_)
        have K83 := xk_pa K (xk_wa rfl) xD_142 hy82 ry82 eh82
        refine xcps2 (α := Int32) (x1 + 1) (fun v84 ev84 => ?_)
        have zv84 : v84.toInt = (x1.toInt + 1) := by rw [← ev84]; exact (xz_add (X := x1.toInt) (Y := 1) rfl (by decide) (by omega) (by omega)).trans (by omega)
        refine xi_iinc (pc' := 140) (x := x1) (v := v84) (lv' := [(1, .int v84), (0, .ref 115)]) kc_35_137 rfl rfl ev84 rfl (xm_lt ml_35 rfl) ?_
        refine xi_goto (pc' := 119) kc_35_140 rfl ?_
        have A85 := ((eh82.2.1 115 (by decide)).trans A14)
        refine xw_lv (b := [(0, .ref 115), (1, .int v84)]) (lvS_cons (lvS_cons (lvS_nil (show ([1, 0] : List Nat).Nodup by decide)) rfl) rfl) ?_
        exact i2 v84 hh82 (by omega) (fun v e => by have e2 := xl_val (u := u2) A85 rfl e; subst e2; omega) K83 (by omega)
    · intro x1 h b1 gh0 K hm
      refine xp_115 K.1 (fun u1 u2 u3 u4 u5 u6 u7 u8 u9 u10 u11 u12 u13 bu1 bu2 bu3 bu4 bu5 bu6 bu7 bu8 bu9 bu10 bu11 bu12 bu13 A14 => ?_)
      have gh0' := gh0 _ (xl_of A14 rfl)
      refine xi_iload_n (pc' := 180) (x := x1) kc_35_179 rfl rfl ?_
      refine xi_bipush (pc' := 182) (v := 6) kc_35_180 rfl rfl ?_
      by_cases c15 : 6 ≤ x1.toInt
      · refine xi_cmt (pc' := 203) kc_35_182 rfl (xc_ge_t (X := x1.toInt) (Y := 6) rfl (by decide) (by omega)) ?_
        refine xi_iconst (pc' := 204) (v := 0) kc_35_203 rfl rfl ?_
        refine xi_istore_n (pc' := 205) (lv' := [(1, .int 0), (0, .ref 115)]) kc_35_204 rfl rfl (xm_lt ml_35 rfl) ?_
        have zc0 : (0 : Int32).toInt = 0 := by decide
        refine xw_lv (b := [(0, .ref 115), (1, .int 0)]) (lvS_cons (lvS_cons (lvS_nil (show ([1, 0] : List Nat).Nodup by decide)) rfl) rfl) ?_
        exact i4 0 h (by omega) (fun v e => by have e2 := xl_val (u := u2) A14 rfl e; subst e2; omega) K (by omega)
      · refine xi_cmf (pc' := 185) kc_35_182 rfl (xc_ge_f (X := x1.toInt) (Y := 6) rfl (by decide) (by omega)) ?_
        refine xi_aload_n (pc' := 186) (x := 115) kc_35_185 rfl rfl ?_
        refine xi_getfield (pc' := 189) (v := .ref 121) kc_35_186 rfl rfl rfl A14 rfl ?_
        refine xi_iload_n (pc' := 190) (x := x1) kc_35_189 rfl rfl ?_
        refine xi_aload_n (pc' := 191) (x := 115) kc_35_190 rfl rfl ?_
        refine xi_getfield (pc' := 194) (v := .ref 141) kc_35_191 rfl rfl rfl A14 rfl ?_
        refine xi_iload_n (pc' := 195) (x := x1) kc_35_194 rfl rfl ?_
        refine xcps4 (xk_arr K.1 xD_141) (fun y16 A16 hy16 ry16 => ?_)
        refine xcps4 (xj_get hy16 ry16 (i := x1) (by omega) (by omega)) (fun v17 ev17 bv17 dv17 => ?_)
        refine xi_iaload (pc' := 196) (v := v17) kc_35_195 rfl A16 (by decide) rfl (xi_in (by omega) (by rw [hy16]; omega)) ev17 ?_
        refine xcps4 (xk_arr K.1 xD_121) (fun y18 A18 hy18 ry18 => ?_)
        refine xcps4 (xj_set (v := v17) hy18 ry18 x1 (by first | omega | decide) (by first | omega | decide)) (fun y19 s19 hy19 ry19 => ?_)
        refine xi_iastore (pc' := 197) (x' := y19) kc_35_196 rfl A18 rfl (xi_in (by omega) (by rw [hy18]; omega)) s19 (fun hh19 eh19 => ?_)
        have K20 := xk_pa K (xk_wa rfl) xD_121 hy19 ry19 eh19
        refine xcps2 (α := Int32) (x1 + 1) (fun v21 ev21 => ?_)
        have zv21 : v21.toInt = (x1.toInt + 1) := by rw [← ev21]; exact (xz_add (X := x1.toInt) (Y := 1) rfl (by decide) (by omega) (by omega)).trans (by omega)
        refine xi_iinc (pc' := 200) (x := x1) (v := v21) (lv' := [(1, .int v21), (0, .ref 115)]) kc_35_197 rfl rfl ev21 rfl (xm_lt ml_35 rfl) ?_
        refine xi_goto (pc' := 179) kc_35_200 rfl ?_
        have A22 := ((eh19.2.1 115 (by decide)).trans A14)
        refine xw_lv (b := [(0, .ref 115), (1, .int v21)]) (lvS_cons (lvS_cons (lvS_nil (show ([1, 0] : List Nat).Nodup by decide)) rfl) rfl) ?_
        exact i3 v21 hh19 (by omega) (fun v e => by have e2 := xl_val (u := u2) A22 rfl e; subst e2; omega) K20 (by omega)
    · intro x1 h b1 gh0 K hm
      refine xp_115 K.1 (fun u1 u2 u3 u4 u5 u6 u7 u8 u9 u10 u11 u12 u13 bu1 bu2 bu3 bu4 bu5 bu6 bu7 bu8 bu9 bu10 bu11 bu12 bu13 A14 => ?_)
      have gh0' := gh0 _ (xl_of A14 rfl)
      refine xi_iload_n (pc' := 206) (x := x1) kc_35_205 rfl rfl ?_
      refine xi_bipush (pc' := 208) (v := 12) kc_35_206 rfl rfl ?_
      by_cases c15 : 12 ≤ x1.toInt
      · refine xi_cmt (pc' := 274) kc_35_208 rfl (xc_ge_t (X := x1.toInt) (Y := 12) rfl (by decide) (by omega)) ?_
        refine xi_aload_n (pc' := 275) (x := 115) kc_35_274 rfl rfl ?_
        refine xi_dup (pc' := 276) kc_35_275 rfl rfl ?_
        refine xi_getfield (pc' := 279) (v := .int u2) kc_35_276 rfl rfl rfl A14 rfl ?_
        refine xi_iconst (pc' := 280) (v := 1) kc_35_279 rfl rfl ?_
        refine xcps2 (α := Int32) (u2 + 1) (fun v16 ev16 => ?_)
        have zv16 : v16.toInt = (u2.toInt + 1) := by rw [← ev16]; exact (xz_add (X := u2.toInt) (Y := 1) rfl (by decide) (by omega) (by omega)).trans (by omega)
        refine xi_iadd (pc' := 281) (v := v16) kc_35_280 rfl ev16 ?_
        refine xi_putfield (pc' := 284) (fs' := [.int u1, .int v16, .ref 116, .ref 117, .ref 118, .ref 119, .ref 120, .ref 121, .ref 122, .ref 123, .ref 124, .ref 125, .ref 126, .ref 127, .ref 128, .ref 129, .int u3, .ref 130, .int u4, .ref 131, .ref 132, .ref 133, .ref 134, .int u5, .ref 135, .ref 136, .ref 137, .ref 138, .ref 139, .ref 140, .ref 141, .ref 142, .int u6, .int u7, .int u8, .ref 143, .ref 144, .ref 145, .ref 146, .ref 147, .ref 148, .int u9, .ref 149, .ref 150, .ref 151, .int u10, .ref 152, .ref 153, .ref 154, .ref 155, .ref 156, .ref 157, .ref 158, .ref 159, .int u11, .ref 160, .int u12, .ref 161, .ref 162, .ref 163, .ref 164, .int u13, .ref 165, .ref 166]) kc_35_281 rfl rfl rfl A14 rfl rfl rfl (Nat.le_of_ble_eq_true rfl) rfl (fun hh18 eh17 => ?_)
        have K19 := xk_pf (k := 1) (v := v16) K (xk_wf rfl) xD_115 A14 rfl (by first | omega | decide) (by first | omega | decide) eh17 rfl
        refine xi_iconst (pc' := 285) (v := 0) kc_35_284 rfl rfl ?_
        refine xi_istore_n (pc' := 286) (lv' := [(1, .int 0), (0, .ref 115)]) kc_35_285 rfl rfl (xm_lt ml_35 rfl) ?_
        have zc0 : (0 : Int32).toInt = 0 := by decide
        refine xw_lv (b := [(0, .ref 115), (1, .int 0)]) (lvS_cons (lvS_cons (lvS_nil (show ([1, 0] : List Nat).Nodup by decide)) rfl) rfl) ?_
        exact i5 0 hh18 (by omega) (fun v e => by have e2 := xl_val (u := v16) eh17.1 rfl e; subst e2; omega) K19 (by omega)
      · refine xi_cmf (pc' := 211) kc_35_208 rfl (xc_ge_f (X := x1.toInt) (Y := 12) rfl (by decide) (by omega)) ?_
        refine xi_aload_n (pc' := 212) (x := 115) kc_35_211 rfl rfl ?_
        refine xi_getfield (pc' := 215) (v := .ref 128) kc_35_212 rfl rfl rfl A14 rfl ?_
        refine xi_iload_n (pc' := 216) (x := x1) kc_35_215 rfl rfl ?_
        refine xi_aload_n (pc' := 217) (x := 115) kc_35_216 rfl rfl ?_
        refine xi_getfield (pc' := 220) (v := .ref 142) kc_35_217 rfl rfl rfl A14 rfl ?_
        refine xi_iload_n (pc' := 221) (x := x1) kc_35_220 rfl rfl ?_
        refine xcps4 (xk_arr K.1 xD_142) (fun y20 A20 hy20 ry20 => ?_)
        refine xcps4 (xj_get hy20 ry20 (i := x1) (by omega) (by omega)) (fun v21 ev21 bv21 dv21 => ?_)
        refine xi_iaload (pc' := 222) (v := v21) kc_35_221 rfl A20 (by decide) rfl (xi_in (by omega) (by rw [hy20]; omega)) ev21 ?_
        refine xcps4 (xk_arr K.1 xD_128) (fun y22 A22 hy22 ry22 => ?_)
        refine xcps4 (xj_set (v := v21) hy22 ry22 x1 (by first | omega | decide) (by first | omega | decide)) (fun y23 s23 hy23 ry23 => ?_)
        refine xi_iastore (pc' := 223) (x' := y23) kc_35_222 rfl A22 rfl (xi_in (by omega) (by rw [hy22]; omega)) s23 (fun hh23 eh23 => ?_)
        have K24 := xk_pa K (xk_wa rfl) xD_128 hy23 ry23 eh23
        refine xi_aload_n (pc' := 224) (x := 115) kc_35_223 rfl rfl ?_
        have A25 := ((eh23.2.1 115 (by decide)).trans A14)
        refine xi_getfield (pc' := 227) (v := .ref 129) kc_35_224 rfl rfl rfl A25 rfl ?_
        refine xi_iload_n (pc' := 228) (x := x1) kc_35_227 rfl rfl ?_
        refine xi_dup2 (pc' := 229) kc_35_228 rfl ⟨rfl, rfl⟩ ?_
        refine xcps4 (xk_arr K24.1 xD_129) (fun y26 A26 hy26 ry26 => ?_)
        refine xcps4 (xj_get hy26 ry26 (i := x1) (by omega) (by omega)) (fun v27 ev27 bv27 dv27 => ?_)
        refine xi_iaload (pc' := 230) (v := v27) kc_35_229 rfl A26 (by decide) rfl (xi_in (by omega) (by rw [hy26]; omega)) ev27 ?_
        refine xi_aload_n (pc' := 231) (x := 115) kc_35_230 rfl rfl ?_
        refine xi_getfield (pc' := 234) (v := .ref 128) kc_35_231 rfl rfl rfl A25 rfl ?_
        refine xi_iload_n (pc' := 235) (x := x1) kc_35_234 rfl rfl ?_
        refine xcps4 (xj_get hy23 ry23 (i := x1) (by omega) (by omega)) (fun v28 ev28 bv28 dv28 => ?_)
        refine xi_iaload (pc' := 236) (v := v28) kc_35_235 rfl eh23.1 (by decide) rfl (xi_in (by omega) (by rw [hy23]; omega)) ev28 ?_
        refine xi_bipush (pc' := 238) (v := 50) kc_35_236 rfl rfl ?_
        by_cases c29 : v28.toInt < 50
        · refine xi_cmt (pc' := 245) kc_35_238 rfl (xc_lt_t (X := v28.toInt) (Y := 50) rfl (by decide) (by omega)) ?_
          refine xi_iconst (pc' := 246) (v := 0) kc_35_245 rfl rfl ?_
          refine xcps2 (α := Int32) (v27 + 0) (fun v30 ev30 => ?_)
          have zv30 : v30.toInt = v27.toInt := by rw [← ev30]; exact (xz_add (X := v27.toInt) (Y := 0) rfl (by decide) (by omega) (by omega)).trans (by omega)
          refine xi_iadd (pc' := 247) (v := v30) kc_35_246 rfl ev30 ?_
          refine xcps4 (xj_set (v := v30) hy26 ry26 x1 (by first | omega | decide) (by first | omega | decide)) (fun y31 s31 hy31 ry31 => ?_)
          refine xi_iastore (pc' := 248) (x' := y31) kc_35_247 rfl A26 rfl (xi_in (by omega) (by rw [hy26]; omega)) s31 (fun hh31 eh31 => ?_)
          have K32 := xk_pa K24 (xk_wa rfl) xD_129 hy31 ry31 eh31
          refine xi_aload_n (pc' := 249) (x := 115) kc_35_248 rfl rfl ?_
          have A33 := ((eh31.2.1 115 (by decide)).trans A25)
          refine xi_getfield (pc' := 252) (v := .ref 130) kc_35_249 rfl rfl rfl A33 rfl ?_
          refine xi_bipush (pc' := 254) (v := 12) kc_35_252 rfl rfl ?_
          refine xi_aload_n (pc' := 255) (x := 115) kc_35_254 rfl rfl ?_
          refine xi_getfield (pc' := 258) (v := .int u2) kc_35_255 rfl rfl rfl A33 rfl ?_
          refine xcps2 (α := Int32) (12 * u2) (fun v34 ev34 => ?_)
          have zv34 : v34.toInt = (12) * u2.toInt := by rw [← ev34]; exact (xz_mul (X := 12) (Y := u2.toInt) (by decide) rfl (by omega) (by omega)).trans (by omega)
          refine xi_imul (pc' := 259) (v := v34) kc_35_258 rfl ev34 ?_
          refine xi_iload_n (pc' := 260) (x := x1) kc_35_259 rfl rfl ?_
          refine xcps2 (α := Int32) (v34 + x1) (fun v35 ev35 => ?_)
          have zv35 : v35.toInt = ((12) * u2.toInt + x1.toInt) := by rw [← ev35]; exact (xz_add (X := (12) * u2.toInt) (Y := x1.toInt) zv34 rfl (by omega) (by omega)).trans (by omega)
          refine xi_iadd (pc' := 261) (v := v35) kc_35_260 rfl ev35 ?_
          refine xi_aload_n (pc' := 262) (x := 115) kc_35_261 rfl rfl ?_
          refine xi_getfield (pc' := 265) (v := .ref 128) kc_35_262 rfl rfl rfl A33 rfl ?_
          refine xi_iload_n (pc' := 266) (x := x1) kc_35_265 rfl rfl ?_
          have A36 := ((eh31.2.1 128 (by decide)).trans eh23.1)
          refine xi_iaload (pc' := 267) (v := v28) kc_35_266 rfl A36 (by decide) rfl (xi_in (by omega) (by rw [hy23]; omega)) ev28 ?_
          refine xcps4 (xk_arr K32.1 xD_130) (fun y37 A37 hy37 ry37 => ?_)
          refine xcps4 (xj_set (v := v28) hy37 ry37 v35 (by first | omega | decide) (by first | omega | decide)) (fun y38 s38 hy38 ry38 => ?_)
          refine xi_iastore (pc' := 268) (x' := y38) kc_35_267 rfl A37 rfl (xi_in (by rw [zv35]; omega) (by rw [hy37]; rw [zv35]; omega)) s38 (fun hh38 eh38 => ?_)
          have K39 := xk_pa K32 (xk_wa rfl) xD_130 hy38 ry38 eh38
          refine xcps2 (α := Int32) (x1 + 1) (fun v40 ev40 => ?_)
          have zv40 : v40.toInt = (x1.toInt + 1) := by rw [← ev40]; exact (xz_add (X := x1.toInt) (Y := 1) rfl (by decide) (by omega) (by omega)).trans (by omega)
          refine xi_iinc (pc' := 271) (x := x1) (v := v40) (lv' := [(1, .int v40), (0, .ref 115)]) kc_35_268 rfl rfl ev40 rfl (xm_lt ml_35 rfl) ?_
          refine xi_goto (pc' := 205) kc_35_271 rfl ?_
          have A41 := ((eh38.2.1 115 (by decide)).trans A33)
          refine xw_lv (b := [(0, .ref 115), (1, .int v40)]) (lvS_cons (lvS_cons (lvS_nil (show ([1, 0] : List Nat).Nodup by decide)) rfl) rfl) ?_
          exact i4 v40 hh38 (by omega) (fun v e => by have e2 := xl_val (u := u2) A41 rfl e; subst e2; omega) K39 (by omega)
        · refine xi_cmf (pc' := 241) kc_35_238 rfl (xc_lt_f (X := v28.toInt) (Y := 50) rfl (by decide) (by omega)) ?_
          refine xi_iconst (pc' := 242) (v := 1) kc_35_241 rfl rfl ?_
          refine xi_goto (pc' := 246) kc_35_242 rfl ?_
          refine xcps2 (α := Int32) ((v27 : Int32) + 1) (fun v42 ev42 => ?_)
          have rv42 := xc_rng v42
          refine xi_iadd (pc' := 247) (v := v42) kc_35_246 rfl ev42 ?_
          refine xcps4 (xj_set (v := v42) hy26 ry26 x1 (by first | omega | decide) (by first | omega | decide)) (fun y43 s43 hy43 ry43 => ?_)
          refine xi_iastore (pc' := 248) (x' := y43) kc_35_247 rfl A26 rfl (xi_in (by omega) (by rw [hy26]; omega)) s43 (fun hh43 eh43 => ?_)
          have K44 := xk_pa K24 (xk_wa rfl) xD_129 hy43 ry43 eh43
          refine xi_aload_n (pc' := 249) (x := 115) kc_35_248 rfl rfl ?_
          have A45 := ((eh43.2.1 115 (by decide)).trans A25)
          refine xi_getfield (pc' := 252) (v := .ref 130) kc_35_249 rfl rfl rfl A45 rfl ?_
          refine xi_bipush (pc' := 254) (v := 12) kc_35_252 rfl rfl ?_
          refine xi_aload_n (pc' := 255) (x := 115) kc_35_254 rfl rfl ?_
          refine xi_getfield (pc' := 258) (v := .int u2) kc_35_255 rfl rfl rfl A45 rfl ?_
          refine xcps2 (α := Int32) (12 * u2) (fun v46 ev46 => ?_)
          have zv46 : v46.toInt = (12) * u2.toInt := by rw [← ev46]; exact (xz_mul (X := 12) (Y := u2.toInt) (by decide) rfl (by omega) (by omega)).trans (by omega)
          refine xi_imul (pc' := 259) (v := v46) kc_35_258 rfl ev46 ?_
          refine xi_iload_n (pc' := 260) (x := x1) kc_35_259 rfl rfl ?_
          refine xcps2 (α := Int32) (v46 + x1) (fun v47 ev47 => ?_)
          have zv47 : v47.toInt = ((12) * u2.toInt + x1.toInt) := by rw [← ev47]; exact (xz_add (X := (12) * u2.toInt) (Y := x1.toInt) zv46 rfl (by omega) (by omega)).trans (by omega)
          refine xi_iadd (pc' := 261) (v := v47) kc_35_260 rfl ev47 ?_
          refine xi_aload_n (pc' := 262) (x := 115) kc_35_261 rfl rfl ?_
          refine xi_getfield (pc' := 265) (v := .ref 128) kc_35_262 rfl rfl rfl A45 rfl ?_
          refine xi_iload_n (pc' := 266) (x := x1) kc_35_265 rfl rfl ?_
          have A48 := ((eh43.2.1 128 (by decide)).trans eh23.1)
          refine xi_iaload (pc' := 267) (v := v28) kc_35_266 rfl A48 (by decide) rfl (xi_in (by omega) (by rw [hy23]; omega)) ev28 ?_
          refine xcps4 (xk_arr K44.1 xD_130) (fun y49 A49 hy49 ry49 => ?_)
          refine xcps4 (xj_set (v := v28) hy49 ry49 v47 (by first | omega | decide) (by first | omega | decide)) (fun y50 s50 hy50 ry50 => ?_)
          refine xi_iastore (pc' := 268) (x' := y50) kc_35_267 rfl A49 rfl (xi_in (by rw [zv47]; omega) (by rw [hy49]; rw [zv47]; omega)) s50 (fun hh50 eh50 => ?_)
          have K51 := xk_pa K44 (xk_wa rfl) xD_130 hy50 ry50 eh50
          refine xcps2 (α := Int32) (x1 + 1) (fun v52 ev52 => ?_)
          have zv52 : v52.toInt = (x1.toInt + 1) := by rw [← ev52]; exact (xz_add (X := x1.toInt) (Y := 1) rfl (by decide) (by omega) (by omega)).trans (by omega)
          refine xi_iinc (pc' := 271) (x := x1) (v := v52) (lv' := [(1, .int v52), (0, .ref 115)]) kc_35_268 rfl rfl ev52 rfl (xm_lt ml_35 rfl) ?_
          refine xi_goto (pc' := 205) kc_35_271 rfl ?_
          have A53 := ((eh50.2.1 115 (by decide)).trans A45)
          refine xw_lv (b := [(0, .ref 115), (1, .int v52)]) (lvS_cons (lvS_cons (lvS_nil (show ([1, 0] : List Nat).Nodup by decide)) rfl) rfl) ?_
          exact i4 v52 hh50 (by omega) (fun v e => by have e2 := xl_val (u := u2) A53 rfl e; subst e2; omega) K51 (by omega)
    · intro x1 h b1 gh0 K hm
      refine xp_115 K.1 (fun u1 u2 u3 u4 u5 u6 u7 u8 u9 u10 u11 u12 u13 bu1 bu2 bu3 bu4 bu5 bu6 bu7 bu8 bu9 bu10 bu11 bu12 bu13 A14 => ?_)
      have gh0' := gh0 _ (xl_of A14 rfl)
      refine xi_iload_n (pc' := 287) (x := x1) kc_35_286 rfl rfl ?_
      refine xi_aload_n (pc' := 288) (x := 115) kc_35_287 rfl rfl ?_
      refine xi_getfield (pc' := 291) (v := .int u8) kc_35_288 rfl rfl rfl A14 rfl ?_
      by_cases c15 : u8.toInt ≤ x1.toInt
      · refine xi_cmt (pc' := 343) kc_35_291 rfl (xc_ge_t (X := x1.toInt) (Y := u8.toInt) rfl rfl (by omega)) ?_
        refine xi_aload_n (pc' := 344) (x := 115) kc_35_343 rfl rfl ?_
        refine xi_iconst (pc' := 345) (v := 0) kc_35_344 rfl rfl ?_
        refine xi_putfield (pc' := 348) (fs' := [.int u1, .int u2, .ref 116, .ref 117, .ref 118, .ref 119, .ref 120, .ref 121, .ref 122, .ref 123, .ref 124, .ref 125, .ref 126, .ref 127, .ref 128, .ref 129, .int u3, .ref 130, .int u4, .ref 131, .ref 132, .ref 133, .ref 134, .int u5, .ref 135, .ref 136, .ref 137, .ref 138, .ref 139, .ref 140, .ref 141, .ref 142, .int u6, .int u7, .int u8, .ref 143, .ref 144, .ref 145, .ref 146, .ref 147, .ref 148, .int 0, .ref 149, .ref 150, .ref 151, .int u10, .ref 152, .ref 153, .ref 154, .ref 155, .ref 156, .ref 157, .ref 158, .ref 159, .int u11, .ref 160, .int u12, .ref 161, .ref 162, .ref 163, .ref 164, .int u13, .ref 165, .ref 166]) kc_35_345 rfl rfl rfl A14 rfl rfl rfl (Nat.le_of_ble_eq_true rfl) rfl (fun hh17 eh16 => ?_)
        have K18 := xk_pf (k := 41) (v := 0) K (xk_wf rfl) xD_115 A14 rfl (by first | omega | decide) (by first | omega | decide) eh16 rfl
        refine xi_return kc_35_348 mr_35 ?_
        exact kk hh17 (fun v e => by have e2 := xl_val (u := u2) eh16.1 rfl e; subst e2; omega) K18
      · refine xi_cmf (pc' := 294) kc_35_291 rfl (xc_ge_f (X := x1.toInt) (Y := u8.toInt) rfl rfl (by omega)) ?_
        refine xi_aload_n (pc' := 295) (x := 115) kc_35_294 rfl rfl ?_
        refine xi_getfield (pc' := 298) (v := .ref 147) kc_35_295 rfl rfl rfl A14 rfl ?_
        refine xi_iload_n (pc' := 299) (x := x1) kc_35_298 rfl rfl ?_
        refine xcps4 (xk_arr K.1 xD_147) (fun y19 A19 hy19 ry19 => ?_)
        refine xcps4 (xj_get hy19 ry19 (i := x1) (by omega) (by omega)) (fun v20 ev20 bv20 dv20 => ?_)
        refine xi_iaload (pc' := 300) (v := v20) kc_35_299 rfl A19 (by decide) rfl (xi_in (by omega) (by rw [hy19]; omega)) ev20 ?_
        refine xi_aload_n (pc' := 301) (x := 115) kc_35_300 rfl rfl ?_
        refine xi_getfield (pc' := 304) (v := .int u2) kc_35_301 rfl rfl rfl A14 rfl ?_
        by_cases c21 : v20.toInt = u2.toInt
        · refine xi_cmf (pc' := 307) kc_35_304 rfl (xc_ne_f (X := v20.toInt) (Y := u2.toInt) rfl rfl (by omega)) ?_
          refine xi_aload_n (pc' := 308) (x := 115) kc_35_307 rfl rfl ?_
          refine xi_aload_n (pc' := 309) (x := 115) kc_35_308 rfl rfl ?_
          refine xi_getfield (pc' := 312) (v := .ref 143) kc_35_309 rfl rfl rfl A14 rfl ?_
          refine xi_iload_n (pc' := 313) (x := x1) kc_35_312 rfl rfl ?_
          refine xcps4 (xk_arr K.1 xD_143) (fun y22 A22 hy22 ry22 => ?_)
          refine xcps4 (xj_get hy22 ry22 (i := x1) (by omega) (by omega)) (fun v23 ev23 bv23 dv23 => ?_)
          refine xi_iaload (pc' := 314) (v := v23) kc_35_313 rfl A22 (by decide) rfl (xi_in (by omega) (by rw [hy22]; omega)) ev23 ?_
          refine xi_aload_n (pc' := 315) (x := 115) kc_35_314 rfl rfl ?_
          refine xi_getfield (pc' := 318) (v := .ref 144) kc_35_315 rfl rfl rfl A14 rfl ?_
          refine xi_iload_n (pc' := 319) (x := x1) kc_35_318 rfl rfl ?_
          refine xcps4 (xk_arr K.1 xD_144) (fun y24 A24 hy24 ry24 => ?_)
          refine xcps4 (xj_get hy24 ry24 (i := x1) (by omega) (by omega)) (fun v25 ev25 bv25 dv25 => ?_)
          refine xi_iaload (pc' := 320) (v := v25) kc_35_319 rfl A24 (by decide) rfl (xi_in (by omega) (by rw [hy24]; omega)) ev25 ?_
          by_cases c26 : v25.toInt = 0
          · refine xi_iff (pc' := 323) kc_35_320 rfl (xc_ne_f (X := v25.toInt) (Y := 0) rfl (by decide) (by omega)) ?_
            refine xi_iconst (pc' := 324) (v := 4) kc_35_323 rfl rfl ?_
            refine xi_goto (pc' := 328) kc_35_324 rfl ?_
            refine xi_aload_n (pc' := 329) (x := 115) kc_35_328 rfl rfl ?_
            refine xi_getfield (pc' := 332) (v := .ref 148) kc_35_329 rfl rfl rfl A14 rfl ?_
            refine xi_iload_n (pc' := 333) (x := x1) kc_35_332 rfl rfl ?_
            refine xcps4 (xk_arr K.1 xD_148) (fun y27 A27 hy27 ry27 => ?_)
            refine xcps4 (xj_get hy27 ry27 (i := x1) (by omega) (by omega)) (fun v28 ev28 bv28 dv28 => ?_)
            refine xi_iaload (pc' := 334) (v := v28) kc_35_333 rfl A27 (by decide) rfl (xi_in (by omega) (by rw [hy27]; omega)) ev28 ?_
            refine xi_virtual (mj := 14) (as := [.int v23, .int 4, .int v28]) (st1 := []) (lv0 := [(0, .ref 115), (1, .int v23), (2, .int 4), (3, .int v28)]) kc_35_334 rfl rfl rfl rfl rfl A14 (Nat.le_of_ble_eq_true rfl) (hJ _ _ _ _ (by decide)) (xm_le ml_14 rfl) rfl ?_
            have zc4 : (4 : Int32).toInt = 4 := by decide
            refine mt_14_0 hJ hov1 hov2 (d := d + 3) (x1 := v23) (x2 := 4) (x3 := v28) K.1 (by first | omega | decide) (by first | omega | decide) (fun hh30 K31 => ?_)
            have K32 := xk_tr K K31 rfl
            refine xp_115 K32.1 (fun u33 u34 u35 u36 u37 u38 u39 u40 u41 u42 u43 u44 u45 bu33 bu34 bu35 bu36 bu37 bu38 bu39 bu40 bu41 bu42 bu43 bu44 bu45 A46 => ?_)
            have e47 : u2 = u34 := xk_eqi (q := 1) K31 rfl A14 A46 rfl rfl
            subst e47
            show xw J ov (d + 5) 35 (337, [(0, .ref 115), (1, .int x1)], [], hh30) _
            refine xcps2 (α := Int32) (x1 + 1) (fun v48 ev48 => ?_)
            have zv48 : v48.toInt = (x1.toInt + 1) := by rw [← ev48]; exact (xz_add (X := x1.toInt) (Y := 1) rfl (by decide) (by omega) (by omega)).trans (by omega)
            refine xi_iinc (pc' := 340) (x := x1) (v := v48) (lv' := [(1, .int v48), (0, .ref 115)]) kc_35_337 rfl rfl ev48 rfl (xm_lt ml_35 rfl) ?_
            refine xi_goto (pc' := 286) kc_35_340 rfl ?_
            refine xw_lv (b := [(0, .ref 115), (1, .int v48)]) (lvS_cons (lvS_cons (lvS_nil (show ([1, 0] : List Nat).Nodup by decide)) rfl) rfl) ?_
            exact i5 v48 hh30 (by omega) (fun v e => by have e2 := xl_val (u := u2) A46 rfl e; subst e2; omega) K32 (by omega)
          · refine xi_ift (pc' := 327) kc_35_320 rfl (xc_ne_t (X := v25.toInt) (Y := 0) rfl (by decide) (by omega)) ?_
            refine xi_iconst (pc' := 328) (v := 2) kc_35_327 rfl rfl ?_
            refine xi_aload_n (pc' := 329) (x := 115) kc_35_328 rfl rfl ?_
            refine xi_getfield (pc' := 332) (v := .ref 148) kc_35_329 rfl rfl rfl A14 rfl ?_
            refine xi_iload_n (pc' := 333) (x := x1) kc_35_332 rfl rfl ?_
            refine xcps4 (xk_arr K.1 xD_148) (fun y49 A49 hy49 ry49 => ?_)
            refine xcps4 (xj_get hy49 ry49 (i := x1) (by omega) (by omega)) (fun v50 ev50 bv50 dv50 => ?_)
            refine xi_iaload (pc' := 334) (v := v50) kc_35_333 rfl A49 (by decide) rfl (xi_in (by omega) (by rw [hy49]; omega)) ev50 ?_
            refine xi_virtual (mj := 14) (as := [.int v23, .int 2, .int v50]) (st1 := []) (lv0 := [(0, .ref 115), (1, .int v23), (2, .int 2), (3, .int v50)]) kc_35_334 rfl rfl rfl rfl rfl A14 (Nat.le_of_ble_eq_true rfl) (hJ _ _ _ _ (by decide)) (xm_le ml_14 rfl) rfl ?_
            have zc2 : (2 : Int32).toInt = 2 := by decide
            refine mt_14_0 hJ hov1 hov2 (d := d + 3) (x1 := v23) (x2 := 2) (x3 := v50) K.1 (by first | omega | decide) (by first | omega | decide) (fun hh52 K53 => ?_)
            have K54 := xk_tr K K53 rfl
            refine xp_115 K54.1 (fun u55 u56 u57 u58 u59 u60 u61 u62 u63 u64 u65 u66 u67 bu55 bu56 bu57 bu58 bu59 bu60 bu61 bu62 bu63 bu64 bu65 bu66 bu67 A68 => ?_)
            have e69 : u2 = u56 := xk_eqi (q := 1) K53 rfl A14 A68 rfl rfl
            subst e69
            show xw J ov (d + 5) 35 (337, [(0, .ref 115), (1, .int x1)], [], hh52) _
            refine xcps2 (α := Int32) (x1 + 1) (fun v70 ev70 => ?_)
            have zv70 : v70.toInt = (x1.toInt + 1) := by rw [← ev70]; exact (xz_add (X := x1.toInt) (Y := 1) rfl (by decide) (by omega) (by omega)).trans (by omega)
            refine xi_iinc (pc' := 340) (x := x1) (v := v70) (lv' := [(1, .int v70), (0, .ref 115)]) kc_35_337 rfl rfl ev70 rfl (xm_lt ml_35 rfl) ?_
            refine xi_goto (pc' := 286) kc_35_340 rfl ?_
            refine xw_lv (b := [(0, .ref 115), (1, .int v70)]) (lvS_cons (lvS_cons (lvS_nil (show ([1, 0] : List Nat).Nodup by decide)) rfl) rfl) ?_
            exact i5 v70 hh52 (by omega) (fun v e => by have e2 := xl_val (u := u2) A68 rfl e; subst e2; omega) K54 (by omega)
        · refine xi_cmt (pc' := 337) kc_35_304 rfl (xc_ne_t (X := v20.toInt) (Y := u2.toInt) rfl rfl (by omega)) ?_
          refine xcps2 (α := Int32) (x1 + 1) (fun v71 ev71 => ?_)
          have zv71 : v71.toInt = (x1.toInt + 1) := by rw [← ev71]; exact (xz_add (X := x1.toInt) (Y := 1) rfl (by decide) (by omega) (by omega)).trans (by omega)
          refine xi_iinc (pc' := 340) (x := x1) (v := v71) (lv' := [(1, .int v71), (0, .ref 115)]) kc_35_337 rfl rfl ev71 rfl (xm_lt ml_35 rfl) ?_
          refine xi_goto (pc' := 286) kc_35_340 rfl ?_
          refine xw_lv (b := [(0, .ref 115), (1, .int v71)]) (lvS_cons (lvS_cons (lvS_nil (show ([1, 0] : List Nat).Nodup by decide)) rfl) rfl) ?_
          exact i5 v71 h (by omega) (fun v e => by have e2 := xl_val (u := u2) A14 rfl e; subst e2; omega) K (by omega)
set_option maxHeartbeats 4000000 in
theorem mt_35_0 {J : xe_J} {ov : List (List Int32)} (hJ : ∀ d mj as h, mj ≠ xe_loff → J d mj as h = none) (hov1 : ov[1]? = some [10, 0, 0, 0, 0, 0]) (hov2 : ov[2]? = some [99, 30, 50, 50, 1, 99999]) {d : Nat} {Q : Option Value → xe_H → Prop} {h : xe_H} {u0 : Int32} (T : xt h) (bgu0 : (0 ≤ u0.toInt ∧ u0.toInt ≤ 599)) (gi0 : (∀ v : Int32, xl h (115, 1) = some (.inl (.int v)) → v.toInt + (-1) * u0.toInt + 0 = 0)) (kk : (∀ h' : xe_H, (∀ v : Int32, xl h' (115, 1) = some (.inl (.int v)) → v.toInt + (-1) * u0.toInt + (-1) = 0) → xk [(0, 9), (83, 0), (81, 0), (156, 0), (82, 0), (157, 0), (158, 0)] h h' → Q none h')) : xw J ov (d + 5) 35 (0, [(0, .ref 115)], [], h) Q := by
  have K : xk [(0, 9), (83, 0), (81, 0), (156, 0), (82, 0), (157, 0), (158, 0)] h h := xk_re T
  refine xp_115 K.1 (fun u1 u2 u3 u4 u5 u6 u7 u8 u9 u10 u11 u12 u13 bu1 bu2 bu3 bu4 bu5 bu6 bu7 bu8 bu9 bu10 bu11 bu12 bu13 A14 => ?_)
  have gi0' := gi0 _ (xl_of A14 rfl)
  refine xi_iconst (pc' := 1) (v := 0) kc_35_0 rfl rfl ?_
  refine xi_istore_n (pc' := 2) (lv' := [(1, .int 0), (0, .ref 115)]) kc_35_1 rfl rfl (xm_lt ml_35 rfl) ?_
  have zc0 : (0 : Int32).toInt = 0 := by decide
  refine xw_lv (b := [(0, .ref 115), (1, .int 0)]) (lvS_cons (lvS_cons (lvS_nil (show ([1, 0] : List Nat).Nodup by decide)) rfl) rfl) ?_
  exact (lp_35_0 hJ hov1 hov2 (d := d) (hb := h) bgu0 (fun h9 o90 K9 => kk h9 o90 (xk_tr K K9 rfl)) 82).1 0 h (by omega) (fun v e => by have e2 := xl_val (u := u2) A14 rfl e; subst e2; omega) (xk_re K.1) (by omega)
