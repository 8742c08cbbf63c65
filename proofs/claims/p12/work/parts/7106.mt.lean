set_option maxHeartbeats 4000000 in
theorem mt_32_0 {J : xe_J} {ov : List (List Int32)} (hJ : ∀ d mj as h, mj ≠ xe_loff → J d mj as h = none) (hov1 : ov[1]? = some [10, 0, 0, 0, 0, 0]) (hov2 : ov[2]? = some [99, 30, 50, 50, 1, 99999]) {d : Nat} {Q : Option Value → xe_H → Prop} {h : xe_H} {x1 : Int32} {x2 : Int32} {x3 : Int32} {x4 : Int32} (T : xt h) (kk : (∀ (r : Int32) (h' : xe_H), ((-6) ≤ r.toInt ∧ r.toInt ≤ 9) → xk [(0, 9), (115, 1), (83, 0), (29, 0), (31, 0), (33, 0), (35, 0), (37, 0), (39, 0), (41, 0), (43, 0), (45, 0), (47, 0), (49, 0), (51, 0), (125, 0), (66, 8), (115, 18), (71, 0), (132, 0)] h h' → Q (some (.int r)) h')) : xw J ov (d + 3) 32 (0, [(0, .ref 115), (1, .int x1), (2, .int x2), (3, .int x3), (4, .int x4)], [], h) Q := by
  have K : xk [(0, 9), (115, 1), (83, 0), (29, 0), (31, 0), (33, 0), (35, 0), (37, 0), (39, 0), (41, 0), (43, 0), (45, 0), (47, 0), (49, 0), (51, 0), (125, 0), (66, 8), (115, 18), (71, 0), (132, 0)] h h := xk_re T
  have rx1 := xc_rng x1
  have rx2 := xc_rng x2
  have rx3 := xc_rng x3
  have rx4 := xc_rng x4
  refine xi_aload_n (pc' := 1) (x := 115) kc_32_0 rfl rfl ?_
  refine xi_iconst (pc' := 2) (v := 0) kc_32_1 rfl rfl ?_
  refine xp_115 K.1 (fun u1 u2 u3 u4 u5 u6 u7 u8 u9 u10 u11 u12 u13 bu1 bu2 bu3 bu4 bu5 bu6 bu7 bu8 bu9 bu10 bu11 bu12 bu13 A14 => ?_)
  refine xi_putfield (pc' := 5) (fs' := [.int 0, .int u2, .ref 116, .ref 117, .ref 118, .ref 119, .ref 120, .ref 121, .ref 122, .ref 123, .ref 124, .ref 125, .ref 126, .ref 127, .ref 128, .ref 129, .int u3, .ref 130, .int u4, .ref 131, .ref 132, .ref 133, .ref 134, .int u5, .ref 135, .ref 136, .ref 137, .ref 138, .ref 139, .ref 140, .ref 141, .ref 142, .int u6, .int u7, .int u8, .ref 143, .ref 144, .ref 145, .ref 146, .ref 147, .ref 148, .int u9, .ref 149, .ref 150, .ref 151, .int u10, .ref 152, .ref 153, .ref 154, .ref 155, .ref 156, .ref 157, .ref 158, .ref 159, .int u11, .ref 160, .int u12, .ref 161, .ref 162, .ref 163, .ref 164, .int u13, .ref 165, .ref 166]) kc_32_2 rfl rfl rfl A14 rfl rfl rfl (Nat.le_of_ble_eq_true rfl) rfl (fun hh16 eh15 => ?_)
  have K17 := xk_pf (k := 0) (v := 0) K (xk_wf rfl) xD_115 A14 rfl (by first | omega | decide) (by first | omega | decide) eh15 rfl
  refine xi_iload_n (pc' := 6) (x := x1) kc_32_5 rfl rfl ?_
  refine xi_iconst (pc' := 7) (v := 0) kc_32_6 rfl rfl ?_
  refine xi_iconst (pc' := 8) (v := 3) kc_32_7 rfl rfl ?_
  refine xi_static (mj := 11) (as := [.int x1, .int 0, .int 3]) (st1 := []) (lv0 := [(0, .int x1), (1, .int 0), (2, .int 3)]) kc_32_8 rfl rfl (Nat.le_of_ble_eq_true rfl) rfl rfl (Nat.le_of_ble_eq_true rfl) (hJ _ _ _ _ (by decide)) (xm_le ml_11 rfl) rfl ?_
  refine xi_iload_n (pc' := 1) (x := x1) kc_11_0 rfl rfl ?_
  refine xi_iload_n (pc' := 2) (x := 0) kc_11_1 rfl rfl ?_
  by_cases c18 : x1.toInt < 0
  · refine xi_cmt (pc' := 14) kc_11_2 rfl (xc_lt_t (X := x1.toInt) (Y := 0) rfl (by decide) (by omega)) ?_
    refine xi_iconst (pc' := 15) (v := 0) kc_11_14 rfl rfl ?_
    refine xi_ireturn kc_11_15 mr_11 rfl ?_
    show xw J ov (d + 3) 32 (11, [(0, .ref 115), (1, .int x1), (2, .int x2), (3, .int x3), (4, .int x4)], [.int 0], hh16) _
    refine xi_iff (pc' := 14) kc_32_11 rfl rfl ?_
    refine xi_aload_n (pc' := 15) (x := 115) kc_32_14 rfl rfl ?_
    refine xi_bipush (pc' := 17) (v := (-2)) kc_32_15 rfl rfl ?_
    refine xi_virtual (mj := 12) (as := [.int (-2)]) (st1 := []) (lv0 := [(0, .ref 115), (1, .int (-2))]) kc_32_17 rfl rfl rfl rfl rfl eh15.1 (Nat.le_of_ble_eq_true rfl) (hJ _ _ _ _ (by decide)) (xm_le ml_12 rfl) rfl ?_
    refine xi_aload_n (pc' := 1) (x := 115) kc_12_0 rfl rfl ?_
    refine xi_getfield (pc' := 4) (v := .ref 140) kc_12_1 rfl rfl rfl eh15.1 rfl ?_
    refine xi_iload_n (pc' := 5) (x := (-2)) kc_12_4 rfl rfl ?_
    refine xi_ineg (pc' := 6) (v := 2) kc_12_5 rfl rfl ?_
    refine xi_dup2 (pc' := 7) kc_12_6 rfl ⟨rfl, rfl⟩ ?_
    refine xcps4 (xk_arr K17.1 xD_140) (fun y19 A19 hy19 ry19 => ?_)
    refine xcps4 (xj_get hy19 ry19 (i := 2) (by decide) (by decide)) (fun v20 ev20 bv20 dv20 => ?_)
    refine xi_iaload (pc' := 8) (v := v20) kc_12_7 rfl A19 (by decide) rfl (xi_in (by decide) (by rw [hy19]; decide)) ev20 ?_
    refine xi_iconst (pc' := 9) (v := 1) kc_12_8 rfl rfl ?_
    refine xcps2 (α := Int32) ((v20 : Int32) + 1) (fun v21 ev21 => ?_)
    have rv21 := xc_rng v21
    refine xi_iadd (pc' := 10) (v := v21) kc_12_9 rfl ev21 ?_
    refine xcps4 (xj_set (v := v21) hy19 ry19 2 (by first | omega | decide) (by first | omega | decide)) (fun y22 s22 hy22 ry22 => ?_)
    refine xi_iastore (pc' := 11) (x' := y22) kc_12_10 rfl A19 rfl (xi_in (by decide) (by rw [hy19]; decide)) s22 (fun hh22 eh22 => ?_)
    have K23 := xk_pa K17 (xk_wa rfl) xD_140 hy22 ry22 eh22
    refine xi_iload_n (pc' := 12) (x := (-2)) kc_12_11 rfl rfl ?_
    refine xi_ireturn kc_12_12 mr_12 rfl ?_
    show xw J ov (d + 3) 32 (20, [(0, .ref 115), (1, .int x1), (2, .int x2), (3, .int x3), (4, .int x4)], [.int (-2)], hh22) _
    refine xi_ireturn kc_32_20 mr_32 rfl ?_
    have zcm2 : ((-2) : Int32).toInt = (-2) := by decide
    exact kk (-2) hh22 (by omega) K23
  · refine xi_cmf (pc' := 5) kc_11_2 rfl (xc_lt_f (X := x1.toInt) (Y := 0) rfl (by decide) (by omega)) ?_
    refine xi_iload_n (pc' := 6) (x := x1) kc_11_5 rfl rfl ?_
    refine xi_iload_n (pc' := 7) (x := 3) kc_11_6 rfl rfl ?_
    by_cases c24 : 3 < x1.toInt
    · refine xi_cmt (pc' := 14) kc_11_7 rfl (xc_gt_t (X := x1.toInt) (Y := 3) rfl (by decide) (by omega)) ?_
      refine xi_iconst (pc' := 15) (v := 0) kc_11_14 rfl rfl ?_
      refine xi_ireturn kc_11_15 mr_11 rfl ?_
      show xw J ov (d + 3) 32 (11, [(0, .ref 115), (1, .int x1), (2, .int x2), (3, .int x3), (4, .int x4)], [.int 0], hh16) _
      refine xi_iff (pc' := 14) kc_32_11 rfl rfl ?_
      refine xi_aload_n (pc' := 15) (x := 115) kc_32_14 rfl rfl ?_
      refine xi_bipush (pc' := 17) (v := (-2)) kc_32_15 rfl rfl ?_
      refine xi_virtual (mj := 12) (as := [.int (-2)]) (st1 := []) (lv0 := [(0, .ref 115), (1, .int (-2))]) kc_32_17 rfl rfl rfl rfl rfl eh15.1 (Nat.le_of_ble_eq_true rfl) (hJ _ _ _ _ (by decide)) (xm_le ml_12 rfl) rfl ?_
      refine xi_aload_n (pc' := 1) (x := 115) kc_12_0 rfl rfl ?_
      refine xi_getfield (pc' := 4) (v := .ref 140) kc_12_1 rfl rfl rfl eh15.1 rfl ?_
      refine xi_iload_n (pc' := 5) (x := (-2)) kc_12_4 rfl rfl ?_
      refine xi_ineg (pc' := 6) (v := 2) kc_12_5 rfl rfl ?_
      refine xi_dup2 (pc' := 7) kc_12_6 rfl ⟨rfl, rfl⟩ ?_
      refine xcps4 (xk_arr K17.1 xD_140) (fun y25 A25 hy25 ry25 => ?_)
      refine xcps4 (xj_get hy25 ry25 (i := 2) (by decide) (by decide)) (fun v26 ev26 bv26 dv26 => ?_)
      refine xi_iaload (pc' := 8) (v := v26) kc_12_7 rfl A25 (by decide) rfl (xi_in (by decide) (by rw [hy25]; decide)) ev26 ?_
      refine xi_iconst (pc' := 9) (v := 1) kc_12_8 rfl rfl ?_
      refine xcps2 (α := Int32) ((v26 : Int32) + 1) (fun v27 ev27 => ?_)
      have rv27 := xc_rng v27
      refine xi_iadd (pc' := 10) (v := v27) kc_12_9 rfl ev27 ?_
      refine xcps4 (xj_set (v := v27) hy25 ry25 2 (by first | omega | decide) (by first | omega | decide)) (fun y28 s28 hy28 ry28 => ?_)
      refine xi_iastore (pc' := 11) (x' := y28) kc_12_10 rfl A25 rfl (xi_in (by decide) (by rw [hy25]; decide)) s28 (fun hh28 eh28 => ?_)
      have K29 := xk_pa K17 (xk_wa rfl) xD_140 hy28 ry28 eh28
      refine xi_iload_n (pc' := 12) (x := (-2)) kc_12_11 rfl rfl ?_
      refine xi_ireturn kc_12_12 mr_12 rfl ?_
      show xw J ov (d + 3) 32 (20, [(0, .ref 115), (1, .int x1), (2, .int x2), (3, .int x3), (4, .int x4)], [.int (-2)], hh28) _
      refine xi_ireturn kc_32_20 mr_32 rfl ?_
      have zcm2 : ((-2) : Int32).toInt = (-2) := by decide
      exact kk (-2) hh28 (by omega) K29
    · refine xi_cmf (pc' := 10) kc_11_7 rfl (xc_gt_f (X := x1.toInt) (Y := 3) rfl (by decide) (by omega)) ?_
      refine xi_iconst (pc' := 11) (v := 1) kc_11_10 rfl rfl ?_
      refine xi_goto (pc' := 15) kc_11_11 rfl ?_
      refine xi_ireturn kc_11_15 mr_11 rfl ?_
      show xw J ov (d + 3) 32 (11, [(0, .ref 115), (1, .int x1), (2, .int x2), (3, .int x3), (4, .int x4)], [.int 1], hh16) _
      refine xi_ift (pc' := 21) kc_32_11 rfl rfl ?_
      refine xi_iload_n (pc' := 22) (x := x1) kc_32_21 rfl rfl ?_
      refine xi_iconst (pc' := 23) (v := 3) kc_32_22 rfl rfl ?_
      by_cases c30 : x1.toInt = 3
      · refine xi_cmf (pc' := 26) kc_32_23 rfl (xc_ne_f (X := x1.toInt) (Y := 3) rfl (by decide) (by omega)) ?_
        refine xi_iload_n (pc' := 27) (x := x2) kc_32_26 rfl rfl ?_
        refine xi_static (mj := 10) (as := [.int x2]) (st1 := []) (lv0 := [(0, .int x2)]) kc_32_27 rfl rfl (Nat.le_of_ble_eq_true rfl) rfl rfl (Nat.le_of_ble_eq_true rfl) (hJ _ _ _ _ (by decide)) (xm_le ml_10 rfl) rfl ?_
        refine xi_iload_n (pc' := 1) (x := x2) kc_10_0 rfl rfl ?_
        refine xi_iconst (pc' := 2) (v := 0) kc_10_1 rfl rfl ?_
        refine xi_iconst (pc' := 3) (v := 5) kc_10_2 rfl rfl ?_
        refine xi_static (mj := 11) (as := [.int x2, .int 0, .int 5]) (st1 := []) (lv0 := [(0, .int x2), (1, .int 0), (2, .int 5)]) kc_10_3 rfl rfl (Nat.le_of_ble_eq_true rfl) rfl rfl (Nat.le_of_ble_eq_true rfl) (hJ _ _ _ _ (by decide)) (xm_le ml_11 rfl) rfl ?_
        refine xi_iload_n (pc' := 1) (x := x2) kc_11_0 rfl rfl ?_
        refine xi_iload_n (pc' := 2) (x := 0) kc_11_1 rfl rfl ?_
        by_cases c31 : x2.toInt < 0
        · refine xi_cmt (pc' := 14) kc_11_2 rfl (xc_lt_t (X := x2.toInt) (Y := 0) rfl (by decide) (by omega)) ?_
          refine xi_iconst (pc' := 15) (v := 0) kc_11_14 rfl rfl ?_
          refine xi_ireturn kc_11_15 mr_11 rfl ?_
          show xw J ov (d + 2) 10 (6, [(0, .int x2)], [.int 0], hh16) _
          refine xi_ireturn kc_10_6 mr_10 rfl ?_
          show xw J ov (d + 3) 32 (30, [(0, .ref 115), (1, .int x1), (2, .int x2), (3, .int x3), (4, .int x4)], [.int 0], hh16) _
          refine xi_iff (pc' := 33) kc_32_30 rfl rfl ?_
          refine xi_goto (pc' := 57) kc_32_33 rfl ?_
          refine xi_aload_n (pc' := 58) (x := 115) kc_32_57 rfl rfl ?_
          refine xi_iconst (pc' := 59) (v := (-1)) kc_32_58 rfl rfl ?_
          refine xi_virtual (mj := 12) (as := [.int (-1)]) (st1 := []) (lv0 := [(0, .ref 115), (1, .int (-1))]) kc_32_59 rfl rfl rfl rfl rfl eh15.1 (Nat.le_of_ble_eq_true rfl) (hJ _ _ _ _ (by decide)) (xm_le ml_12 rfl) rfl ?_
          refine xi_aload_n (pc' := 1) (x := 115) kc_12_0 rfl rfl ?_
          refine xi_getfield (pc' := 4) (v := .ref 140) kc_12_1 rfl rfl rfl eh15.1 rfl ?_
          refine xi_iload_n (pc' := 5) (x := (-1)) kc_12_4 rfl rfl ?_
          refine xi_ineg (pc' := 6) (v := 1) kc_12_5 rfl rfl ?_
          refine xi_dup2 (pc' := 7) kc_12_6 rfl ⟨rfl, rfl⟩ ?_
          refine xcps4 (xk_arr K17.1 xD_140) (fun y32 A32 hy32 ry32 => ?_)
          refine xcps4 (xj_get hy32 ry32 (i := 1) (by decide) (by decide)) (fun v33 ev33 bv33 dv33 => ?_)
          refine xi_iaload (pc' := 8) (v := v33) kc_12_7 rfl A32 (by decide) rfl (xi_in (by decide) (by rw [hy32]; decide)) ev33 ?_
          refine xi_iconst (pc' := 9) (v := 1) kc_12_8 rfl rfl ?_
          refine xcps2 (α := Int32) ((v33 : Int32) + 1) (fun v34 ev34 => ?_)
          have rv34 := xc_rng v34
          refine xi_iadd (pc' := 10) (v := v34) kc_12_9 rfl ev34 ?_
          refine xcps4 (xj_set (v := v34) hy32 ry32 1 (by first | omega | decide) (by first | omega | decide)) (fun y35 s35 hy35 ry35 => ?_)
          refine xi_iastore (pc' := 11) (x' := y35) kc_12_10 rfl A32 rfl (xi_in (by decide) (by rw [hy32]; decide)) s35 (fun hh35 eh35 => ?_)
          have K36 := xk_pa K17 (xk_wa rfl) xD_140 hy35 ry35 eh35
          refine xi_iload_n (pc' := 12) (x := (-1)) kc_12_11 rfl rfl ?_
          refine xi_ireturn kc_12_12 mr_12 rfl ?_
          show xw J ov (d + 3) 32 (62, [(0, .ref 115), (1, .int x1), (2, .int x2), (3, .int x3), (4, .int x4)], [.int (-1)], hh35) _
          refine xi_ireturn kc_32_62 mr_32 rfl ?_
          have zcm1 : ((-1) : Int32).toInt = (-1) := by decide
          exact kk (-1) hh35 (by omega) K36
        · refine xi_cmf (pc' := 5) kc_11_2 rfl (xc_lt_f (X := x2.toInt) (Y := 0) rfl (by decide) (by omega)) ?_
          refine xi_iload_n (pc' := 6) (x := x2) kc_11_5 rfl rfl ?_
          refine xi_iload_n (pc' := 7) (x := 5) kc_11_6 rfl rfl ?_
          by_cases c37 : 5 < x2.toInt
          · refine xi_cmt (pc' := 14) kc_11_7 rfl (xc_gt_t (X := x2.toInt) (Y := 5) rfl (by decide) (by omega)) ?_
            refine xi_iconst (pc' := 15) (v := 0) kc_11_14 rfl rfl ?_
            refine xi_ireturn kc_11_15 mr_11 rfl ?_
            show xw J ov (d + 2) 10 (6, [(0, .int x2)], [.int 0], hh16) _
            refine xi_ireturn kc_10_6 mr_10 rfl ?_
            show xw J ov (d + 3) 32 (30, [(0, .ref 115), (1, .int x1), (2, .int x2), (3, .int x3), (4, .int x4)], [.int 0], hh16) _
            refine xi_iff (pc' := 33) kc_32_30 rfl rfl ?_
            refine xi_goto (pc' := 57) kc_32_33 rfl ?_
            refine xi_aload_n (pc' := 58) (x := 115) kc_32_57 rfl rfl ?_
            refine xi_iconst (pc' := 59) (v := (-1)) kc_32_58 rfl rfl ?_
            refine xi_virtual (mj := 12) (as := [.int (-1)]) (st1 := []) (lv0 := [(0, .ref 115), (1, .int (-1))]) kc_32_59 rfl rfl rfl rfl rfl eh15.1 (Nat.le_of_ble_eq_true rfl) (hJ _ _ _ _ (by decide)) (xm_le ml_12 rfl) rfl ?_
            refine xi_aload_n (pc' := 1) (x := 115) kc_12_0 rfl rfl ?_
            refine xi_getfield (pc' := 4) (v := .ref 140) kc_12_1 rfl rfl rfl eh15.1 rfl ?_
            refine xi_iload_n (pc' := 5) (x := (-1)) kc_12_4 rfl rfl ?_
            refine xi_ineg (pc' := 6) (v := 1) kc_12_5 rfl rfl ?_
            refine xi_dup2 (pc' := 7) kc_12_6 rfl ⟨rfl, rfl⟩ ?_
            refine xcps4 (xk_arr K17.1 xD_140) (fun y38 A38 hy38 ry38 => ?_)
            refine xcps4 (xj_get hy38 ry38 (i := 1) (by decide) (by decide)) (fun v39 ev39 bv39 dv39 => ?_)
            refine xi_iaload (pc' := 8) (v := v39) kc_12_7 rfl A38 (by decide) rfl (xi_in (by decide) (by rw [hy38]; decide)) ev39 ?_
            refine xi_iconst (pc' := 9) (v := 1) kc_12_8 rfl rfl ?_
            refine xcps2 (α := Int32) ((v39 : Int32) + 1) (fun v40 ev40 => ?_)
            have rv40 := xc_rng v40
            refine xi_iadd (pc' := 10) (v := v40) kc_12_9 rfl ev40 ?_
            refine xcps4 (xj_set (v := v40) hy38 ry38 1 (by first | omega | decide) (by first | omega | decide)) (fun y41 s41 hy41 ry41 => ?_)
            refine xi_iastore (pc' := 11) (x' := y41) kc_12_10 rfl A38 rfl (xi_in (by decide) (by rw [hy38]; decide)) s41 (fun hh41 eh41 => ?_)
            have K42 := xk_pa K17 (xk_wa rfl) xD_140 hy41 ry41 eh41
            refine xi_iload_n (pc' := 12) (x := (-1)) kc_12_11 rfl rfl ?_
            refine xi_ireturn kc_12_12 mr_12 rfl ?_
            show xw J ov (d + 3) 32 (62, [(0, .ref 115), (1, .int x1), (2, .int x2), (3, .int x3), (4, .int x4)], [.int (-1)], hh41) _
            refine xi_ireturn kc_32_62 mr_32 rfl ?_
            have zcm1 : ((-1) : Int32).toInt = (-1) := by decide
            exact kk (-1) hh41 (by omega) K42
          · refine xi_cmf (pc' := 10) kc_11_7 rfl (xc_gt_f (X := x2.toInt) (Y := 5) rfl (by decide) (by omega)) ?_
            refine xi_iconst (pc' := 11) (v := 1) kc_11_10 rfl rfl ?_
            refine xi_goto (pc' := 15) kc_11_11 rfl ?_
            refine xi_ireturn kc_11_15 mr_11 rfl ?_
            show xw J ov (d + 2) 10 (6, [(0, .int x2)], [.int 1], hh16) _
            refine xi_ireturn kc_10_6 mr_10 rfl ?_
            show xw J ov (d + 3) 32 (30, [(0, .ref 115), (1, .int x1), (2, .int x2), (3, .int x3), (4, .int x4)], [.int 1], hh16) _
            refine xi_ift (pc' := 63) kc_32_30 rfl rfl ?_
            refine xi_iload_n (pc' := 64) (x := x3) kc_32_63 rfl rfl ?_
            refine xi_iconst (pc' := 65) (v := 1) kc_32_64 rfl rfl ?_
            by_cases c43 : x3.toInt < 1
            · refine xi_cmt (pc' := 73) kc_32_65 rfl (xc_lt_t (X := x3.toInt) (Y := 1) rfl (by decide) (by omega)) ?_
              refine xi_aload_n (pc' := 74) (x := 115) kc_32_73 rfl rfl ?_
              refine xi_bipush (pc' := 76) (v := (-4)) kc_32_74 rfl rfl ?_
              refine xi_virtual (mj := 12) (as := [.int (-4)]) (st1 := []) (lv0 := [(0, .ref 115), (1, .int (-4))]) kc_32_76 rfl rfl rfl rfl rfl eh15.1 (Nat.le_of_ble_eq_true rfl) (hJ _ _ _ _ (by decide)) (xm_le ml_12 rfl) rfl ?_
              refine xi_aload_n (pc' := 1) (x := 115) kc_12_0 rfl rfl ?_
              refine xi_getfield (pc' := 4) (v := .ref 140) kc_12_1 rfl rfl rfl eh15.1 rfl ?_
              refine xi_iload_n (pc' := 5) (x := (-4)) kc_12_4 rfl rfl ?_
              refine xi_ineg (pc' := 6) (v := 4) kc_12_5 rfl rfl ?_
              refine xi_dup2 (pc' := 7) kc_12_6 rfl ⟨rfl, rfl⟩ ?_
              refine xcps4 (xk_arr K17.1 xD_140) (fun y44 A44 hy44 ry44 => ?_)
              refine xcps4 (xj_get hy44 ry44 (i := 4) (by decide) (by decide)) (fun v45 ev45 bv45 dv45 => ?_)
              refine xi_iaload (pc' := 8) (v := v45) kc_12_7 rfl A44 (by decide) rfl (xi_in (by decide) (by rw [hy44]; decide)) ev45 ?_
              refine xi_iconst (pc' := 9) (v := 1) kc_12_8 rfl rfl ?_
              refine xcps2 (α := Int32) ((v45 : Int32) + 1) (fun v46 ev46 => ?_)
              have rv46 := xc_rng v46
              refine xi_iadd (pc' := 10) (v := v46) kc_12_9 rfl ev46 ?_
              refine xcps4 (xj_set (v := v46) hy44 ry44 4 (by first | omega | decide) (by first | omega | decide)) (fun y47 s47 hy47 ry47 => ?_)
              refine xi_iastore (pc' := 11) (x' := y47) kc_12_10 rfl A44 rfl (xi_in (by decide) (by rw [hy44]; decide)) s47 (fun hh47 eh47 => ?_)
              have K48 := xk_pa K17 (xk_wa rfl) xD_140 hy47 ry47 eh47
              refine xi_iload_n (pc' := 12) (x := (-4)) kc_12_11 rfl rfl ?_
              refine xi_ireturn kc_12_12 mr_12 rfl ?_
              show xw J ov (d + 3) 32 (79, [(0, .ref 115), (1, .int x1), (2, .int x2), (3, .int x3), (4, .int x4)], [.int (-4)], hh47) _
              refine xi_ireturn kc_32_79 mr_32 rfl ?_
              have zcm4 : ((-4) : Int32).toInt = (-4) := by decide
              exact kk (-4) hh47 (by omega) K48
            · refine xi_cmf (pc' := 68) kc_32_65 rfl (xc_lt_f (X := x3.toInt) (Y := 1) rfl (by decide) (by omega)) ?_
              refine xi_iload (pc' := 70) (x := x4) kc_32_68 rfl rfl ?_
              by_cases c49 : 0 ≤ x4.toInt
              · refine xi_ift (pc' := 80) kc_32_70 rfl (xc_ge_t (X := x4.toInt) (Y := 0) rfl (by decide) (by omega)) ?_
                refine xi_iload_n (pc' := 81) (x := x3) kc_32_80 rfl rfl ?_
                refine xi_bipush (pc' := 83) (v := 99) kc_32_81 rfl rfl ?_
                by_cases c50 : 99 < x3.toInt
                · refine xi_cmt (pc' := 103) kc_32_83 rfl (xc_gt_t (X := x3.toInt) (Y := 99) rfl (by decide) (by omega)) ?_
                  refine xi_aload_n (pc' := 104) (x := 115) kc_32_103 rfl rfl ?_
                  refine xi_bipush (pc' := 106) (v := (-6)) kc_32_104 rfl rfl ?_
                  refine xi_virtual (mj := 12) (as := [.int (-6)]) (st1 := []) (lv0 := [(0, .ref 115), (1, .int (-6))]) kc_32_106 rfl rfl rfl rfl rfl eh15.1 (Nat.le_of_ble_eq_true rfl) (hJ _ _ _ _ (by decide)) (xm_le ml_12 rfl) rfl ?_
                  refine xi_aload_n (pc' := 1) (x := 115) kc_12_0 rfl rfl ?_
                  refine xi_getfield (pc' := 4) (v := .ref 140) kc_12_1 rfl rfl rfl eh15.1 rfl ?_
                  refine xi_iload_n (pc' := 5) (x := (-6)) kc_12_4 rfl rfl ?_
                  refine xi_ineg (pc' := 6) (v := 6) kc_12_5 rfl rfl ?_
                  refine xi_dup2 (pc' := 7) kc_12_6 rfl ⟨rfl, rfl⟩ ?_
                  refine xcps4 (xk_arr K17.1 xD_140) (fun y51 A51 hy51 ry51 => ?_)
                  refine xcps4 (xj_get hy51 ry51 (i := 6) (by decide) (by decide)) (fun v52 ev52 bv52 dv52 => ?_)
                  refine xi_iaload (pc' := 8) (v := v52) kc_12_7 rfl A51 (by decide) rfl (xi_in (by decide) (by rw [hy51]; decide)) ev52 ?_
                  refine xi_iconst (pc' := 9) (v := 1) kc_12_8 rfl rfl ?_
                  refine xcps2 (α := Int32) ((v52 : Int32) + 1) (fun v53 ev53 => ?_)
                  have rv53 := xc_rng v53
                  refine xi_iadd (pc' := 10) (v := v53) kc_12_9 rfl ev53 ?_
                  refine xcps4 (xj_set (v := v53) hy51 ry51 6 (by first | omega | decide) (by first | omega | decide)) (fun y54 s54 hy54 ry54 => ?_)
                  refine xi_iastore (pc' := 11) (x' := y54) kc_12_10 rfl A51 rfl (xi_in (by decide) (by rw [hy51]; decide)) s54 (fun hh54 eh54 => ?_)
                  have K55 := xk_pa K17 (xk_wa rfl) xD_140 hy54 ry54 eh54
                  refine xi_iload_n (pc' := 12) (x := (-6)) kc_12_11 rfl rfl ?_
                  refine xi_ireturn kc_12_12 mr_12 rfl ?_
                  show xw J ov (d + 3) 32 (109, [(0, .ref 115), (1, .int x1), (2, .int x2), (3, .int x3), (4, .int x4)], [.int (-6)], hh54) _
                  refine xi_ireturn kc_32_109 mr_32 rfl ?_
                  have zcm6 : ((-6) : Int32).toInt = (-6) := by decide
                  exact kk (-6) hh54 (by omega) K55
                · refine xi_cmf (pc' := 86) kc_32_83 rfl (xc_gt_f (X := x3.toInt) (Y := 99) rfl (by decide) (by omega)) ?_
                  refine xi_iload (pc' := 88) (x := x4) kc_32_86 rfl rfl ?_
                  refine xi_sipush (pc' := 91) (v := 600) kc_32_88 rfl rfl ?_
                  by_cases c56 : 600 < x4.toInt
                  · refine xi_cmt (pc' := 103) kc_32_91 rfl (xc_gt_t (X := x4.toInt) (Y := 600) rfl (by decide) (by omega)) ?_
                    refine xi_aload_n (pc' := 104) (x := 115) kc_32_103 rfl rfl ?_
                    refine xi_bipush (pc' := 106) (v := (-6)) kc_32_104 rfl rfl ?_
                    refine xi_virtual (mj := 12) (as := [.int (-6)]) (st1 := []) (lv0 := [(0, .ref 115), (1, .int (-6))]) kc_32_106 rfl rfl rfl rfl rfl eh15.1 (Nat.le_of_ble_eq_true rfl) (hJ _ _ _ _ (by decide)) (xm_le ml_12 rfl) rfl ?_
                    refine xi_aload_n (pc' := 1) (x := 115) kc_12_0 rfl rfl ?_
                    refine xi_getfield (pc' := 4) (v := .ref 140) kc_12_1 rfl rfl rfl eh15.1 rfl ?_
                    refine xi_iload_n (pc' := 5) (x := (-6)) kc_12_4 rfl rfl ?_
                    refine xi_ineg (pc' := 6) (v := 6) kc_12_5 rfl rfl ?_
                    refine xi_dup2 (pc' := 7) kc_12_6 rfl ⟨rfl, rfl⟩ ?_
                    refine xcps4 (xk_arr K17.1 xD_140) (fun y57 A57 hy57 ry57 => ?_)
                    refine xcps4 (xj_get hy57 ry57 (i := 6) (by decide) (by decide)) (fun v58 ev58 bv58 dv58 => ?_)
                    refine xi_iaload (pc' := 8) (v := v58) kc_12_7 rfl A57 (by decide) rfl (xi_in (by decide) (by rw [hy57]; decide)) ev58 ?_
                    refine xi_iconst (pc' := 9) (v := 1) kc_12_8 rfl rfl ?_
                    refine xcps2 (α := Int32) ((v58 : Int32) + 1) (fun v59 ev59 => ?_)
                    have rv59 := xc_rng v59
                    refine xi_iadd (pc' := 10) (v := v59) kc_12_9 rfl ev59 ?_
                    refine xcps4 (xj_set (v := v59) hy57 ry57 6 (by first | omega | decide) (by first | omega | decide)) (fun y60 s60 hy60 ry60 => ?_)
                    refine xi_iastore (pc' := 11) (x' := y60) kc_12_10 rfl A57 rfl (xi_in (by decide) (by rw [hy57]; decide)) s60 (fun hh60 eh60 => ?_)
                    have K61 := xk_pa K17 (xk_wa rfl) xD_140 hy60 ry60 eh60
                    refine xi_iload_n (pc' := 12) (x := (-6)) kc_12_11 rfl rfl ?_
                    refine xi_ireturn kc_12_12 mr_12 rfl ?_
                    show xw J ov (d + 3) 32 (109, [(0, .ref 115), (1, .int x1), (2, .int x2), (3, .int x3), (4, .int x4)], [.int (-6)], hh60) _
                    refine xi_ireturn kc_32_109 mr_32 rfl ?_
                    have zcm6 : ((-6) : Int32).toInt = (-6) := by decide
                    exact kk (-6) hh60 (by omega) K61
                  · refine xi_cmf (pc' := 94) kc_32_91 rfl (xc_gt_f (X := x4.toInt) (Y := 600) rfl (by decide) (by omega)) ?_
                    refine xi_aload_n (pc' := 95) (x := 115) kc_32_94 rfl rfl ?_
                    refine xi_getfield (pc' := 98) (v := .int u5) kc_32_95 rfl rfl rfl eh15.1 rfl ?_
                    refine xi_bipush (pc' := 100) (v := 10) kc_32_98 rfl rfl ?_
                    by_cases c62 : u5.toInt = 10
                    · refine xi_cmf (pc' := 103) kc_32_100 rfl (xc_ne_f (X := u5.toInt) (Y := 10) rfl (by decide) (by omega)) ?_
                      refine xi_aload_n (pc' := 104) (x := 115) kc_32_103 rfl rfl ?_
                      refine xi_bipush (pc' := 106) (v := (-6)) kc_32_104 rfl rfl ?_
                      refine xi_virtual (mj := 12) (as := [.int (-6)]) (st1 := []) (lv0 := [(0, .ref 115), (1, .int (-6))]) kc_32_106 rfl rfl rfl rfl rfl eh15.1 (Nat.le_of_ble_eq_true rfl) (hJ _ _ _ _ (by decide)) (xm_le ml_12 rfl) rfl ?_
                      refine xi_aload_n (pc' := 1) (x := 115) kc_12_0 rfl rfl ?_
                      refine xi_getfield (pc' := 4) (v := .ref 140) kc_12_1 rfl rfl rfl eh15.1 rfl ?_
                      refine xi_iload_n (pc' := 5) (x := (-6)) kc_12_4 rfl rfl ?_
                      refine xi_ineg (pc' := 6) (v := 6) kc_12_5 rfl rfl ?_
                      refine xi_dup2 (pc' := 7) kc_12_6 rfl ⟨rfl, rfl⟩ ?_
                      refine xcps4 (xk_arr K17.1 xD_140) (fun y63 A63 hy63 ry63 => ?_)
                      refine xcps4 (xj_get hy63 ry63 (i := 6) (by decide) (by decide)) (fun v64 ev64 bv64 dv64 => ?_)
                      refine xi_iaload (pc' := 8) (v := v64) kc_12_7 rfl A63 (by decide) rfl (xi_in (by decide) (by rw [hy63]; decide)) ev64 ?_
                      refine xi_iconst (pc' := 9) (v := 1) kc_12_8 rfl rfl ?_
                      refine xcps2 (α := Int32) ((v64 : Int32) + 1) (fun v65 ev65 => ?_)
                      have rv65 := xc_rng v65
                      refine xi_iadd (pc' := 10) (v := v65) kc_12_9 rfl ev65 ?_
                      refine xcps4 (xj_set (v := v65) hy63 ry63 6 (by first | omega | decide) (by first | omega | decide)) (fun y66 s66 hy66 ry66 => ?_)
                      refine xi_iastore (pc' := 11) (x' := y66) kc_12_10 rfl A63 rfl (xi_in (by decide) (by rw [hy63]; decide)) s66 (fun hh66 eh66 => ?_)
                      have K67 := xk_pa K17 (xk_wa rfl) xD_140 hy66 ry66 eh66
                      refine xi_iload_n (pc' := 12) (x := (-6)) kc_12_11 rfl rfl ?_
                      refine xi_ireturn kc_12_12 mr_12 rfl ?_
                      show xw J ov (d + 3) 32 (109, [(0, .ref 115), (1, .int x1), (2, .int x2), (3, .int x3), (4, .int x4)], [.int (-6)], hh66) _
                      refine xi_ireturn kc_32_109 mr_32 rfl ?_
                      have zcm6 : ((-6) : Int32).toInt = (-6) := by decide
                      exact kk (-6) hh66 (by omega) K67
                    · refine xi_cmt (pc' := 110) kc_32_100 rfl (xc_ne_t (X := u5.toInt) (Y := 10) rfl (by decide) (by omega)) ?_
                      refine xi_aload_n (pc' := 111) (x := 115) kc_32_110 rfl rfl ?_
                      refine xi_getfield (pc' := 114) (v := .ref 135) kc_32_111 rfl rfl rfl eh15.1 rfl ?_
                      refine xi_aload_n (pc' := 115) (x := 115) kc_32_114 rfl rfl ?_
                      refine xi_getfield (pc' := 118) (v := .int u5) kc_32_115 rfl rfl rfl eh15.1 rfl ?_
                      refine xi_iload_n (pc' := 119) (x := x1) kc_32_118 rfl rfl ?_
                      refine xcps4 (xk_arr K17.1 xD_135) (fun y68 A68 hy68 ry68 => ?_)
                      refine xcps4 (xj_set (v := x1) hy68 ry68 u5 (by first | omega | decide) (by first | omega | decide)) (fun y69 s69 hy69 ry69 => ?_)
                      refine xi_iastore (pc' := 120) (x' := y69) kc_32_119 rfl A68 rfl (xi_in (by omega) (by rw [hy68]; omega)) s69 (fun hh69 eh69 => ?_)
                      have K70 := xk_pa K17 (xk_wa rfl) xD_135 hy69 ry69 eh69
                      refine xi_aload_n (pc' := 121) (x := 115) kc_32_120 rfl rfl ?_
                      have A71 := ((eh69.2.1 115 (by decide)).trans eh15.1)
                      refine xi_getfield (pc' := 124) (v := .ref 136) kc_32_121 rfl rfl rfl A71 rfl ?_
                      refine xi_aload_n (pc' := 125) (x := 115) kc_32_124 rfl rfl ?_
                      refine xi_getfield (pc' := 128) (v := .int u5) kc_32_125 rfl rfl rfl A71 rfl ?_
                      refine xi_iload_n (pc' := 129) (x := x2) kc_32_128 rfl rfl ?_
                      refine xcps4 (xk_arr K70.1 xD_136) (fun y72 A72 hy72 ry72 => ?_)
                      refine xcps4 (xj_set (v := x2) hy72 ry72 u5 (by first | omega | decide) (by first | omega | decide)) (fun y73 s73 hy73 ry73 => ?_)
                      refine xi_iastore (pc' := 130) (x' := y73) kc_32_129 rfl A72 rfl (xi_in (by omega) (by rw [hy72]; omega)) s73 (fun hh73 eh73 => ?_)
                      have K74 := xk_pa K70 (xk_wa rfl) xD_136 hy73 ry73 eh73
                      refine xi_aload_n (pc' := 131) (x := 115) kc_32_130 rfl rfl ?_
                      have A75 := ((eh73.2.1 115 (by decide)).trans A71)
                      refine xi_getfield (pc' := 134) (v := .ref 137) kc_32_131 rfl rfl rfl A75 rfl ?_
                      refine xi_aload_n (pc' := 135) (x := 115) kc_32_134 rfl rfl ?_
                      refine xi_getfield (pc' := 138) (v := .int u5) kc_32_135 rfl rfl rfl A75 rfl ?_
                      refine xi_iload_n (pc' := 139) (x := x3) kc_32_138 rfl rfl ?_
                      refine xcps4 (xk_arr K74.1 xD_137) (fun y76 A76 hy76 ry76 => ?_)
                      refine xcps4 (xj_set (v := x3) hy76 ry76 u5 (by first | omega | decide) (by first | omega | decide)) (fun y77 s77 hy77 ry77 => ?_)
                      refine xi_iastore (pc' := 140) (x' := y77) kc_32_139 rfl A76 rfl (xi_in (by omega) (by rw [hy76]; omega)) s77 (fun hh77 eh77 => ?_)
                      have K78 := xk_pa K74 (xk_wa rfl) xD_137 hy77 ry77 eh77
                      refine xi_aload_n (pc' := 141) (x := 115) kc_32_140 rfl rfl ?_
                      have A79 := ((eh77.2.1 115 (by decide)).trans A75)
                      refine xi_getfield (pc' := 144) (v := .ref 138) kc_32_141 rfl rfl rfl A79 rfl ?_
                      refine xi_aload_n (pc' := 145) (x := 115) kc_32_144 rfl rfl ?_
                      refine xi_getfield (pc' := 148) (v := .int u5) kc_32_145 rfl rfl rfl A79 rfl ?_
                      refine xi_iload (pc' := 150) (x := x4) kc_32_148 rfl rfl ?_
                      refine xcps4 (xk_arr K78.1 xD_138) (fun y80 A80 hy80 ry80 => ?_)
                      refine xcps4 (xj_set (v := x4) hy80 ry80 u5 (by first | omega | decide) (by first | omega | decide)) (fun y81 s81 hy81 ry81 => ?_)
                      refine xi_iastore (pc' := 151) (x' := y81) kc_32_150 rfl A80 rfl (xi_in (by omega) (by rw [hy80]; omega)) s81 (fun hh81 eh81 => ?_)
                      have K82 := xk_pa K78 (xk_wa rfl) xD_138 hy81 ry81 eh81
                      refine xi_aload_n (pc' := 152) (x := 115) kc_32_151 rfl rfl ?_
                      have A83 := ((eh81.2.1 115 (by decide)).trans A79)
                      refine xi_getfield (pc' := 155) (v := .ref 139) kc_32_152 rfl rfl rfl A83 rfl ?_
                      refine xi_aload_n (pc' := 156) (x := 115) kc_32_155 rfl rfl ?_
                      refine xi_getfield (pc' := 159) (v := .int u5) kc_32_156 rfl rfl rfl A83 rfl ?_
                      refine xi_iconst (pc' := 160) (v := 0) kc_32_159 rfl rfl ?_
                      refine xcps4 (xk_arr K82.1 xD_139) (fun y84 A84 hy84 ry84 => ?_)
                      refine xcps4 (xj_set (v := 0) hy84 ry84 u5 (by first | omega | decide) (by first | omega | decide)) (fun y85 s85 hy85 ry85 => ?_)
                      refine xi_bastore (pc' := 161) (x' := y85) kc_32_160 rfl A84 rfl (xi_in (by omega) (by rw [hy84]; omega)) s85 (fun hh85 eh85 => ?_)
                      have K86 := xk_pa K82 (xk_wa rfl) xD_139 hy85 ry85 eh85
                      refine xi_aload_n (pc' := 162) (x := 115) kc_32_161 rfl rfl ?_
                      refine xi_dup (pc' := 163) kc_32_162 rfl rfl ?_
                      have A87 := ((eh85.2.1 115 (by decide)).trans A83)
                      refine xi_getfield (pc' := 166) (v := .int u5) kc_32_163 rfl rfl rfl A87 rfl ?_
                      refine xi_iconst (pc' := 167) (v := 1) kc_32_166 rfl rfl ?_
                      refine xcps2 (α := Int32) (u5 + 1) (fun v88 ev88 => ?_)
                      have zv88 : v88.toInt = (u5.toInt + 1) := by rw [← ev88]; exact (xz_add (X := u5.toInt) (Y := 1) rfl (by decide) (by omega) (by omega)).trans (by omega)
                      refine xi_iadd (pc' := 168) (v := v88) kc_32_167 rfl ev88 ?_
                      refine xi_putfield (pc' := 171) (fs' := [.int 0, .int u2, .ref 116, .ref 117, .ref 118, .ref 119, .ref 120, .ref 121, .ref 122, .ref 123, .ref 124, .ref 125, .ref 126, .ref 127, .ref 128, .ref 129, .int u3, .ref 130, .int u4, .ref 131, .ref 132, .ref 133, .ref 134, .int v88, .ref 135, .ref 136, .ref 137, .ref 138, .ref 139, .ref 140, .ref 141, .ref 142, .int u6, .int u7, .int u8, .ref 143, .ref 144, .ref 145, .ref 146, .ref 147, .ref 148, .int u9, .ref 149, .ref 150, .ref 151, .int u10, .ref 152, .ref 153, .ref 154, .ref 155, .ref 156, .ref 157, .ref 158, .ref 159, .int u11, .ref 160, .int u12, .ref 161, .ref 162, .ref 163, .ref 164, .int u13, .ref 165, .ref 166]) kc_32_168 rfl rfl rfl A87 rfl rfl rfl (Nat.le_of_ble_eq_true rfl) rfl (fun hh90 eh89 => ?_)
                      have K91 := xk_pf (k := 23) (v := v88) K86 (xk_wf rfl) xD_115 A87 rfl (by first | omega | decide) (by first | omega | decide) eh89 rfl
                      refine xi_aload_n (pc' := 172) (x := 115) kc_32_171 rfl rfl ?_
                      refine xi_iconst (pc' := 173) (v := 0) kc_32_172 rfl rfl ?_
                      refine xi_putfield (pc' := 176) (fs' := [.int 0, .int u2, .ref 116, .ref 117, .ref 118, .ref 119, .ref 120, .ref 121, .ref 122, .ref 123, .ref 124, .ref 125, .ref 126, .ref 127, .ref 128, .ref 129, .int u3, .ref 130, .int u4, .ref 131, .ref 132, .ref 133, .ref 134, .int v88, .ref 135, .ref 136, .ref 137, .ref 138, .ref 139, .ref 140, .ref 141, .ref 142, .int u6, .int u7, .int u8, .ref 143, .ref 144, .ref 145, .ref 146, .ref 147, .ref 148, .int 0, .ref 149, .ref 150, .ref 151, .int u10, .ref 152, .ref 153, .ref 154, .ref 155, .ref 156, .ref 157, .ref 158, .ref 159, .int u11, .ref 160, .int u12, .ref 161, .ref 162, .ref 163, .ref 164, .int u13, .ref 165, .ref 166]) kc_32_173 rfl rfl rfl eh89.1 rfl rfl rfl (Nat.le_of_ble_eq_true rfl) rfl (fun hh93 eh92 => ?_)
                      have K94 := xk_pf (k := 41) (v := 0) K91 (xk_wf rfl) xD_115 eh89.1 rfl (by first | omega | decide) (by first | omega | decide) eh92 rfl
                      refine xi_aload_n (pc' := 177) (x := 115) kc_32_176 rfl rfl ?_
                      refine xi_getfield (pc' := 180) (v := .int v88) kc_32_177 rfl rfl rfl eh92.1 rfl ?_
                      refine xi_iconst (pc' := 181) (v := 1) kc_32_180 rfl rfl ?_
                      refine xcps2 (α := Int32) (v88 - 1) (fun v95 ev95 => ?_)
                      have zv95 : v95.toInt = u5.toInt := by rw [← ev95]; exact (xz_sub (X := (u5.toInt + 1)) (Y := 1) zv88 (by decide) (by omega) (by omega)).trans (by omega)
                      refine xi_isub (pc' := 182) (v := v95) kc_32_181 rfl ev95 ?_
                      refine xi_ireturn kc_32_182 mr_32 rfl ?_
                      exact kk v95 hh93 (by omega) K94
              · refine xi_iff (pc' := 73) kc_32_70 rfl (xc_ge_f (X := x4.toInt) (Y := 0) rfl (by decide) (by omega)) ?_
                refine xi_aload_n (pc' := 74) (x := 115) kc_32_73 rfl rfl ?_
                refine xi_bipush (pc' := 76) (v := (-4)) kc_32_74 rfl rfl ?_
                refine xi_virtual (mj := 12) (as := [.int (-4)]) (st1 := []) (lv0 := [(0, .ref 115), (1, .int (-4))]) kc_32_76 rfl rfl rfl rfl rfl eh15.1 (Nat.le_of_ble_eq_true rfl) (hJ _ _ _ _ (by decide)) (xm_le ml_12 rfl) rfl ?_
                refine xi_aload_n (pc' := 1) (x := 115) kc_12_0 rfl rfl ?_
                refine xi_getfield (pc' := 4) (v := .ref 140) kc_12_1 rfl rfl rfl eh15.1 rfl ?_
                refine xi_iload_n (pc' := 5) (x := (-4)) kc_12_4 rfl rfl ?_
                refine xi_ineg (pc' := 6) (v := 4) kc_12_5 rfl rfl ?_
                refine xi_dup2 (pc' := 7) kc_12_6 rfl ⟨rfl, rfl⟩ ?_
                refine xcps4 (xk_arr K17.1 xD_140) (fun y96 A96 hy96 ry96 => ?_)
                refine xcps4 (xj_get hy96 ry96 (i := 4) (by decide) (by decide)) (fun v97 ev97 bv97 dv97 => ?_)
                refine xi_iaload (pc' := 8) (v := v97) kc_12_7 rfl A96 (by decide) rfl (xi_in (by decide) (by rw [hy96]; decide)) ev97 ?_
                refine xi_iconst (pc' := 9) (v := 1) kc_12_8 rfl rfl ?_
                refine xcps2 (α := Int32) ((v97 : Int32) + 1) (fun v98 ev98 => ?_)
                have rv98 := xc_rng v98
                refine xi_iadd (pc' := 10) (v := v98) kc_12_9 rfl ev98 ?_
                refine xcps4 (xj_set (v := v98) hy96 ry96 4 (by first | omega | decide) (by first | omega | decide)) (fun y99 s99 hy99 ry99 => ?_)
                refine xi_iastore (pc' := 11) (x' := y99) kc_12_10 rfl A96 rfl (xi_in (by decide) (by rw [hy96]; decide)) s99 (fun hh99 eh99 => ?_)
                have K100 := xk_pa K17 (xk_wa rfl) xD_140 hy99 ry99 eh99
                refine xi_iload_n (pc' := 12) (x := (-4)) kc_12_11 rfl rfl ?_
                refine xi_ireturn kc_12_12 mr_12 rfl ?_
                show xw J ov (d + 3) 32 (79, [(0, .ref 115), (1, .int x1), (2, .int x2), (3, .int x3), (4, .int x4)], [.int (-4)], hh99) _
                refine xi_ireturn kc_32_79 mr_32 rfl ?_
                have zcm4 : ((-4) : Int32).toInt = (-4) := by decide
                exact kk (-4) hh99 (by omega) K100
      · refine xi_cmt (pc' := 36) kc_32_23 rfl (xc_ne_t (X := x1.toInt) (Y := 3) rfl (by decide) (by omega)) ?_
        refine xi_aload_n (pc' := 37) (x := 115) kc_32_36 rfl rfl ?_
        refine xi_iload_n (pc' := 38) (x := x2) kc_32_37 rfl rfl ?_
        refine xi_virtual (mj := 31) (as := [.int x2]) (st1 := []) (lv0 := [(0, .ref 115), (1, .int x2)]) kc_32_38 rfl rfl rfl rfl rfl eh15.1 (Nat.le_of_ble_eq_true rfl) (hJ _ _ _ _ (by decide)) (xm_le ml_31 rfl) rfl ?_
        refine xi_iload_n (pc' := 1) (x := x2) kc_31_0 rfl rfl ?_
        refine xi_static (mj := 24) (as := [.int x2]) (st1 := []) (lv0 := [(0, .int x2)]) kc_31_1 rfl rfl (Nat.le_of_ble_eq_true rfl) rfl rfl (Nat.le_of_ble_eq_true rfl) (hJ _ _ _ _ (by decide)) (xm_le ml_24 rfl) rfl ?_
        refine xi_iload_n (pc' := 1) (x := x2) kc_24_0 rfl rfl ?_
        refine xi_iconst (pc' := 2) (v := 0) kc_24_1 rfl rfl ?_
        refine xi_bipush (pc' := 4) (v := 11) kc_24_2 rfl rfl ?_
        refine xi_static (mj := 11) (as := [.int x2, .int 0, .int 11]) (st1 := []) (lv0 := [(0, .int x2), (1, .int 0), (2, .int 11)]) kc_24_4 rfl rfl (Nat.le_of_ble_eq_true rfl) rfl rfl (Nat.le_of_ble_eq_true rfl) (hJ _ _ _ _ (by decide)) (xm_le ml_11 rfl) rfl ?_
        refine xi_iload_n (pc' := 1) (x := x2) kc_11_0 rfl rfl ?_
        refine xi_iload_n (pc' := 2) (x := 0) kc_11_1 rfl rfl ?_
        by_cases c101 : x2.toInt < 0
        · refine xi_cmt (pc' := 14) kc_11_2 rfl (xc_lt_t (X := x2.toInt) (Y := 0) rfl (by decide) (by omega)) ?_
          refine xi_iconst (pc' := 15) (v := 0) kc_11_14 rfl rfl ?_
          refine xi_ireturn kc_11_15 mr_11 rfl ?_
          show xw J ov (d + 1) 24 (7, [(0, .int x2)], [.int 0], hh16) _
          refine xi_ireturn kc_24_7 mr_24 rfl ?_
          show xw J ov (d + 2) 31 (4, [(0, .ref 115), (1, .int x2)], [.int 0], hh16) _
          refine xi_ift (pc' := 20) kc_31_4 rfl rfl ?_
          refine xi_iconst (pc' := 21) (v := 0) kc_31_20 rfl rfl ?_
          refine xi_ireturn kc_31_21 mr_31 rfl ?_
          show xw J ov (d + 3) 32 (41, [(0, .ref 115), (1, .int x1), (2, .int x2), (3, .int x3), (4, .int x4)], [.int 0], hh16) _
          refine xi_ift (pc' := 57) kc_32_41 rfl rfl ?_
          refine xi_aload_n (pc' := 58) (x := 115) kc_32_57 rfl rfl ?_
          refine xi_iconst (pc' := 59) (v := (-1)) kc_32_58 rfl rfl ?_
          refine xi_virtual (mj := 12) (as := [.int (-1)]) (st1 := []) (lv0 := [(0, .ref 115), (1, .int (-1))]) kc_32_59 rfl rfl rfl rfl rfl eh15.1 (Nat.le_of_ble_eq_true rfl) (hJ _ _ _ _ (by decide)) (xm_le ml_12 rfl) rfl ?_
          refine xi_aload_n (pc' := 1) (x := 115) kc_12_0 rfl rfl ?_
          refine xi_getfield (pc' := 4) (v := .ref 140) kc_12_1 rfl rfl rfl eh15.1 rfl ?_
          refine xi_iload_n (pc' := 5) (x := (-1)) kc_12_4 rfl rfl ?_
          refine xi_ineg (pc' := 6) (v := 1) kc_12_5 rfl rfl ?_
          refine xi_dup2 (pc' := 7) kc_12_6 rfl ⟨rfl, rfl⟩ ?_
          refine xcps4 (xk_arr K17.1 xD_140) (fun y102 A102 hy102 ry102 => ?_)
          refine xcps4 (xj_get hy102 ry102 (i := 1) (by decide) (by decide)) (fun v103 ev103 bv103 dv103 => ?_)
          refine xi_iaload (pc' := 8) (v := v103) kc_12_7 rfl A102 (by decide) rfl (xi_in (by decide) (by rw [hy102]; decide)) ev103 ?_
          refine xi_iconst (pc' := 9) (v := 1) kc_12_8 rfl rfl ?_
          refine xcps2 (α := Int32) ((v103 : Int32) + 1) (fun v104 ev104 => ?_)
          have rv104 := xc_rng v104
          refine xi_iadd (pc' := 10) (v := v104) kc_12_9 rfl ev104 ?_
          refine xcps4 (xj_set (v := v104) hy102 ry102 1 (by first | omega | decide) (by first | omega | decide)) (fun y105 s105 hy105 ry105 => ?_)
          refine xi_iastore (pc' := 11) (x' := y105) kc_12_10 rfl A102 rfl (xi_in (by decide) (by rw [hy102]; decide)) s105 (fun hh105 eh105 => ?_)
          have K106 := xk_pa K17 (xk_wa rfl) xD_140 hy105 ry105 eh105
          refine xi_iload_n (pc' := 12) (x := (-1)) kc_12_11 rfl rfl ?_
          refine xi_ireturn kc_12_12 mr_12 rfl ?_
          show xw J ov (d + 3) 32 (62, [(0, .ref 115), (1, .int x1), (2, .int x2), (3, .int x3), (4, .int x4)], [.int (-1)], hh105) _
          refine xi_ireturn kc_32_62 mr_32 rfl ?_
          have zcm1 : ((-1) : Int32).toInt = (-1) := by decide
          exact kk (-1) hh105 (by omega) K106
        · refine xi_cmf (pc' := 5) kc_11_2 rfl (xc_lt_f (X := x2.toInt) (Y := 0) rfl (by decide) (by omega)) ?_
          refine xi_iload_n (pc' := 6) (x := x2) kc_11_5 rfl rfl ?_
          refine xi_iload_n (pc' := 7) (x := 11) kc_11_6 rfl rfl ?_
          by_cases c107 : 11 < x2.toInt
          · refine xi_cmt (pc' := 14) kc_11_7 rfl (xc_gt_t (X := x2.toInt) (Y := 11) rfl (by decide) (by omega)) ?_
            refine xi_iconst (pc' := 15) (v := 0) kc_11_14 rfl rfl ?_
            refine xi_ireturn kc_11_15 mr_11 rfl ?_
            show xw J ov (d + 1) 24 (7, [(0, .int x2)], [.int 0], hh16) _
            refine xi_ireturn kc_24_7 mr_24 rfl ?_
            show xw J ov (d + 2) 31 (4, [(0, .ref 115), (1, .int x2)], [.int 0], hh16) _
            refine xi_ift (pc' := 20) kc_31_4 rfl rfl ?_
            refine xi_iconst (pc' := 21) (v := 0) kc_31_20 rfl rfl ?_
            refine xi_ireturn kc_31_21 mr_31 rfl ?_
            show xw J ov (d + 3) 32 (41, [(0, .ref 115), (1, .int x1), (2, .int x2), (3, .int x3), (4, .int x4)], [.int 0], hh16) _
            refine xi_ift (pc' := 57) kc_32_41 rfl rfl ?_
            refine xi_aload_n (pc' := 58) (x := 115) kc_32_57 rfl rfl ?_
            refine xi_iconst (pc' := 59) (v := (-1)) kc_32_58 rfl rfl ?_
            refine xi_virtual (mj := 12) (as := [.int (-1)]) (st1 := []) (lv0 := [(0, .ref 115), (1, .int (-1))]) kc_32_59 rfl rfl rfl rfl rfl eh15.1 (Nat.le_of_ble_eq_true rfl) (hJ _ _ _ _ (by decide)) (xm_le ml_12 rfl) rfl ?_
            refine xi_aload_n (pc' := 1) (x := 115) kc_12_0 rfl rfl ?_
            refine xi_getfield (pc' := 4) (v := .ref 140) kc_12_1 rfl rfl rfl eh15.1 rfl ?_
            refine xi_iload_n (pc' := 5) (x := (-1)) kc_12_4 rfl rfl ?_
            refine xi_ineg (pc' := 6) (v := 1) kc_12_5 rfl rfl ?_
            refine xi_dup2 (pc' := 7) kc_12_6 rfl ⟨rfl, rfl⟩ ?_
            refine xcps4 (xk_arr K17.1 xD_140) (fun y108 A108 hy108 ry108 => ?_)
            refine xcps4 (xj_get hy108 ry108 (i := 1) (by decide) (by decide)) (fun v109 ev109 bv109 dv109 => ?_)
            refine xi_iaload (pc' := 8) (v := v109) kc_12_7 rfl A108 (by decide) rfl (xi_in (by decide) (by rw [hy108]; decide)) ev109 ?_
            refine xi_iconst (pc' := 9) (v := 1) kc_12_8 rfl rfl ?_
            refine xcps2 (α := Int32) ((v109 : Int32) + 1) (fun v110 ev110 => ?_)
            have rv110 := xc_rng v110
            refine xi_iadd (pc' := 10) (v := v110) kc_12_9 rfl ev110 ?_
            refine xcps4 (xj_set (v := v110) hy108 ry108 1 (by first | omega | decide) (by first | omega | decide)) (fun y111 s111 hy111 ry111 => ?_)
            refine xi_iastore (pc' := 11) (x' := y111) kc_12_10 rfl A108 rfl (xi_in (by decide) (by rw [hy108]; decide)) s111 (fun hh111 eh111 => ?_)
            have K112 := xk_pa K17 (xk_wa rfl) xD_140 hy111 ry111 eh111
            refine xi_iload_n (pc' := 12) (x := (-1)) kc_12_11 rfl rfl ?_
            refine xi_ireturn kc_12_12 mr_12 rfl ?_
            show xw J ov (d + 3) 32 (62, [(0, .ref 115), (1, .int x1), (2, .int x2), (3, .int x3), (4, .int x4)], [.int (-1)], hh111) _
            refine xi_ireturn kc_32_62 mr_32 rfl ?_
            have zcm1 : ((-1) : Int32).toInt = (-1) := by decide
            exact kk (-1) hh111 (by omega) K112
          · refine xi_cmf (pc' := 10) kc_11_7 rfl (xc_gt_f (X := x2.toInt) (Y := 11) rfl (by decide) (by omega)) ?_
            refine xi_iconst (pc' := 11) (v := 1) kc_11_10 rfl rfl ?_
            refine xi_goto (pc' := 15) kc_11_11 rfl ?_
            refine xi_ireturn kc_11_15 mr_11 rfl ?_
            show xw J ov (d + 1) 24 (7, [(0, .int x2)], [.int 1], hh16) _
            refine xi_ireturn kc_24_7 mr_24 rfl ?_
            show xw J ov (d + 2) 31 (4, [(0, .ref 115), (1, .int x2)], [.int 1], hh16) _
            refine xi_iff (pc' := 7) kc_31_4 rfl rfl ?_
            refine xi_aload_n (pc' := 8) (x := 115) kc_31_7 rfl rfl ?_
            refine xi_getfield (pc' := 11) (v := .ref 125) kc_31_8 rfl rfl rfl eh15.1 rfl ?_
            refine xi_iload_n (pc' := 12) (x := x2) kc_31_11 rfl rfl ?_
            refine xcps4 (xk_arr K17.1 xD_125) (fun y113 A113 hy113 ry113 => ?_)
            refine xcps4 (xj_get hy113 ry113 (i := x2) (by omega) (by omega)) (fun v114 ev114 bv114 dv114 => ?_)
            refine xi_iaload (pc' := 13) (v := v114) kc_31_12 rfl A113 (by decide) rfl (xi_in (by omega) (by rw [hy113]; omega)) ev114 ?_
            by_cases c115 : v114.toInt < 0
            · refine xi_ift (pc' := 20) kc_31_13 rfl (xc_lt_t (X := v114.toInt) (Y := 0) rfl (by decide) (by omega)) ?_
              refine xi_iconst (pc' := 21) (v := 0) kc_31_20 rfl rfl ?_
              refine xi_ireturn kc_31_21 mr_31 rfl ?_
              show xw J ov (d + 3) 32 (41, [(0, .ref 115), (1, .int x1), (2, .int x2), (3, .int x3), (4, .int x4)], [.int 0], hh16) _
              refine xi_ift (pc' := 57) kc_32_41 rfl rfl ?_
              refine xi_aload_n (pc' := 58) (x := 115) kc_32_57 rfl rfl ?_
              refine xi_iconst (pc' := 59) (v := (-1)) kc_32_58 rfl rfl ?_
              refine xi_virtual (mj := 12) (as := [.int (-1)]) (st1 := []) (lv0 := [(0, .ref 115), (1, .int (-1))]) kc_32_59 rfl rfl rfl rfl rfl eh15.1 (Nat.le_of_ble_eq_true rfl) (hJ _ _ _ _ (by decide)) (xm_le ml_12 rfl) rfl ?_
              refine xi_aload_n (pc' := 1) (x := 115) kc_12_0 rfl rfl ?_
              refine xi_getfield (pc' := 4) (v := .ref 140) kc_12_1 rfl rfl rfl eh15.1 rfl ?_
              refine xi_iload_n (pc' := 5) (x := (-1)) kc_12_4 rfl rfl ?_
              refine xi_ineg (pc' := 6) (v := 1) kc_12_5 rfl rfl ?_
              refine xi_dup2 (pc' := 7) kc_12_6 rfl ⟨rfl, rfl⟩ ?_
              refine xcps4 (xk_arr K17.1 xD_140) (fun y116 A116 hy116 ry116 => ?_)
              refine xcps4 (xj_get hy116 ry116 (i := 1) (by decide) (by decide)) (fun v117 ev117 bv117 dv117 => ?_)
              refine xi_iaload (pc' := 8) (v := v117) kc_12_7 rfl A116 (by decide) rfl (xi_in (by decide) (by rw [hy116]; decide)) ev117 ?_
              refine xi_iconst (pc' := 9) (v := 1) kc_12_8 rfl rfl ?_
              refine xcps2 (α := Int32) ((v117 : Int32) + 1) (fun v118 ev118 => ?_)
              have rv118 := xc_rng v118
              refine xi_iadd (pc' := 10) (v := v118) kc_12_9 rfl ev118 ?_
              refine xcps4 (xj_set (v := v118) hy116 ry116 1 (by first | omega | decide) (by first | omega | decide)) (fun y119 s119 hy119 ry119 => ?_)
              refine xi_iastore (pc' := 11) (x' := y119) kc_12_10 rfl A116 rfl (xi_in (by decide) (by rw [hy116]; decide)) s119 (fun hh119 eh119 => ?_)
              have K120 := xk_pa K17 (xk_wa rfl) xD_140 hy119 ry119 eh119
              refine xi_iload_n (pc' := 12) (x := (-1)) kc_12_11 rfl rfl ?_
              refine xi_ireturn kc_12_12 mr_12 rfl ?_
              show xw J ov (d + 3) 32 (62, [(0, .ref 115), (1, .int x1), (2, .int x2), (3, .int x3), (4, .int x4)], [.int (-1)], hh119) _
              refine xi_ireturn kc_32_62 mr_32 rfl ?_
              have zcm1 : ((-1) : Int32).toInt = (-1) := by decide
              exact kk (-1) hh119 (by omega) K120
            · refine xi_iff (pc' := 16) kc_31_13 rfl (xc_lt_f (X := v114.toInt) (Y := 0) rfl (by decide) (by omega)) ?_
              refine xi_iconst (pc' := 17) (v := 1) kc_31_16 rfl rfl ?_
              refine xi_goto (pc' := 21) kc_31_17 rfl ?_
              refine xi_ireturn kc_31_21 mr_31 rfl ?_
              show xw J ov (d + 3) 32 (41, [(0, .ref 115), (1, .int x1), (2, .int x2), (3, .int x3), (4, .int x4)], [.int 1], hh16) _
              refine xi_iff (pc' := 44) kc_32_41 rfl rfl ?_
              refine xi_iload_n (pc' := 45) (x := x1) kc_32_44 rfl rfl ?_
              by_cases c121 : x1.toInt = 0
              · refine xi_iff (pc' := 48) kc_32_45 rfl (xc_ne_f (X := x1.toInt) (Y := 0) rfl (by decide) (by omega)) ?_
                refine xi_aload_n (pc' := 49) (x := 115) kc_32_48 rfl rfl ?_
                refine xi_getfield (pc' := 52) (v := .ref 127) kc_32_49 rfl rfl rfl eh15.1 rfl ?_
                refine xi_iload_n (pc' := 53) (x := x2) kc_32_52 rfl rfl ?_
                refine xcps4 (xk_arr K17.1 xD_127) (fun y122 A122 hy122 ry122 => ?_)
                refine xcps4 (xj_get hy122 ry122 (i := x2) (by omega) (by omega)) (fun v123 ev123 bv123 dv123 => ?_)
                refine xi_baload (pc' := 54) (v := v123) kc_32_53 rfl A122 rfl (xi_in (by omega) (by rw [hy122]; omega)) ev123 ?_
                by_cases c124 : v123.toInt = 0
                · refine xi_iff (pc' := 57) kc_32_54 rfl (xc_ne_f (X := v123.toInt) (Y := 0) rfl (by decide) (by omega)) ?_
                  refine xi_aload_n (pc' := 58) (x := 115) kc_32_57 rfl rfl ?_
                  refine xi_iconst (pc' := 59) (v := (-1)) kc_32_58 rfl rfl ?_
                  refine xi_virtual (mj := 12) (as := [.int (-1)]) (st1 := []) (lv0 := [(0, .ref 115), (1, .int (-1))]) kc_32_59 rfl rfl rfl rfl rfl eh15.1 (Nat.le_of_ble_eq_true rfl) (hJ _ _ _ _ (by decide)) (xm_le ml_12 rfl) rfl ?_
                  refine xi_aload_n (pc' := 1) (x := 115) kc_12_0 rfl rfl ?_
                  refine xi_getfield (pc' := 4) (v := .ref 140) kc_12_1 rfl rfl rfl eh15.1 rfl ?_
                  refine xi_iload_n (pc' := 5) (x := (-1)) kc_12_4 rfl rfl ?_
                  refine xi_ineg (pc' := 6) (v := 1) kc_12_5 rfl rfl ?_
                  refine xi_dup2 (pc' := 7) kc_12_6 rfl ⟨rfl, rfl⟩ ?_
                  refine xcps4 (xk_arr K17.1 xD_140) (fun y125 A125 hy125 ry125 => ?_)
                  refine xcps4 (xj_get hy125 ry125 (i := 1) (by decide) (by decide)) (fun v126 ev126 bv126 dv126 => ?_)
                  refine xi_iaload (pc' := 8) (v := v126) kc_12_7 rfl A125 (by decide) rfl (xi_in (by decide) (by rw [hy125]; decide)) ev126 ?_
                  refine xi_iconst (pc' := 9) (v := 1) kc_12_8 rfl rfl ?_
                  refine xcps2 (α := Int32) ((v126 : Int32) + 1) (fun v127 ev127 => ?_)
                  have rv127 := xc_rng v127
                  refine xi_iadd (pc' := 10) (v := v127) kc_12_9 rfl ev127 ?_
                  refine xcps4 (xj_set (v := v127) hy125 ry125 1 (by first | omega | decide) (by first | omega | decide)) (fun y128 s128 hy128 ry128 => ?_)
                  refine xi_iastore (pc' := 11) (x' := y128) kc_12_10 rfl A125 rfl (xi_in (by decide) (by rw [hy125]; decide)) s128 (fun hh128 eh128 => ?_)
                  have K129 := xk_pa K17 (xk_wa rfl) xD_140 hy128 ry128 eh128
                  refine xi_iload_n (pc' := 12) (x := (-1)) kc_12_11 rfl rfl ?_
                  refine xi_ireturn kc_12_12 mr_12 rfl ?_
                  show xw J ov (d + 3) 32 (62, [(0, .ref 115), (1, .int x1), (2, .int x2), (3, .int x3), (4, .int x4)], [.int (-1)], hh128) _
                  refine xi_ireturn kc_32_62 mr_32 rfl ?_
                  have zcm1 : ((-1) : Int32).toInt = (-1) := by decide
                  exact kk (-1) hh128 (by omega) K129
                · refine xi_ift (pc' := 63) kc_32_54 rfl (xc_ne_t (X := v123.toInt) (Y := 0) rfl (by decide) (by omega)) ?_
                  refine xi_iload_n (pc' := 64) (x := x3) kc_32_63 rfl rfl ?_
                  refine xi_iconst (pc' := 65) (v := 1) kc_32_64 rfl rfl ?_
                  by_cases c130 : x3.toInt < 1
                  · refine xi_cmt (pc' := 73) kc_32_65 rfl (xc_lt_t (X := x3.toInt) (Y := 1) rfl (by decide) (by omega)) ?_
                    refine xi_aload_n (pc' := 74) (x := 115) kc_32_73 rfl rfl ?_
                    refine xi_bipush (pc' := 76) (v := (-4)) kc_32_74 rfl rfl ?_
                    refine xi_virtual (mj := 12) (as := [.int (-4)]) (st1 := []) (lv0 := [(0, .ref 115), (1, .int (-4))]) kc_32_76 rfl rfl rfl rfl rfl eh15.1 (Nat.le_of_ble_eq_true rfl) (hJ _ _ _ _ (by decide)) (xm_le ml_12 rfl) rfl ?_
                    refine xi_aload_n (pc' := 1) (x := 115) kc_12_0 rfl rfl ?_
                    refine xi_getfield (pc' := 4) (v := .ref 140) kc_12_1 rfl rfl rfl eh15.1 rfl ?_
                    refine xi_iload_n (pc' := 5) (x := (-4)) kc_12_4 rfl rfl ?_
                    refine xi_ineg (pc' := 6) (v := 4) kc_12_5 rfl rfl ?_
                    refine xi_dup2 (pc' := 7) kc_12_6 rfl ⟨rfl, rfl⟩ ?_
                    refine xcps4 (xk_arr K17.1 xD_140) (fun y131 A131 hy131 ry131 => ?_)
                    refine xcps4 (xj_get hy131 ry131 (i := 4) (by decide) (by decide)) (fun v132 ev132 bv132 dv132 => ?_)
                    refine xi_iaload (pc' := 8) (v := v132) kc_12_7 rfl A131 (by decide) rfl (xi_in (by decide) (by rw [hy131]; decide)) ev132 ?_
                    refine xi_iconst (pc' := 9) (v := 1) kc_12_8 rfl rfl ?_
                    refine xcps2 (α := Int32) ((v132 : Int32) + 1) (fun v133 ev133 => ?_)
                    have rv133 := xc_rng v133
                    refine xi_iadd (pc' := 10) (v := v133) kc_12_9 rfl ev133 ?_
                    refine xcps4 (xj_set (v := v133) hy131 ry131 4 (by first | omega | decide) (by first | omega | decide)) (fun y134 s134 hy134 ry134 => ?_)
                    refine xi_iastore (pc' := 11) (x' := y134) kc_12_10 rfl A131 rfl (xi_in (by decide) (by rw [hy131]; decide)) s134 (fun hh134 eh134 => ?_)
                    have K135 := xk_pa K17 (xk_wa rfl) xD_140 hy134 ry134 eh134
                    refine xi_iload_n (pc' := 12) (x := (-4)) kc_12_11 rfl rfl ?_
                    refine xi_ireturn kc_12_12 mr_12 rfl ?_
                    show xw J ov (d + 3) 32 (79, [(0, .ref 115), (1, .int x1), (2, .int x2), (3, .int x3), (4, .int x4)], [.int (-4)], hh134) _
                    refine xi_ireturn kc_32_79 mr_32 rfl ?_
                    have zcm4 : ((-4) : Int32).toInt = (-4) := by decide
                    exact kk (-4) hh134 (by omega) K135
                  · refine xi_cmf (pc' := 68) kc_32_65 rfl (xc_lt_f (X := x3.toInt) (Y := 1) rfl (by decide) (by omega)) ?_
                    refine xi_iload (pc' := 70) (x := x4) kc_32_68 rfl rfl ?_
                    by_cases c136 : 0 ≤ x4.toInt
                    · refine xi_ift (pc' := 80) kc_32_70 rfl (xc_ge_t (X := x4.toInt) (Y := 0) rfl (by decide) (by omega)) ?_
                      refine xi_iload_n (pc' := 81) (x := x3) kc_32_80 rfl rfl ?_
                      refine xi_bipush (pc' := 83) (v := 99) kc_32_81 rfl rfl ?_
                      by_cases c137 : 99 < x3.toInt
                      · refine xi_cmt (pc' := 103) kc_32_83 rfl (xc_gt_t (X := x3.toInt) (Y := 99) rfl (by decide) (by omega)) ?_
                        refine xi_aload_n (pc' := 104) (x := 115) kc_32_103 rfl rfl ?_
                        refine xi_bipush (pc' := 106) (v := (-6)) kc_32_104 rfl rfl ?_
                        refine xi_virtual (mj := 12) (as := [.int (-6)]) (st1 := []) (lv0 := [(0, .ref 115), (1, .int (-6))]) kc_32_106 rfl rfl rfl rfl rfl eh15.1 (Nat.le_of_ble_eq_true rfl) (hJ _ _ _ _ (by decide)) (xm_le ml_12 rfl) rfl ?_
                        refine xi_aload_n (pc' := 1) (x := 115) kc_12_0 rfl rfl ?_
                        refine xi_getfield (pc' := 4) (v := .ref 140) kc_12_1 rfl rfl rfl eh15.1 rfl ?_
                        refine xi_iload_n (pc' := 5) (x := (-6)) kc_12_4 rfl rfl ?_
                        refine xi_ineg (pc' := 6) (v := 6) kc_12_5 rfl rfl ?_
                        refine xi_dup2 (pc' := 7) kc_12_6 rfl ⟨rfl, rfl⟩ ?_
                        refine xcps4 (xk_arr K17.1 xD_140) (fun y138 A138 hy138 ry138 => ?_)
                        refine xcps4 (xj_get hy138 ry138 (i := 6) (by decide) (by decide)) (fun v139 ev139 bv139 dv139 => ?_)
                        refine xi_iaload (pc' := 8) (v := v139) kc_12_7 rfl A138 (by decide) rfl (xi_in (by decide) (by rw [hy138]; decide)) ev139 ?_
                        refine xi_iconst (pc' := 9) (v := 1) kc_12_8 rfl rfl ?_
                        refine xcps2 (α := Int32) ((v139 : Int32) + 1) (fun v140 ev140 => ?_)
                        have rv140 := xc_rng v140
                        refine xi_iadd (pc' := 10) (v := v140) kc_12_9 rfl ev140 ?_
                        refine xcps4 (xj_set (v := v140) hy138 ry138 6 (by first | omega | decide) (by first | omega | decide)) (fun y141 s141 hy141 ry141 => ?_)
                        refine xi_iastore (pc' := 11) (x' := y141) kc_12_10 rfl A138 rfl (xi_in (by decide) (by rw [hy138]; decide)) s141 (fun hh141 eh141 => ?_)
                        have K142 := xk_pa K17 (xk_wa rfl) xD_140 hy141 ry141 eh141
                        refine xi_iload_n (pc' := 12) (x := (-6)) kc_12_11 rfl rfl ?_
                        refine xi_ireturn kc_12_12 mr_12 rfl ?_
                        show xw J ov (d + 3) 32 (109, [(0, .ref 115), (1, .int x1), (2, .int x2), (3, .int x3), (4, .int x4)], [.int (-6)], hh141) _
                        refine xi_ireturn kc_32_109 mr_32 rfl ?_
                        have zcm6 : ((-6) : Int32).toInt = (-6) := by decide
                        exact kk (-6) hh141 (by omega) K142
                      · refine xi_cmf (pc' := 86) kc_32_83 rfl (xc_gt_f (X := x3.toInt) (Y := 99) rfl (by decide) (by omega)) ?_
                        refine xi_iload (pc' := 88) (x := x4) kc_32_86 rfl rfl ?_
                        refine xi_sipush (pc' := 91) (v := 600) kc_32_88 rfl rfl ?_
                        by_cases c143 : 600 < x4.toInt
                        · refine xi_cmt (pc' := 103) kc_32_91 rfl (xc_gt_t (X := x4.toInt) (Y := 600) rfl (by decide) (by omega)) ?_
                          refine xi_aload_n (pc' := 104) (x := 115) kc_32_103 rfl rfl ?_
                          refine xi_bipush (pc' := 106) (v := (-6)) kc_32_104 rfl rfl ?_
                          refine xi_virtual (mj := 12) (as := [.int (-6)]) (st1 := []) (lv0 := [(0, .ref 115), (1, .int (-6))]) kc_32_106 rfl rfl rfl rfl rfl eh15.1 (Nat.le_of_ble_eq_true rfl) (hJ _ _ _ _ (by decide)) (xm_le ml_12 rfl) rfl ?_
                          refine xi_aload_n (pc' := 1) (x := 115) kc_12_0 rfl rfl ?_
                          refine xi_getfield (pc' := 4) (v := .ref 140) kc_12_1 rfl rfl rfl eh15.1 rfl ?_
                          refine xi_iload_n (pc' := 5) (x := (-6)) kc_12_4 rfl rfl ?_
                          refine xi_ineg (pc' := 6) (v := 6) kc_12_5 rfl rfl ?_
                          refine xi_dup2 (pc' := 7) kc_12_6 rfl ⟨rfl, rfl⟩ ?_
                          refine xcps4 (xk_arr K17.1 xD_140) (fun y144 A144 hy144 ry144 => ?_)
                          refine xcps4 (xj_get hy144 ry144 (i := 6) (by decide) (by decide)) (fun v145 ev145 bv145 dv145 => ?_)
                          refine xi_iaload (pc' := 8) (v := v145) kc_12_7 rfl A144 (by decide) rfl (xi_in (by decide) (by rw [hy144]; decide)) ev145 ?_
                          refine xi_iconst (pc' := 9) (v := 1) kc_12_8 rfl rfl ?_
                          refine xcps2 (α := Int32) ((v145 : Int32) + 1) (fun v146 ev146 => ?_)
                          have rv146 := xc_rng v146
                          refine xi_iadd (pc' := 10) (v := v146) kc_12_9 rfl ev146 ?_
                          refine xcps4 (xj_set (v := v146) hy144 ry144 6 (by first | omega | decide) (by first | omega | decide)) (fun y147 s147 hy147 ry147 => ?_)
                          refine xi_iastore (pc' := 11) (x' := y147) kc_12_10 rfl A144 rfl (xi_in (by decide) (by rw [hy144]; decide)) s147 (fun hh147 eh147 => ?_)
                          have K148 := xk_pa K17 (xk_wa rfl) xD_140 hy147 ry147 eh147
                          refine xi_iload_n (pc' := 12) (x := (-6)) kc_12_11 rfl rfl ?_
                          refine xi_ireturn kc_12_12 mr_12 rfl ?_
                          show xw J ov (d + 3) 32 (109, [(0, .ref 115), (1, .int x1), (2, .int x2), (3, .int x3), (4, .int x4)], [.int (-6)], hh147) _
                          refine xi_ireturn kc_32_109 mr_32 rfl ?_
                          have zcm6 : ((-6) : Int32).toInt = (-6) := by decide
                          exact kk (-6) hh147 (by omega) K148
                        · refine xi_cmf (pc' := 94) kc_32_91 rfl (xc_gt_f (X := x4.toInt) (Y := 600) rfl (by decide) (by omega)) ?_
                          refine xi_aload_n (pc' := 95) (x := 115) kc_32_94 rfl rfl ?_
                          refine xi_getfield (pc' := 98) (v := .int u5) kc_32_95 rfl rfl rfl eh15.1 rfl ?_
                          refine xi_bipush (pc' := 100) (v := 10) kc_32_98 rfl rfl ?_
                          by_cases c149 : u5.toInt = 10
                          · refine xi_cmf (pc' := 103) kc_32_100 rfl (xc_ne_f (X := u5.toInt) (Y := 10) rfl (by decide) (by omega)) ?_
                            refine xi_aload_n (pc' := 104) (x := 115) kc_32_103 rfl rfl ?_
                            refine xi_bipush (pc' := 106) (v := (-6)) kc_32_104 rfl rfl ?_
                            refine xi_virtual (mj := 12) (as := [.int (-6)]) (st1 := []) (lv0 := [(0, .ref 115), (1, .int (-6))]) kc_32_106 rfl rfl rfl rfl rfl eh15.1 (Nat.le_of_ble_eq_true rfl) (hJ _ _ _ _ (by decide)) (xm_le ml_12 rfl) rfl ?_
                            refine xi_aload_n (pc' := 1) (x := 115) kc_12_0 rfl rfl ?_
                            refine xi_getfield (pc' := 4) (v := .ref 140) kc_12_1 rfl rfl rfl eh15.1 rfl ?_
                            refine xi_iload_n (pc' := 5) (x := (-6)) kc_12_4 rfl rfl ?_
                            refine xi_ineg (pc' := 6) (v := 6) kc_12_5 rfl rfl ?_
                            refine xi_dup2 (pc' := 7) kc_12_6 rfl ⟨rfl, rfl⟩ ?_
                            refine xcps4 (xk_arr K17.1 xD_140) (fun y150 A150 hy150 ry150 => ?_)
                            refine xcps4 (xj_get hy150 ry150 (i := 6) (by decide) (by decide)) (fun v151 ev151 bv151 dv151 => ?_)
                            refine xi_iaload (pc' := 8) (v := v151) kc_12_7 rfl A150 (by decide) rfl (xi_in (by decide) (by rw [hy150]; decide)) ev151 ?_
                            refine xi_iconst (pc' := 9) (v := 1) kc_12_8 rfl rfl ?_
                            refine xcps2 (α := Int32) ((v151 : Int32) + 1) (fun v152 ev152 => ?_)
                            have rv152 := xc_rng v152
                            refine xi_iadd (pc' := 10) (v := v152) kc_12_9 rfl ev152 ?_
                            refine xcps4 (xj_set (v := v152) hy150 ry150 6 (by first | omega | decide) (by first | omega | decide)) (fun y153 s153 hy153 ry153 => ?_)
                            refine xi_iastore (pc' := 11) (x' := y153) kc_12_10 rfl A150 rfl (xi_in (by decide) (by rw [hy150]; decide)) s153 (fun hh153 eh153 => ?_)
                            have K154 := xk_pa K17 (xk_wa rfl) xD_140 hy153 ry153 eh153
                            refine xi_iload_n (pc' := 12) (x := (-6)) kc_12_11 rfl rfl ?_
                            refine xi_ireturn kc_12_12 mr_12 rfl ?_
                            show xw J ov (d + 3) 32 (109, [(0, .ref 115), (1, .int x1), (2, .int x2), (3, .int x3), (4, .int x4)], [.int (-6)], hh153) _
                            refine xi_ireturn kc_32_109 mr_32 rfl ?_
                            have zcm6 : ((-6) : Int32).toInt = (-6) := by decide
                            exact kk (-6) hh153 (by omega) K154
                          · refine xi_cmt (pc' := 110) kc_32_100 rfl (xc_ne_t (X := u5.toInt) (Y := 10) rfl (by decide) (by omega)) ?_
                            refine xi_aload_n (pc' := 111) (x := 115) kc_32_110 rfl rfl ?_
                            refine xi_getfield (pc' := 114) (v := .ref 135) kc_32_111 rfl rfl rfl eh15.1 rfl ?_
                            refine xi_aload_n (pc' := 115) (x := 115) kc_32_114 rfl rfl ?_
                            refine xi_getfield (pc' := 118) (v := .int u5) kc_32_115 rfl rfl rfl eh15.1 rfl ?_
                            refine xi_iload_n (pc' := 119) (x := x1) kc_32_118 rfl rfl ?_
                            refine xcps4 (xk_arr K17.1 xD_135) (fun y155 A155 hy155 ry155 => ?_)
                            refine xcps4 (xj_set (v := x1) hy155 ry155 u5 (by first | omega | decide) (by first | omega | decide)) (fun y156 s156 hy156 ry156 => ?_)
                            refine xi_iastore (pc' := 120) (x' := y156) kc_32_119 rfl A155 rfl (xi_in (by omega) (by rw [hy155]; omega)) s156 (fun hh156 eh156 => ?_)
                            have K157 := xk_pa K17 (xk_wa rfl) xD_135 hy156 ry156 eh156
                            refine xi_aload_n (pc' := 121) (x := 115) kc_32_120 rfl rfl ?_
                            have A158 := ((eh156.2.1 115 (by decide)).trans eh15.1)
                            refine xi_getfield (pc' := 124) (v := .ref 136) kc_32_121 rfl rfl rfl A158 rfl ?_
                            refine xi_aload_n (pc' := 125) (x := 115) kc_32_124 rfl rfl ?_
                            refine xi_getfield (pc' := 128) (v := .int u5) kc_32_125 rfl rfl rfl A158 rfl ?_
                            refine xi_iload_n (pc' := 129) (x := x2) kc_32_128 rfl rfl ?_
                            refine xcps4 (xk_arr K157.1 xD_136) (fun y159 A159 hy159 ry159 => ?_)
                            refine xcps4 (xj_set (v := x2) hy159 ry159 u5 (by first | omega | decide) (by first | omega | decide)) (fun y160 s160 hy160 ry160 => ?_)
                            refine xi_iastore (pc' := 130) (x' := y160) kc_32_129 rfl A159 rfl (xi_in (by omega) (by rw [hy159]; omega)) s160 (fun hh160 eh160 => ?_)
                            have K161 := xk_pa K157 (xk_wa rfl) xD_136 hy160 ry160 eh160
                            refine xi_aload_n (pc' := 131) (x := 115) kc_32_130 rfl rfl ?_
                            have A162 := ((eh160.2.1 115 (by decide)).trans A158)
                            refine xi_getfield (pc' := 134) (v := .ref 137) kc_32_131 rfl rfl rfl A162 rfl ?_
                            refine xi_aload_n (pc' := 135) (x := 115) kc_32_134 rfl rfl ?_
                            refine xi_getfield (pc' := 138) (v := .int u5) kc_32_135 rfl rfl rfl A162 rfl ?_
                            refine xi_iload_n (pc' := 139) (x := x3) kc_32_138 rfl rfl ?_
                            refine xcps4 (xk_arr K161.1 xD_137) (fun y163 A163 hy163 ry163 => ?_)
                            refine xcps4 (xj_set (v := x3) hy163 ry163 u5 (by first | omega | decide) (by first | omega | decide)) (fun y164 s164 hy164 ry164 => ?_)
                            refine xi_iastore (pc' := 140) (x' := y164) kc_32_139 rfl A163 rfl (xi_in (by omega) (by rw [hy163]; omega)) s164 (fun hh164 eh164 => ?_)
                            have K165 := xk_pa K161 (xk_wa rfl) xD_137 hy164 ry164 eh164
                            refine xi_aload_n (pc' := 141) (x := 115) kc_32_140 rfl rfl ?_
                            have A166 := ((eh164.2.1 115 (by decide)).trans A162)
                            refine xi_getfield (pc' := 144) (v := .ref 138) kc_32_141 rfl rfl rfl A166 rfl ?_
                            refine xi_aload_n (pc' := 145) (x := 115) kc_32_144 rfl rfl ?_
                            refine xi_getfield (pc' := 148) (v := .int u5) kc_32_145 rfl rfl rfl A166 rfl ?_
                            refine xi_iload (pc' := 150) (x := x4) kc_32_148 rfl rfl ?_
                            refine xcps4 (xk_arr K165.1 xD_138) (fun y167 A167 hy167 ry167 => ?_)
                            refine xcps4 (xj_set (v := x4) hy167 ry167 u5 (by first | omega | decide) (by first | omega | decide)) (fun y168 s168 hy168 ry168 => ?_)
                            refine xi_iastore (pc' := 151) (x' := y168) kc_32_150 rfl A167 rfl (xi_in (by omega) (by rw [hy167]; omega)) s168 (fun hh168 eh168 => ?_)
                            have K169 := xk_pa K165 (xk_wa rfl) xD_138 hy168 ry168 eh168
                            refine xi_aload_n (pc' := 152) (x := 115) kc_32_151 rfl rfl ?_
                            have A170 := ((eh168.2.1 115 (by decide)).trans A166)
                            refine xi_getfield (pc' := 155) (v := .ref 139) kc_32_152 rfl rfl rfl A170 rfl ?_
                            refine xi_aload_n (pc' := 156) (x := 115) kc_32_155 rfl rfl ?_
                            refine xi_getfield (pc' := 159) (v := .int u5) kc_32_156 rfl rfl rfl A170 rfl ?_
                            refine xi_iconst (pc' := 160) (v := 0) kc_32_159 rfl rfl ?_
                            refine xcps4 (xk_arr K169.1 xD_139) (fun y171 A171 hy171 ry171 => ?_)
                            refine xcps4 (xj_set (v := 0) hy171 ry171 u5 (by first | omega | decide) (by first | omega | decide)) (fun y172 s172 hy172 ry172 => ?_)
                            refine xi_bastore (pc' := 161) (x' := y172) kc_32_160 rfl A171 rfl (xi_in (by omega) (by rw [hy171]; omega)) s172 (fun hh172 eh172 => ?_)
                            have K173 := xk_pa K169 (xk_wa rfl) xD_139 hy172 ry172 eh172
                            refine xi_aload_n (pc' := 162) (x := 115) kc_32_161 rfl rfl ?_
                            refine xi_dup (pc' := 163) kc_32_162 rfl rfl ?_
                            have A174 := ((eh172.2.1 115 (by decide)).trans A170)
                            refine xi_getfield (pc' := 166) (v := .int u5) kc_32_163 rfl rfl rfl A174 rfl ?_
                            refine xi_iconst (pc' := 167) (v := 1) kc_32_166 rfl rfl ?_
                            refine xcps2 (α := Int32) (u5 + 1) (fun v175 ev175 => ?_)
                            have zv175 : v175.toInt = (u5.toInt + 1) := by rw [← ev175]; exact (xz_add (X := u5.toInt) (Y := 1) rfl (by decide) (by omega) (by omega)).trans (by omega)
                            refine xi_iadd (pc' := 168) (v := v175) kc_32_167 rfl ev175 ?_
                            refine xi_putfield (pc' := 171) (fs' := [.int 0, .int u2, .ref 116, .ref 117, .ref 118, .ref 119, .ref 120, .ref 121, .ref 122, .ref 123, .ref 124, .ref 125, .ref 126, .ref 127, .ref 128, .ref 129, .int u3, .ref 130, .int u4, .ref 131, .ref 132, .ref 133, .ref 134, .int v175, .ref 135, .ref 136, .ref 137, .ref 138, .ref 139, .ref 140, .ref 141, .ref 142, .int u6, .int u7, .int u8, .ref 143, .ref 144, .ref 145, .ref 146, .ref 147, .ref 148, .int u9, .ref 149, .ref 150, .ref 151, .int u10, .ref 152, .ref 153, .ref 154, .ref 155, .ref 156, .ref 157, .ref 158, .ref 159, .int u11, .ref 160, .int u12, .ref 161, .ref 162, .ref 163, .ref 164, .int u13, .ref 165, .ref 166]) kc_32_168 rfl rfl rfl A174 rfl rfl rfl (Nat.le_of_ble_eq_true rfl) rfl (fun hh177 eh176 => ?_)
                            have K178 := xk_pf (k := 23) (v := v175) K173 (xk_wf rfl) xD_115 A174 rfl (by first | omega | decide) (by first | omega | decide) eh176 rfl
                            refine xi_aload_n (pc' := 172) (x := 115) kc_32_171 rfl rfl ?_
                            refine xi_iconst (pc' := 173) (v := 0) kc_32_172 rfl rfl ?_
                            refine xi_putfield (pc' := 176) (fs' := [.int 0, .int u2, .ref 116, .ref 117, .ref 118, .ref 119, .ref 120, .ref 121, .ref 122, .ref 123, .ref 124, .ref 125, .ref 126, .ref 127, .ref 128, .ref 129, .int u3, .ref 130, .int u4, .ref 131, .ref 132, .ref 133, .ref 134, .int v175, .ref 135, .ref 136, .ref 137, .ref 138, .ref 139, .ref 140, .ref 141, .ref 142, .int u6, .int u7, .int u8, .ref 143, .ref 144, .ref 145, .ref 146, .ref 147, .ref 148, .int 0, .ref 149, .ref 150, .ref 151, .int u10, .ref 152, .ref 153, .ref 154, .ref 155, .ref 156, .ref 157, .ref 158, .ref 159, .int u11, .ref 160, .int u12, .ref 161, .ref 162, .ref 163, .ref 164, .int u13, .ref 165, .ref 166]) kc_32_173 rfl rfl rfl eh176.1 rfl rfl rfl (Nat.le_of_ble_eq_true rfl) rfl (fun hh180 eh179 => ?_)
                            have K181 := xk_pf (k := 41) (v := 0) K178 (xk_wf rfl) xD_115 eh176.1 rfl (by first | omega | decide) (by first | omega | decide) eh179 rfl
                            refine xi_aload_n (pc' := 177) (x := 115) kc_32_176 rfl rfl ?_
                            refine xi_getfield (pc' := 180) (v := .int v175) kc_32_177 rfl rfl rfl eh179.1 rfl ?_
                            refine xi_iconst (pc' := 181) (v := 1) kc_32_180 rfl rfl ?_
                            refine xcps2 (α := Int32) (v175 - 1) (fun v182 ev182 => ?_)
                            have zv182 : v182.toInt = u5.toInt := by rw [← ev182]; exact (xz_sub (X := (u5.toInt + 1)) (Y := 1) zv175 (by decide) (by omega) (by omega)).trans (by omega)
                            refine xi_isub (pc' := 182) (v := v182) kc_32_181 rfl ev182 ?_
                            refine xi_ireturn kc_32_182 mr_32 rfl ?_
                            exact kk v182 hh180 (by omega) K181
                    · refine xi_iff (pc' := 73) kc_32_70 rfl (xc_ge_f (X := x4.toInt) (Y := 0) rfl (by decide) (by omega)) ?_
                      refine xi_aload_n (pc' := 74) (x := 115) kc_32_73 rfl rfl ?_
                      refine xi_bipush (pc' := 76) (v := (-4)) kc_32_74 rfl rfl ?_
                      refine xi_virtual (mj := 12) (as := [.int (-4)]) (st1 := []) (lv0 := [(0, .ref 115), (1, .int (-4))]) kc_32_76 rfl rfl rfl rfl rfl eh15.1 (Nat.le_of_ble_eq_true rfl) (hJ _ _ _ _ (by decide)) (xm_le ml_12 rfl) rfl ?_
                      refine xi_aload_n (pc' := 1) (x := 115) kc_12_0 rfl rfl ?_
                      refine xi_getfield (pc' := 4) (v := .ref 140) kc_12_1 rfl rfl rfl eh15.1 rfl ?_
                      refine xi_iload_n (pc' := 5) (x := (-4)) kc_12_4 rfl rfl ?_
                      refine xi_ineg (pc' := 6) (v := 4) kc_12_5 rfl rfl ?_
                      refine xi_dup2 (pc' := 7) kc_12_6 rfl ⟨rfl, rfl⟩ ?_
                      refine xcps4 (xk_arr K17.1 xD_140) (fun y183 A183 hy183 ry183 => ?_)
                      refine xcps4 (xj_get hy183 ry183 (i := 4) (by decide) (by decide)) (fun v184 ev184 bv184 dv184 => ?_)
                      refine xi_iaload (pc' := 8) (v := v184) kc_12_7 rfl A183 (by decide) rfl (xi_in (by decide) (by rw [hy183]; decide)) ev184 ?_
                      refine xi_iconst (pc' := 9) (v := 1) kc_12_8 rfl rfl ?_
                      refine xcps2 (α := Int32) ((v184 : Int32) + 1) (fun v185 ev185 => ?_)
                      have rv185 := xc_rng v185
                      refine xi_iadd (pc' := 10) (v := v185) kc_12_9 rfl ev185 ?_
                      refine xcps4 (xj_set (v := v185) hy183 ry183 4 (by first | omega | decide) (by first | omega | decide)) (fun y186 s186 hy186 ry186 => ?_)
                      refine xi_iastore (pc' := 11) (x' := y186) kc_12_10 rfl A183 rfl (xi_in (by decide) (by rw [hy183]; decide)) s186 (fun hh186 eh186 => ?_)
                      have K187 := xk_pa K17 (xk_wa rfl) xD_140 hy186 ry186 eh186
                      refine xi_iload_n (pc' := 12) (x := (-4)) kc_12_11 rfl rfl ?_
                      refine xi_ireturn kc_12_12 mr_12 rfl ?_
                      show xw J ov (d + 3) 32 (79, [(0, .ref 115), (1, .int x1), (2, .int x2), (3, .int x3), (4, .int x4)], [.int (-4)], hh186) _
                      refine xi_ireturn kc_32_79 mr_32 rfl ?_
                      have zcm4 : ((-4) : Int32).toInt = (-4) := by decide
                      exact kk (-4) hh186 (by omega) K187
              · refine xi_ift (pc' := 63) kc_32_45 rfl (xc_ne_t (X := x1.toInt) (Y := 0) rfl (by decide) (by omega)) ?_
                refine xi_iload_n (pc' := 64) (x := x3) kc_32_63 rfl rfl ?_
                refine xi_iconst (pc' := 65) (v := 1) kc_32_64 rfl rfl ?_
                by_cases c188 : x3.toInt < 1
                · refine xi_cmt (pc' := 73) kc_32_65 rfl (xc_lt_t (X := x3.toInt) (Y := 1) rfl (by decide) (by omega)) ?_
                  refine xi_aload_n (pc' := 74) (x := 115) kc_32_73 rfl rfl ?_
                  refine xi_bipush (pc' := 76) (v := (-4)) kc_32_74 rfl rfl ?_
                  refine xi_virtual (mj := 12) (as := [.int (-4)]) (st1 := []) (lv0 := [(0, .ref 115), (1, .int (-4))]) kc_32_76 rfl rfl rfl rfl rfl eh15.1 (Nat.le_of_ble_eq_true rfl) (hJ _ _ _ _ (by decide)) (xm_le ml_12 rfl) rfl ?_
                  refine xi_aload_n (pc' := 1) (x := 115) kc_12_0 rfl rfl ?_
                  refine xi_getfield (pc' := 4) (v := .ref 140) kc_12_1 rfl rfl rfl eh15.1 rfl ?_
                  refine xi_iload_n (pc' := 5) (x := (-4)) kc_12_4 rfl rfl ?_
                  refine xi_ineg (pc' := 6) (v := 4) kc_12_5 rfl rfl ?_
                  refine xi_dup2 (pc' := 7) kc_12_6 rfl ⟨rfl, rfl⟩ ?_
                  refine xcps4 (xk_arr K17.1 xD_140) (fun y189 A189 hy189 ry189 => ?_)
                  refine xcps4 (xj_get hy189 ry189 (i := 4) (by decide) (by decide)) (fun v190 ev190 bv190 dv190 => ?_)
                  refine xi_iaload (pc' := 8) (v := v190) kc_12_7 rfl A189 (by decide) rfl (xi_in (by decide) (by rw [hy189]; decide)) ev190 ?_
                  refine xi_iconst (pc' := 9) (v := 1) kc_12_8 rfl rfl ?_
                  refine xcps2 (α := Int32) ((v190 : Int32) + 1) (fun v191 ev191 => ?_)
                  have rv191 := xc_rng v191
                  refine xi_iadd (pc' := 10) (v := v191) kc_12_9 rfl ev191 ?_
                  refine xcps4 (xj_set (v := v191) hy189 ry189 4 (by first | omega | decide) (by first | omega | decide)) (fun y192 s192 hy192 ry192 => ?_)
                  refine xi_iastore (pc' := 11) (x' := y192) kc_12_10 rfl A189 rfl (xi_in (by decide) (by rw [hy189]; decide)) s192 (fun hh192 eh192 => ?_)
                  have K193 := xk_pa K17 (xk_wa rfl) xD_140 hy192 ry192 eh192
                  refine xi_iload_n (pc' := 12) (x := (-4)) kc_12_11 rfl rfl ?_
                  refine xi_ireturn kc_12_12 mr_12 rfl ?_
                  show xw J ov (d + 3) 32 (79, [(0, .ref 115), (1, .int x1), (2, .int x2), (3, .int x3), (4, .int x4)], [.int (-4)], hh192) _
                  refine xi_ireturn kc_32_79 mr_32 rfl ?_
                  have zcm4 : ((-4) : Int32).toInt = (-4) := by decide
                  exact kk (-4) hh192 (by omega) K193
                · refine xi_cmf (pc' := 68) kc_32_65 rfl (xc_lt_f (X := x3.toInt) (Y := 1) rfl (by decide) (by omega)) ?_
                  refine xi_iload (pc' := 70) (x := x4) kc_32_68 rfl rfl ?_
                  by_cases c194 : 0 ≤ x4.toInt
                  · refine xi_ift (pc' := 80) kc_32_70 rfl (xc_ge_t (X := x4.toInt) (Y := 0) rfl (by decide) (by omega)) ?_
                    refine xi_iload_n (pc' := 81) (x := x3) kc_32_80 rfl rfl ?_
                    refine xi_bipush (pc' := 83) (v := 99) kc_32_81 rfl rfl ?_
                    by_cases c195 : 99 < x3.toInt
                    · refine xi_cmt (pc' := 103) kc_32_83 rfl (xc_gt_t (X := x3.toInt) (Y := 99) rfl (by decide) (by omega)) ?_
                      refine xi_aload_n (pc' := 104) (x := 115) kc_32_103 rfl rfl ?_
                      refine xi_bipush (pc' := 106) (v := (-6)) kc_32_104 rfl rfl ?_
                      refine xi_virtual (mj := 12) (as := [.int (-6)]) (st1 := []) (lv0 := [(0, .ref 115), (1, .int (-6))]) kc_32_106 rfl rfl rfl rfl rfl eh15.1 (Nat.le_of_ble_eq_true rfl) (hJ _ _ _ _ (by decide)) (xm_le ml_12 rfl) rfl ?_
                      refine xi_aload_n (pc' := 1) (x := 115) kc_12_0 rfl rfl ?_
                      refine xi_getfield (pc' := 4) (v := .ref 140) kc_12_1 rfl rfl rfl eh15.1 rfl ?_
                      refine xi_iload_n (pc' := 5) (x := (-6)) kc_12_4 rfl rfl ?_
                      refine xi_ineg (pc' := 6) (v := 6) kc_12_5 rfl rfl ?_
                      refine xi_dup2 (pc' := 7) kc_12_6 rfl ⟨rfl, rfl⟩ ?_
                      refine xcps4 (xk_arr K17.1 xD_140) (fun y196 A196 hy196 ry196 => ?_)
                      refine xcps4 (xj_get hy196 ry196 (i := 6) (by decide) (by decide)) (fun v197 ev197 bv197 dv197 => ?_)
                      refine xi_iaload (pc' := 8) (v := v197) kc_12_7 rfl A196 (by decide) rfl (xi_in (by decide) (by rw [hy196]; decide)) ev197 ?_
                      refine xi_iconst (pc' := 9) (v := 1) kc_12_8 rfl rfl ?_
                      refine xcps2 (α := Int32) ((v197 : Int32) + 1) (fun v198 ev198 => ?_)
                      have rv198 := xc_rng v198
                      refine xi_iadd (pc' := 10) (v := v198) kc_12_9 rfl ev198 ?_
                      refine xcps4 (xj_set (v := v198) hy196 ry196 6 (by first | omega | decide) (by first | omega | decide)) (fun y199 s199 hy199 ry199 => ?_)
                      refine xi_iastore (pc' := 11) (x' := y199) kc_12_10 rfl A196 rfl (xi_in (by decide) (by rw [hy196]; decide)) s199 (fun hh199 eh199 => ?_)
                      have K200 := xk_pa K17 (xk_wa rfl) xD_140 hy199 ry199 eh199
                      refine xi_iload_n (pc' := 12) (x := (-6)) kc_12_11 rfl rfl ?_
                      refine xi_ireturn kc_12_12 mr_12 rfl ?_
                      show xw J ov (d + 3) 32 (109, [(0, .ref 115), (1, .int x1), (2, .int x2), (3, .int x3), (4, .int x4)], [.int (-6)], hh199) _
                      refine xi_ireturn kc_32_109 mr_32 rfl ?_
                      have zcm6 : ((-6) : Int32).toInt = (-6) := by decide
                      exact kk (-6) hh199 (by omega) K200
                    · refine xi_cmf (pc' := 86) kc_32_83 rfl (xc_gt_f (X := x3.toInt) (Y := 99) rfl (by decide) (by omega)) ?_
                      refine xi_iload (pc' := 88) (x := x4) kc_32_86 rfl rfl ?_
                      refine xi_sipush (pc' := 91) (v := 600) kc_32_88 rfl rfl ?_
                      by_cases c201 : 600 < x4.toInt
                      · refine xi_cmt (pc' := 103) kc_32_91 rfl (xc_gt_t (X := x4.toInt) (Y := 600) rfl (by decide) (by omega)) ?_
                        refine xi_aload_n (pc' := 104) (x := 115) kc_32_103 rfl rfl ?_
                        refine xi_bipush (pc' := 106) (v := (-6)) kc_32_104 rfl rfl ?_
                        refine xi_virtual (mj := 12) (as := [.int (-6)]) (st1 := []) (lv0 := [(0, .ref 115), (1, .int (-6))]) kc_32_106 rfl rfl rfl rfl rfl eh15.1 (Nat.le_of_ble_eq_true rfl) (hJ _ _ _ _ (by decide)) (xm_le ml_12 rfl) rfl ?_
                        refine xi_aload_n (pc' := 1) (x := 115) kc_12_0 rfl rfl ?_
                        refine xi_getfield (pc' := 4) (v := .ref 140) kc_12_1 rfl rfl rfl eh15.1 rfl ?_
                        refine xi_iload_n (pc' := 5) (x := (-6)) kc_12_4 rfl rfl ?_
                        refine xi_ineg (pc' := 6) (v := 6) kc_12_5 rfl rfl ?_
                        refine xi_dup2 (pc' := 7) kc_12_6 rfl ⟨rfl, rfl⟩ ?_
                        refine xcps4 (xk_arr K17.1 xD_140) (fun y202 A202 hy202 ry202 => ?_)
                        refine xcps4 (xj_get hy202 ry202 (i := 6) (by decide) (by decide)) (fun v203 ev203 bv203 dv203 => ?_)
                        refine xi_iaload (pc' := 8) (v := v203) kc_12_7 rfl A202 (by decide) rfl (xi_in (by decide) (by rw [hy202]; decide)) ev203 ?_
                        refine xi_iconst (pc' := 9) (v := 1) kc_12_8 rfl rfl ?_
                        refine xcps2 (α := Int32) ((v203 : Int32) + 1) (fun v204 ev204 => ?_)
                        have rv204 := xc_rng v204
                        refine xi_iadd (pc' := 10) (v := v204) kc_12_9 rfl ev204 ?_
                        refine xcps4 (xj_set (v := v204) hy202 ry202 6 (by first | omega | decide) (by first | omega | decide)) (fun y205 s205 hy205 ry205 => ?_)
                        refine xi_iastore (pc' := 11) (x' := y205) kc_12_10 rfl A202 rfl (xi_in (by decide) (by rw [hy202]; decide)) s205 (fun hh205 eh205 => ?_)
                        have K206 := xk_pa K17 (xk_wa rfl) xD_140 hy205 ry205 eh205
                        refine xi_iload_n (pc' := 12) (x := (-6)) kc_12_11 rfl rfl ?_
                        refine xi_ireturn kc_12_12 mr_12 rfl ?_
                        show xw J ov (d + 3) 32 (109, [(0, .ref 115), (1, .int x1), (2, .int x2), (3, .int x3), (4, .int x4)], [.int (-6)], hh205) _
                        refine xi_ireturn kc_32_109 mr_32 rfl ?_
                        have zcm6 : ((-6) : Int32).toInt = (-6) := by decide
                        exact kk (-6) hh205 (by omega) K206
                      · refine xi_cmf (pc' := 94) kc_32_91 rfl (xc_gt_f (X := x4.toInt) (Y := 600) rfl (by decide) (by omega)) ?_
                        refine xi_aload_n (pc' := 95) (x := 115) kc_32_94 rfl rfl ?_
                        refine xi_getfield (pc' := 98) (v := .int u5) kc_32_95 rfl rfl rfl eh15.1 rfl ?_
                        refine xi_bipush (pc' := 100) (v := 10) kc_32_98 rfl rfl ?_
                        by_cases c207 : u5.toInt = 10
                        · refine xi_cmf (pc' := 103) kc_32_100 rfl (xc_ne_f (X := u5.toInt) (Y := 10) rfl (by decide) (by omega)) ?_
                          refine xi_aload_n (pc' := 104) (x := 115) kc_32_103 rfl rfl ?_
                          refine xi_bipush (pc' := 106) (v := (-6)) kc_32_104 rfl rfl ?_
                          refine xi_virtual (mj := 12) (as := [.int (-6)]) (st1 := []) (lv0 := [(0, .ref 115), (1, .int (-6))]) kc_32_106 rfl rfl rfl rfl rfl eh15.1 (Nat.le_of_ble_eq_true rfl) (hJ _ _ _ _ (by decide)) (xm_le ml_12 rfl) rfl ?_
                          refine xi_aload_n (pc' := 1) (x := 115) kc_12_0 rfl rfl ?_
                          refine xi_getfield (pc' := 4) (v := .ref 140) kc_12_1 rfl rfl rfl eh15.1 rfl ?_
                          refine xi_iload_n (pc' := 5) (x := (-6)) kc_12_4 rfl rfl ?_
                          refine xi_ineg (pc' := 6) (v := 6) kc_12_5 rfl rfl ?_
                          refine xi_dup2 (pc' := 7) kc_12_6 rfl ⟨rfl, rfl⟩ ?_
                          refine xcps4 (xk_arr K17.1 xD_140) (fun y208 A208 hy208 ry208 => ?_)
                          refine xcps4 (xj_get hy208 ry208 (i := 6) (by decide) (by decide)) (fun v209 ev209 bv209 dv209 => ?_)
                          refine xi_iaload (pc' := 8) (v := v209) kc_12_7 rfl A208 (by decide) rfl (xi_in (by decide) (by rw [hy208]; decide)) ev209 ?_
                          refine xi_iconst (pc' := 9) (v := 1) kc_12_8 rfl rfl ?_
                          refine xcps2 (α := Int32) ((v209 : Int32) + 1) (fun v210 ev210 => ?_)
                          have rv210 := xc_rng v210
                          refine xi_iadd (pc' := 10) (v := v210) kc_12_9 rfl ev210 ?_
                          refine xcps4 (xj_set (v := v210) hy208 ry208 6 (by first | omega | decide) (by first | omega | decide)) (fun y211 s211 hy211 ry211 => ?_)
                          refine xi_iastore (pc' := 11) (x' := y211) kc_12_10 rfl A208 rfl (xi_in (by decide) (by rw [hy208]; decide)) s211 (fun hh211 eh211 => ?_)
                          have K212 := xk_pa K17 (xk_wa rfl) xD_140 hy211 ry211 eh211
                          refine xi_iload_n (pc' := 12) (x := (-6)) kc_12_11 rfl rfl ?_
                          refine xi_ireturn kc_12_12 mr_12 rfl ?_
                          show xw J ov (d + 3) 32 (109, [(0, .ref 115), (1, .int x1), (2, .int x2), (3, .int x3), (4, .int x4)], [.int (-6)], hh211) _
                          refine xi_ireturn kc_32_109 mr_32 rfl ?_
                          have zcm6 : ((-6) : Int32).toInt = (-6) := by decide
                          exact kk (-6) hh211 (by omega) K212
                        · refine xi_cmt (pc' := 110) kc_32_100 rfl (xc_ne_t (X := u5.toInt) (Y := 10) rfl (by decide) (by omega)) ?_
                          refine xi_aload_n (pc' := 111) (x := 115) kc_32_110 rfl rfl ?_
                          refine xi_getfield (pc' := 114) (v := .ref 135) kc_32_111 rfl rfl rfl eh15.1 rfl ?_
                          refine xi_aload_n (pc' := 115) (x := 115) kc_32_114 rfl rfl ?_
                          refine xi_getfield (pc' := 118) (v := .int u5) kc_32_115 rfl rfl rfl eh15.1 rfl ?_
                          refine xi_iload_n (pc' := 119) (x := x1) kc_32_118 rfl rfl ?_
                          refine xcps4 (xk_arr K17.1 xD_135) (fun y213 A213 hy213 ry213 => ?_)
                          refine xcps4 (xj_set (v := x1) hy213 ry213 u5 (by first | omega | decide) (by first | omega | decide)) (fun y214 s214 hy214 ry214 => ?_)
                          refine xi_iastore (pc' := 120) (x' := y214) kc_32_119 rfl A213 rfl (xi_in (by omega) (by rw [hy213]; omega)) s214 (fun hh214 eh214 => ?_)
                          have K215 := xk_pa K17 (xk_wa rfl) xD_135 hy214 ry214 eh214
                          refine xi_aload_n (pc' := 121) (x := 115) kc_32_120 rfl rfl ?_
                          have A216 := ((eh214.2.1 115 (by decide)).trans eh15.1)
                          refine xi_getfield (pc' := 124) (v := .ref 136) kc_32_121 rfl rfl rfl A216 rfl ?_
                          refine xi_aload_n (pc' := 125) (x := 115) kc_32_124 rfl rfl ?_
                          refine xi_getfield (pc' := 128) (v := .int u5) kc_32_125 rfl rfl rfl A216 rfl ?_
                          refine xi_iload_n (pc' := 129) (x := x2) kc_32_128 rfl rfl ?_
                          refine xcps4 (xk_arr K215.1 xD_136) (fun y217 A217 hy217 ry217 => ?_)
                          refine xcps4 (xj_set (v := x2) hy217 ry217 u5 (by first | omega | decide) (by first | omega | decide)) (fun y218 s218 hy218 ry218 => ?_)
                          refine xi_iastore (pc' := 130) (x' := y218) kc_32_129 rfl A217 rfl (xi_in (by omega) (by rw [hy217]; omega)) s218 (fun hh218 eh218 => ?_)
                          have K219 := xk_pa K215 (xk_wa rfl) xD_136 hy218 ry218 eh218
                          refine xi_aload_n (pc' := 131) (x := 115) kc_32_130 rfl rfl ?_
                          have A220 := ((eh218.2.1 115 (by decide)).trans A216)
                          refine xi_getfield (pc' := 134) (v := .ref 137) kc_32_131 rfl rfl rfl A220 rfl ?_
                          refine xi_aload_n (pc' := 135) (x := 115) kc_32_134 rfl rfl ?_
                          refine xi_getfield (pc' := 138) (v := .int u5) kc_32_135 rfl rfl rfl A220 rfl ?_
                          refine xi_iload_n (pc' := 139) (x := x3) kc_32_138 rfl rfl ?_
                          refine xcps4 (xk_arr K219.1 xD_137) (fun y221 A221 hy221 ry221 => ?_)
                          refine xcps4 (xj_set (v := x3) hy221 ry221 u5 (by first | omega | decide) (by first | omega | decide)) (fun y222 s222 hy222 ry222 => ?_)
                          refine xi_iastore (pc' := 140) (x' := y222) kc_32_139 rfl A221 rfl (xi_in (by omega) (by rw [hy221]; omega)) s222 (fun hh222 eh222 => ?_)
                          have K223 := xk_pa K219 (xk_wa rfl) xD_137 hy222 ry222 eh222
                          refine xi_aload_n (pc' := 141) (x := 115) kc_32_140 rfl rfl ?_
                          have A224 := ((eh222.2.1 115 (by decide)).trans A220)
                          refine xi_getfield (pc' := 144) (v := .ref 138) kc_32_141 rfl rfl rfl A224 rfl ?_
                          refine xi_aload_n (pc' := 145) (x := 115) kc_32_144 rfl rfl ?_
                          refine xi_getfield (pc' := 148) (v := .int u5) kc_32_145 rfl rfl rfl A224 rfl ?_
                          refine xi_iload (pc' := 150) (x := x4) kc_32_148 rfl rfl ?_
                          refine xcps4 (xk_arr K223.1 xD_138) (fun y225 A225 hy225 ry225 => ?_)
                          refine xcps4 (xj_set (v := x4) hy225 ry225 u5 (by first | omega | decide) (by first | omega | decide)) (fun y226 s226 hy226 ry226 => ?_)
                          refine xi_iastore (pc' := 151) (x' := y226) kc_32_150 rfl A225 rfl (xi_in (by omega) (by rw [hy225]; omega)) s226 (fun hh226 eh226 => ?_)
                          have K227 := xk_pa K223 (xk_wa rfl) xD_138 hy226 ry226 eh226
                          refine xi_aload_n (pc' := 152) (x := 115) kc_32_151 rfl rfl ?_
                          have A228 := ((eh226.2.1 115 (by decide)).trans A224)
                          refine xi_getfield (pc' := 155) (v := .ref 139) kc_32_152 rfl rfl rfl A228 rfl ?_
                          refine xi_aload_n (pc' := 156) (x := 115) kc_32_155 rfl rfl ?_
                          refine xi_getfield (pc' := 159) (v := .int u5) kc_32_156 rfl rfl rfl A228 rfl ?_
                          refine xi_iconst (pc' := 160) (v := 0) kc_32_159 rfl rfl ?_
                          refine xcps4 (xk_arr K227.1 xD_139) (fun y229 A229 hy229 ry229 => ?_)
                          refine xcps4 (xj_set (v := 0) hy229 ry229 u5 (by first | omega | decide) (by first | omega | decide)) (fun y230 s230 hy230 ry230 => ?_)
                          refine xi_bastore (pc' := 161) (x' := y230) kc_32_160 rfl A229 rfl (xi_in (by omega) (by rw [hy229]; omega)) s230 (fun hh230 eh230 => ?_)
                          have K231 := xk_pa K227 (xk_wa rfl) xD_139 hy230 ry230 eh230
                          refine xi_aload_n (pc' := 162) (x := 115) kc_32_161 rfl rfl ?_
                          refine xi_dup (pc' := 163) kc_32_162 rfl rfl ?_
                          have A232 := ((eh230.2.1 115 (by decide)).trans A228)
                          refine xi_getfield (pc' := 166) (v := .int u5) kc_32_163 rfl rfl rfl A232 rfl ?_
                          refine xi_iconst (pc' := 167) (v := 1) kc_32_166 rfl rfl ?_
                          refine xcps2 (α := Int32) (u5 + 1) (fun v233 ev233 => ?_)
                          have zv233 : v233.toInt = (u5.toInt + 1) := by rw [← ev233]; exact (xz_add (X := u5.toInt) (Y := 1) rfl (by decide) (by omega) (by omega)).trans (by omega)
                          refine xi_iadd (pc' := 168) (v := v233) kc_32_167 rfl ev233 ?_
                          refine xi_putfield (pc' := 171) (fs' := [.int 0, .int u2, .ref 116, .ref 117, .ref 118, .ref 119, .ref 120, .ref 121, .ref 122, .ref 123, .ref 124, .ref 125, .ref 126, .ref 127, .ref 128, .ref 129, .int u3, .ref 130, .int u4, .ref 131, .ref 132, .ref 133, .ref 134, .int v233, .ref 135, .ref 136, .ref 137, .ref 138, .ref 139, .ref 140, .ref 141, .ref 142, .int u6, .int u7, .int u8, .ref 143, .ref 144, .ref 145, .ref 146, .ref 147, .ref 148, .int u9, .ref 149, .ref 150, .ref 151, .int u10, .ref 152, .ref 153, .ref 154, .ref 155, .ref 156, .ref 157, .ref 158, .ref 159, .int u11, .ref 160, .int u12, .ref 161, .ref 162, .ref 163, .ref 164, .int u13, .ref 165, .ref 166]) kc_32_168 rfl rfl rfl A232 rfl rfl rfl (Nat.le_of_ble_eq_true rfl) rfl (fun hh235 eh234 => ?_)
                          have K236 := xk_pf (k := 23) (v := v233) K231 (xk_wf rfl) xD_115 A232 rfl (by first | omega | decide) (by first | omega | decide) eh234 rfl
                          refine xi_aload_n (pc' := 172) (x := 115) kc_32_171 rfl rfl ?_
                          refine xi_iconst (pc' := 173) (v := 0) kc_32_172 rfl rfl ?_
                          refine xi_putfield (pc' := 176) (fs' := [.int 0, .int u2, .ref 116, .ref 117, .ref 118, .ref 119, .ref 120, .ref 121, .ref 122, .ref 123, .ref 124, .ref 125, .ref 126, .ref 127, .ref 128, .ref 129, .int u3, .ref 130, .int u4, .ref 131, .ref 132, .ref 133, .ref 134, .int v233, .ref 135, .ref 136, .ref 137, .ref 138, .ref 139, .ref 140, .ref 141, .ref 142, .int u6, .int u7, .int u8, .ref 143, .ref 144, .ref 145, .ref 146, .ref 147, .ref 148, .int 0, .ref 149, .ref 150, .ref 151, .int u10, .ref 152, .ref 153, .ref 154, .ref 155, .ref 156, .ref 157, .ref 158, .ref 159, .int u11, .ref 160, .int u12, .ref 161, .ref 162, .ref 163, .ref 164, .int u13, .ref 165, .ref 166]) kc_32_173 rfl rfl rfl eh234.1 rfl rfl rfl (Nat.le_of_ble_eq_true rfl) rfl (fun hh238 eh237 => ?_)
                          have K239 := xk_pf (k := 41) (v := 0) K236 (xk_wf rfl) xD_115 eh234.1 rfl (by first | omega | decide) (by first | omega | decide) eh237 rfl
                          refine xi_aload_n (pc' := 177) (x := 115) kc_32_176 rfl rfl ?_
                          refine xi_getfield (pc' := 180) (v := .int v233) kc_32_177 rfl rfl rfl eh237.1 rfl ?_
                          refine xi_iconst (pc' := 181) (v := 1) kc_32_180 rfl rfl ?_
                          refine xcps2 (α := Int32) (v233 - 1) (fun v240 ev240 => ?_)
                          have zv240 : v240.toInt = u5.toInt := by rw [← ev240]; exact (xz_sub (X := (u5.toInt + 1)) (Y := 1) zv233 (by decide) (by omega) (by omega)).trans (by omega)
                          refine xi_isub (pc' := 182) (v := v240) kc_32_181 rfl ev240 ?_
                          refine xi_ireturn kc_32_182 mr_32 rfl ?_
                          exact kk v240 hh238 (by omega) K239
                  · refine xi_iff (pc' := 73) kc_32_70 rfl (xc_ge_f (X := x4.toInt) (Y := 0) rfl (by decide) (by omega)) ?_
                    refine xi_aload_n (pc' := 74) (x := 115) kc_32_73 rfl rfl ?_
                    refine xi_bipush (pc' := 76) (v := (-4)) kc_32_74 rfl rfl ?_
                    refine xi_virtual (mj := 12) (as := [.int (-4)]) (st1 := []) (lv0 := [(0, .ref 115), (1, .int (-4))]) kc_32_76 rfl rfl rfl rfl rfl eh15.1 (Nat.le_of_ble_eq_true rfl) (hJ _ _ _ _ (by decide)) (xm_le ml_12 rfl) rfl ?_
                    refine xi_aload_n (pc' := 1) (x := 115) kc_12_0 rfl rfl ?_
                    refine xi_getfield (pc' := 4) (v := .ref 140) kc_12_1 rfl rfl rfl eh15.1 rfl ?_
                    refine xi_iload_n (pc' := 5) (x := (-4)) kc_12_4 rfl rfl ?_
                    refine xi_ineg (pc' := 6) (v := 4) kc_12_5 rfl rfl ?_
                    refine xi_dup2 (pc' := 7) kc_12_6 rfl ⟨rfl, rfl⟩ ?_
                    refine xcps4 (xk_arr K17.1 xD_140) (fun y241 A241 hy241 ry241 => ?_)
                    refine xcps4 (xj_get hy241 ry241 (i := 4) (by decide) (by decide)) (fun v242 ev242 bv242 dv242 => ?_)
                    refine xi_iaload (pc' := 8) (v := v242) kc_12_7 rfl A241 (by decide) rfl (xi_in (by decide) (by rw [hy241]; decide)) ev242 ?_
                    refine xi_iconst (pc' := 9) (v := 1) kc_12_8 rfl rfl ?_
                    refine xcps2 (α := Int32) ((v242 : Int32) + 1) (fun v243 ev243 => ?_)
                    have rv243 := xc_rng v243
                    refine xi_iadd (pc' := 10) (v := v243) kc_12_9 rfl ev243 ?_
                    refine xcps4 (xj_set (v := v243) hy241 ry241 4 (by first | omega | decide) (by first | omega | decide)) (fun y244 s244 hy244 ry244 => ?_)
                    refine xi_iastore (pc' := 11) (x' := y244) kc_12_10 rfl A241 rfl (xi_in (by decide) (by rw [hy241]; decide)) s244 (fun hh244 eh244 => ?_)
                    have K245 := xk_pa K17 (xk_wa rfl) xD_140 hy244 ry244 eh244
                    refine xi_iload_n (pc' := 12) (x := (-4)) kc_12_11 rfl rfl ?_
                    refine xi_ireturn kc_12_12 mr_12 rfl ?_
                    show xw J ov (d + 3) 32 (79, [(0, .ref 115), (1, .int x1), (2, .int x2), (3, .int x3), (4, .int x4)], [.int (-4)], hh244) _
                    refine xi_ireturn kc_32_79 mr_32 rfl ?_
                    have zcm4 : ((-4) : Int32).toInt = (-4) := by decide
                    exact kk (-4) hh244 (by omega) K245
set_option maxHeartbeats 4000000 in
theorem mt_33_0 {J : xe_J} {ov : List (List Int32)} (hJ : ∀ d mj as h, mj ≠ xe_loff → J d mj as h = none) (hov1 : ov[1]? = some [10, 0, 0, 0, 0, 0]) (hov2 : ov[2]? = some [99, 30, 50, 50, 1, 99999]) {d : Nat} {Q : Option Value → xe_H → Prop} {h : xe_H} {x1 : Int32} {x2 : Int32} (T : xt h) (b2 : (0 ≤ x2.toInt ∧ x2.toInt ≤ 1)) (kk : (∀ (r : Int32) (h' : xe_H), ((-1) ≤ r.toInt ∧ r.toInt ≤ 1) → xk [(0, 9), (115, 1), (83, 0), (29, 0), (31, 0), (33, 0), (35, 0), (37, 0), (39, 0), (41, 0), (43, 0), (45, 0), (47, 0), (49, 0), (51, 0), (125, 0), (66, 8), (115, 18), (71, 0), (132, 0)] h h' → Q (some (.int r)) h')) : xw J ov (d + 1) 33 (0, [(0, .ref 115), (1, .int x1), (2, .int x2)], [], h) Q := by
  have K : xk [(0, 9), (115, 1), (83, 0), (29, 0), (31, 0), (33, 0), (35, 0), (37, 0), (39, 0), (41, 0), (43, 0), (45, 0), (47, 0), (49, 0), (51, 0), (125, 0), (66, 8), (115, 18), (71, 0), (132, 0)] h h := xk_re T
  have rx1 := xc_rng x1
  refine xi_aload_n (pc' := 1) (x := 115) kc_33_0 rfl rfl ?_
  refine xi_iconst (pc' := 2) (v := 0) kc_33_1 rfl rfl ?_
  refine xp_115 K.1 (fun u1 u2 u3 u4 u5 u6 u7 u8 u9 u10 u11 u12 u13 bu1 bu2 bu3 bu4 bu5 bu6 bu7 bu8 bu9 bu10 bu11 bu12 bu13 A14 => ?_)
  refine xi_putfield (pc' := 5) (fs' := [.int 0, .int u2, .ref 116, .ref 117, .ref 118, .ref 119, .ref 120, .ref 121, .ref 122, .ref 123, .ref 124, .ref 125, .ref 126, .ref 127, .ref 128, .ref 129, .int u3, .ref 130, .int u4, .ref 131, .ref 132, .ref 133, .ref 134, .int u5, .ref 135, .ref 136, .ref 137, .ref 138, .ref 139, .ref 140, .ref 141, .ref 142, .int u6, .int u7, .int u8, .ref 143, .ref 144, .ref 145, .ref 146, .ref 147, .ref 148, .int u9, .ref 149, .ref 150, .ref 151, .int u10, .ref 152, .ref 153, .ref 154, .ref 155, .ref 156, .ref 157, .ref 158, .ref 159, .int u11, .ref 160, .int u12, .ref 161, .ref 162, .ref 163, .ref 164, .int u13, .ref 165, .ref 166]) kc_33_2 rfl rfl rfl A14 rfl rfl rfl (Nat.le_of_ble_eq_true rfl) rfl (fun hh16 eh15 => ?_)
  have K17 := xk_pf (k := 0) (v := 0) K (xk_wf rfl) xD_115 A14 rfl (by first | omega | decide) (by first | omega | decide) eh15 rfl
  refine xi_iload_n (pc' := 6) (x := x1) kc_33_5 rfl rfl ?_
  refine xi_iconst (pc' := 7) (v := 0) kc_33_6 rfl rfl ?_
  refine xi_aload_n (pc' := 8) (x := 115) kc_33_7 rfl rfl ?_
  refine xi_getfield (pc' := 11) (v := .int u5) kc_33_8 rfl rfl rfl eh15.1 rfl ?_
  refine xi_iconst (pc' := 12) (v := 1) kc_33_11 rfl rfl ?_
  refine xcps2 (α := Int32) (u5 - 1) (fun v18 ev18 => ?_)
  have zv18 : v18.toInt = (u5.toInt + (-1)) := by rw [← ev18]; exact (xz_sub (X := u5.toInt) (Y := 1) rfl (by decide) (by omega) (by omega)).trans (by omega)
  refine xi_isub (pc' := 13) (v := v18) kc_33_12 rfl ev18 ?_
  refine xi_static (mj := 11) (as := [.int x1, .int 0, .int v18]) (st1 := []) (lv0 := [(0, .int x1), (1, .int 0), (2, .int v18)]) kc_33_13 rfl rfl (Nat.le_of_ble_eq_true rfl) rfl rfl (Nat.le_of_ble_eq_true rfl) (hJ _ _ _ _ (by decide)) (xm_le ml_11 rfl) rfl ?_
  refine xi_iload_n (pc' := 1) (x := x1) kc_11_0 rfl rfl ?_
  refine xi_iload_n (pc' := 2) (x := 0) kc_11_1 rfl rfl ?_
  by_cases c19 : x1.toInt < 0
  · refine xi_cmt (pc' := 14) kc_11_2 rfl (xc_lt_t (X := x1.toInt) (Y := 0) rfl (by decide) (by omega)) ?_
    refine xi_iconst (pc' := 15) (v := 0) kc_11_14 rfl rfl ?_
    refine xi_ireturn kc_11_15 mr_11 rfl ?_
    show xw J ov (d + 1) 33 (16, [(0, .ref 115), (1, .int x1), (2, .int x2)], [.int 0], hh16) _
    refine xi_iff (pc' := 19) kc_33_16 rfl rfl ?_
    refine xi_aload_n (pc' := 20) (x := 115) kc_33_19 rfl rfl ?_
    refine xi_iconst (pc' := 21) (v := (-1)) kc_33_20 rfl rfl ?_
    refine xi_virtual (mj := 12) (as := [.int (-1)]) (st1 := []) (lv0 := [(0, .ref 115), (1, .int (-1))]) kc_33_21 rfl rfl rfl rfl rfl eh15.1 (Nat.le_of_ble_eq_true rfl) (hJ _ _ _ _ (by decide)) (xm_le ml_12 rfl) rfl ?_
    refine xi_aload_n (pc' := 1) (x := 115) kc_12_0 rfl rfl ?_
    refine xi_getfield (pc' := 4) (v := .ref 140) kc_12_1 rfl rfl rfl eh15.1 rfl ?_
    refine xi_iload_n (pc' := 5) (x := (-1)) kc_12_4 rfl rfl ?_
    refine xi_ineg (pc' := 6) (v := 1) kc_12_5 rfl rfl ?_
    refine xi_dup2 (pc' := 7) kc_12_6 rfl ⟨rfl, rfl⟩ ?_
    refine xcps4 (xk_arr K17.1 xD_140) (fun y20 A20 hy20 ry20 => ?_)
    refine xcps4 (xj_get hy20 ry20 (i := 1) (by decide) (by decide)) (fun v21 ev21 bv21 dv21 => ?_)
    refine xi_iaload (pc' := 8) (v := v21) kc_12_7 rfl A20 (by decide) rfl (xi_in (by decide) (by rw [hy20]; decide)) ev21 ?_
    refine xi_iconst (pc' := 9) (v := 1) kc_12_8 rfl rfl ?_
    refine xcps2 (α := Int32) ((v21 : Int32) + 1) (fun v22 ev22 => ?_)
    have rv22 := xc_rng v22
    refine xi_iadd (pc' := 10) (v := v22) kc_12_9 rfl ev22 ?_
    refine xcps4 (xj_set (v := v22) hy20 ry20 1 (by first | omega | decide) (by first | omega | decide)) (fun y23 s23 hy23 ry23 => ?_)
    refine xi_iastore (pc' := 11) (x' := y23) kc_12_10 rfl A20 rfl (xi_in (by decide) (by rw [hy20]; decide)) s23 (fun hh23 eh23 => ?_)
    have K24 := xk_pa K17 (xk_wa rfl) xD_140 hy23 ry23 eh23
    refine xi_iload_n (pc' := 12) (x := (-1)) kc_12_11 rfl rfl ?_
    refine xi_ireturn kc_12_12 mr_12 rfl ?_
    show xw J ov (d + 1) 33 (24, [(0, .ref 115), (1, .int x1), (2, .int x2)], [.int (-1)], hh23) _
    refine xi_ireturn kc_33_24 mr_33 rfl ?_
    have zcm1 : ((-1) : Int32).toInt = (-1) := by decide
    exact kk (-1) hh23 (by omega) K24
  · refine xi_cmf (pc' := 5) kc_11_2 rfl (xc_lt_f (X := x1.toInt) (Y := 0) rfl (by decide) (by omega)) ?_
    refine xi_iload_n (pc' := 6) (x := x1) kc_11_5 rfl rfl ?_
    refine xi_iload_n (pc' := 7) (x := v18) kc_11_6 rfl rfl ?_
    by_cases c25 : (u5.toInt + (-1)) < x1.toInt
    · refine xi_cmt (pc' := 14) kc_11_7 rfl (xc_gt_t (X := x1.toInt) (Y := (u5.toInt + (-1))) rfl zv18 (by omega)) ?_
      refine xi_iconst (pc' := 15) (v := 0) kc_11_14 rfl rfl ?_
      refine xi_ireturn kc_11_15 mr_11 rfl ?_
      show xw J ov (d + 1) 33 (16, [(0, .ref 115), (1, .int x1), (2, .int x2)], [.int 0], hh16) _
      refine xi_iff (pc' := 19) kc_33_16 rfl rfl ?_
      refine xi_aload_n (pc' := 20) (x := 115) kc_33_19 rfl rfl ?_
      refine xi_iconst (pc' := 21) (v := (-1)) kc_33_20 rfl rfl ?_
      refine xi_virtual (mj := 12) (as := [.int (-1)]) (st1 := []) (lv0 := [(0, .ref 115), (1, .int (-1))]) kc_33_21 rfl rfl rfl rfl rfl eh15.1 (Nat.le_of_ble_eq_true rfl) (hJ _ _ _ _ (by decide)) (xm_le ml_12 rfl) rfl ?_
      refine xi_aload_n (pc' := 1) (x := 115) kc_12_0 rfl rfl ?_
      refine xi_getfield (pc' := 4) (v := .ref 140) kc_12_1 rfl rfl rfl eh15.1 rfl ?_
      refine xi_iload_n (pc' := 5) (x := (-1)) kc_12_4 rfl rfl ?_
      refine xi_ineg (pc' := 6) (v := 1) kc_12_5 rfl rfl ?_
      refine xi_dup2 (pc' := 7) kc_12_6 rfl ⟨rfl, rfl⟩ ?_
      refine xcps4 (xk_arr K17.1 xD_140) (fun y26 A26 hy26 ry26 => ?_)
      refine xcps4 (xj_get hy26 ry26 (i := 1) (by decide) (by decide)) (fun v27 ev27 bv27 dv27 => ?_)
      refine xi_iaload (pc' := 8) (v := v27) kc_12_7 rfl A26 (by decide) rfl (xi_in (by decide) (by rw [hy26]; decide)) ev27 ?_
      refine xi_iconst (pc' := 9) (v := 1) kc_12_8 rfl rfl ?_
      refine xcps2 (α := Int32) ((v27 : Int32) + 1) (fun v28 ev28 => ?_)
      have rv28 := xc_rng v28
      refine xi_iadd (pc' := 10) (v := v28) kc_12_9 rfl ev28 ?_
      refine xcps4 (xj_set (v := v28) hy26 ry26 1 (by first | omega | decide) (by first | omega | decide)) (fun y29 s29 hy29 ry29 => ?_)
      refine xi_iastore (pc' := 11) (x' := y29) kc_12_10 rfl A26 rfl (xi_in (by decide) (by rw [hy26]; decide)) s29 (fun hh29 eh29 => ?_)
      have K30 := xk_pa K17 (xk_wa rfl) xD_140 hy29 ry29 eh29
      refine xi_iload_n (pc' := 12) (x := (-1)) kc_12_11 rfl rfl ?_
      refine xi_ireturn kc_12_12 mr_12 rfl ?_
      show xw J ov (d + 1) 33 (24, [(0, .ref 115), (1, .int x1), (2, .int x2)], [.int (-1)], hh29) _
      refine xi_ireturn kc_33_24 mr_33 rfl ?_
      have zcm1 : ((-1) : Int32).toInt = (-1) := by decide
      exact kk (-1) hh29 (by omega) K30
    · refine xi_cmf (pc' := 10) kc_11_7 rfl (xc_gt_f (X := x1.toInt) (Y := (u5.toInt + (-1))) rfl zv18 (by omega)) ?_
      refine xi_iconst (pc' := 11) (v := 1) kc_11_10 rfl rfl ?_
      refine xi_goto (pc' := 15) kc_11_11 rfl ?_
      refine xi_ireturn kc_11_15 mr_11 rfl ?_
      show xw J ov (d + 1) 33 (16, [(0, .ref 115), (1, .int x1), (2, .int x2)], [.int 1], hh16) _
      refine xi_ift (pc' := 25) kc_33_16 rfl rfl ?_
      refine xi_aload_n (pc' := 26) (x := 115) kc_33_25 rfl rfl ?_
      refine xi_getfield (pc' := 29) (v := .ref 139) kc_33_26 rfl rfl rfl eh15.1 rfl ?_
      refine xi_iload_n (pc' := 30) (x := x1) kc_33_29 rfl rfl ?_
      refine xcps4 (xk_arr K17.1 xD_139) (fun y31 A31 hy31 ry31 => ?_)
      refine xcps4 (xj_get hy31 ry31 (i := x1) (by omega) (by omega)) (fun v32 ev32 bv32 dv32 => ?_)
      refine xi_baload (pc' := 31) (v := v32) kc_33_30 rfl A31 rfl (xi_in (by omega) (by rw [hy31]; omega)) ev32 ?_
      refine xi_istore_n (pc' := 32) (lv' := [(3, .int v32), (0, .ref 115), (1, .int x1), (2, .int x2)]) kc_33_31 rfl rfl (xm_lt ml_33 rfl) ?_
      refine xi_aload_n (pc' := 33) (x := 115) kc_33_32 rfl rfl ?_
      refine xi_getfield (pc' := 36) (v := .ref 139) kc_33_33 rfl rfl rfl eh15.1 rfl ?_
      refine xi_iload_n (pc' := 37) (x := x1) kc_33_36 rfl rfl ?_
      refine xi_iload_n (pc' := 38) (x := x2) kc_33_37 rfl rfl ?_
      by_cases c33 : x2.toInt = 0
      · have qx2 : x2 = 0 := xc_of (Eq.trans (by omega) (show (0 : Int) = (0 : Int32).toInt by decide))
        subst qx2
        refine xcps4 (xj_set (v := 0) hy31 ry31 x1 (by first | omega | decide) (by first | omega | decide)) (fun y34 s34 hy34 ry34 => ?_)
        refine xi_bastore (pc' := 39) (x' := y34) kc_33_38 rfl A31 rfl (xi_in (by omega) (by rw [hy31]; omega)) s34 (fun hh34 eh34 => ?_)
        have K35 := xk_pa K17 (xk_wa rfl) xD_139 hy34 ry34 eh34
        refine xi_iload_n (pc' := 40) (x := v32) kc_33_39 rfl rfl ?_
        refine xi_iload_n (pc' := 41) (x := 0) kc_33_40 rfl rfl ?_
        by_cases c36 : v32.toInt = 0
        · refine xi_cmf (pc' := 44) kc_33_41 rfl (xc_ne_f (X := v32.toInt) (Y := 0) rfl (by decide) (by omega)) ?_
          refine xi_iconst (pc' := 45) (v := 0) kc_33_44 rfl rfl ?_
          refine xi_goto (pc' := 49) kc_33_45 rfl ?_
          refine xi_ireturn kc_33_49 mr_33 rfl ?_
          have zc0 : (0 : Int32).toInt = 0 := by decide
          exact kk 0 hh34 (by omega) K35
        · refine xi_cmt (pc' := 48) kc_33_41 rfl (xc_ne_t (X := v32.toInt) (Y := 0) rfl (by decide) (by omega)) ?_
          refine xi_iconst (pc' := 49) (v := 1) kc_33_48 rfl rfl ?_
          refine xi_ireturn kc_33_49 mr_33 rfl ?_
          have zc1 : (1 : Int32).toInt = 1 := by decide
          exact kk 1 hh34 (by omega) K35
      have qx2 : x2 = 1 := xc_of (Eq.trans (by omega) (show (1 : Int) = (1 : Int32).toInt by decide))
      subst qx2
      refine xcps4 (xj_set (v := 1) hy31 ry31 x1 (by first | omega | decide) (by first | omega | decide)) (fun y37 s37 hy37 ry37 => ?_)
      refine xi_bastore (pc' := 39) (x' := y37) kc_33_38 rfl A31 rfl (xi_in (by omega) (by rw [hy31]; omega)) s37 (fun hh37 eh37 => ?_)
      have K38 := xk_pa K17 (xk_wa rfl) xD_139 hy37 ry37 eh37
      refine xi_iload_n (pc' := 40) (x := v32) kc_33_39 rfl rfl ?_
      refine xi_iload_n (pc' := 41) (x := 1) kc_33_40 rfl rfl ?_
      by_cases c39 : v32.toInt = 1
      · refine xi_cmf (pc' := 44) kc_33_41 rfl (xc_ne_f (X := v32.toInt) (Y := 1) rfl (by decide) (by omega)) ?_
        refine xi_iconst (pc' := 45) (v := 0) kc_33_44 rfl rfl ?_
        refine xi_goto (pc' := 49) kc_33_45 rfl ?_
        refine xi_ireturn kc_33_49 mr_33 rfl ?_
        have zc0 : (0 : Int32).toInt = 0 := by decide
        exact kk 0 hh37 (by omega) K38
      · refine xi_cmt (pc' := 48) kc_33_41 rfl (xc_ne_t (X := v32.toInt) (Y := 1) rfl (by decide) (by omega)) ?_
        refine xi_iconst (pc' := 49) (v := 1) kc_33_48 rfl rfl ?_
        refine xi_ireturn kc_33_49 mr_33 rfl ?_
        have zc1 : (1 : Int32).toInt = 1 := by decide
        exact kk 1 hh37 (by omega) K38
set_option maxHeartbeats 4000000 in
theorem mt_38_0 {J : xe_J} {ov : List (List Int32)} (hJ : ∀ d mj as h, mj ≠ xe_loff → J d mj as h = none) (hov1 : ov[1]? = some [10, 0, 0, 0, 0, 0]) (hov2 : ov[2]? = some [99, 30, 50, 50, 1, 99999]) {d : Nat} {Q : Option Value → xe_H → Prop} {h : xe_H} {x1 : Int32} {x2 : Int32} {x3 : Int32} {x4 : Int32} (T : xt h) (b1 : (0 ≤ x1.toInt ∧ x1.toInt ≤ 9)) (b2 : (0 ≤ x2.toInt ∧ x2.toInt ≤ 63)) (b3 : (0 ≤ x3.toInt ∧ x3.toInt ≤ 1)) (b4 : (0 ≤ x4.toInt ∧ x4.toInt ≤ 599)) (kk : (∀ (r : Int32) (h' : xe_H), (0 ≤ r.toInt ∧ r.toInt ≤ 1) → xk [(0, 9), (115, 1), (83, 0), (29, 0), (31, 0), (33, 0), (35, 0), (37, 0), (39, 0), (41, 0), (43, 0), (45, 0), (47, 0), (49, 0), (51, 0), (125, 0), (66, 8), (115, 18), (71, 0), (132, 0)] h h' → Q (some (.int r)) h')) : xw J ov (d + 1) 38 (0, [(0, .ref 115), (1, .int x1), (2, .int x2), (3, .int x3), (4, .int x4)], [], h) Q := by
  have K : xk [(0, 9), (115, 1), (83, 0), (29, 0), (31, 0), (33, 0), (35, 0), (37, 0), (39, 0), (41, 0), (43, 0), (45, 0), (47, 0), (49, 0), (51, 0), (125, 0), (66, 8), (115, 18), (71, 0), (132, 0)] h h := xk_re T
  refine xi_iload_n (pc' := 1) (x := x3) kc_38_0 rfl rfl ?_
  by_cases c1 : x3.toInt = 0
  · refine xi_ift (pc' := 16) kc_38_1 rfl (xc_eq_t (X := x3.toInt) (Y := 0) rfl (by decide) (by omega)) ?_
    refine xi_iload_n (pc' := 17) (x := x2) kc_38_16 rfl rfl ?_
    refine xi_iload_n (pc' := 18) (x := x1) kc_38_17 rfl rfl ?_
    refine xcps2 (α := Int32) ((x2 : Int32) >>> (x1 &&& 31)) (fun v2 ev2 => ?_)
    have rv2 := xc_rng v2
    refine xi_ishr (pc' := 19) (v := v2) kc_38_18 rfl ev2 ?_
    refine xi_iconst (pc' := 20) (v := 1) kc_38_19 rfl rfl ?_
    refine xcps2 (α := Int32) ((v2 : Int32) &&& 1) (fun v3 ev3 => ?_)
    have rv3 := xc_rng v3
    refine xi_iand (pc' := 21) (v := v3) kc_38_20 rfl ev3 ?_
    refine xi_iconst (pc' := 22) (v := 1) kc_38_21 rfl rfl ?_
    by_cases c4 : v3.toInt = 1
    · refine xi_cmf (pc' := 25) kc_38_22 rfl (xc_ne_f (X := v3.toInt) (Y := 1) rfl (by decide) (by omega)) ?_
      refine xi_aload_n (pc' := 26) (x := 115) kc_38_25 rfl rfl ?_
      refine xp_115 K.1 (fun u5 u6 u7 u8 u9 u10 u11 u12 u13 u14 u15 u16 u17 bu5 bu6 bu7 bu8 bu9 bu10 bu11 bu12 bu13 bu14 bu15 bu16 bu17 A18 => ?_)
      refine xi_getfield (pc' := 29) (v := .ref 138) kc_38_26 rfl rfl rfl A18 rfl ?_
      refine xi_iload_n (pc' := 30) (x := x1) kc_38_29 rfl rfl ?_
      refine xcps4 (xk_arr K.1 xD_138) (fun y19 A19 hy19 ry19 => ?_)
      refine xcps4 (xj_get hy19 ry19 (i := x1) (by omega) (by omega)) (fun v20 ev20 bv20 dv20 => ?_)
      refine xi_iaload (pc' := 31) (v := v20) kc_38_30 rfl A19 (by decide) rfl (xi_in (by omega) (by rw [hy19]; omega)) ev20 ?_
      refine xi_iload (pc' := 33) (x := x4) kc_38_31 rfl rfl ?_
      by_cases c21 : x4.toInt < v20.toInt
      · refine xi_cmt (pc' := 40) kc_38_33 rfl (xc_gt_t (X := v20.toInt) (Y := x4.toInt) rfl rfl (by omega)) ?_
        refine xi_iconst (pc' := 41) (v := 0) kc_38_40 rfl rfl ?_
        refine xi_ireturn kc_38_41 mr_38 rfl ?_
        have zc0 : (0 : Int32).toInt = 0 := by decide
        exact kk 0 h (by omega) K
      · refine xi_cmf (pc' := 36) kc_38_33 rfl (xc_gt_f (X := v20.toInt) (Y := x4.toInt) rfl rfl (by omega)) ?_
        refine xi_iconst (pc' := 37) (v := 1) kc_38_36 rfl rfl ?_
        refine xi_goto (pc' := 41) kc_38_37 rfl ?_
        refine xi_ireturn kc_38_41 mr_38 rfl ?_
        have zc1 : (1 : Int32).toInt = 1 := by decide
        exact kk 1 h (by omega) K
    · refine xi_cmt (pc' := 40) kc_38_22 rfl (xc_ne_t (X := v3.toInt) (Y := 1) rfl (by decide) (by omega)) ?_
      refine xi_iconst (pc' := 41) (v := 0) kc_38_40 rfl rfl ?_
      refine xi_ireturn kc_38_41 mr_38 rfl ?_
      have zc0 : (0 : Int32).toInt = 0 := by decide
      exact kk 0 h (by omega) K
  · refine xi_iff (pc' := 4) kc_38_1 rfl (xc_eq_f (X := x3.toInt) (Y := 0) rfl (by decide) (by omega)) ?_
    refine xi_aload_n (pc' := 5) (x := 115) kc_38_4 rfl rfl ?_
    refine xp_115 K.1 (fun u22 u23 u24 u25 u26 u27 u28 u29 u30 u31 u32 u33 u34 bu22 bu23 bu24 bu25 bu26 bu27 bu28 bu29 bu30 bu31 bu32 bu33 bu34 A35 => ?_)
    refine xi_getfield (pc' := 8) (v := .ref 139) kc_38_5 rfl rfl rfl A35 rfl ?_
    refine xi_iload_n (pc' := 9) (x := x1) kc_38_8 rfl rfl ?_
    refine xcps4 (xk_arr K.1 xD_139) (fun y36 A36 hy36 ry36 => ?_)
    refine xcps4 (xj_get hy36 ry36 (i := x1) (by omega) (by omega)) (fun v37 ev37 bv37 dv37 => ?_)
    refine xi_baload (pc' := 10) (v := v37) kc_38_9 rfl A36 rfl (xi_in (by omega) (by rw [hy36]; omega)) ev37 ?_
    by_cases c38 : v37.toInt = 0
    · refine xi_ift (pc' := 40) kc_38_10 rfl (xc_eq_t (X := v37.toInt) (Y := 0) rfl (by decide) (by omega)) ?_
      refine xi_iconst (pc' := 41) (v := 0) kc_38_40 rfl rfl ?_
      refine xi_ireturn kc_38_41 mr_38 rfl ?_
      have zc0 : (0 : Int32).toInt = 0 := by decide
      exact kk 0 h (by omega) K
    · refine xi_iff (pc' := 13) kc_38_10 rfl (xc_eq_f (X := v37.toInt) (Y := 0) rfl (by decide) (by omega)) ?_
      refine xi_goto (pc' := 25) kc_38_13 rfl ?_
      refine xi_aload_n (pc' := 26) (x := 115) kc_38_25 rfl rfl ?_
      refine xi_getfield (pc' := 29) (v := .ref 138) kc_38_26 rfl rfl rfl A35 rfl ?_
      refine xi_iload_n (pc' := 30) (x := x1) kc_38_29 rfl rfl ?_
      refine xcps4 (xk_arr K.1 xD_138) (fun y39 A39 hy39 ry39 => ?_)
      refine xcps4 (xj_get hy39 ry39 (i := x1) (by omega) (by omega)) (fun v40 ev40 bv40 dv40 => ?_)
      refine xi_iaload (pc' := 31) (v := v40) kc_38_30 rfl A39 (by decide) rfl (xi_in (by omega) (by rw [hy39]; omega)) ev40 ?_
      refine xi_iload (pc' := 33) (x := x4) kc_38_31 rfl rfl ?_
      by_cases c41 : x4.toInt < v40.toInt
      · refine xi_cmt (pc' := 40) kc_38_33 rfl (xc_gt_t (X := v40.toInt) (Y := x4.toInt) rfl rfl (by omega)) ?_
        refine xi_iconst (pc' := 41) (v := 0) kc_38_40 rfl rfl ?_
        refine xi_ireturn kc_38_41 mr_38 rfl ?_
        have zc0 : (0 : Int32).toInt = 0 := by decide
        exact kk 0 h (by omega) K
      · refine xi_cmf (pc' := 36) kc_38_33 rfl (xc_gt_f (X := v40.toInt) (Y := x4.toInt) rfl rfl (by omega)) ?_
        refine xi_iconst (pc' := 37) (v := 1) kc_38_36 rfl rfl ?_
        refine xi_goto (pc' := 41) kc_38_37 rfl ?_
        refine xi_ireturn kc_38_41 mr_38 rfl ?_
        have zc1 : (1 : Int32).toInt = 1 := by decide
        exact kk 1 h (by omega) K
set_option maxHeartbeats 4000000 in
theorem mt_39_0 {J : xe_J} {ov : List (List Int32)} (hJ : ∀ d mj as h, mj ≠ xe_loff → J d mj as h = none) (hov1 : ov[1]? = some [10, 0, 0, 0, 0, 0]) (hov2 : ov[2]? = some [99, 30, 50, 50, 1, 99999]) {d : Nat} {Q : Option Value → xe_H → Prop} {h : xe_H} {x0 : Int32} (T : xt h) (kk : (∀ (r : Int32) (h' : xe_H), (0 ≤ r.toInt ∧ r.toInt ≤ 99999) → xk [(0, 9), (115, 1), (83, 0), (29, 0), (31, 0), (33, 0), (35, 0), (37, 0), (39, 0), (41, 0), (43, 0), (45, 0), (47, 0), (49, 0), (51, 0), (125, 0), (66, 8), (115, 18), (71, 0), (132, 0)] h h' → Q (some (.int r)) h')) : xw J ov (d + 1) 39 (0, [(0, .int x0)], [], h) Q := by
  have K : xk [(0, 9), (115, 1), (83, 0), (29, 0), (31, 0), (33, 0), (35, 0), (37, 0), (39, 0), (41, 0), (43, 0), (45, 0), (47, 0), (49, 0), (51, 0), (125, 0), (66, 8), (115, 18), (71, 0), (132, 0)] h h := xk_re T
  have rx0 := xc_rng x0
  refine xi_iload_n (pc' := 1) (x := x0) kc_39_0 rfl rfl ?_
  by_cases c1 : 0 ≤ x0.toInt
  · refine xi_ift (pc' := 8) kc_39_1 rfl (xc_ge_t (X := x0.toInt) (Y := 0) rfl (by decide) (by omega)) ?_
    refine xi_iload_n (pc' := 9) (x := x0) kc_39_8 rfl rfl ?_
    refine xi_ldc (pc' := 11) (v := 99999) kc_39_9 rfl rfl ?_
    by_cases c2 : x0.toInt ≤ 99999
    · refine xi_cmt (pc' := 19) kc_39_11 rfl (xc_le_t (X := x0.toInt) (Y := 99999) rfl (by decide) (by omega)) ?_
      refine xi_iload_n (pc' := 20) (x := x0) kc_39_19 rfl rfl ?_
      refine xi_ireturn kc_39_20 mr_39 rfl ?_
      exact kk x0 h (by omega) K
    · refine xi_cmf (pc' := 14) kc_39_11 rfl (xc_le_f (X := x0.toInt) (Y := 99999) rfl (by decide) (by omega)) ?_
      refine xi_ldc (pc' := 16) (v := 99999) kc_39_14 rfl rfl ?_
      refine xi_goto (pc' := 20) kc_39_16 rfl ?_
      refine xi_ireturn kc_39_20 mr_39 rfl ?_
      have zc99999 : (99999 : Int32).toInt = 99999 := by decide
      exact kk 99999 h (by omega) K
  · refine xi_iff (pc' := 4) kc_39_1 rfl (xc_ge_f (X := x0.toInt) (Y := 0) rfl (by decide) (by omega)) ?_
    refine xi_iconst (pc' := 5) (v := 0) kc_39_4 rfl rfl ?_
    refine xi_goto (pc' := 20) kc_39_5 rfl ?_
    refine xi_ireturn kc_39_20 mr_39 rfl ?_
    have zc0 : (0 : Int32).toInt = 0 := by decide
    exact kk 0 h (by omega) K
set_option maxHeartbeats 4000000 in
theorem lp_40_0 {J : xe_J} {ov : List (List Int32)} (hJ : ∀ d mj as h, mj ≠ xe_loff → J d mj as h = none) (hov1 : ov[1]? = some [10, 0, 0, 0, 0, 0]) (hov2 : ov[2]? = some [99, 30, 50, 50, 1, 99999]) {d : Nat} {Q : Option Value → xe_H → Prop} {hb : xe_H} (kk : (∀ h' : xe_H, xk [(0, 9), (115, 1), (83, 0), (29, 0), (31, 0), (33, 0), (35, 0), (37, 0), (39, 0), (41, 0), (43, 0), (45, 0), (47, 0), (49, 0), (51, 0), (125, 0), (66, 8), (115, 18), (71, 0), (132, 0)] hb h' → Q none h')) : ∀ m : Nat, (∀ (x1 : Int32) (x2 : Int32) (x3 : Int32) (x4 : Int32) (x5 : Int32) (h : xe_H), (0 ≤ x1.toInt ∧ x1.toInt ≤ 5) → (1 ≤ x2.toInt ∧ x2.toInt ≤ 2147483647) → ((-1) ≤ x4.toInt ∧ x4.toInt ≤ 11) → ((-1) ≤ x5.toInt ∧ x5.toInt ≤ 11) → xk [(0, 9), (115, 1), (83, 0), (29, 0), (31, 0), (33, 0), (35, 0), (37, 0), (39, 0), (41, 0), (43, 0), (45, 0), (47, 0), (49, 0), (51, 0), (125, 0), (66, 8), (115, 18), (71, 0), (132, 0)] hb h → (1) * x5.toInt + 14 < (m : Int) → xw J ov (d + 2) 40 (9, [(0, .ref 115), (1, .int x1), (2, .int x2), (3, .int x3), (4, .int x4), (5, .int x5)], [], h) Q) ∧ (∀ (x1 : Int32) (x2 : Int32) (x3 : Int32) (x4 : Int32) (x5 : Int32) (x6 : Int32) (h : xe_H), (0 ≤ x1.toInt ∧ x1.toInt ≤ 5) → (1 ≤ x2.toInt ∧ x2.toInt ≤ 2147483647) → ((-1) ≤ x4.toInt ∧ x4.toInt ≤ 11) → (0 ≤ x6.toInt ∧ x6.toInt ≤ 12) → xk [(0, 9), (115, 1), (83, 0), (29, 0), (31, 0), (33, 0), (35, 0), (37, 0), (39, 0), (41, 0), (43, 0), (45, 0), (47, 0), (49, 0), (51, 0), (125, 0), (66, 8), (115, 18), (71, 0), (132, 0)] hb h → (-1) * x6.toInt + 12 < (m : Int) → xw J ov (d + 2) 40 (79, [(0, .ref 115), (1, .int x1), (2, .int x2), (3, .int x3), (4, .int x4), (5, .int x5), (6, .int x6)], [], h) Q) := by
  intro m
  induction m with
  | zero =>
    refine ⟨?_, ?_⟩
    · intro x1 x2 x3 x4 x5 h b1 b2 b4 b5 K hm; have rx3 := xc_rng x3; exfalso; omega
    · intro x1 x2 x3 x4 x5 x6 h b1 b2 b4 b6 K hm; have rx3 := xc_rng x3; have rx5 := xc_rng x5; exfalso; omega
  | succ m ih =>
    obtain ⟨i0, i1⟩ := ih
    refine ⟨?_, ?_⟩
    · intro x1 x2 x3 x4 x5 h b1 b2 b4 b5 K hm
      have rx3 := xc_rng x3
      refine xi_iload (pc' := 11) (x := x5) kc_40_9 rfl rfl ?_
      by_cases c1 : x5.toInt < 0
      · refine xi_ift (pc' := 73) kc_40_11 rfl (xc_lt_t (X := x5.toInt) (Y := 0) rfl (by decide) (by omega)) ?_
        refine xi_iload_n (pc' := 74) (x := x2) kc_40_73 rfl rfl ?_
        refine xi_istore (pc' := 76) (lv' := [(5, .int x2), (0, .ref 115), (1, .int x1), (2, .int x2), (3, .int x3), (4, .int x4)]) kc_40_74 rfl rfl (xm_lt ml_40 rfl) ?_
        refine xi_iconst (pc' := 77) (v := 0) kc_40_76 rfl rfl ?_
        refine xi_istore (pc' := 79) (lv' := [(6, .int 0), (5, .int x2), (0, .ref 115), (1, .int x1), (2, .int x2), (3, .int x3), (4, .int x4)]) kc_40_77 rfl rfl (xm_lt ml_40 rfl) ?_
        have zc0 : (0 : Int32).toInt = 0 := by decide
        refine xw_lv (b := [(0, .ref 115), (1, .int x1), (2, .int x2), (3, .int x3), (4, .int x4), (5, .int x2), (6, .int 0)]) (lvS_cons (lvS_cons (lvS_cons (lvS_cons (lvS_cons (lvS_cons (lvS_cons (lvS_nil (show ([6, 5, 0, 1, 2, 3, 4] : List Nat).Nodup by decide)) rfl) rfl) rfl) rfl) rfl) rfl) rfl) ?_
        exact i1 x1 x2 x3 x4 x2 0 h (by omega) (by omega) (by omega) (by omega) K (by omega)
      · refine xi_iff (pc' := 14) kc_40_11 rfl (xc_lt_f (X := x5.toInt) (Y := 0) rfl (by decide) (by omega)) ?_
        refine xi_aload_n (pc' := 15) (x := 115) kc_40_14 rfl rfl ?_
        refine xp_115 K.1 (fun u2 u3 u4 u5 u6 u7 u8 u9 u10 u11 u12 u13 u14 bu2 bu3 bu4 bu5 bu6 bu7 bu8 bu9 bu10 bu11 bu12 bu13 bu14 A15 => ?_)
        refine xi_getfield (pc' := 18) (v := .ref 125) kc_40_15 rfl rfl rfl A15 rfl ?_
        refine xi_iload (pc' := 20) (x := x5) kc_40_18 rfl rfl ?_
        refine xcps4 (xk_arr K.1 xD_125) (fun y16 A16 hy16 ry16 => ?_)
        refine xcps4 (xj_get hy16 ry16 (i := x5) (by omega) (by omega)) (fun v17 ev17 bv17 dv17 => ?_)
        refine xi_iaload (pc' := 21) (v := v17) kc_40_20 rfl A16 (by decide) rfl (xi_in (by omega) (by rw [hy16]; omega)) ev17 ?_
        refine xi_iload_n (pc' := 22) (x := x1) kc_40_21 rfl rfl ?_
        by_cases c18 : v17.toInt = x1.toInt
        · refine xi_cmf (pc' := 25) kc_40_22 rfl (xc_ne_f (X := v17.toInt) (Y := x1.toInt) rfl rfl (by omega)) ?_
          refine xi_aload_n (pc' := 26) (x := 115) kc_40_25 rfl rfl ?_
          refine xi_getfield (pc' := 29) (v := .ref 117) kc_40_26 rfl rfl rfl A15 rfl ?_
          refine xi_iload_n (pc' := 30) (x := x1) kc_40_29 rfl rfl ?_
          refine xcps4 (xk_arr K.1 xD_117) (fun y19 A19 hy19 ry19 => ?_)
          refine xcps4 (xj_get hy19 ry19 (i := x1) (by omega) (by omega)) (fun v20 ev20 bv20 dv20 => ?_)
          refine xi_iaload (pc' := 31) (v := v20) kc_40_30 rfl A19 (by decide) rfl (xi_in (by omega) (by rw [hy19]; omega)) ev20 ?_
          refine xi_aload_n (pc' := 32) (x := 115) kc_40_31 rfl rfl ?_
          refine xi_getfield (pc' := 35) (v := .int u7) kc_40_32 rfl rfl rfl A15 rfl ?_
          refine xcps2 (α := Int32) ((v20 : Int32) - u7) (fun v21 ev21 => ?_)
          have rv21 := xc_rng v21
          refine xi_isub (pc' := 36) (v := v21) kc_40_35 rfl ev21 ?_
          refine xi_aload_n (pc' := 37) (x := 115) kc_40_36 rfl rfl ?_
          refine xi_getfield (pc' := 40) (v := .ref 126) kc_40_37 rfl rfl rfl A15 rfl ?_
          refine xi_iload (pc' := 42) (x := x5) kc_40_40 rfl rfl ?_
          refine xcps4 (xk_arr K.1 xD_126) (fun y22 A22 hy22 ry22 => ?_)
          refine xcps4 (xj_get hy22 ry22 (i := x5) (by omega) (by omega)) (fun v23 ev23 bv23 dv23 => ?_)
          refine xi_iaload (pc' := 43) (v := v23) kc_40_42 rfl A22 (by decide) rfl (xi_in (by omega) (by rw [hy22]; omega)) ev23 ?_
          refine xcps2 (α := Int32) ((v21 : Int32) * v23) (fun v24 ev24 => ?_)
          have rv24 := xc_rng v24
          refine xi_imul (pc' := 44) (v := v24) kc_40_43 rfl ev24 ?_
          refine xi_bipush (pc' := 46) (v := 100) kc_40_44 rfl rfl ?_
          refine xcps2 (α := Int32) (v24 / 100) (fun v25 ev25 => ?_)
          have dv25 : 100 * v25.toInt ≤ v24.toInt + 99 ∧ v24.toInt ≤ 100 * v25.toInt + 99 := by rw [← ev25]; exact xz_div (X := v24.toInt) (Y := 100) rfl (by decide) (by decide)
          have bv25 : -21474837 ≤ v25.toInt ∧ v25.toInt ≤ 21474837 := by omega
          refine xi_idiv (pc' := 47) (v := v25) kc_40_46 rfl ev25 (by decide) ?_
          refine xi_istore (pc' := 49) (lv' := [(6, .int v25), (0, .ref 115), (1, .int x1), (2, .int x2), (3, .int x3), (4, .int x4), (5, .int x5)]) kc_40_47 rfl rfl (xm_lt ml_40 rfl) ?_
          refine xi_iload_n (pc' := 50) (x := x3) kc_40_49 rfl rfl ?_
          refine xi_iload (pc' := 52) (x := v25) kc_40_50 rfl rfl ?_
          by_cases c26 : 0 ≤ v25.toInt
          · refine xi_ift (pc' := 59) kc_40_52 rfl (xc_ge_t (X := v25.toInt) (Y := 0) rfl (by decide) (by omega)) ?_
            refine xi_iload (pc' := 61) (x := v25) kc_40_59 rfl rfl ?_
            refine xcps2 (α := Int32) ((x3 : Int32) + v25) (fun v27 ev27 => ?_)
            have rv27 := xc_rng v27
            refine xi_iadd (pc' := 62) (v := v27) kc_40_61 rfl ev27 ?_
            refine xi_istore_n (pc' := 63) (lv' := [(3, .int v27), (6, .int v25), (0, .ref 115), (1, .int x1), (2, .int x2), (4, .int x4), (5, .int x5)]) kc_40_62 rfl rfl (xm_lt ml_40 rfl) ?_
            refine xi_iload (pc' := 65) (x := x5) kc_40_63 rfl rfl ?_
            refine xi_istore (pc' := 67) (lv' := [(4, .int x5), (3, .int v27), (6, .int v25), (0, .ref 115), (1, .int x1), (2, .int x2), (5, .int x5)]) kc_40_65 rfl rfl (xm_lt ml_40 rfl) ?_
            refine xcps2 (α := Int32) (x5 + (-1)) (fun v28 ev28 => ?_)
            have zv28 : v28.toInt = (x5.toInt + (-1)) := by rw [← ev28]; exact (xz_add (X := x5.toInt) (Y := (-1)) rfl (by decide) (by omega) (by omega)).trans (by omega)
            refine xi_iinc (pc' := 70) (x := x5) (v := v28) (lv' := [(5, .int v28), (4, .int x5), (3, .int v27), (6, .int v25), (0, .ref 115), (1, .int x1), (2, .int x2)]) kc_40_67 rfl rfl ev28 rfl (xm_lt ml_40 rfl) ?_
            refine xi_goto (pc' := 9) kc_40_70 rfl ?_
            refine xw_lv (b := [(0, .ref 115), (1, .int x1), (2, .int x2), (3, .int v27), (4, .int x5), (5, .int v28)]) (lvS_cons (lvS_cons (lvS_cons (lvS_cons (lvS_cons (lvS_cons (lvS_nil (show ([5, 4, 3, 6, 0, 1, 2] : List Nat).Nodup by decide)) rfl) rfl) rfl) rfl) rfl) rfl) ?_
            exact i0 x1 x2 v27 x5 v28 h (by omega) (by omega) (by omega) (by omega) K (by omega)
          · refine xi_iff (pc' := 55) kc_40_52 rfl (xc_ge_f (X := v25.toInt) (Y := 0) rfl (by decide) (by omega)) ?_
            refine xi_iconst (pc' := 56) (v := 0) kc_40_55 rfl rfl ?_
            refine xi_goto (pc' := 61) kc_40_56 rfl ?_
            refine xcps2 (α := Int32) (x3 + 0) (fun v29 ev29 => ?_)
            have zv29 : v29.toInt = x3.toInt := by rw [← ev29]; exact (xz_add (X := x3.toInt) (Y := 0) rfl (by decide) (by omega) (by omega)).trans (by omega)
            refine xi_iadd (pc' := 62) (v := v29) kc_40_61 rfl ev29 ?_
            refine xi_istore_n (pc' := 63) (lv' := [(3, .int v29), (6, .int v25), (0, .ref 115), (1, .int x1), (2, .int x2), (4, .int x4), (5, .int x5)]) kc_40_62 rfl rfl (xm_lt ml_40 rfl) ?_
            refine xi_iload (pc' := 65) (x := x5) kc_40_63 rfl rfl ?_
            refine xi_istore (pc' := 67) (lv' := [(4, .int x5), (3, .int v29), (6, .int v25), (0, .ref 115), (1, .int x1), (2, .int x2), (5, .int x5)]) kc_40_65 rfl rfl (xm_lt ml_40 rfl) ?_
            refine xcps2 (α := Int32) (x5 + (-1)) (fun v30 ev30 => ?_)
            have zv30 : v30.toInt = (x5.toInt + (-1)) := by rw [← ev30]; exact (xz_add (X := x5.toInt) (Y := (-1)) rfl (by decide) (by omega) (by omega)).trans (by omega)
            refine xi_iinc (pc' := 70) (x := x5) (v := v30) (lv' := [(5, .int v30), (4, .int x5), (3, .int v29), (6, .int v25), (0, .ref 115), (1, .int x1), (2, .int x2)]) kc_40_67 rfl rfl ev30 rfl (xm_lt ml_40 rfl) ?_
            refine xi_goto (pc' := 9) kc_40_70 rfl ?_
            refine xw_lv (b := [(0, .ref 115), (1, .int x1), (2, .int x2), (3, .int v29), (4, .int x5), (5, .int v30)]) (lvS_cons (lvS_cons (lvS_cons (lvS_cons (lvS_cons (lvS_cons (lvS_nil (show ([5, 4, 3, 6, 0, 1, 2] : List Nat).Nodup by decide)) rfl) rfl) rfl) rfl) rfl) rfl) ?_
            exact i0 x1 x2 v29 x5 v30 h (by omega) (by omega) (by omega) (by omega) K (by omega)
        · refine xi_cmt (pc' := 67) kc_40_22 rfl (xc_ne_t (X := v17.toInt) (Y := x1.toInt) rfl rfl (by omega)) ?_
          refine xcps2 (α := Int32) (x5 + (-1)) (fun v31 ev31 => ?_)
          have zv31 : v31.toInt = (x5.toInt + (-1)) := by rw [← ev31]; exact (xz_add (X := x5.toInt) (Y := (-1)) rfl (by decide) (by omega) (by omega)).trans (by omega)
          refine xi_iinc (pc' := 70) (x := x5) (v := v31) (lv' := [(5, .int v31), (0, .ref 115), (1, .int x1), (2, .int x2), (3, .int x3), (4, .int x4)]) kc_40_67 rfl rfl ev31 rfl (xm_lt ml_40 rfl) ?_
          refine xi_goto (pc' := 9) kc_40_70 rfl ?_
          refine xw_lv (b := [(0, .ref 115), (1, .int x1), (2, .int x2), (3, .int x3), (4, .int x4), (5, .int v31)]) (lvS_cons (lvS_cons (lvS_cons (lvS_cons (lvS_cons (lvS_cons (lvS_nil (show ([5, 0, 1, 2, 3, 4] : List Nat).Nodup by decide)) rfl) rfl) rfl) rfl) rfl) rfl) ?_
          exact i0 x1 x2 x3 x4 v31 h (by omega) (by omega) (by omega) (by omega) K (by omega)
    · intro x1 x2 x3 x4 x5 x6 h b1 b2 b4 b6 K hm
      have rx3 := xc_rng x3
      have rx5 := xc_rng x5
      refine xi_iload (pc' := 81) (x := x6) kc_40_79 rfl rfl ?_
      refine xi_bipush (pc' := 83) (v := 12) kc_40_81 rfl rfl ?_
      by_cases c1 : 12 ≤ x6.toInt
      · refine xi_cmt (pc' := 179) kc_40_83 rfl (xc_ge_t (X := x6.toInt) (Y := 12) rfl (by decide) (by omega)) ?_
        refine xi_iload (pc' := 181) (x := x4) kc_40_179 rfl rfl ?_
        by_cases c2 : x4.toInt < 0
        · refine xi_ift (pc' := 204) kc_40_181 rfl (xc_lt_t (X := x4.toInt) (Y := 0) rfl (by decide) (by omega)) ?_
          refine xi_return kc_40_204 mr_40 ?_
          exact kk h K
        · refine xi_iff (pc' := 184) kc_40_181 rfl (xc_lt_f (X := x4.toInt) (Y := 0) rfl (by decide) (by omega)) ?_
          refine xi_aload_n (pc' := 185) (x := 115) kc_40_184 rfl rfl ?_
          refine xp_115 K.1 (fun u3 u4 u5 u6 u7 u8 u9 u10 u11 u12 u13 u14 u15 bu3 bu4 bu5 bu6 bu7 bu8 bu9 bu10 bu11 bu12 bu13 bu14 bu15 A16 => ?_)
          refine xi_getfield (pc' := 188) (v := .ref 142) kc_40_185 rfl rfl rfl A16 rfl ?_
          refine xi_iload (pc' := 190) (x := x4) kc_40_188 rfl rfl ?_
          refine xi_aload_n (pc' := 191) (x := 115) kc_40_190 rfl rfl ?_
          refine xi_getfield (pc' := 194) (v := .ref 142) kc_40_191 rfl rfl rfl A16 rfl ?_
          refine xi_iload (pc' := 196) (x := x4) kc_40_194 rfl rfl ?_
          refine xcps4 (xk_arr K.1 xD_142) (fun y17 A17 hy17 ry17 => ?_)
          refine xcps4 (xj_get hy17 ry17 (i := x4) (by omega) (by omega)) (fun v18 ev18 bv18 dv18 => ?_)
          refine xi_iaload (pc' := 197) (v := v18) kc_40_196 rfl A17 (by decide) rfl (xi_in (by omega) (by rw [hy17]; omega)) ev18 ?_
          refine xi_iload (pc' := 199) (x := x5) kc_40_197 rfl rfl ?_
          refine xcps2 (α := Int32) ((v18 : Int32) + x5) (fun v19 ev19 => ?_)
          have rv19 := xc_rng v19
          refine xi_iadd (pc' := 200) (v := v19) kc_40_199 rfl ev19 ?_
          refine xi_static (mj := 39) (as := [.int v19]) (st1 := [.int x4, .ref 142]) (lv0 := [(0, .int v19)]) kc_40_200 rfl rfl (Nat.le_of_ble_eq_true rfl) rfl rfl (Nat.le_of_ble_eq_true rfl) (hJ _ _ _ _ (by decide)) (xm_le ml_39 rfl) rfl ?_
          refine mt_39_0 hJ hov1 hov2 (d := d) (x0 := v19) K.1 (fun r20 hh21 br20 K22 => ?_)
          have K23 := xk_tr K K22 rfl
          refine xp_115 K23.1 (fun u24 u25 u26 u27 u28 u29 u30 u31 u32 u33 u34 u35 u36 bu24 bu25 bu26 bu27 bu28 bu29 bu30 bu31 bu32 bu33 bu34 bu35 bu36 A37 => ?_)
          have e38 : u4 = u25 := xk_eqi (q := 1) K22 rfl A16 A37 rfl rfl
          subst e38
          have e39 : u6 = u27 := xk_eqi (q := 18) K22 rfl A16 A37 rfl rfl
          subst e39
          show xw J ov (d + 2) 40 (203, [(0, .ref 115), (1, .int x1), (2, .int x2), (3, .int x3), (4, .int x4), (5, .int x5), (6, .int x6)], [.int r20, .int x4, .ref 142], hh21) _
          refine xcps4 (xk_arr K23.1 xD_142) (fun y40 A40 hy40 ry40 => ?_)
          refine xcps4 (xj_set (v := r20) hy40 ry40 x4 (by first | omega | decide) (by first | omega | decide)) (fun y41 s41 hy41 ry41 => ?_)
          refine xi_iastore (pc' := 204) (x' := y41) kc_40_203 rfl A40 rfl (xi_in (by omega) (by rw [hy40]; omega)) s41 (fun hh41 eh41 => ?_)
          have K42 := xk_pa K23 (xk_wa rfl) xD_142 hy41 ry41 eh41
          refine xi_return kc_40_204 mr_40 ?_
          exact kk hh41 K42
      · refine xi_cmf (pc' := 86) kc_40_83 rfl (xc_ge_f (X := x6.toInt) (Y := 12) rfl (by decide) (by omega)) ?_
        refine xi_iload_n (pc' := 87) (x := x3) kc_40_86 rfl rfl ?_
        by_cases c43 : x3.toInt ≤ 0
        · refine xi_ift (pc' := 179) kc_40_87 rfl (xc_le_t (X := x3.toInt) (Y := 0) rfl (by decide) (by omega)) ?_
          refine xi_iload (pc' := 181) (x := x4) kc_40_179 rfl rfl ?_
          by_cases c44 : x4.toInt < 0
          · refine xi_ift (pc' := 204) kc_40_181 rfl (xc_lt_t (X := x4.toInt) (Y := 0) rfl (by decide) (by omega)) ?_
            refine xi_return kc_40_204 mr_40 ?_
            exact kk h K
          · refine xi_iff (pc' := 184) kc_40_181 rfl (xc_lt_f (X := x4.toInt) (Y := 0) rfl (by decide) (by omega)) ?_
            refine xi_aload_n (pc' := 185) (x := 115) kc_40_184 rfl rfl ?_
            refine xp_115 K.1 (fun u45 u46 u47 u48 u49 u50 u51 u52 u53 u54 u55 u56 u57 bu45 bu46 bu47 bu48 bu49 bu50 bu51 bu52 bu53 bu54 bu55 bu56 bu57 A58 => ?_)
            refine xi_getfield (pc' := 188) (v := .ref 142) kc_40_185 rfl rfl rfl A58 rfl ?_
            refine xi_iload (pc' := 190) (x := x4) kc_40_188 rfl rfl ?_
            refine xi_aload_n (pc' := 191) (x := 115) kc_40_190 rfl rfl ?_
            refine xi_getfield (pc' := 194) (v := .ref 142) kc_40_191 rfl rfl rfl A58 rfl ?_
            refine xi_iload (pc' := 196) (x := x4) kc_40_194 rfl rfl ?_
            refine xcps4 (xk_arr K.1 xD_142) (fun y59 A59 hy59 ry59 => ?_)
            refine xcps4 (xj_get hy59 ry59 (i := x4) (by omega) (by omega)) (fun v60 ev60 bv60 dv60 => ?_)
            refine xi_iaload (pc' := 197) (v := v60) kc_40_196 rfl A59 (by decide) rfl (xi_in (by omega) (by rw [hy59]; omega)) ev60 ?_
            refine xi_iload (pc' := 199) (x := x5) kc_40_197 rfl rfl ?_
            refine xcps2 (α := Int32) ((v60 : Int32) + x5) (fun v61 ev61 => ?_)
            have rv61 := xc_rng v61
            refine xi_iadd (pc' := 200) (v := v61) kc_40_199 rfl ev61 ?_
            refine xi_static (mj := 39) (as := [.int v61]) (st1 := [.int x4, .ref 142]) (lv0 := [(0, .int v61)]) kc_40_200 rfl rfl (Nat.le_of_ble_eq_true rfl) rfl rfl (Nat.le_of_ble_eq_true rfl) (hJ _ _ _ _ (by decide)) (xm_le ml_39 rfl) rfl ?_
            refine mt_39_0 hJ hov1 hov2 (d := d) (x0 := v61) K.1 (fun r62 hh63 br62 K64 => ?_)
            have K65 := xk_tr K K64 rfl
            refine xp_115 K65.1 (fun u66 u67 u68 u69 u70 u71 u72 u73 u74 u75 u76 u77 u78 bu66 bu67 bu68 bu69 bu70 bu71 bu72 bu73 bu74 bu75 bu76 bu77 bu78 A79 => ?_)
            have e80 : u46 = u67 := xk_eqi (q := 1) K64 rfl A58 A79 rfl rfl
            subst e80
            have e81 : u48 = u69 := xk_eqi (q := 18) K64 rfl A58 A79 rfl rfl
            subst e81
            show xw J ov (d + 2) 40 (203, [(0, .ref 115), (1, .int x1), (2, .int x2), (3, .int x3), (4, .int x4), (5, .int x5), (6, .int x6)], [.int r62, .int x4, .ref 142], hh63) _
            refine xcps4 (xk_arr K65.1 xD_142) (fun y82 A82 hy82 ry82 => ?_)
            refine xcps4 (xj_set (v := r62) hy82 ry82 x4 (by first | omega | decide) (by first | omega | decide)) (fun y83 s83 hy83 ry83 => ?_)
            refine xi_iastore (pc' := 204) (x' := y83) kc_40_203 rfl A82 rfl (xi_in (by omega) (by rw [hy82]; omega)) s83 (fun hh83 eh83 => ?_)
            have K84 := xk_pa K65 (xk_wa rfl) xD_142 hy83 ry83 eh83
            refine xi_return kc_40_204 mr_40 ?_
            exact kk hh83 K84
        · refine xi_iff (pc' := 90) kc_40_87 rfl (xc_le_f (X := x3.toInt) (Y := 0) rfl (by decide) (by omega)) ?_
          refine xi_aload_n (pc' := 91) (x := 115) kc_40_90 rfl rfl ?_
          refine xp_115 K.1 (fun u85 u86 u87 u88 u89 u90 u91 u92 u93 u94 u95 u96 u97 bu85 bu86 bu87 bu88 bu89 bu90 bu91 bu92 bu93 bu94 bu95 bu96 bu97 A98 => ?_)
          refine xi_getfield (pc' := 94) (v := .ref 125) kc_40_91 rfl rfl rfl A98 rfl ?_
          refine xi_iload (pc' := 96) (x := x6) kc_40_94 rfl rfl ?_
          refine xcps4 (xk_arr K.1 xD_125) (fun y99 A99 hy99 ry99 => ?_)
          refine xcps4 (xj_get hy99 ry99 (i := x6) (by omega) (by omega)) (fun v100 ev100 bv100 dv100 => ?_)
          refine xi_iaload (pc' := 97) (v := v100) kc_40_96 rfl A99 (by decide) rfl (xi_in (by omega) (by rw [hy99]; omega)) ev100 ?_
          refine xi_iload_n (pc' := 98) (x := x1) kc_40_97 rfl rfl ?_
          by_cases c101 : v100.toInt = x1.toInt
          · refine xi_cmf (pc' := 101) kc_40_98 rfl (xc_ne_f (X := v100.toInt) (Y := x1.toInt) rfl rfl (by omega)) ?_
            refine xi_aload_n (pc' := 102) (x := 115) kc_40_101 rfl rfl ?_
            refine xi_getfield (pc' := 105) (v := .ref 117) kc_40_102 rfl rfl rfl A98 rfl ?_
            refine xi_iload_n (pc' := 106) (x := x1) kc_40_105 rfl rfl ?_
            refine xcps4 (xk_arr K.1 xD_117) (fun y102 A102 hy102 ry102 => ?_)
            refine xcps4 (xj_get hy102 ry102 (i := x1) (by omega) (by omega)) (fun v103 ev103 bv103 dv103 => ?_)
            refine xi_iaload (pc' := 107) (v := v103) kc_40_106 rfl A102 (by decide) rfl (xi_in (by omega) (by rw [hy102]; omega)) ev103 ?_
            refine xi_aload_n (pc' := 108) (x := 115) kc_40_107 rfl rfl ?_
            refine xi_getfield (pc' := 111) (v := .int u90) kc_40_108 rfl rfl rfl A98 rfl ?_
            refine xcps2 (α := Int32) ((v103 : Int32) - u90) (fun v104 ev104 => ?_)
            have rv104 := xc_rng v104
            refine xi_isub (pc' := 112) (v := v104) kc_40_111 rfl ev104 ?_
            refine xi_aload_n (pc' := 113) (x := 115) kc_40_112 rfl rfl ?_
            refine xi_getfield (pc' := 116) (v := .ref 126) kc_40_113 rfl rfl rfl A98 rfl ?_
            refine xi_iload (pc' := 118) (x := x6) kc_40_116 rfl rfl ?_
            refine xcps4 (xk_arr K.1 xD_126) (fun y105 A105 hy105 ry105 => ?_)
            refine xcps4 (xj_get hy105 ry105 (i := x6) (by omega) (by omega)) (fun v106 ev106 bv106 dv106 => ?_)
            refine xi_iaload (pc' := 119) (v := v106) kc_40_118 rfl A105 (by decide) rfl (xi_in (by omega) (by rw [hy105]; omega)) ev106 ?_
            refine xcps2 (α := Int32) ((v104 : Int32) * v106) (fun v107 ev107 => ?_)
            have rv107 := xc_rng v107
            refine xi_imul (pc' := 120) (v := v107) kc_40_119 rfl ev107 ?_
            refine xi_bipush (pc' := 122) (v := 100) kc_40_120 rfl rfl ?_
            refine xcps2 (α := Int32) (v107 / 100) (fun v108 ev108 => ?_)
            have dv108 : 100 * v108.toInt ≤ v107.toInt + 99 ∧ v107.toInt ≤ 100 * v108.toInt + 99 := by rw [← ev108]; exact xz_div (X := v107.toInt) (Y := 100) rfl (by decide) (by decide)
            have bv108 : -21474837 ≤ v108.toInt ∧ v108.toInt ≤ 21474837 := by omega
            refine xi_idiv (pc' := 123) (v := v108) kc_40_122 rfl ev108 (by decide) ?_
            refine xi_istore (pc' := 125) (lv' := [(7, .int v108), (0, .ref 115), (1, .int x1), (2, .int x2), (3, .int x3), (4, .int x4), (5, .int x5), (6, .int x6)]) kc_40_123 rfl rfl (xm_lt ml_40 rfl) ?_
            refine xi_iload (pc' := 127) (x := v108) kc_40_125 rfl rfl ?_
            by_cases c109 : 0 ≤ v108.toInt
            · refine xi_ift (pc' := 134) kc_40_127 rfl (xc_ge_t (X := v108.toInt) (Y := 0) rfl (by decide) (by omega)) ?_
              refine xi_iload_n (pc' := 135) (x := x2) kc_40_134 rfl rfl ?_
              obtain ⟨v110, ev110⟩ : ∃ q, (x2 : Int32).toInt64 = q := ⟨_, rfl⟩
              have zv110 : v110 ≠ 0 := xj_l0 ev110 (by omega)
              refine xi_i2l (pc' := 136) (v := v110) kc_40_135 rfl ev110 ?_
              refine xi_iload (pc' := 138) (x := v108) kc_40_136 rfl rfl ?_
              obtain ⟨v111, ev111⟩ : ∃ q, (v108 : Int32).toInt64 = q := ⟨_, rfl⟩
              refine xi_i2l (pc' := 139) (v := v111) kc_40_138 rfl ev111 ?_
              refine xcps2 (α := Int64) ((v110 : Int64) * v111) (fun v112 ev112 => ?_)
              refine xi_lmul (pc' := 140) (v := v112) kc_40_139 rfl ev112 ?_
              refine xi_iload_n (pc' := 141) (x := x3) kc_40_140 rfl rfl ?_
              obtain ⟨v113, ev113⟩ : ∃ q, (x3 : Int32).toInt64 = q := ⟨_, rfl⟩
              have zv113 : v113 ≠ 0 := xj_l0 ev113 (by omega)
              refine xi_i2l (pc' := 142) (v := v113) kc_40_141 rfl ev113 ?_
              refine xcps2 (α := Int64) ((v112 : Int64) / v113) (fun v114 ev114 => ?_)
              refine xi_ldiv (pc' := 143) (v := v114) kc_40_142 rfl ev114 zv113 ?_
              obtain ⟨v115, ev115⟩ : ∃ q, (v114 : Int64).toInt32 = q := ⟨_, rfl⟩
              have rv115 := xc_rng v115
              refine xi_l2i (pc' := 144) (v := v115) kc_40_143 rfl ev115 ?_
              refine xi_istore (pc' := 146) (lv' := [(8, .int v115), (7, .int v108), (0, .ref 115), (1, .int x1), (2, .int x2), (3, .int x3), (4, .int x4), (5, .int x5), (6, .int x6)]) kc_40_144 rfl rfl (xm_lt ml_40 rfl) ?_
              refine xi_aload_n (pc' := 147) (x := 115) kc_40_146 rfl rfl ?_
              refine xi_getfield (pc' := 150) (v := .ref 142) kc_40_147 rfl rfl rfl A98 rfl ?_
              refine xi_iload (pc' := 152) (x := x6) kc_40_150 rfl rfl ?_
              refine xi_aload_n (pc' := 153) (x := 115) kc_40_152 rfl rfl ?_
              refine xi_getfield (pc' := 156) (v := .ref 142) kc_40_153 rfl rfl rfl A98 rfl ?_
              refine xi_iload (pc' := 158) (x := x6) kc_40_156 rfl rfl ?_
              refine xcps4 (xk_arr K.1 xD_142) (fun y116 A116 hy116 ry116 => ?_)
              refine xcps4 (xj_get hy116 ry116 (i := x6) (by omega) (by omega)) (fun v117 ev117 bv117 dv117 => ?_)
              refine xi_iaload (pc' := 159) (v := v117) kc_40_158 rfl A116 (by decide) rfl (xi_in (by omega) (by rw [hy116]; omega)) ev117 ?_
              refine xi_iload (pc' := 161) (x := v115) kc_40_159 rfl rfl ?_
              refine xcps2 (α := Int32) ((v117 : Int32) + v115) (fun v118 ev118 => ?_)
              have rv118 := xc_rng v118
              refine xi_iadd (pc' := 162) (v := v118) kc_40_161 rfl ev118 ?_
              refine xi_static (mj := 39) (as := [.int v118]) (st1 := [.int x6, .ref 142]) (lv0 := [(0, .int v118)]) kc_40_162 rfl rfl (Nat.le_of_ble_eq_true rfl) rfl rfl (Nat.le_of_ble_eq_true rfl) (hJ _ _ _ _ (by decide)) (xm_le ml_39 rfl) rfl ?_
              refine mt_39_0 hJ hov1 hov2 (d := d) (x0 := v118) K.1 (fun r119 hh120 br119 K121 => ?_)
              have K122 := xk_tr K K121 rfl
              refine xp_115 K122.1 (fun u123 u124 u125 u126 u127 u128 u129 u130 u131 u132 u133 u134 u135 bu123 bu124 bu125 bu126 bu127 bu128 bu129 bu130 bu131 bu132 bu133 bu134 bu135 A136 => ?_)
              have e137 : u86 = u124 := xk_eqi (q := 1) K121 rfl A98 A136 rfl rfl
              subst e137
              have e138 : u88 = u126 := xk_eqi (q := 18) K121 rfl A98 A136 rfl rfl
              subst e138
              have A139 := xk_eqa (q := 0) K121 rfl A99
              show xw J ov (d + 2) 40 (165, [(8, .int v115), (7, .int v108), (0, .ref 115), (1, .int x1), (2, .int x2), (3, .int x3), (4, .int x4), (5, .int x5), (6, .int x6)], [.int r119, .int x6, .ref 142], hh120) _
              refine xcps4 (xk_arr K122.1 xD_142) (fun y140 A140 hy140 ry140 => ?_)
              refine xcps4 (xj_set (v := r119) hy140 ry140 x6 (by first | omega | decide) (by first | omega | decide)) (fun y141 s141 hy141 ry141 => ?_)
              refine xi_iastore (pc' := 166) (x' := y141) kc_40_165 rfl A140 rfl (xi_in (by omega) (by rw [hy140]; omega)) s141 (fun hh141 eh141 => ?_)
              have K142 := xk_pa K122 (xk_wa rfl) xD_142 hy141 ry141 eh141
              refine xi_iload (pc' := 168) (x := x5) kc_40_166 rfl rfl ?_
              refine xi_iload (pc' := 170) (x := v115) kc_40_168 rfl rfl ?_
              refine xcps2 (α := Int32) ((x5 : Int32) - v115) (fun v143 ev143 => ?_)
              have rv143 := xc_rng v143
              refine xi_isub (pc' := 171) (v := v143) kc_40_170 rfl ev143 ?_
              refine xi_istore (pc' := 173) (lv' := [(5, .int v143), (8, .int v115), (7, .int v108), (0, .ref 115), (1, .int x1), (2, .int x2), (3, .int x3), (4, .int x4), (6, .int x6)]) kc_40_171 rfl rfl (xm_lt ml_40 rfl) ?_
              refine xcps2 (α := Int32) (x6 + 1) (fun v144 ev144 => ?_)
              have zv144 : v144.toInt = (x6.toInt + 1) := by rw [← ev144]; exact (xz_add (X := x6.toInt) (Y := 1) rfl (by decide) (by omega) (by omega)).trans (by omega)
              refine xi_iinc (pc' := 176) (x := x6) (v := v144) (lv' := [(6, .int v144), (5, .int v143), (8, .int v115), (7, .int v108), (0, .ref 115), (1, .int x1), (2, .int x2), (3, .int x3), (4, .int x4)]) kc_40_173 rfl rfl ev144 rfl (xm_lt ml_40 rfl) ?_
              refine xi_goto (pc' := 79) kc_40_176 rfl ?_
              refine xw_lv (b := [(0, .ref 115), (1, .int x1), (2, .int x2), (3, .int x3), (4, .int x4), (5, .int v143), (6, .int v144)]) (lvS_cons (lvS_cons (lvS_cons (lvS_cons (lvS_cons (lvS_cons (lvS_cons (lvS_nil (show ([6, 5, 8, 7, 0, 1, 2, 3, 4] : List Nat).Nodup by decide)) rfl) rfl) rfl) rfl) rfl) rfl) rfl) ?_
              exact i1 x1 x2 x3 x4 v143 v144 hh141 (by omega) (by omega) (by omega) (by omega) K142 (by omega)
            · refine xi_iff (pc' := 130) kc_40_127 rfl (xc_ge_f (X := v108.toInt) (Y := 0) rfl (by decide) (by omega)) ?_
              refine xi_iconst (pc' := 131) (v := 0) kc_40_130 rfl rfl ?_
              refine xi_goto (pc' := 144) kc_40_131 rfl ?_
              refine xi_istore (pc' := 146) (lv' := [(8, .int 0), (7, .int v108), (0, .ref 115), (1, .int x1), (2, .int x2), (3, .int x3), (4, .int x4), (5, .int x5), (6, .int x6)]) kc_40_144 rfl rfl (xm_lt ml_40 rfl) ?_
              refine xi_aload_n (pc' := 147) (x := 115) kc_40_146 rfl rfl ?_
              refine xi_getfield (pc' := 150) (v := .ref 142) kc_40_147 rfl rfl rfl A98 rfl ?_
              refine xi_iload (pc' := 152) (x := x6) kc_40_150 rfl rfl ?_
              refine xi_aload_n (pc' := 153) (x := 115) kc_40_152 rfl rfl ?_
              refine xi_getfield (pc' := 156) (v := .ref 142) kc_40_153 rfl rfl rfl A98 rfl ?_
              refine xi_iload (pc' := 158) (x := x6) kc_40_156 rfl rfl ?_
              refine xcps4 (xk_arr K.1 xD_142) (fun y145 A145 hy145 ry145 => ?_)
              refine xcps4 (xj_get hy145 ry145 (i := x6) (by omega) (by omega)) (fun v146 ev146 bv146 dv146 => ?_)
              refine xi_iaload (pc' := 159) (v := v146) kc_40_158 rfl A145 (by decide) rfl (xi_in (by omega) (by rw [hy145]; omega)) ev146 ?_
              refine xi_iload (pc' := 161) (x := 0) kc_40_159 rfl rfl ?_
              refine xcps2 (α := Int32) (v146 + 0) (fun v147 ev147 => ?_)
              have zv147 : v147.toInt = v146.toInt := by rw [← ev147]; exact (xz_add (X := v146.toInt) (Y := 0) rfl (by decide) (by omega) (by omega)).trans (by omega)
              refine xi_iadd (pc' := 162) (v := v147) kc_40_161 rfl ev147 ?_
              refine xi_static (mj := 39) (as := [.int v147]) (st1 := [.int x6, .ref 142]) (lv0 := [(0, .int v147)]) kc_40_162 rfl rfl (Nat.le_of_ble_eq_true rfl) rfl rfl (Nat.le_of_ble_eq_true rfl) (hJ _ _ _ _ (by decide)) (xm_le ml_39 rfl) rfl ?_
              refine mt_39_0 hJ hov1 hov2 (d := d) (x0 := v147) K.1 (fun r148 hh149 br148 K150 => ?_)
              have K151 := xk_tr K K150 rfl
              refine xp_115 K151.1 (fun u152 u153 u154 u155 u156 u157 u158 u159 u160 u161 u162 u163 u164 bu152 bu153 bu154 bu155 bu156 bu157 bu158 bu159 bu160 bu161 bu162 bu163 bu164 A165 => ?_)
              have e166 : u86 = u153 := xk_eqi (q := 1) K150 rfl A98 A165 rfl rfl
              subst e166
              have e167 : u88 = u155 := xk_eqi (q := 18) K150 rfl A98 A165 rfl rfl
              subst e167
              have A168 := xk_eqa (q := 0) K150 rfl A99
              show xw J ov (d + 2) 40 (165, [(8, .int 0), (7, .int v108), (0, .ref 115), (1, .int x1), (2, .int x2), (3, .int x3), (4, .int x4), (5, .int x5), (6, .int x6)], [.int r148, .int x6, .ref 142], hh149) _
              refine xcps4 (xk_arr K151.1 xD_142) (fun y169 A169 hy169 ry169 => ?_)
              refine xcps4 (xj_set (v := r148) hy169 ry169 x6 (by first | omega | decide) (by first | omega | decide)) (fun y170 s170 hy170 ry170 => ?_)
              refine xi_iastore (pc' := 166) (x' := y170) kc_40_165 rfl A169 rfl (xi_in (by omega) (by rw [hy169]; omega)) s170 (fun hh170 eh170 => ?_)
              have K171 := xk_pa K151 (xk_wa rfl) xD_142 hy170 ry170 eh170
              refine xi_iload (pc' := 168) (x := x5) kc_40_166 rfl rfl ?_
              refine xi_iload (pc' := 170) (x := 0) kc_40_168 rfl rfl ?_
              refine xcps2 (α := Int32) (x5 - 0) (fun v172 ev172 => ?_)
              have zv172 : v172.toInt = x5.toInt := by rw [← ev172]; exact (xz_sub (X := x5.toInt) (Y := 0) rfl (by decide) (by omega) (by omega)).trans (by omega)
              refine xi_isub (pc' := 171) (v := v172) kc_40_170 rfl ev172 ?_
              refine xi_istore (pc' := 173) (lv' := [(5, .int v172), (8, .int 0), (7, .int v108), (0, .ref 115), (1, .int x1), (2, .int x2), (3, .int x3), (4, .int x4), (6, .int x6)]) kc_40_171 rfl rfl (xm_lt ml_40 rfl) ?_
              refine xcps2 (α := Int32) (x6 + 1) (fun v173 ev173 => ?_)
              have zv173 : v173.toInt = (x6.toInt + 1) := by rw [← ev173]; exact (xz_add (X := x6.toInt) (Y := 1) rfl (by decide) (by omega) (by omega)).trans (by omega)
              refine xi_iinc (pc' := 176) (x := x6) (v := v173) (lv' := [(6, .int v173), (5, .int v172), (8, .int 0), (7, .int v108), (0, .ref 115), (1, .int x1), (2, .int x2), (3, .int x3), (4, .int x4)]) kc_40_173 rfl rfl ev173 rfl (xm_lt ml_40 rfl) ?_
              refine xi_goto (pc' := 79) kc_40_176 rfl ?_
              refine xw_lv (b := [(0, .ref 115), (1, .int x1), (2, .int x2), (3, .int x3), (4, .int x4), (5, .int v172), (6, .int v173)]) (lvS_cons (lvS_cons (lvS_cons (lvS_cons (lvS_cons (lvS_cons (lvS_cons (lvS_nil (show ([6, 5, 8, 7, 0, 1, 2, 3, 4] : List Nat).Nodup by decide)) rfl) rfl) rfl) rfl) rfl) rfl) rfl) ?_
              exact i1 x1 x2 x3 x4 v172 v173 hh170 (by omega) (by omega) (by omega) (by omega) K171 (by omega)
          · refine xi_cmt (pc' := 173) kc_40_98 rfl (xc_ne_t (X := v100.toInt) (Y := x1.toInt) rfl rfl (by omega)) ?_
            refine xcps2 (α := Int32) (x6 + 1) (fun v174 ev174 => ?_)
            have zv174 : v174.toInt = (x6.toInt + 1) := by rw [← ev174]; exact (xz_add (X := x6.toInt) (Y := 1) rfl (by decide) (by omega) (by omega)).trans (by omega)
            refine xi_iinc (pc' := 176) (x := x6) (v := v174) (lv' := [(6, .int v174), (0, .ref 115), (1, .int x1), (2, .int x2), (3, .int x3), (4, .int x4), (5, .int x5)]) kc_40_173 rfl rfl ev174 rfl (xm_lt ml_40 rfl) ?_
            refine xi_goto (pc' := 79) kc_40_176 rfl ?_
            refine xw_lv (b := [(0, .ref 115), (1, .int x1), (2, .int x2), (3, .int x3), (4, .int x4), (5, .int x5), (6, .int v174)]) (lvS_cons (lvS_cons (lvS_cons (lvS_cons (lvS_cons (lvS_cons (lvS_cons (lvS_nil (show ([6, 0, 1, 2, 3, 4, 5] : List Nat).Nodup by decide)) rfl) rfl) rfl) rfl) rfl) rfl) rfl) ?_
            exact i1 x1 x2 x3 x4 x5 v174 h (by omega) (by omega) (by omega) (by omega) K (by omega)
set_option maxHeartbeats 4000000 in
theorem mt_40_0 {J : xe_J} {ov : List (List Int32)} (hJ : ∀ d mj as h, mj ≠ xe_loff → J d mj as h = none) (hov1 : ov[1]? = some [10, 0, 0, 0, 0, 0]) (hov2 : ov[2]? = some [99, 30, 50, 50, 1, 99999]) {d : Nat} {Q : Option Value → xe_H → Prop} {h : xe_H} {x1 : Int32} {x2 : Int32} (T : xt h) (b1 : (0 ≤ x1.toInt ∧ x1.toInt ≤ 5)) (b2 : (1 ≤ x2.toInt ∧ x2.toInt ≤ 2147483647)) (kk : (∀ h' : xe_H, xk [(0, 9), (115, 1), (83, 0), (29, 0), (31, 0), (33, 0), (35, 0), (37, 0), (39, 0), (41, 0), (43, 0), (45, 0), (47, 0), (49, 0), (51, 0), (125, 0), (66, 8), (115, 18), (71, 0), (132, 0)] h h' → Q none h')) : xw J ov (d + 2) 40 (0, [(0, .ref 115), (1, .int x1), (2, .int x2)], [], h) Q := by
  have K : xk [(0, 9), (115, 1), (83, 0), (29, 0), (31, 0), (33, 0), (35, 0), (37, 0), (39, 0), (41, 0), (43, 0), (45, 0), (47, 0), (49, 0), (51, 0), (125, 0), (66, 8), (115, 18), (71, 0), (132, 0)] h h := xk_re T
  refine xi_iconst (pc' := 1) (v := 0) kc_40_0 rfl rfl ?_
  refine xi_istore_n (pc' := 2) (lv' := [(3, .int 0), (0, .ref 115), (1, .int x1), (2, .int x2)]) kc_40_1 rfl rfl (xm_lt ml_40 rfl) ?_
  refine xi_iconst (pc' := 3) (v := (-1)) kc_40_2 rfl rfl ?_
  refine xi_istore (pc' := 5) (lv' := [(4, .int (-1)), (3, .int 0), (0, .ref 115), (1, .int x1), (2, .int x2)]) kc_40_3 rfl rfl (xm_lt ml_40 rfl) ?_
  refine xi_bipush (pc' := 7) (v := 11) kc_40_5 rfl rfl ?_
  refine xi_istore (pc' := 9) (lv' := [(5, .int 11), (4, .int (-1)), (3, .int 0), (0, .ref 115), (1, .int x1), (2, .int x2)]) kc_40_7 rfl rfl (xm_lt ml_40 rfl) ?_
  have zcm1 : ((-1) : Int32).toInt = (-1) := by decide
  have zc0 : (0 : Int32).toInt = 0 := by decide
  have zc11 : (11 : Int32).toInt = 11 := by decide
  refine xw_lv (b := [(0, .ref 115), (1, .int x1), (2, .int x2), (3, .int 0), (4, .int (-1)), (5, .int 11)]) (lvS_cons (lvS_cons (lvS_cons (lvS_cons (lvS_cons (lvS_cons (lvS_nil (show ([5, 4, 3, 0, 1, 2] : List Nat).Nodup by decide)) rfl) rfl) rfl) rfl) rfl) rfl) ?_
  exact (lp_40_0 hJ hov1 hov2 (d := d) (hb := h) (fun h9 K9 => kk h9 (xk_tr K K9 rfl)) 26).1 x1 x2 0 (-1) 11 h (by omega) (by omega) (by omega) (by omega) (xk_re K.1) (by omega)
set_option maxHeartbeats 4000000 in
theorem lp_37_0 {J : xe_J} {ov : List (List Int32)} (hJ : ∀ d mj as h, mj ≠ xe_loff → J d mj as h = none) (hov1 : ov[1]? = some [10, 0, 0, 0, 0, 0]) (hov2 : ov[2]? = some [99, 30, 50, 50, 1, 99999]) {d : Nat} {Q : Option Value → xe_H → Prop} {hb : xe_H} (kk : (∀ h' : xe_H, xk [(0, 9), (115, 1), (83, 0), (29, 0), (31, 0), (33, 0), (35, 0), (37, 0), (39, 0), (41, 0), (43, 0), (45, 0), (47, 0), (49, 0), (51, 0), (125, 0), (66, 8), (115, 18), (71, 0), (132, 0)] hb h' → Q none h')) : ∀ m : Nat, (∀ (x1 : Int32) (x2 : Int32) (x3 : Int32) (x4 : Int32) (x5 : Int32) (x6 : Int32) (h : xe_H), (0 ≤ x1.toInt ∧ x1.toInt ≤ 5) → (0 ≤ x2.toInt ∧ x2.toInt ≤ 63) → (0 ≤ x3.toInt ∧ x3.toInt ≤ 1) → (0 ≤ x4.toInt ∧ x4.toInt ≤ 599) → (0 ≤ x6.toInt ∧ x6.toInt ≤ 10) → xk [(0, 9), (115, 1), (83, 0), (29, 0), (31, 0), (33, 0), (35, 0), (37, 0), (39, 0), (41, 0), (43, 0), (45, 0), (47, 0), (49, 0), (51, 0), (125, 0), (66, 8), (115, 18), (71, 0), (132, 0)] hb h → (-1) * x6.toInt + 10 < (m : Int) → xw J ov (d + 3) 37 (27, [(0, .ref 115), (1, .int x1), (2, .int x2), (3, .int x3), (4, .int x4), (5, .int x5), (6, .int x6)], [], h) Q) := by
  intro m
  induction m with
  | zero =>
    intro x1 x2 x3 x4 x5 x6 h b1 b2 b3 b4 b6 K hm; have rx5 := xc_rng x5; exfalso; omega
  | succ m ih =>
    have i0 := ih
    intro x1 x2 x3 x4 x5 x6 h b1 b2 b3 b4 b6 K hm
    have rx5 := xc_rng x5
    refine xi_iload (pc' := 29) (x := x6) kc_37_27 rfl rfl ?_
    refine xi_aload_n (pc' := 30) (x := 115) kc_37_29 rfl rfl ?_
    refine xp_115 K.1 (fun u1 u2 u3 u4 u5 u6 u7 u8 u9 u10 u11 u12 u13 bu1 bu2 bu3 bu4 bu5 bu6 bu7 bu8 bu9 bu10 bu11 bu12 bu13 A14 => ?_)
    refine xi_getfield (pc' := 33) (v := .int u5) kc_37_30 rfl rfl rfl A14 rfl ?_
    by_cases c15 : u5.toInt ≤ x6.toInt
    · refine xi_cmt (pc' := 93) kc_37_33 rfl (xc_ge_t (X := x6.toInt) (Y := u5.toInt) rfl rfl (by omega)) ?_
      refine xi_iload (pc' := 95) (x := x5) kc_37_93 rfl rfl ?_
      refine xi_static (mj := 39) (as := [.int x5]) (st1 := []) (lv0 := [(0, .int x5)]) kc_37_95 rfl rfl (Nat.le_of_ble_eq_true rfl) rfl rfl (Nat.le_of_ble_eq_true rfl) (hJ _ _ _ _ (by decide)) (xm_le ml_39 rfl) rfl ?_
      refine mt_39_0 hJ hov1 hov2 (d := d + 1) (x0 := x5) K.1 (fun r16 hh17 br16 K18 => ?_)
      have K19 := xk_tr K K18 rfl
      refine xp_115 K19.1 (fun u20 u21 u22 u23 u24 u25 u26 u27 u28 u29 u30 u31 u32 bu20 bu21 bu22 bu23 bu24 bu25 bu26 bu27 bu28 bu29 bu30 bu31 bu32 A33 => ?_)
      have e34 : u2 = u21 := xk_eqi (q := 1) K18 rfl A14 A33 rfl rfl
      subst e34
      have e35 : u4 = u23 := xk_eqi (q := 18) K18 rfl A14 A33 rfl rfl
      subst e35
      show xw J ov (d + 3) 37 (98, [(0, .ref 115), (1, .int x1), (2, .int x2), (3, .int x3), (4, .int x4), (5, .int x5), (6, .int x6)], [.int r16], hh17) _
      refine xi_istore (pc' := 100) (lv' := [(5, .int r16), (0, .ref 115), (1, .int x1), (2, .int x2), (3, .int x3), (4, .int x4), (6, .int x6)]) kc_37_98 rfl rfl (xm_lt ml_37 rfl) ?_
      refine xi_aload_n (pc' := 101) (x := 115) kc_37_100 rfl rfl ?_
      refine xi_getfield (pc' := 104) (v := .ref 116) kc_37_101 rfl rfl rfl A33 rfl ?_
      refine xi_iload_n (pc' := 105) (x := x1) kc_37_104 rfl rfl ?_
      refine xcps4 (xk_arr K19.1 xD_116) (fun y36 A36 hy36 ry36 => ?_)
      refine xcps4 (xj_get hy36 ry36 (i := x1) (by omega) (by omega)) (fun v37 ev37 bv37 dv37 => ?_)
      refine xi_iaload (pc' := 106) (v := v37) kc_37_105 rfl A36 (by decide) rfl (xi_in (by omega) (by rw [hy36]; omega)) ev37 ?_
      refine xi_aload_n (pc' := 107) (x := 115) kc_37_106 rfl rfl ?_
      refine xi_getfield (pc' := 110) (v := .int u25) kc_37_107 rfl rfl rfl A33 rfl ?_
      refine xi_static (mj := 22) (as := [.int u25]) (st1 := [.int v37]) (lv0 := [(0, .int u25)]) kc_37_110 rfl rfl (Nat.le_of_ble_eq_true rfl) rfl rfl (Nat.le_of_ble_eq_true rfl) (hJ _ _ _ _ (by decide)) (xm_le ml_22 rfl) rfl ?_
      refine mt_22_0 hJ hov1 hov2 (d := d + 1) (x0 := u25) K19.1 (fun r38 hh39 br38 K40 => ?_)
      have K41 := xk_tr K19 K40 rfl
      refine xp_115 K41.1 (fun u42 u43 u44 u45 u46 u47 u48 u49 u50 u51 u52 u53 u54 bu42 bu43 bu44 bu45 bu46 bu47 bu48 bu49 bu50 bu51 bu52 bu53 bu54 A55 => ?_)
      have e56 : u2 = u43 := xk_eqi (q := 1) K40 rfl A33 A55 rfl rfl
      subst e56
      have e57 : u4 = u45 := xk_eqi (q := 18) K40 rfl A33 A55 rfl rfl
      subst e57
      show xw J ov (d + 3) 37 (113, [(5, .int r16), (0, .ref 115), (1, .int x1), (2, .int x2), (3, .int x3), (4, .int x4), (6, .int x6)], [.int r38, .int v37], hh39) _
      refine xcps2 (α := Int32) ((v37 : Int32) * r38) (fun v58 ev58 => ?_)
      have rv58 := xc_rng v58
      refine xi_imul (pc' := 114) (v := v58) kc_37_113 rfl ev58 ?_
      refine xi_iconst (pc' := 115) (v := 2) kc_37_114 rfl rfl ?_
      refine xcps2 (α := Int32) (v58 / 2) (fun v59 ev59 => ?_)
      have dv59 : 2 * v59.toInt ≤ v58.toInt + 1 ∧ v58.toInt ≤ 2 * v59.toInt + 1 := by rw [← ev59]; exact xz_div (X := v58.toInt) (Y := 2) rfl (by decide) (by decide)
      have bv59 : -1073741825 ≤ v59.toInt ∧ v59.toInt ≤ 1073741824 := by omega
      refine xi_idiv (pc' := 116) (v := v59) kc_37_115 rfl ev59 (by decide) ?_
      refine xi_istore (pc' := 118) (lv' := [(6, .int v59), (5, .int r16), (0, .ref 115), (1, .int x1), (2, .int x2), (3, .int x3), (4, .int x4)]) kc_37_116 rfl rfl (xm_lt ml_37 rfl) ?_
      refine xi_iload (pc' := 120) (x := r16) kc_37_118 rfl rfl ?_
      refine xi_iload (pc' := 122) (x := r16) kc_37_120 rfl rfl ?_
      refine xi_iload (pc' := 124) (x := v59) kc_37_122 rfl rfl ?_
      refine xcps2 (α := Int32) (r16 - v59) (fun v60 ev60 => ?_)
      have zv60 : v60.toInt = (r16.toInt + (-1) * v59.toInt) := by rw [← ev60]; exact (xz_sub (X := r16.toInt) (Y := v59.toInt) rfl rfl (by omega) (by omega)).trans (by omega)
      refine xi_isub (pc' := 125) (v := v60) kc_37_124 rfl ev60 ?_
      refine xi_aload_n (pc' := 126) (x := 115) kc_37_125 rfl rfl ?_
      refine xi_getfield (pc' := 129) (v := .ref 118) kc_37_126 rfl rfl rfl A55 rfl ?_
      refine xi_iload_n (pc' := 130) (x := x1) kc_37_129 rfl rfl ?_
      refine xcps4 (xk_arr K41.1 xD_118) (fun y61 A61 hy61 ry61 => ?_)
      refine xcps4 (xj_get hy61 ry61 (i := x1) (by omega) (by omega)) (fun v62 ev62 bv62 dv62 => ?_)
      refine xi_iaload (pc' := 131) (v := v62) kc_37_130 rfl A61 (by decide) rfl (xi_in (by omega) (by rw [hy61]; omega)) ev62 ?_
      refine xi_aload_n (pc' := 132) (x := 115) kc_37_131 rfl rfl ?_
      refine xi_getfield (pc' := 135) (v := .ref 120) kc_37_132 rfl rfl rfl A55 rfl ?_
      refine xi_iload_n (pc' := 136) (x := x1) kc_37_135 rfl rfl ?_
      refine xcps4 (xk_arr K41.1 xD_120) (fun y63 A63 hy63 ry63 => ?_)
      refine xcps4 (xj_get hy63 ry63 (i := x1) (by omega) (by omega)) (fun v64 ev64 bv64 dv64 => ?_)
      refine xi_iaload (pc' := 137) (v := v64) kc_37_136 rfl A63 (by decide) rfl (xi_in (by omega) (by rw [hy63]; omega)) ev64 ?_
      refine xi_iconst (pc' := 138) (v := 1) kc_37_137 rfl rfl ?_
      by_cases c65 : v64.toInt = 1
      · refine xi_cmf (pc' := 141) kc_37_138 rfl (xc_ne_f (X := v64.toInt) (Y := 1) rfl (by decide) (by omega)) ?_
        refine xi_aload_n (pc' := 142) (x := 115) kc_37_141 rfl rfl ?_
        refine xi_getfield (pc' := 145) (v := .ref 119) kc_37_142 rfl rfl rfl A55 rfl ?_
        refine xi_iload_n (pc' := 146) (x := x1) kc_37_145 rfl rfl ?_
        refine xcps4 (xk_arr K41.1 xD_119) (fun y66 A66 hy66 ry66 => ?_)
        refine xcps4 (xj_get hy66 ry66 (i := x1) (by omega) (by omega)) (fun v67 ev67 bv67 dv67 => ?_)
        refine xi_iaload (pc' := 147) (v := v67) kc_37_146 rfl A66 (by decide) rfl (xi_in (by omega) (by rw [hy66]; omega)) ev67 ?_
        refine xi_goto (pc' := 151) kc_37_147 rfl ?_
        refine xcps2 (α := Int32) ((v62 : Int32) + v67) (fun v68 ev68 => ?_)
        have rv68 := xc_rng v68
        refine xi_iadd (pc' := 152) (v := v68) kc_37_151 rfl ev68 ?_
        refine xcps2 (α := Int32) ((v60 : Int32) * v68) (fun v69 ev69 => ?_)
        have rv69 := xc_rng v69
        refine xi_imul (pc' := 153) (v := v69) kc_37_152 rfl ev69 ?_
        refine xi_bipush (pc' := 155) (v := 100) kc_37_153 rfl rfl ?_
        refine xcps2 (α := Int32) (v69 / 100) (fun v70 ev70 => ?_)
        have dv70 : 100 * v70.toInt ≤ v69.toInt + 99 ∧ v69.toInt ≤ 100 * v70.toInt + 99 := by rw [← ev70]; exact xz_div (X := v69.toInt) (Y := 100) rfl (by decide) (by decide)
        have bv70 : -21474837 ≤ v70.toInt ∧ v70.toInt ≤ 21474837 := by omega
        refine xi_idiv (pc' := 156) (v := v70) kc_37_155 rfl ev70 (by decide) ?_
        refine xcps2 (α := Int32) (r16 - v70) (fun v71 ev71 => ?_)
        have zv71 : v71.toInt = (r16.toInt + (-1) * v70.toInt) := by rw [← ev71]; exact (xz_sub (X := r16.toInt) (Y := v70.toInt) rfl rfl (by omega) (by omega)).trans (by omega)
        refine xi_isub (pc' := 157) (v := v71) kc_37_156 rfl ev71 ?_
        refine xi_static (mj := 39) (as := [.int v71]) (st1 := []) (lv0 := [(0, .int v71)]) kc_37_157 rfl rfl (Nat.le_of_ble_eq_true rfl) rfl rfl (Nat.le_of_ble_eq_true rfl) (hJ _ _ _ _ (by decide)) (xm_le ml_39 rfl) rfl ?_
        refine mt_39_0 hJ hov1 hov2 (d := d + 1) (x0 := v71) K41.1 (fun r72 hh73 br72 K74 => ?_)
        have K75 := xk_tr K41 K74 rfl
        refine xp_115 K75.1 (fun u76 u77 u78 u79 u80 u81 u82 u83 u84 u85 u86 u87 u88 bu76 bu77 bu78 bu79 bu80 bu81 bu82 bu83 bu84 bu85 bu86 bu87 bu88 A89 => ?_)
        have e90 : u2 = u77 := xk_eqi (q := 1) K74 rfl A55 A89 rfl rfl
        subst e90
        have e91 : u4 = u79 := xk_eqi (q := 18) K74 rfl A55 A89 rfl rfl
        subst e91
        show xw J ov (d + 3) 37 (160, [(6, .int v59), (5, .int r16), (0, .ref 115), (1, .int x1), (2, .int x2), (3, .int x3), (4, .int x4)], [.int r72], hh73) _
        refine xi_istore (pc' := 162) (lv' := [(5, .int r72), (6, .int v59), (0, .ref 115), (1, .int x1), (2, .int x2), (3, .int x3), (4, .int x4)]) kc_37_160 rfl rfl (xm_lt ml_37 rfl) ?_
        refine xi_aload_n (pc' := 163) (x := 115) kc_37_162 rfl rfl ?_
        refine xi_getfield (pc' := 166) (v := .ref 116) kc_37_163 rfl rfl rfl A89 rfl ?_
        refine xi_iload_n (pc' := 167) (x := x1) kc_37_166 rfl rfl ?_
        refine xcps4 (xk_arr K75.1 xD_116) (fun y92 A92 hy92 ry92 => ?_)
        refine xcps4 (xj_get hy92 ry92 (i := x1) (by omega) (by omega)) (fun v93 ev93 bv93 dv93 => ?_)
        refine xi_iaload (pc' := 168) (v := v93) kc_37_167 rfl A92 (by decide) rfl (xi_in (by omega) (by rw [hy92]; omega)) ev93 ?_
        refine xi_aload_n (pc' := 169) (x := 115) kc_37_168 rfl rfl ?_
        refine xi_getfield (pc' := 172) (v := .ref 117) kc_37_169 rfl rfl rfl A89 rfl ?_
        refine xi_iload_n (pc' := 173) (x := x1) kc_37_172 rfl rfl ?_
        refine xcps4 (xk_arr K75.1 xD_117) (fun y94 A94 hy94 ry94 => ?_)
        refine xcps4 (xj_get hy94 ry94 (i := x1) (by omega) (by omega)) (fun v95 ev95 bv95 dv95 => ?_)
        refine xi_iaload (pc' := 174) (v := v95) kc_37_173 rfl A94 (by decide) rfl (xi_in (by omega) (by rw [hy94]; omega)) ev95 ?_
        refine xi_static (mj := 22) (as := [.int v95]) (st1 := [.int v93]) (lv0 := [(0, .int v95)]) kc_37_174 rfl rfl (Nat.le_of_ble_eq_true rfl) rfl rfl (Nat.le_of_ble_eq_true rfl) (hJ _ _ _ _ (by decide)) (xm_le ml_22 rfl) rfl ?_
        refine mt_22_0 hJ hov1 hov2 (d := d + 1) (x0 := v95) K75.1 (fun r96 hh97 br96 K98 => ?_)
        have K99 := xk_tr K75 K98 rfl
        refine xp_115 K99.1 (fun u100 u101 u102 u103 u104 u105 u106 u107 u108 u109 u110 u111 u112 bu100 bu101 bu102 bu103 bu104 bu105 bu106 bu107 bu108 bu109 bu110 bu111 bu112 A113 => ?_)
        have e114 : u2 = u101 := xk_eqi (q := 1) K98 rfl A89 A113 rfl rfl
        subst e114
        have e115 : u4 = u103 := xk_eqi (q := 18) K98 rfl A89 A113 rfl rfl
        subst e115
        show xw J ov (d + 3) 37 (177, [(5, .int r72), (6, .int v59), (0, .ref 115), (1, .int x1), (2, .int x2), (3, .int x3), (4, .int x4)], [.int r96, .int v93], hh97) _
        refine xcps2 (α := Int32) ((v93 : Int32) * r96) (fun v116 ev116 => ?_)
        have rv116 := xc_rng v116
        refine xi_imul (pc' := 178) (v := v116) kc_37_177 rfl ev116 ?_
        refine xi_istore (pc' := 180) (lv' := [(7, .int v116), (5, .int r72), (6, .int v59), (0, .ref 115), (1, .int x1), (2, .int x2), (3, .int x3), (4, .int x4)]) kc_37_178 rfl rfl (xm_lt ml_37 rfl) ?_
        refine xi_iload (pc' := 182) (x := r72) kc_37_180 rfl rfl ?_
        refine xi_iload (pc' := 184) (x := v116) kc_37_182 rfl rfl ?_
        by_cases c117 : r72.toInt ≤ v116.toInt
        · refine xi_cmt (pc' := 195) kc_37_184 rfl (xc_le_t (X := r72.toInt) (Y := v116.toInt) rfl rfl (by omega)) ?_
          refine xi_iconst (pc' := 196) (v := 0) kc_37_195 rfl rfl ?_
          refine xi_istore (pc' := 198) (lv' := [(8, .int 0), (7, .int v116), (5, .int r72), (6, .int v59), (0, .ref 115), (1, .int x1), (2, .int x2), (3, .int x3), (4, .int x4)]) kc_37_196 rfl rfl (xm_lt ml_37 rfl) ?_
          refine xi_aload_n (pc' := 199) (x := 115) kc_37_198 rfl rfl ?_
          refine xi_getfield (pc' := 202) (v := .ref 141) kc_37_199 rfl rfl rfl A113 rfl ?_
          refine xi_iload_n (pc' := 203) (x := x1) kc_37_202 rfl rfl ?_
          refine xi_iload (pc' := 205) (x := r72) kc_37_203 rfl rfl ?_
          refine xi_iload (pc' := 207) (x := 0) kc_37_205 rfl rfl ?_
          refine xcps2 (α := Int32) (r72 - 0) (fun v118 ev118 => ?_)
          have zv118 : v118.toInt = r72.toInt := by rw [← ev118]; exact (xz_sub (X := r72.toInt) (Y := 0) rfl (by decide) (by omega) (by omega)).trans (by omega)
          refine xi_isub (pc' := 208) (v := v118) kc_37_207 rfl ev118 ?_
          refine xcps4 (xk_arr K99.1 xD_141) (fun y119 A119 hy119 ry119 => ?_)
          refine xcps4 (xj_set (v := v118) hy119 ry119 x1 (by first | omega | decide) (by first | omega | decide)) (fun y120 s120 hy120 ry120 => ?_)
          refine xi_iastore (pc' := 209) (x' := y120) kc_37_208 rfl A119 rfl (xi_in (by omega) (by rw [hy119]; omega)) s120 (fun hh120 eh120 => ?_)
          have K121 := xk_pa K99 (xk_wa rfl) xD_141 hy120 ry120 eh120
          refine xi_iload (pc' := 211) (x := 0) kc_37_209 rfl rfl ?_
          refine xi_ift (pc' := 221) kc_37_211 rfl rfl ?_
          refine xi_return kc_37_221 mr_37 ?_
          exact kk hh120 K121
        · refine xi_cmf (pc' := 187) kc_37_184 rfl (xc_le_f (X := r72.toInt) (Y := v116.toInt) rfl rfl (by omega)) ?_
          refine xi_iload (pc' := 189) (x := r72) kc_37_187 rfl rfl ?_
          refine xi_iload (pc' := 191) (x := v116) kc_37_189 rfl rfl ?_
          refine xcps2 (α := Int32) ((r72 : Int32) - v116) (fun v122 ev122 => ?_)
          have rv122 := xc_rng v122
          refine xi_isub (pc' := 192) (v := v122) kc_37_191 rfl ev122 ?_
          refine xi_goto (pc' := 196) kc_37_192 rfl ?_
          refine xi_istore (pc' := 198) (lv' := [(8, .int v122), (7, .int v116), (5, .int r72), (6, .int v59), (0, .ref 115), (1, .int x1), (2, .int x2), (3, .int x3), (4, .int x4)]) kc_37_196 rfl rfl (xm_lt ml_37 rfl) ?_
          refine xi_aload_n (pc' := 199) (x := 115) kc_37_198 rfl rfl ?_
          refine xi_getfield (pc' := 202) (v := .ref 141) kc_37_199 rfl rfl rfl A113 rfl ?_
          refine xi_iload_n (pc' := 203) (x := x1) kc_37_202 rfl rfl ?_
          refine xi_iload (pc' := 205) (x := r72) kc_37_203 rfl rfl ?_
          refine xi_iload (pc' := 207) (x := v122) kc_37_205 rfl rfl ?_
          refine xcps2 (α := Int32) ((r72 : Int32) - v122) (fun v123 ev123 => ?_)
          have rv123 := xc_rng v123
          refine xi_isub (pc' := 208) (v := v123) kc_37_207 rfl ev123 ?_
          refine xcps4 (xk_arr K99.1 xD_141) (fun y124 A124 hy124 ry124 => ?_)
          refine xcps4 (xj_set (v := v123) hy124 ry124 x1 (by first | omega | decide) (by first | omega | decide)) (fun y125 s125 hy125 ry125 => ?_)
          refine xi_iastore (pc' := 209) (x' := y125) kc_37_208 rfl A124 rfl (xi_in (by omega) (by rw [hy124]; omega)) s125 (fun hh125 eh125 => ?_)
          have K126 := xk_pa K99 (xk_wa rfl) xD_141 hy125 ry125 eh125
          refine xi_iload (pc' := 211) (x := v122) kc_37_209 rfl rfl ?_
          by_cases c127 : v122.toInt ≤ 0
          · refine xi_ift (pc' := 221) kc_37_211 rfl (xc_le_t (X := v122.toInt) (Y := 0) rfl (by decide) (by omega)) ?_
            refine xi_return kc_37_221 mr_37 ?_
            exact kk hh125 K126
          · refine xi_iff (pc' := 214) kc_37_211 rfl (xc_le_f (X := v122.toInt) (Y := 0) rfl (by decide) (by omega)) ?_
            refine xi_aload_n (pc' := 215) (x := 115) kc_37_214 rfl rfl ?_
            refine xi_iload_n (pc' := 216) (x := x1) kc_37_215 rfl rfl ?_
            refine xi_iload (pc' := 218) (x := v122) kc_37_216 rfl rfl ?_
            have A128 := ((eh125.2.1 115 (by decide)).trans A113)
            refine xi_virtual (mj := 40) (as := [.int x1, .int v122]) (st1 := []) (lv0 := [(0, .ref 115), (1, .int x1), (2, .int v122)]) kc_37_218 rfl rfl rfl rfl rfl A128 (Nat.le_of_ble_eq_true rfl) (hJ _ _ _ _ (by decide)) (xm_le ml_40 rfl) rfl ?_
            refine mt_40_0 hJ hov1 hov2 (d := d) (x1 := x1) (x2 := v122) K126.1 (by first | omega | decide) (by first | omega | decide) (fun hh130 K131 => ?_)
            have K132 := xk_tr K126 K131 rfl
            refine xp_115 K132.1 (fun u133 u134 u135 u136 u137 u138 u139 u140 u141 u142 u143 u144 u145 bu133 bu134 bu135 bu136 bu137 bu138 bu139 bu140 bu141 bu142 bu143 bu144 bu145 A146 => ?_)
            have e147 : u2 = u134 := xk_eqi (q := 1) K131 rfl A128 A146 rfl rfl
            subst e147
            have e148 : u4 = u136 := xk_eqi (q := 18) K131 rfl A128 A146 rfl rfl
            subst e148
            show xw J ov (d + 3) 37 (221, [(8, .int v122), (7, .int v116), (5, .int r72), (6, .int v59), (0, .ref 115), (1, .int x1), (2, .int x2), (3, .int x3), (4, .int x4)], [], hh130) _
            refine xi_return kc_37_221 mr_37 ?_
            exact kk hh130 K132
      · refine xi_cmt (pc' := 150) kc_37_138 rfl (xc_ne_t (X := v64.toInt) (Y := 1) rfl (by decide) (by omega)) ?_
        refine xi_iconst (pc' := 151) (v := 0) kc_37_150 rfl rfl ?_
        refine xcps2 (α := Int32) (v62 + 0) (fun v149 ev149 => ?_)
        have zv149 : v149.toInt = v62.toInt := by rw [← ev149]; exact (xz_add (X := v62.toInt) (Y := 0) rfl (by decide) (by omega) (by omega)).trans (by omega)
        refine xi_iadd (pc' := 152) (v := v149) kc_37_151 rfl ev149 ?_
        refine xcps2 (α := Int32) ((v60 : Int32) * v149) (fun v150 ev150 => ?_)
        have rv150 := xc_rng v150
        refine xi_imul (pc' := 153) (v := v150) kc_37_152 rfl ev150 ?_
        refine xi_bipush (pc' := 155) (v := 100) kc_37_153 rfl rfl ?_
        refine xcps2 (α := Int32) (v150 / 100) (fun v151 ev151 => ?_)
        have dv151 : 100 * v151.toInt ≤ v150.toInt + 99 ∧ v150.toInt ≤ 100 * v151.toInt + 99 := by rw [← ev151]; exact xz_div (X := v150.toInt) (Y := 100) rfl (by decide) (by decide)
        have bv151 : -21474837 ≤ v151.toInt ∧ v151.toInt ≤ 21474837 := by omega
        refine xi_idiv (pc' := 156) (v := v151) kc_37_155 rfl ev151 (by decide) ?_
        refine xcps2 (α := Int32) (r16 - v151) (fun v152 ev152 => ?_)
        have zv152 : v152.toInt = (r16.toInt + (-1) * v151.toInt) := by rw [← ev152]; exact (xz_sub (X := r16.toInt) (Y := v151.toInt) rfl rfl (by omega) (by omega)).trans (by omega)
        refine xi_isub (pc' := 157) (v := v152) kc_37_156 rfl ev152 ?_
        refine xi_static (mj := 39) (as := [.int v152]) (st1 := []) (lv0 := [(0, .int v152)]) kc_37_157 rfl rfl (Nat.le_of_ble_eq_true rfl) rfl rfl (Nat.le_of_ble_eq_true rfl) (hJ _ _ _ _ (by decide)) (xm_le ml_39 rfl) rfl ?_
        refine mt_39_0 hJ hov1 hov2 (d := d + 1) (x0 := v152) K41.1 (fun r153 hh154 br153 K155 => ?_)
        have K156 := xk_tr K41 K155 rfl
        refine xp_115 K156.1 (fun u157 u158 u159 u160 u161 u162 u163 u164 u165 u166 u167 u168 u169 bu157 bu158 bu159 bu160 bu161 bu162 bu163 bu164 bu165 bu166 bu167 bu168 bu169 A170 => ?_)
        have e171 : u2 = u158 := xk_eqi (q := 1) K155 rfl A55 A170 rfl rfl
        subst e171
        have e172 : u4 = u160 := xk_eqi (q := 18) K155 rfl A55 A170 rfl rfl
        subst e172
        show xw J ov (d + 3) 37 (160, [(6, .int v59), (5, .int r16), (0, .ref 115), (1, .int x1), (2, .int x2), (3, .int x3), (4, .int x4)], [.int r153], hh154) _
        refine xi_istore (pc' := 162) (lv' := [(5, .int r153), (6, .int v59), (0, .ref 115), (1, .int x1), (2, .int x2), (3, .int x3), (4, .int x4)]) kc_37_160 rfl rfl (xm_lt ml_37 rfl) ?_
        refine xi_aload_n (pc' := 163) (x := 115) kc_37_162 rfl rfl ?_
        refine xi_getfield (pc' := 166) (v := .ref 116) kc_37_163 rfl rfl rfl A170 rfl ?_
        refine xi_iload_n (pc' := 167) (x := x1) kc_37_166 rfl rfl ?_
        refine xcps4 (xk_arr K156.1 xD_116) (fun y173 A173 hy173 ry173 => ?_)
        refine xcps4 (xj_get hy173 ry173 (i := x1) (by omega) (by omega)) (fun v174 ev174 bv174 dv174 => ?_)
        refine xi_iaload (pc' := 168) (v := v174) kc_37_167 rfl A173 (by decide) rfl (xi_in (by omega) (by rw [hy173]; omega)) ev174 ?_
        refine xi_aload_n (pc' := 169) (x := 115) kc_37_168 rfl rfl ?_
        refine xi_getfield (pc' := 172) (v := .ref 117) kc_37_169 rfl rfl rfl A170 rfl ?_
        refine xi_iload_n (pc' := 173) (x := x1) kc_37_172 rfl rfl ?_
        refine xcps4 (xk_arr K156.1 xD_117) (fun y175 A175 hy175 ry175 => ?_)
        refine xcps4 (xj_get hy175 ry175 (i := x1) (by omega) (by omega)) (fun v176 ev176 bv176 dv176 => ?_)
        refine xi_iaload (pc' := 174) (v := v176) kc_37_173 rfl A175 (by decide) rfl (xi_in (by omega) (by rw [hy175]; omega)) ev176 ?_
        refine xi_static (mj := 22) (as := [.int v176]) (st1 := [.int v174]) (lv0 := [(0, .int v176)]) kc_37_174 rfl rfl (Nat.le_of_ble_eq_true rfl) rfl rfl (Nat.le_of_ble_eq_true rfl) (hJ _ _ _ _ (by decide)) (xm_le ml_22 rfl) rfl ?_
        refine mt_22_0 hJ hov1 hov2 (d := d + 1) (x0 := v176) K156.1 (fun r177 hh178 br177 K179 => ?_)
        have K180 := xk_tr K156 K179 rfl
        refine xp_115 K180.1 (fun u181 u182 u183 u184 u185 u186 u187 u188 u189 u190 u191 u192 u193 bu181 bu182 bu183 bu184 bu185 bu186 bu187 bu188 bu189 bu190 bu191 bu192 bu193 A194 => ?_)
        have e195 : u2 = u182 := xk_eqi (q := 1) K179 rfl A170 A194 rfl rfl
        subst e195
        have e196 : u4 = u184 := xk_eqi (q := 18) K179 rfl A170 A194 rfl rfl
        subst e196
        show xw J ov (d + 3) 37 (177, [(5, .int r153), (6, .int v59), (0, .ref 115), (1, .int x1), (2, .int x2), (3, .int x3), (4, .int x4)], [.int r177, .int v174], hh178) _
        refine xcps2 (α := Int32) ((v174 : Int32) * r177) (fun v197 ev197 => ?_)
        have rv197 := xc_rng v197
        refine xi_imul (pc' := 178) (v := v197) kc_37_177 rfl ev197 ?_
        refine xi_istore (pc' := 180) (lv' := [(7, .int v197), (5, .int r153), (6, .int v59), (0, .ref 115), (1, .int x1), (2, .int x2), (3, .int x3), (4, .int x4)]) kc_37_178 rfl rfl (xm_lt ml_37 rfl) ?_
        refine xi_iload (pc' := 182) (x := r153) kc_37_180 rfl rfl ?_
        refine xi_iload (pc' := 184) (x := v197) kc_37_182 rfl rfl ?_
        by_cases c198 : r153.toInt ≤ v197.toInt
        · refine xi_cmt (pc' := 195) kc_37_184 rfl (xc_le_t (X := r153.toInt) (Y := v197.toInt) rfl rfl (by omega)) ?_
          refine xi_iconst (pc' := 196) (v := 0) kc_37_195 rfl rfl ?_
          refine xi_istore (pc' := 198) (lv' := [(8, .int 0), (7, .int v197), (5, .int r153), (6, .int v59), (0, .ref 115), (1, .int x1), (2, .int x2), (3, .int x3), (4, .int x4)]) kc_37_196 rfl rfl (xm_lt ml_37 rfl) ?_
          refine xi_aload_n (pc' := 199) (x := 115) kc_37_198 rfl rfl ?_
          refine xi_getfield (pc' := 202) (v := .ref 141) kc_37_199 rfl rfl rfl A194 rfl ?_
          refine xi_iload_n (pc' := 203) (x := x1) kc_37_202 rfl rfl ?_
          refine xi_iload (pc' := 205) (x := r153) kc_37_203 rfl rfl ?_
          refine xi_iload (pc' := 207) (x := 0) kc_37_205 rfl rfl ?_
          refine xcps2 (α := Int32) (r153 - 0) (fun v199 ev199 => ?_)
          have zv199 : v199.toInt = r153.toInt := by rw [← ev199]; exact (xz_sub (X := r153.toInt) (Y := 0) rfl (by decide) (by omega) (by omega)).trans (by omega)
          refine xi_isub (pc' := 208) (v := v199) kc_37_207 rfl ev199 ?_
          refine xcps4 (xk_arr K180.1 xD_141) (fun y200 A200 hy200 ry200 => ?_)
          refine xcps4 (xj_set (v := v199) hy200 ry200 x1 (by first | omega | decide) (by first | omega | decide)) (fun y201 s201 hy201 ry201 => ?_)
          refine xi_iastore (pc' := 209) (x' := y201) kc_37_208 rfl A200 rfl (xi_in (by omega) (by rw [hy200]; omega)) s201 (fun hh201 eh201 => ?_)
          have K202 := xk_pa K180 (xk_wa rfl) xD_141 hy201 ry201 eh201
          refine xi_iload (pc' := 211) (x := 0) kc_37_209 rfl rfl ?_
          refine xi_ift (pc' := 221) kc_37_211 rfl rfl ?_
          refine xi_return kc_37_221 mr_37 ?_
          exact kk hh201 K202
        · refine xi_cmf (pc' := 187) kc_37_184 rfl (xc_le_f (X := r153.toInt) (Y := v197.toInt) rfl rfl (by omega)) ?_
          refine xi_iload (pc' := 189) (x := r153) kc_37_187 rfl rfl ?_
          refine xi_iload (pc' := 191) (x := v197) kc_37_189 rfl rfl ?_
          refine xcps2 (α := Int32) ((r153 : Int32) - v197) (fun v203 ev203 => ?_)
          have rv203 := xc_rng v203
          refine xi_isub (pc' := 192) (v := v203) kc_37_191 rfl ev203 ?_
          refine xi_goto (pc' := 196) kc_37_192 rfl ?_
          refine xi_istore (pc' := 198) (lv' := [(8, .int v203), (7, .int v197), (5, .int r153), (6, .int v59), (0, .ref 115), (1, .int x1), (2, .int x2), (3, .int x3), (4, .int x4)]) kc_37_196 rfl rfl (xm_lt ml_37 rfl) ?_
          refine xi_aload_n (pc' := 199) (x := 115) kc_37_198 rfl rfl ?_
          refine xi_getfield (pc' := 202) (v := .ref 141) kc_37_199 rfl rfl rfl A194 rfl ?_
          refine xi_iload_n (pc' := 203) (x := x1) kc_37_202 rfl rfl ?_
          refine xi_iload (pc' := 205) (x := r153) kc_37_203 rfl rfl ?_
          refine xi_iload (pc' := 207) (x := v203) kc_37_205 rfl rfl ?_
          refine xcps2 (α := Int32) ((r153 : Int32) - v203) (fun v204 ev204 => ?_)
          have rv204 := xc_rng v204
          refine xi_isub (pc' := 208) (v := v204) kc_37_207 rfl ev204 ?_
          refine xcps4 (xk_arr K180.1 xD_141) (fun y205 A205 hy205 ry205 => ?_)
          refine xcps4 (xj_set (v := v204) hy205 ry205 x1 (by first | omega | decide) (by first | omega | decide)) (fun y206 s206 hy206 ry206 => ?_)
          refine xi_iastore (pc' := 209) (x' := y206) kc_37_208 rfl A205 rfl (xi_in (by omega) (by rw [hy205]; omega)) s206 (fun hh206 eh206 => ?_)
          have K207 := xk_pa K180 (xk_wa rfl) xD_141 hy206 ry206 eh206
          refine xi_iload (pc' := 211) (x := v203) kc_37_209 rfl rfl ?_
          by_cases c208 : v203.toInt ≤ 0
          · refine xi_ift (pc' := 221) kc_37_211 rfl (xc_le_t (X := v203.toInt) (Y := 0) rfl (by decide) (by omega)) ?_
            refine xi_return kc_37_221 mr_37 ?_
            exact kk hh206 K207
          · refine xi_iff (pc' := 214) kc_37_211 rfl (xc_le_f (X := v203.toInt) (Y := 0) rfl (by decide) (by omega)) ?_
            refine xi_aload_n (pc' := 215) (x := 115) kc_37_214 rfl rfl ?_
            refine xi_iload_n (pc' := 216) (x := x1) kc_37_215 rfl rfl ?_
            refine xi_iload (pc' := 218) (x := v203) kc_37_216 rfl rfl ?_
            have A209 := ((eh206.2.1 115 (by decide)).trans A194)
            refine xi_virtual (mj := 40) (as := [.int x1, .int v203]) (st1 := []) (lv0 := [(0, .ref 115), (1, .int x1), (2, .int v203)]) kc_37_218 rfl rfl rfl rfl rfl A209 (Nat.le_of_ble_eq_true rfl) (hJ _ _ _ _ (by decide)) (xm_le ml_40 rfl) rfl ?_
            refine mt_40_0 hJ hov1 hov2 (d := d) (x1 := x1) (x2 := v203) K207.1 (by first | omega | decide) (by first | omega | decide) (fun hh211 K212 => ?_)
            have K213 := xk_tr K207 K212 rfl
            refine xp_115 K213.1 (fun u214 u215 u216 u217 u218 u219 u220 u221 u222 u223 u224 u225 u226 bu214 bu215 bu216 bu217 bu218 bu219 bu220 bu221 bu222 bu223 bu224 bu225 bu226 A227 => ?_)
            have e228 : u2 = u215 := xk_eqi (q := 1) K212 rfl A209 A227 rfl rfl
            subst e228
            have e229 : u4 = u217 := xk_eqi (q := 18) K212 rfl A209 A227 rfl rfl
            subst e229
            show xw J ov (d + 3) 37 (221, [(8, .int v203), (7, .int v197), (5, .int r153), (6, .int v59), (0, .ref 115), (1, .int x1), (2, .int x2), (3, .int x3), (4, .int x4)], [], hh211) _
            refine xi_return kc_37_221 mr_37 ?_
            exact kk hh211 K213
    · refine xi_cmf (pc' := 36) kc_37_33 rfl (xc_ge_f (X := x6.toInt) (Y := u5.toInt) rfl rfl (by omega)) ?_
      refine xi_iload (pc' := 38) (x := x5) kc_37_36 rfl rfl ?_
      refine xi_aload_n (pc' := 39) (x := 115) kc_37_38 rfl rfl ?_
      refine xi_getfield (pc' := 42) (v := .ref 135) kc_37_39 rfl rfl rfl A14 rfl ?_
      refine xi_iload (pc' := 44) (x := x6) kc_37_42 rfl rfl ?_
      refine xcps4 (xk_arr K.1 xD_135) (fun y230 A230 hy230 ry230 => ?_)
      refine xcps4 (xj_get hy230 ry230 (i := x6) (by omega) (by omega)) (fun v231 ev231 bv231 dv231 => ?_)
      refine xi_iaload (pc' := 45) (v := v231) kc_37_44 rfl A230 (by decide) rfl (xi_in (by omega) (by rw [hy230]; omega)) ev231 ?_
      refine xi_iconst (pc' := 46) (v := 3) kc_37_45 rfl rfl ?_
      by_cases c232 : v231.toInt = 3
      · refine xi_cmf (pc' := 49) kc_37_46 rfl (xc_ne_f (X := v231.toInt) (Y := 3) rfl (by decide) (by omega)) ?_
        refine xi_aload_n (pc' := 50) (x := 115) kc_37_49 rfl rfl ?_
        refine xi_getfield (pc' := 53) (v := .ref 136) kc_37_50 rfl rfl rfl A14 rfl ?_
        refine xi_iload (pc' := 55) (x := x6) kc_37_53 rfl rfl ?_
        refine xcps4 (xk_arr K.1 xD_136) (fun y233 A233 hy233 ry233 => ?_)
        refine xcps4 (xj_get hy233 ry233 (i := x6) (by omega) (by omega)) (fun v234 ev234 bv234 dv234 => ?_)
        refine xi_iaload (pc' := 56) (v := v234) kc_37_55 rfl A233 (by decide) rfl (xi_in (by omega) (by rw [hy233]; omega)) ev234 ?_
        refine xi_iload_n (pc' := 57) (x := x1) kc_37_56 rfl rfl ?_
        by_cases c235 : v234.toInt = x1.toInt
        · refine xi_cmf (pc' := 60) kc_37_57 rfl (xc_ne_f (X := v234.toInt) (Y := x1.toInt) rfl rfl (by omega)) ?_
          refine xi_aload_n (pc' := 61) (x := 115) kc_37_60 rfl rfl ?_
          refine xi_iload (pc' := 63) (x := x6) kc_37_61 rfl rfl ?_
          refine xi_iload_n (pc' := 64) (x := x2) kc_37_63 rfl rfl ?_
          refine xi_iload_n (pc' := 65) (x := x3) kc_37_64 rfl rfl ?_
          refine xi_iload (pc' := 67) (x := x4) kc_37_65 rfl rfl ?_
          refine xi_virtual (mj := 38) (as := [.int x6, .int x2, .int x3, .int x4]) (st1 := [.int x5]) (lv0 := [(0, .ref 115), (1, .int x6), (2, .int x2), (3, .int x3), (4, .int x4)]) kc_37_67 rfl rfl rfl rfl rfl A14 (Nat.le_of_ble_eq_true rfl) (hJ _ _ _ _ (by decide)) (xm_le ml_38 rfl) rfl ?_
          refine mt_38_0 hJ hov1 hov2 (d := d + 1) (x1 := x6) (x2 := x2) (x3 := x3) (x4 := x4) K.1 (by first | omega | decide) (by first | omega | decide) (by first | omega | decide) (by first | omega | decide) (fun r236 hh237 br236 K238 => ?_)
          have K239 := xk_tr K K238 rfl
          refine xp_115 K239.1 (fun u240 u241 u242 u243 u244 u245 u246 u247 u248 u249 u250 u251 u252 bu240 bu241 bu242 bu243 bu244 bu245 bu246 bu247 bu248 bu249 bu250 bu251 bu252 A253 => ?_)
          have e254 : u2 = u241 := xk_eqi (q := 1) K238 rfl A14 A253 rfl rfl
          subst e254
          have e255 : u4 = u243 := xk_eqi (q := 18) K238 rfl A14 A253 rfl rfl
          subst e255
          show xw J ov (d + 3) 37 (70, [(0, .ref 115), (1, .int x1), (2, .int x2), (3, .int x3), (4, .int x4), (5, .int x5), (6, .int x6)], [.int r236, .int x5], hh237) _
          by_cases c256 : r236.toInt = 0
          · refine xi_ift (pc' := 83) kc_37_70 rfl (xc_eq_t (X := r236.toInt) (Y := 0) rfl (by decide) (by omega)) ?_
            refine xi_iconst (pc' := 84) (v := 0) kc_37_83 rfl rfl ?_
            refine xcps2 (α := Int32) (x5 + 0) (fun v257 ev257 => ?_)
            have zv257 : v257.toInt = x5.toInt := by rw [← ev257]; exact (xz_add (X := x5.toInt) (Y := 0) rfl (by decide) (by omega) (by omega)).trans (by omega)
            refine xi_iadd (pc' := 85) (v := v257) kc_37_84 rfl ev257 ?_
            refine xi_istore (pc' := 87) (lv' := [(5, .int v257), (0, .ref 115), (1, .int x1), (2, .int x2), (3, .int x3), (4, .int x4), (6, .int x6)]) kc_37_85 rfl rfl (xm_lt ml_37 rfl) ?_
            refine xcps2 (α := Int32) (x6 + 1) (fun v258 ev258 => ?_)
            have zv258 : v258.toInt = (x6.toInt + 1) := by rw [← ev258]; exact (xz_add (X := x6.toInt) (Y := 1) rfl (by decide) (by omega) (by omega)).trans (by omega)
            refine xi_iinc (pc' := 90) (x := x6) (v := v258) (lv' := [(6, .int v258), (5, .int v257), (0, .ref 115), (1, .int x1), (2, .int x2), (3, .int x3), (4, .int x4)]) kc_37_87 rfl rfl ev258 rfl (xm_lt ml_37 rfl) ?_
            refine xi_goto (pc' := 27) kc_37_90 rfl ?_
            refine xw_lv (b := [(0, .ref 115), (1, .int x1), (2, .int x2), (3, .int x3), (4, .int x4), (5, .int v257), (6, .int v258)]) (lvS_cons (lvS_cons (lvS_cons (lvS_cons (lvS_cons (lvS_cons (lvS_cons (lvS_nil (show ([6, 5, 0, 1, 2, 3, 4] : List Nat).Nodup by decide)) rfl) rfl) rfl) rfl) rfl) rfl) rfl) ?_
            exact i0 x1 x2 x3 x4 v257 v258 hh237 (by omega) (by omega) (by omega) (by omega) (by omega) K239 (by omega)
          · refine xi_iff (pc' := 73) kc_37_70 rfl (xc_eq_f (X := r236.toInt) (Y := 0) rfl (by decide) (by omega)) ?_
            refine xi_aload_n (pc' := 74) (x := 115) kc_37_73 rfl rfl ?_
            refine xi_getfield (pc' := 77) (v := .ref 137) kc_37_74 rfl rfl rfl A253 rfl ?_
            refine xi_iload (pc' := 79) (x := x6) kc_37_77 rfl rfl ?_
            refine xcps4 (xk_arr K239.1 xD_137) (fun y259 A259 hy259 ry259 => ?_)
            refine xcps4 (xj_get hy259 ry259 (i := x6) (by omega) (by omega)) (fun v260 ev260 bv260 dv260 => ?_)
            refine xi_iaload (pc' := 80) (v := v260) kc_37_79 rfl A259 (by decide) rfl (xi_in (by omega) (by rw [hy259]; omega)) ev260 ?_
            refine xi_goto (pc' := 84) kc_37_80 rfl ?_
            refine xcps2 (α := Int32) ((x5 : Int32) + v260) (fun v261 ev261 => ?_)
            have rv261 := xc_rng v261
            refine xi_iadd (pc' := 85) (v := v261) kc_37_84 rfl ev261 ?_
            refine xi_istore (pc' := 87) (lv' := [(5, .int v261), (0, .ref 115), (1, .int x1), (2, .int x2), (3, .int x3), (4, .int x4), (6, .int x6)]) kc_37_85 rfl rfl (xm_lt ml_37 rfl) ?_
            refine xcps2 (α := Int32) (x6 + 1) (fun v262 ev262 => ?_)
            have zv262 : v262.toInt = (x6.toInt + 1) := by rw [← ev262]; exact (xz_add (X := x6.toInt) (Y := 1) rfl (by decide) (by omega) (by omega)).trans (by omega)
            refine xi_iinc (pc' := 90) (x := x6) (v := v262) (lv' := [(6, .int v262), (5, .int v261), (0, .ref 115), (1, .int x1), (2, .int x2), (3, .int x3), (4, .int x4)]) kc_37_87 rfl rfl ev262 rfl (xm_lt ml_37 rfl) ?_
            refine xi_goto (pc' := 27) kc_37_90 rfl ?_
            refine xw_lv (b := [(0, .ref 115), (1, .int x1), (2, .int x2), (3, .int x3), (4, .int x4), (5, .int v261), (6, .int v262)]) (lvS_cons (lvS_cons (lvS_cons (lvS_cons (lvS_cons (lvS_cons (lvS_cons (lvS_nil (show ([6, 5, 0, 1, 2, 3, 4] : List Nat).Nodup by decide)) rfl) rfl) rfl) rfl) rfl) rfl) rfl) ?_
            exact i0 x1 x2 x3 x4 v261 v262 hh237 (by omega) (by omega) (by omega) (by omega) (by omega) K239 (by omega)
        · refine xi_cmt (pc' := 83) kc_37_57 rfl (xc_ne_t (X := v234.toInt) (Y := x1.toInt) rfl rfl (by omega)) ?_
          refine xi_iconst (pc' := 84) (v := 0) kc_37_83 rfl rfl ?_
          refine xcps2 (α := Int32) (x5 + 0) (fun v263 ev263 => ?_)
          have zv263 : v263.toInt = x5.toInt := by rw [← ev263]; exact (xz_add (X := x5.toInt) (Y := 0) rfl (by decide) (by omega) (by omega)).trans (by omega)
          refine xi_iadd (pc' := 85) (v := v263) kc_37_84 rfl ev263 ?_
          refine xi_istore (pc' := 87) (lv' := [(5, .int v263), (0, .ref 115), (1, .int x1), (2, .int x2), (3, .int x3), (4, .int x4), (6, .int x6)]) kc_37_85 rfl rfl (xm_lt ml_37 rfl) ?_
          refine xcps2 (α := Int32) (x6 + 1) (fun v264 ev264 => ?_)
          have zv264 : v264.toInt = (x6.toInt + 1) := by rw [← ev264]; exact (xz_add (X := x6.toInt) (Y := 1) rfl (by decide) (by omega) (by omega)).trans (by omega)
          refine xi_iinc (pc' := 90) (x := x6) (v := v264) (lv' := [(6, .int v264), (5, .int v263), (0, .ref 115), (1, .int x1), (2, .int x2), (3, .int x3), (4, .int x4)]) kc_37_87 rfl rfl ev264 rfl (xm_lt ml_37 rfl) ?_
          refine xi_goto (pc' := 27) kc_37_90 rfl ?_
          refine xw_lv (b := [(0, .ref 115), (1, .int x1), (2, .int x2), (3, .int x3), (4, .int x4), (5, .int v263), (6, .int v264)]) (lvS_cons (lvS_cons (lvS_cons (lvS_cons (lvS_cons (lvS_cons (lvS_cons (lvS_nil (show ([6, 5, 0, 1, 2, 3, 4] : List Nat).Nodup by decide)) rfl) rfl) rfl) rfl) rfl) rfl) rfl) ?_
          exact i0 x1 x2 x3 x4 v263 v264 h (by omega) (by omega) (by omega) (by omega) (by omega) K (by omega)
      · refine xi_cmt (pc' := 83) kc_37_46 rfl (xc_ne_t (X := v231.toInt) (Y := 3) rfl (by decide) (by omega)) ?_
        refine xi_iconst (pc' := 84) (v := 0) kc_37_83 rfl rfl ?_
        refine xcps2 (α := Int32) (x5 + 0) (fun v265 ev265 => ?_)
        have zv265 : v265.toInt = x5.toInt := by rw [← ev265]; exact (xz_add (X := x5.toInt) (Y := 0) rfl (by decide) (by omega) (by omega)).trans (by omega)
        refine xi_iadd (pc' := 85) (v := v265) kc_37_84 rfl ev265 ?_
        refine xi_istore (pc' := 87) (lv' := [(5, .int v265), (0, .ref 115), (1, .int x1), (2, .int x2), (3, .int x3), (4, .int x4), (6, .int x6)]) kc_37_85 rfl rfl (xm_lt ml_37 rfl) ?_
        refine xcps2 (α := Int32) (x6 + 1) (fun v266 ev266 => ?_)
        have zv266 : v266.toInt = (x6.toInt + 1) := by rw [← ev266]; exact (xz_add (X := x6.toInt) (Y := 1) rfl (by decide) (by omega) (by omega)).trans (by omega)
        refine xi_iinc (pc' := 90) (x := x6) (v := v266) (lv' := [(6, .int v266), (5, .int v265), (0, .ref 115), (1, .int x1), (2, .int x2), (3, .int x3), (4, .int x4)]) kc_37_87 rfl rfl ev266 rfl (xm_lt ml_37 rfl) ?_
        refine xi_goto (pc' := 27) kc_37_90 rfl ?_
        refine xw_lv (b := [(0, .ref 115), (1, .int x1), (2, .int x2), (3, .int x3), (4, .int x4), (5, .int v265), (6, .int v266)]) (lvS_cons (lvS_cons (lvS_cons (lvS_cons (lvS_cons (lvS_cons (lvS_cons (lvS_nil (show ([6, 5, 0, 1, 2, 3, 4] : List Nat).Nodup by decide)) rfl) rfl) rfl) rfl) rfl) rfl) rfl) ?_
        exact i0 x1 x2 x3 x4 v265 v266 h (by omega) (by omega) (by omega) (by omega) (by omega) K (by omega)
set_option maxHeartbeats 4000000 in
theorem mt_37_0 {J : xe_J} {ov : List (List Int32)} (hJ : ∀ d mj as h, mj ≠ xe_loff → J d mj as h = none) (hov1 : ov[1]? = some [10, 0, 0, 0, 0, 0]) (hov2 : ov[2]? = some [99, 30, 50, 50, 1, 99999]) {d : Nat} {Q : Option Value → xe_H → Prop} {h : xe_H} {x1 : Int32} {x2 : Int32} {x3 : Int32} {x4 : Int32} (T : xt h) (b1 : (0 ≤ x1.toInt ∧ x1.toInt ≤ 5)) (b2 : (0 ≤ x2.toInt ∧ x2.toInt ≤ 63)) (b3 : (0 ≤ x3.toInt ∧ x3.toInt ≤ 1)) (b4 : (0 ≤ x4.toInt ∧ x4.toInt ≤ 599)) (kk : (∀ h' : xe_H, xk [(0, 9), (115, 1), (83, 0), (29, 0), (31, 0), (33, 0), (35, 0), (37, 0), (39, 0), (41, 0), (43, 0), (45, 0), (47, 0), (49, 0), (51, 0), (125, 0), (66, 8), (115, 18), (71, 0), (132, 0)] h h' → Q none h')) : xw J ov (d + 3) 37 (0, [(0, .ref 115), (1, .int x1), (2, .int x2), (3, .int x3), (4, .int x4)], [], h) Q := by
  have K : xk [(0, 9), (115, 1), (83, 0), (29, 0), (31, 0), (33, 0), (35, 0), (37, 0), (39, 0), (41, 0), (43, 0), (45, 0), (47, 0), (49, 0), (51, 0), (125, 0), (66, 8), (115, 18), (71, 0), (132, 0)] h h := xk_re T
  refine xi_aload_n (pc' := 1) (x := 115) kc_37_0 rfl rfl ?_
  refine xp_115 K.1 (fun u1 u2 u3 u4 u5 u6 u7 u8 u9 u10 u11 u12 u13 bu1 bu2 bu3 bu4 bu5 bu6 bu7 bu8 bu9 bu10 bu11 bu12 bu13 A14 => ?_)
  refine xi_getfield (pc' := 4) (v := .ref 141) kc_37_1 rfl rfl rfl A14 rfl ?_
  refine xi_iload_n (pc' := 5) (x := x1) kc_37_4 rfl rfl ?_
  refine xcps4 (xk_arr K.1 xD_141) (fun y15 A15 hy15 ry15 => ?_)
  refine xcps4 (xj_get hy15 ry15 (i := x1) (by omega) (by omega)) (fun v16 ev16 bv16 dv16 => ?_)
  refine xi_iaload (pc' := 6) (v := v16) kc_37_5 rfl A15 (by decide) rfl (xi_in (by omega) (by rw [hy15]; omega)) ev16 ?_
  refine xi_aload_n (pc' := 7) (x := 115) kc_37_6 rfl rfl ?_
  refine xi_getfield (pc' := 10) (v := .ref 122) kc_37_7 rfl rfl rfl A14 rfl ?_
  refine xi_bipush (pc' := 12) (v := 24) kc_37_10 rfl rfl ?_
  refine xi_iload_n (pc' := 13) (x := x1) kc_37_12 rfl rfl ?_
  refine xcps2 (α := Int32) (24 * x1) (fun v17 ev17 => ?_)
  have zv17 : v17.toInt = (24) * x1.toInt := by rw [← ev17]; exact (xz_mul (X := 24) (Y := x1.toInt) (by decide) rfl (by omega) (by omega)).trans (by omega)
  refine xi_imul (pc' := 14) (v := v17) kc_37_13 rfl ev17 ?_
  refine xi_iload (pc' := 16) (x := x4) kc_37_14 rfl rfl ?_
  refine xi_bipush (pc' := 18) (v := 24) kc_37_16 rfl rfl ?_
  refine xcps2 (α := Int32) (x4 - x4 / 24 * 24) (fun v18 ev18 => ?_)
  have dv18 : v18.toInt = x4.toInt % 24 := by rw [← ev18]; exact xz_reme (X := x4.toInt) (Y := 24) rfl (by decide) (by omega) (by decide)
  have bv18 : 0 ≤ v18.toInt ∧ v18.toInt ≤ 23 := by omega
  refine xi_irem (pc' := 19) (v := v18) kc_37_18 rfl ev18 (by decide) ?_
  refine xcps2 (α := Int32) (v17 + v18) (fun v19 ev19 => ?_)
  have zv19 : v19.toInt = ((24) * x1.toInt + v18.toInt) := by rw [← ev19]; exact (xz_add (X := (24) * x1.toInt) (Y := v18.toInt) zv17 rfl (by omega) (by omega)).trans (by omega)
  refine xi_iadd (pc' := 20) (v := v19) kc_37_19 rfl ev19 ?_
  refine xcps4 (xk_arr K.1 xD_122) (fun y20 A20 hy20 ry20 => ?_)
  refine xcps4 (xj_get hy20 ry20 (i := v19) (by rw [zv19]; omega) (by rw [zv19]; omega)) (fun v21 ev21 bv21 dv21 => ?_)
  refine xi_iaload (pc' := 21) (v := v21) kc_37_20 rfl A20 (by decide) rfl (xi_in (by rw [zv19]; omega) (by rw [hy20]; rw [zv19]; omega)) ev21 ?_
  refine xcps2 (α := Int32) ((v16 : Int32) + v21) (fun v22 ev22 => ?_)
  have rv22 := xc_rng v22
  refine xi_iadd (pc' := 22) (v := v22) kc_37_21 rfl ev22 ?_
  refine xi_istore (pc' := 24) (lv' := [(5, .int v22), (0, .ref 115), (1, .int x1), (2, .int x2), (3, .int x3), (4, .int x4)]) kc_37_22 rfl rfl (xm_lt ml_37 rfl) ?_
  refine xi_iconst (pc' := 25) (v := 0) kc_37_24 rfl rfl ?_
  refine xi_istore (pc' := 27) (lv' := [(6, .int 0), (5, .int v22), (0, .ref 115), (1, .int x1), (2, .int x2), (3, .int x3), (4, .int x4)]) kc_37_25 rfl rfl (xm_lt ml_37 rfl) ?_
  have zc0 : (0 : Int32).toInt = 0 := by decide
  refine xw_lv (b := [(0, .ref 115), (1, .int x1), (2, .int x2), (3, .int x3), (4, .int x4), (5, .int v22), (6, .int 0)]) (lvS_cons (lvS_cons (lvS_cons (lvS_cons (lvS_cons (lvS_cons (lvS_cons (lvS_nil (show ([6, 5, 0, 1, 2, 3, 4] : List Nat).Nodup by decide)) rfl) rfl) rfl) rfl) rfl) rfl) rfl) ?_
  exact (lp_37_0 hJ hov1 hov2 (d := d) (hb := h) (fun h9 K9 => kk h9 (xk_tr K K9 rfl)) 11) x1 x2 x3 x4 v22 0 h (by omega) (by omega) (by omega) (by omega) (by omega) (xk_re K.1) (by omega)
set_option maxHeartbeats 4000000 in
theorem lp_36_0 {J : xe_J} {ov : List (List Int32)} (hJ : ∀ d mj as h, mj ≠ xe_loff → J d mj as h = none) (hov1 : ov[1]? = some [10, 0, 0, 0, 0, 0]) (hov2 : ov[2]? = some [99, 30, 50, 50, 1, 99999]) {d : Nat} {Q : Option Value → xe_H → Prop} {hb : xe_H} (kk : (∀ h' : xe_H, xk [(0, 9), (115, 1), (83, 0), (29, 0), (31, 0), (33, 0), (35, 0), (37, 0), (39, 0), (41, 0), (43, 0), (45, 0), (47, 0), (49, 0), (51, 0), (125, 0), (66, 8), (115, 18), (71, 0), (132, 0)] hb h' → Q none h')) : ∀ m : Nat, (∀ (x1 : Int32) (x2 : Int32) (x3 : Int32) (x4 : Int32) (h : xe_H), (0 ≤ x1.toInt ∧ x1.toInt ≤ 63) → (0 ≤ x2.toInt ∧ x2.toInt ≤ 1) → (0 ≤ x3.toInt ∧ x3.toInt ≤ 599) → (0 ≤ x4.toInt ∧ x4.toInt ≤ 6) → xk [(0, 9), (115, 1), (83, 0), (29, 0), (31, 0), (33, 0), (35, 0), (37, 0), (39, 0), (41, 0), (43, 0), (45, 0), (47, 0), (49, 0), (51, 0), (125, 0), (66, 8), (115, 18), (71, 0), (132, 0)] hb h → (-1) * x4.toInt + 30 < (m : Int) → xw J ov (d + 4) 36 (3, [(0, .ref 115), (1, .int x1), (2, .int x2), (3, .int x3), (4, .int x4)], [], h) Q) ∧ (∀ (x1 : Int32) (x2 : Int32) (x3 : Int32) (x4 : Int32) (h : xe_H), (0 ≤ x1.toInt ∧ x1.toInt ≤ 63) → (0 ≤ x2.toInt ∧ x2.toInt ≤ 1) → (0 ≤ x3.toInt ∧ x3.toInt ≤ 599) → (0 ≤ x4.toInt ∧ x4.toInt ≤ 10) → xk [(0, 9), (115, 1), (83, 0), (29, 0), (31, 0), (33, 0), (35, 0), (37, 0), (39, 0), (41, 0), (43, 0), (45, 0), (47, 0), (49, 0), (51, 0), (125, 0), (66, 8), (115, 18), (71, 0), (132, 0)] hb h → (-1) * x4.toInt + 23 < (m : Int) → xw J ov (d + 4) 36 (28, [(0, .ref 115), (1, .int x1), (2, .int x2), (3, .int x3), (4, .int x4)], [], h) Q) ∧ (∀ (x4 : Int32) (h : xe_H), (0 ≤ x4.toInt ∧ x4.toInt ≤ 12) → xk [(0, 9), (115, 1), (83, 0), (29, 0), (31, 0), (33, 0), (35, 0), (37, 0), (39, 0), (41, 0), (43, 0), (45, 0), (47, 0), (49, 0), (51, 0), (125, 0), (66, 8), (115, 18), (71, 0), (132, 0)] hb h → (-1) * x4.toInt + 12 < (m : Int) → xw J ov (d + 4) 36 (157, [(0, .ref 115), (4, .int x4)], [], h) Q) := by
  intro m
  induction m with
  | zero =>
    refine ⟨?_, ?_, ?_⟩
    · intro x1 x2 x3 x4 h b1 b2 b3 b4 K hm; exfalso; omega
    · intro x1 x2 x3 x4 h b1 b2 b3 b4 K hm; exfalso; omega
    · intro x4 h b4 K hm; exfalso; omega
  | succ m ih =>
    obtain ⟨i0, i1, i2⟩ := ih
    refine ⟨?_, ?_, ?_⟩
    · intro x1 x2 x3 x4 h b1 b2 b3 b4 K hm
      refine xi_iload (pc' := 5) (x := x4) kc_36_3 rfl rfl ?_
      refine xi_bipush (pc' := 7) (v := 6) kc_36_5 rfl rfl ?_
      by_cases c1 : 6 ≤ x4.toInt
      · refine xi_cmt (pc' := 25) kc_36_7 rfl (xc_ge_t (X := x4.toInt) (Y := 6) rfl (by decide) (by omega)) ?_
        refine xi_iconst (pc' := 26) (v := 0) kc_36_25 rfl rfl ?_
        refine xi_istore (pc' := 28) (lv' := [(4, .int 0), (0, .ref 115), (1, .int x1), (2, .int x2), (3, .int x3)]) kc_36_26 rfl rfl (xm_lt ml_36 rfl) ?_
        have zc0 : (0 : Int32).toInt = 0 := by decide
        refine xw_lv (b := [(0, .ref 115), (1, .int x1), (2, .int x2), (3, .int x3), (4, .int 0)]) (lvS_cons (lvS_cons (lvS_cons (lvS_cons (lvS_cons (lvS_nil (show ([4, 0, 1, 2, 3] : List Nat).Nodup by decide)) rfl) rfl) rfl) rfl) rfl) ?_
        exact i1 x1 x2 x3 0 h (by omega) (by omega) (by omega) (by omega) K (by omega)
      · refine xi_cmf (pc' := 10) kc_36_7 rfl (xc_ge_f (X := x4.toInt) (Y := 6) rfl (by decide) (by omega)) ?_
        refine xi_aload_n (pc' := 11) (x := 115) kc_36_10 rfl rfl ?_
        refine xi_iload (pc' := 13) (x := x4) kc_36_11 rfl rfl ?_
        refine xi_iload_n (pc' := 14) (x := x1) kc_36_13 rfl rfl ?_
        refine xi_iload_n (pc' := 15) (x := x2) kc_36_14 rfl rfl ?_
        refine xi_iload_n (pc' := 16) (x := x3) kc_36_15 rfl rfl ?_
        refine xp_115 K.1 (fun u2 u3 u4 u5 u6 u7 u8 u9 u10 u11 u12 u13 u14 bu2 bu3 bu4 bu5 bu6 bu7 bu8 bu9 bu10 bu11 bu12 bu13 bu14 A15 => ?_)
        refine xi_virtual (mj := 37) (as := [.int x4, .int x1, .int x2, .int x3]) (st1 := []) (lv0 := [(0, .ref 115), (1, .int x4), (2, .int x1), (3, .int x2), (4, .int x3)]) kc_36_16 rfl rfl rfl rfl rfl A15 (Nat.le_of_ble_eq_true rfl) (hJ _ _ _ _ (by decide)) (xm_le ml_37 rfl) rfl ?_
        refine mt_37_0 hJ hov1 hov2 (d := d) (x1 := x4) (x2 := x1) (x3 := x2) (x4 := x3) K.1 (by first | omega | decide) (by first | omega | decide) (by first | omega | decide) (by first | omega | decide) (fun hh17 K18 => ?_)
        have K19 := xk_tr K K18 rfl
        refine xp_115 K19.1 (fun u20 u21 u22 u23 u24 u25 u26 u27 u28 u29 u30 u31 u32 bu20 bu21 bu22 bu23 bu24 bu25 bu26 bu27 bu28 bu29 bu30 bu31 bu32 A33 => ?_)
        have e34 : u3 = u21 := xk_eqi (q := 1) K18 rfl A15 A33 rfl rfl
        subst e34
        have e35 : u5 = u23 := xk_eqi (q := 18) K18 rfl A15 A33 rfl rfl
        subst e35
        show xw J ov (d + 4) 36 (19, [(0, .ref 115), (1, .int x1), (2, .int x2), (3, .int x3), (4, .int x4)], [], hh17) _
        refine xcps2 (α := Int32) (x4 + 1) (fun v36 ev36 => ?_)
        have zv36 : v36.toInt = (x4.toInt + 1) := by rw [← ev36]; exact (xz_add (X := x4.toInt) (Y := 1) rfl (by decide) (by omega) (by omega)).trans (by omega)
        refine xi_iinc (pc' := 22) (x := x4) (v := v36) (lv' := [(4, .int v36), (0, .ref 115), (1, .int x1), (2, .int x2), (3, .int x3)]) kc_36_19 rfl rfl ev36 rfl (xm_lt ml_36 rfl) ?_
        refine xi_goto (pc' := 3) kc_36_22 rfl ?_
        refine xw_lv (b := [(0, .ref 115), (1, .int x1), (2, .int x2), (3, .int x3), (4, .int v36)]) (lvS_cons (lvS_cons (lvS_cons (lvS_cons (lvS_cons (lvS_nil (show ([4, 0, 1, 2, 3] : List Nat).Nodup by decide)) rfl) rfl) rfl) rfl) rfl) ?_
        exact i0 x1 x2 x3 v36 hh17 (by omega) (by omega) (by omega) (by omega) K19 (by omega)
    · intro x1 x2 x3 x4 h b1 b2 b3 b4 K hm
      refine xi_iload (pc' := 30) (x := x4) kc_36_28 rfl rfl ?_
      refine xi_aload_n (pc' := 31) (x := 115) kc_36_30 rfl rfl ?_
      refine xp_115 K.1 (fun u1 u2 u3 u4 u5 u6 u7 u8 u9 u10 u11 u12 u13 bu1 bu2 bu3 bu4 bu5 bu6 bu7 bu8 bu9 bu10 bu11 bu12 bu13 A14 => ?_)
      refine xi_getfield (pc' := 34) (v := .int u5) kc_36_31 rfl rfl rfl A14 rfl ?_
      by_cases c15 : u5.toInt ≤ x4.toInt
      · refine xi_cmt (pc' := 154) kc_36_34 rfl (xc_ge_t (X := x4.toInt) (Y := u5.toInt) rfl rfl (by omega)) ?_
        refine xi_iconst (pc' := 155) (v := 0) kc_36_154 rfl rfl ?_
        refine xi_istore (pc' := 157) (lv' := [(4, .int 0), (0, .ref 115), (1, .int x1), (2, .int x2), (3, .int x3)]) kc_36_155 rfl rfl (xm_lt ml_36 rfl) ?_
        have zc0 : (0 : Int32).toInt = 0 := by decide
        refine xw_lv (b := [(0, .ref 115), (4, .int 0)]) (lvS_cons (lvS_cons (lvS_nil (show ([4, 0, 1, 2, 3] : List Nat).Nodup by decide)) rfl) rfl) ?_
        exact i2 0 h (by omega) K (by omega)
      · refine xi_cmf (pc' := 37) kc_36_34 rfl (xc_ge_f (X := x4.toInt) (Y := u5.toInt) rfl rfl (by omega)) ?_
        refine xi_aload_n (pc' := 38) (x := 115) kc_36_37 rfl rfl ?_
        refine xi_getfield (pc' := 41) (v := .ref 135) kc_36_38 rfl rfl rfl A14 rfl ?_
        refine xi_iload (pc' := 43) (x := x4) kc_36_41 rfl rfl ?_
        refine xcps4 (xk_arr K.1 xD_135) (fun y16 A16 hy16 ry16 => ?_)
        refine xcps4 (xj_get hy16 ry16 (i := x4) (by omega) (by omega)) (fun v17 ev17 bv17 dv17 => ?_)
        refine xi_iaload (pc' := 44) (v := v17) kc_36_43 rfl A16 (by decide) rfl (xi_in (by omega) (by rw [hy16]; omega)) ev17 ?_
        refine xi_iconst (pc' := 45) (v := 3) kc_36_44 rfl rfl ?_
        by_cases c18 : 3 ≤ v17.toInt
        · refine xi_cmt (pc' := 148) kc_36_45 rfl (xc_ge_t (X := v17.toInt) (Y := 3) rfl (by decide) (by omega)) ?_
          refine xcps2 (α := Int32) (x4 + 1) (fun v19 ev19 => ?_)
          have zv19 : v19.toInt = (x4.toInt + 1) := by rw [← ev19]; exact (xz_add (X := x4.toInt) (Y := 1) rfl (by decide) (by omega) (by omega)).trans (by omega)
          refine xi_iinc (pc' := 151) (x := x4) (v := v19) (lv' := [(4, .int v19), (0, .ref 115), (1, .int x1), (2, .int x2), (3, .int x3)]) kc_36_148 rfl rfl ev19 rfl (xm_lt ml_36 rfl) ?_
          refine xi_goto (pc' := 28) kc_36_151 rfl ?_
          refine xw_lv (b := [(0, .ref 115), (1, .int x1), (2, .int x2), (3, .int x3), (4, .int v19)]) (lvS_cons (lvS_cons (lvS_cons (lvS_cons (lvS_cons (lvS_nil (show ([4, 0, 1, 2, 3] : List Nat).Nodup by decide)) rfl) rfl) rfl) rfl) rfl) ?_
          exact i1 x1 x2 x3 v19 h (by omega) (by omega) (by omega) (by omega) K (by omega)
        · refine xi_cmf (pc' := 48) kc_36_45 rfl (xc_ge_f (X := v17.toInt) (Y := 3) rfl (by decide) (by omega)) ?_
          refine xi_aload_n (pc' := 49) (x := 115) kc_36_48 rfl rfl ?_
          refine xi_iload (pc' := 51) (x := x4) kc_36_49 rfl rfl ?_
          refine xi_iload_n (pc' := 52) (x := x1) kc_36_51 rfl rfl ?_
          refine xi_iload_n (pc' := 53) (x := x2) kc_36_52 rfl rfl ?_
          refine xi_iload_n (pc' := 54) (x := x3) kc_36_53 rfl rfl ?_
          refine xi_virtual (mj := 38) (as := [.int x4, .int x1, .int x2, .int x3]) (st1 := []) (lv0 := [(0, .ref 115), (1, .int x4), (2, .int x1), (3, .int x2), (4, .int x3)]) kc_36_54 rfl rfl rfl rfl rfl A14 (Nat.le_of_ble_eq_true rfl) (hJ _ _ _ _ (by decide)) (xm_le ml_38 rfl) rfl ?_
          refine mt_38_0 hJ hov1 hov2 (d := d + 2) (x1 := x4) (x2 := x1) (x3 := x2) (x4 := x3) K.1 (by first | omega | decide) (by first | omega | decide) (by first | omega | decide) (by first | omega | decide) (fun r20 hh21 br20 K22 => ?_)
          have K23 := xk_tr K K22 rfl
          refine xp_115 K23.1 (fun u24 u25 u26 u27 u28 u29 u30 u31 u32 u33 u34 u35 u36 bu24 bu25 bu26 bu27 bu28 bu29 bu30 bu31 bu32 bu33 bu34 bu35 bu36 A37 => ?_)
          have e38 : u2 = u25 := xk_eqi (q := 1) K22 rfl A14 A37 rfl rfl
          subst e38
          have e39 : u4 = u27 := xk_eqi (q := 18) K22 rfl A14 A37 rfl rfl
          subst e39
          show xw J ov (d + 4) 36 (57, [(0, .ref 115), (1, .int x1), (2, .int x2), (3, .int x3), (4, .int x4)], [.int r20], hh21) _
          by_cases c40 : r20.toInt = 0
          · refine xi_ift (pc' := 148) kc_36_57 rfl (xc_eq_t (X := r20.toInt) (Y := 0) rfl (by decide) (by omega)) ?_
            refine xcps2 (α := Int32) (x4 + 1) (fun v41 ev41 => ?_)
            have zv41 : v41.toInt = (x4.toInt + 1) := by rw [← ev41]; exact (xz_add (X := x4.toInt) (Y := 1) rfl (by decide) (by omega) (by omega)).trans (by omega)
            refine xi_iinc (pc' := 151) (x := x4) (v := v41) (lv' := [(4, .int v41), (0, .ref 115), (1, .int x1), (2, .int x2), (3, .int x3)]) kc_36_148 rfl rfl ev41 rfl (xm_lt ml_36 rfl) ?_
            refine xi_goto (pc' := 28) kc_36_151 rfl ?_
            refine xw_lv (b := [(0, .ref 115), (1, .int x1), (2, .int x2), (3, .int x3), (4, .int v41)]) (lvS_cons (lvS_cons (lvS_cons (lvS_cons (lvS_cons (lvS_nil (show ([4, 0, 1, 2, 3] : List Nat).Nodup by decide)) rfl) rfl) rfl) rfl) rfl) ?_
            exact i1 x1 x2 x3 v41 hh21 (by omega) (by omega) (by omega) (by omega) K23 (by omega)
          · refine xi_iff (pc' := 60) kc_36_57 rfl (xc_eq_f (X := r20.toInt) (Y := 0) rfl (by decide) (by omega)) ?_
            refine xi_aload_n (pc' := 61) (x := 115) kc_36_60 rfl rfl ?_
            refine xi_getfield (pc' := 64) (v := .ref 135) kc_36_61 rfl rfl rfl A37 rfl ?_
            refine xi_iload (pc' := 66) (x := x4) kc_36_64 rfl rfl ?_
            refine xcps4 (xk_arr K23.1 xD_135) (fun y42 A42 hy42 ry42 => ?_)
            refine xcps4 (xj_get hy42 ry42 (i := x4) (by omega) (by omega)) (fun v43 ev43 bv43 dv43 => ?_)
            refine xi_iaload (pc' := 67) (v := v43) kc_36_66 rfl A42 (by decide) rfl (xi_in (by omega) (by rw [hy42]; omega)) ev43 ?_
            by_cases c44 : v43.toInt = 0
            · refine xi_iff (pc' := 70) kc_36_67 rfl (xc_ne_f (X := v43.toInt) (Y := 0) rfl (by decide) (by omega)) ?_
              refine xi_aload_n (pc' := 71) (x := 115) kc_36_70 rfl rfl ?_
              refine xi_getfield (pc' := 74) (v := .ref 137) kc_36_71 rfl rfl rfl A37 rfl ?_
              refine xi_iload (pc' := 76) (x := x4) kc_36_74 rfl rfl ?_
              refine xcps4 (xk_arr K23.1 xD_137) (fun y45 A45 hy45 ry45 => ?_)
              refine xcps4 (xj_get hy45 ry45 (i := x4) (by omega) (by omega)) (fun v46 ev46 bv46 dv46 => ?_)
              refine xi_iaload (pc' := 77) (v := v46) kc_36_76 rfl A45 (by decide) rfl (xi_in (by omega) (by rw [hy45]; omega)) ev46 ?_
              refine xi_aload_n (pc' := 78) (x := 115) kc_36_77 rfl rfl ?_
              refine xi_getfield (pc' := 81) (v := .int u30) kc_36_78 rfl rfl rfl A37 rfl ?_
              refine xcps2 (α := Int32) ((v46 : Int32) * u30) (fun v47 ev47 => ?_)
              have rv47 := xc_rng v47
              refine xi_imul (pc' := 82) (v := v47) kc_36_81 rfl ev47 ?_
              refine xi_goto (pc' := 116) kc_36_82 rfl ?_
              refine xi_istore (pc' := 118) (lv' := [(5, .int v47), (0, .ref 115), (1, .int x1), (2, .int x2), (3, .int x3), (4, .int x4)]) kc_36_116 rfl rfl (xm_lt ml_36 rfl) ?_
              refine xi_aload_n (pc' := 119) (x := 115) kc_36_118 rfl rfl ?_
              refine xi_getfield (pc' := 122) (v := .ref 142) kc_36_119 rfl rfl rfl A37 rfl ?_
              refine xi_aload_n (pc' := 123) (x := 115) kc_36_122 rfl rfl ?_
              refine xi_getfield (pc' := 126) (v := .ref 136) kc_36_123 rfl rfl rfl A37 rfl ?_
              refine xi_iload (pc' := 128) (x := x4) kc_36_126 rfl rfl ?_
              refine xcps4 (xk_arr K23.1 xD_136) (fun y48 A48 hy48 ry48 => ?_)
              refine xcps4 (xj_get hy48 ry48 (i := x4) (by omega) (by omega)) (fun v49 ev49 bv49 dv49 => ?_)
              refine xi_iaload (pc' := 129) (v := v49) kc_36_128 rfl A48 (by decide) rfl (xi_in (by omega) (by rw [hy48]; omega)) ev49 ?_
              refine xi_aload_n (pc' := 130) (x := 115) kc_36_129 rfl rfl ?_
              refine xi_getfield (pc' := 133) (v := .ref 142) kc_36_130 rfl rfl rfl A37 rfl ?_
              refine xi_aload_n (pc' := 134) (x := 115) kc_36_133 rfl rfl ?_
              refine xi_getfield (pc' := 137) (v := .ref 136) kc_36_134 rfl rfl rfl A37 rfl ?_
              refine xi_iload (pc' := 139) (x := x4) kc_36_137 rfl rfl ?_
              refine xi_iaload (pc' := 140) (v := v49) kc_36_139 rfl A48 (by decide) rfl (xi_in (by omega) (by rw [hy48]; omega)) ev49 ?_
              refine xcps4 (xk_arr K23.1 xD_142) (fun y50 A50 hy50 ry50 => ?_)
              refine xcps4 (xj_get hy50 ry50 (i := v49) (by omega) (by omega)) (fun v51 ev51 bv51 dv51 => ?_)
              refine xi_iaload (pc' := 141) (v := v51) kc_36_140 rfl A50 (by decide) rfl (xi_in (by omega) (by rw [hy50]; omega)) ev51 ?_
              refine xi_iload (pc' := 143) (x := v47) kc_36_141 rfl rfl ?_
              refine xcps2 (α := Int32) ((v51 : Int32) + v47) (fun v52 ev52 => ?_)
              have rv52 := xc_rng v52
              refine xi_iadd (pc' := 144) (v := v52) kc_36_143 rfl ev52 ?_
              refine xi_static (mj := 39) (as := [.int v52]) (st1 := [.int v49, .ref 142]) (lv0 := [(0, .int v52)]) kc_36_144 rfl rfl (Nat.le_of_ble_eq_true rfl) rfl rfl (Nat.le_of_ble_eq_true rfl) (hJ _ _ _ _ (by decide)) (xm_le ml_39 rfl) rfl ?_
              refine mt_39_0 hJ hov1 hov2 (d := d + 2) (x0 := v52) K23.1 (fun r53 hh54 br53 K55 => ?_)
              have K56 := xk_tr K23 K55 rfl
              refine xp_115 K56.1 (fun u57 u58 u59 u60 u61 u62 u63 u64 u65 u66 u67 u68 u69 bu57 bu58 bu59 bu60 bu61 bu62 bu63 bu64 bu65 bu66 bu67 bu68 bu69 A70 => ?_)
              have e71 : u2 = u58 := xk_eqi (q := 1) K55 rfl A37 A70 rfl rfl
              subst e71
              have e72 : u4 = u60 := xk_eqi (q := 18) K55 rfl A37 A70 rfl rfl
              subst e72
              show xw J ov (d + 4) 36 (147, [(5, .int v47), (0, .ref 115), (1, .int x1), (2, .int x2), (3, .int x3), (4, .int x4)], [.int r53, .int v49, .ref 142], hh54) _
              refine xcps4 (xk_arr K56.1 xD_142) (fun y73 A73 hy73 ry73 => ?_)
              refine xcps4 (xj_set (v := r53) hy73 ry73 v49 (by first | omega | decide) (by first | omega | decide)) (fun y74 s74 hy74 ry74 => ?_)
              refine xi_iastore (pc' := 148) (x' := y74) kc_36_147 rfl A73 rfl (xi_in (by omega) (by rw [hy73]; omega)) s74 (fun hh74 eh74 => ?_)
              have K75 := xk_pa K56 (xk_wa rfl) xD_142 hy74 ry74 eh74
              refine xcps2 (α := Int32) (x4 + 1) (fun v76 ev76 => ?_)
              have zv76 : v76.toInt = (x4.toInt + 1) := by rw [← ev76]; exact (xz_add (X := x4.toInt) (Y := 1) rfl (by decide) (by omega) (by omega)).trans (by omega)
              refine xi_iinc (pc' := 151) (x := x4) (v := v76) (lv' := [(4, .int v76), (5, .int v47), (0, .ref 115), (1, .int x1), (2, .int x2), (3, .int x3)]) kc_36_148 rfl rfl ev76 rfl (xm_lt ml_36 rfl) ?_
              refine xi_goto (pc' := 28) kc_36_151 rfl ?_
              refine xw_lv (b := [(0, .ref 115), (1, .int x1), (2, .int x2), (3, .int x3), (4, .int v76)]) (lvS_cons (lvS_cons (lvS_cons (lvS_cons (lvS_cons (lvS_nil (show ([4, 5, 0, 1, 2, 3] : List Nat).Nodup by decide)) rfl) rfl) rfl) rfl) rfl) ?_
              exact i1 x1 x2 x3 v76 hh74 (by omega) (by omega) (by omega) (by omega) K75 (by omega)
            · refine xi_ift (pc' := 85) kc_36_67 rfl (xc_ne_t (X := v43.toInt) (Y := 0) rfl (by decide) (by omega)) ?_
              refine xi_aload_n (pc' := 86) (x := 115) kc_36_85 rfl rfl ?_
              refine xi_getfield (pc' := 89) (v := .ref 135) kc_36_86 rfl rfl rfl A37 rfl ?_
              refine xi_iload (pc' := 91) (x := x4) kc_36_89 rfl rfl ?_
              refine xi_iaload (pc' := 92) (v := v43) kc_36_91 rfl A42 (by decide) rfl (xi_in (by omega) (by rw [hy42]; omega)) ev43 ?_
              refine xi_iconst (pc' := 93) (v := 1) kc_36_92 rfl rfl ?_
              by_cases c77 : v43.toInt = 1
              · refine xi_cmt (pc' := 105) kc_36_93 rfl (xc_eq_t (X := v43.toInt) (Y := 1) rfl (by decide) (by omega)) ?_
                refine xi_aload_n (pc' := 106) (x := 115) kc_36_105 rfl rfl ?_
                refine xi_getfield (pc' := 109) (v := .ref 137) kc_36_106 rfl rfl rfl A37 rfl ?_
                refine xi_iload (pc' := 111) (x := x4) kc_36_109 rfl rfl ?_
                refine xcps4 (xk_arr K23.1 xD_137) (fun y78 A78 hy78 ry78 => ?_)
                refine xcps4 (xj_get hy78 ry78 (i := x4) (by omega) (by omega)) (fun v79 ev79 bv79 dv79 => ?_)
                refine xi_iaload (pc' := 112) (v := v79) kc_36_111 rfl A78 (by decide) rfl (xi_in (by omega) (by rw [hy78]; omega)) ev79 ?_
                refine xi_goto (pc' := 116) kc_36_112 rfl ?_
                refine xi_istore (pc' := 118) (lv' := [(5, .int v79), (0, .ref 115), (1, .int x1), (2, .int x2), (3, .int x3), (4, .int x4)]) kc_36_116 rfl rfl (xm_lt ml_36 rfl) ?_
                refine xi_aload_n (pc' := 119) (x := 115) kc_36_118 rfl rfl ?_
                refine xi_getfield (pc' := 122) (v := .ref 142) kc_36_119 rfl rfl rfl A37 rfl ?_
                refine xi_aload_n (pc' := 123) (x := 115) kc_36_122 rfl rfl ?_
                refine xi_getfield (pc' := 126) (v := .ref 136) kc_36_123 rfl rfl rfl A37 rfl ?_
                refine xi_iload (pc' := 128) (x := x4) kc_36_126 rfl rfl ?_
                refine xcps4 (xk_arr K23.1 xD_136) (fun y80 A80 hy80 ry80 => ?_)
                refine xcps4 (xj_get hy80 ry80 (i := x4) (by omega) (by omega)) (fun v81 ev81 bv81 dv81 => ?_)
                refine xi_iaload (pc' := 129) (v := v81) kc_36_128 rfl A80 (by decide) rfl (xi_in (by omega) (by rw [hy80]; omega)) ev81 ?_
                refine xi_aload_n (pc' := 130) (x := 115) kc_36_129 rfl rfl ?_
                refine xi_getfield (pc' := 133) (v := .ref 142) kc_36_130 rfl rfl rfl A37 rfl ?_
                refine xi_aload_n (pc' := 134) (x := 115) kc_36_133 rfl rfl ?_
                refine xi_getfield (pc' := 137) (v := .ref 136) kc_36_134 rfl rfl rfl A37 rfl ?_
                refine xi_iload (pc' := 139) (x := x4) kc_36_137 rfl rfl ?_
                refine xi_iaload (pc' := 140) (v := v81) kc_36_139 rfl A80 (by decide) rfl (xi_in (by omega) (by rw [hy80]; omega)) ev81 ?_
                refine xcps4 (xk_arr K23.1 xD_142) (fun y82 A82 hy82 ry82 => ?_)
                refine xcps4 (xj_get hy82 ry82 (i := v81) (by omega) (by omega)) (fun v83 ev83 bv83 dv83 => ?_)
                refine xi_iaload (pc' := 141) (v := v83) kc_36_140 rfl A82 (by decide) rfl (xi_in (by omega) (by rw [hy82]; omega)) ev83 ?_
                refine xi_iload (pc' := 143) (x := v79) kc_36_141 rfl rfl ?_
                refine xcps2 (α := Int32) ((v83 : Int32) + v79) (fun v84 ev84 => ?_)
                have rv84 := xc_rng v84
                refine xi_iadd (pc' := 144) (v := v84) kc_36_143 rfl ev84 ?_
                refine xi_static (mj := 39) (as := [.int v84]) (st1 := [.int v81, .ref 142]) (lv0 := [(0, .int v84)]) kc_36_144 rfl rfl (Nat.le_of_ble_eq_true rfl) rfl rfl (Nat.le_of_ble_eq_true rfl) (hJ _ _ _ _ (by decide)) (xm_le ml_39 rfl) rfl ?_
                refine mt_39_0 hJ hov1 hov2 (d := d + 2) (x0 := v84) K23.1 (fun r85 hh86 br85 K87 => ?_)
                have K88 := xk_tr K23 K87 rfl
                refine xp_115 K88.1 (fun u89 u90 u91 u92 u93 u94 u95 u96 u97 u98 u99 u100 u101 bu89 bu90 bu91 bu92 bu93 bu94 bu95 bu96 bu97 bu98 bu99 bu100 bu101 A102 => ?_)
                have e103 : u2 = u90 := xk_eqi (q := 1) K87 rfl A37 A102 rfl rfl
                subst e103
                have e104 : u4 = u92 := xk_eqi (q := 18) K87 rfl A37 A102 rfl rfl
                subst e104
                show xw J ov (d + 4) 36 (147, [(5, .int v79), (0, .ref 115), (1, .int x1), (2, .int x2), (3, .int x3), (4, .int x4)], [.int r85, .int v81, .ref 142], hh86) _
                refine xcps4 (xk_arr K88.1 xD_142) (fun y105 A105 hy105 ry105 => ?_)
                refine xcps4 (xj_set (v := r85) hy105 ry105 v81 (by first | omega | decide) (by first | omega | decide)) (fun y106 s106 hy106 ry106 => ?_)
                refine xi_iastore (pc' := 148) (x' := y106) kc_36_147 rfl A105 rfl (xi_in (by omega) (by rw [hy105]; omega)) s106 (fun hh106 eh106 => ?_)
                have K107 := xk_pa K88 (xk_wa rfl) xD_142 hy106 ry106 eh106
                refine xcps2 (α := Int32) (x4 + 1) (fun v108 ev108 => ?_)
                have zv108 : v108.toInt = (x4.toInt + 1) := by rw [← ev108]; exact (xz_add (X := x4.toInt) (Y := 1) rfl (by decide) (by omega) (by omega)).trans (by omega)
                refine xi_iinc (pc' := 151) (x := x4) (v := v108) (lv' := [(4, .int v108), (5, .int v79), (0, .ref 115), (1, .int x1), (2, .int x2), (3, .int x3)]) kc_36_148 rfl rfl ev108 rfl (xm_lt ml_36 rfl) ?_
                refine xi_goto (pc' := 28) kc_36_151 rfl ?_
                refine xw_lv (b := [(0, .ref 115), (1, .int x1), (2, .int x2), (3, .int x3), (4, .int v108)]) (lvS_cons (lvS_cons (lvS_cons (lvS_cons (lvS_cons (lvS_nil (show ([4, 5, 0, 1, 2, 3] : List Nat).Nodup by decide)) rfl) rfl) rfl) rfl) rfl) ?_
                exact i1 x1 x2 x3 v108 hh106 (by omega) (by omega) (by omega) (by omega) K107 (by omega)
              · refine xi_cmf (pc' := 96) kc_36_93 rfl (xc_eq_f (X := v43.toInt) (Y := 1) rfl (by decide) (by omega)) ?_
                refine xi_iload_n (pc' := 97) (x := x3) kc_36_96 rfl rfl ?_
                refine xi_bipush (pc' := 99) (v := 24) kc_36_97 rfl rfl ?_
                refine xcps2 (α := Int32) (x3 - x3 / 24 * 24) (fun v109 ev109 => ?_)
                have dv109 : v109.toInt = x3.toInt % 24 := by rw [← ev109]; exact xz_reme (X := x3.toInt) (Y := 24) rfl (by decide) (by omega) (by decide)
                have bv109 : 0 ≤ v109.toInt ∧ v109.toInt ≤ 23 := by omega
                refine xi_irem (pc' := 100) (v := v109) kc_36_99 rfl ev109 (by decide) ?_
                refine xi_bipush (pc' := 102) (v := 6) kc_36_100 rfl rfl ?_
                by_cases c110 : 6 ≤ v109.toInt
                · refine xi_cmt (pc' := 115) kc_36_102 rfl (xc_ge_t (X := v109.toInt) (Y := 6) rfl (by decide) (by omega)) ?_
                  refine xi_iconst (pc' := 116) (v := 0) kc_36_115 rfl rfl ?_
                  refine xi_istore (pc' := 118) (lv' := [(5, .int 0), (0, .ref 115), (1, .int x1), (2, .int x2), (3, .int x3), (4, .int x4)]) kc_36_116 rfl rfl (xm_lt ml_36 rfl) ?_
                  refine xi_aload_n (pc' := 119) (x := 115) kc_36_118 rfl rfl ?_
                  refine xi_getfield (pc' := 122) (v := .ref 142) kc_36_119 rfl rfl rfl A37 rfl ?_
                  refine xi_aload_n (pc' := 123) (x := 115) kc_36_122 rfl rfl ?_
                  refine xi_getfield (pc' := 126) (v := .ref 136) kc_36_123 rfl rfl rfl A37 rfl ?_
                  refine xi_iload (pc' := 128) (x := x4) kc_36_126 rfl rfl ?_
                  refine xcps4 (xk_arr K23.1 xD_136) (fun y111 A111 hy111 ry111 => ?_)
                  refine xcps4 (xj_get hy111 ry111 (i := x4) (by omega) (by omega)) (fun v112 ev112 bv112 dv112 => ?_)
                  refine xi_iaload (pc' := 129) (v := v112) kc_36_128 rfl A111 (by decide) rfl (xi_in (by omega) (by rw [hy111]; omega)) ev112 ?_
                  refine xi_aload_n (pc' := 130) (x := 115) kc_36_129 rfl rfl ?_
                  refine xi_getfield (pc' := 133) (v := .ref 142) kc_36_130 rfl rfl rfl A37 rfl ?_
                  refine xi_aload_n (pc' := 134) (x := 115) kc_36_133 rfl rfl ?_
                  refine xi_getfield (pc' := 137) (v := .ref 136) kc_36_134 rfl rfl rfl A37 rfl ?_
                  refine xi_iload (pc' := 139) (x := x4) kc_36_137 rfl rfl ?_
                  refine xi_iaload (pc' := 140) (v := v112) kc_36_139 rfl A111 (by decide) rfl (xi_in (by omega) (by rw [hy111]; omega)) ev112 ?_
                  refine xcps4 (xk_arr K23.1 xD_142) (fun y113 A113 hy113 ry113 => ?_)
                  refine xcps4 (xj_get hy113 ry113 (i := v112) (by omega) (by omega)) (fun v114 ev114 bv114 dv114 => ?_)
                  refine xi_iaload (pc' := 141) (v := v114) kc_36_140 rfl A113 (by decide) rfl (xi_in (by omega) (by rw [hy113]; omega)) ev114 ?_
                  refine xi_iload (pc' := 143) (x := 0) kc_36_141 rfl rfl ?_
                  refine xcps2 (α := Int32) (v114 + 0) (fun v115 ev115 => ?_)
                  have zv115 : v115.toInt = v114.toInt := by rw [← ev115]; exact (xz_add (X := v114.toInt) (Y := 0) rfl (by decide) (by omega) (by omega)).trans (by omega)
                  refine xi_iadd (pc' := 144) (v := v115) kc_36_143 rfl ev115 ?_
                  refine xi_static (mj := 39) (as := [.int v115]) (st1 := [.int v112, .ref 142]) (lv0 := [(0, .int v115)]) kc_36_144 rfl rfl (Nat.le_of_ble_eq_true rfl) rfl rfl (Nat.le_of_ble_eq_true rfl) (hJ _ _ _ _ (by decide)) (xm_le ml_39 rfl) rfl ?_
                  refine mt_39_0 hJ hov1 hov2 (d := d + 2) (x0 := v115) K23.1 (fun r116 hh117 br116 K118 => ?_)
                  have K119 := xk_tr K23 K118 rfl
                  refine xp_115 K119.1 (fun u120 u121 u122 u123 u124 u125 u126 u127 u128 u129 u130 u131 u132 bu120 bu121 bu122 bu123 bu124 bu125 bu126 bu127 bu128 bu129 bu130 bu131 bu132 A133 => ?_)
                  have e134 : u2 = u121 := xk_eqi (q := 1) K118 rfl A37 A133 rfl rfl
                  subst e134
                  have e135 : u4 = u123 := xk_eqi (q := 18) K118 rfl A37 A133 rfl rfl
                  subst e135
                  show xw J ov (d + 4) 36 (147, [(5, .int 0), (0, .ref 115), (1, .int x1), (2, .int x2), (3, .int x3), (4, .int x4)], [.int r116, .int v112, .ref 142], hh117) _
                  refine xcps4 (xk_arr K119.1 xD_142) (fun y136 A136 hy136 ry136 => ?_)
                  refine xcps4 (xj_set (v := r116) hy136 ry136 v112 (by first | omega | decide) (by first | omega | decide)) (fun y137 s137 hy137 ry137 => ?_)
                  refine xi_iastore (pc' := 148) (x' := y137) kc_36_147 rfl A136 rfl (xi_in (by omega) (by rw [hy136]; omega)) s137 (fun hh137 eh137 => ?_)
                  have K138 := xk_pa K119 (xk_wa rfl) xD_142 hy137 ry137 eh137
                  refine xcps2 (α := Int32) (x4 + 1) (fun v139 ev139 => ?_)
                  have zv139 : v139.toInt = (x4.toInt + 1) := by rw [← ev139]; exact (xz_add (X := x4.toInt) (Y := 1) rfl (by decide) (by omega) (by omega)).trans (by omega)
                  refine xi_iinc (pc' := 151) (x := x4) (v := v139) (lv' := [(4, .int v139), (5, .int 0), (0, .ref 115), (1, .int x1), (2, .int x2), (3, .int x3)]) kc_36_148 rfl rfl ev139 rfl (xm_lt ml_36 rfl) ?_
                  refine xi_goto (pc' := 28) kc_36_151 rfl ?_
                  refine xw_lv (b := [(0, .ref 115), (1, .int x1), (2, .int x2), (3, .int x3), (4, .int v139)]) (lvS_cons (lvS_cons (lvS_cons (lvS_cons (lvS_cons (lvS_nil (show ([4, 5, 0, 1, 2, 3] : List Nat).Nodup by decide)) rfl) rfl) rfl) rfl) rfl) ?_
                  exact i1 x1 x2 x3 v139 hh137 (by omega) (by omega) (by omega) (by omega) K138 (by omega)
                · refine xi_cmf (pc' := 105) kc_36_102 rfl (xc_ge_f (X := v109.toInt) (Y := 6) rfl (by decide) (by omega)) ?_
                  refine xi_aload_n (pc' := 106) (x := 115) kc_36_105 rfl rfl ?_
                  refine xi_getfield (pc' := 109) (v := .ref 137) kc_36_106 rfl rfl rfl A37 rfl ?_
                  refine xi_iload (pc' := 111) (x := x4) kc_36_109 rfl rfl ?_
                  refine xcps4 (xk_arr K23.1 xD_137) (fun y140 A140 hy140 ry140 => ?_)
                  refine xcps4 (xj_get hy140 ry140 (i := x4) (by omega) (by omega)) (fun v141 ev141 bv141 dv141 => ?_)
                  refine xi_iaload (pc' := 112) (v := v141) kc_36_111 rfl A140 (by decide) rfl (xi_in (by omega) (by rw [hy140]; omega)) ev141 ?_
                  refine xi_goto (pc' := 116) kc_36_112 rfl ?_
                  refine xi_istore (pc' := 118) (lv' := [(5, .int v141), (0, .ref 115), (1, .int x1), (2, .int x2), (3, .int x3), (4, .int x4)]) kc_36_116 rfl rfl (xm_lt ml_36 rfl) ?_
                  refine xi_aload_n (pc' := 119) (x := 115) kc_36_118 rfl rfl ?_
                  refine xi_getfield (pc' := 122) (v := .ref 142) kc_36_119 rfl rfl rfl A37 rfl ?_
                  refine xi_aload_n (pc' := 123) (x := 115) kc_36_122 rfl rfl ?_
                  refine xi_getfield (pc' := 126) (v := .ref 136) kc_36_123 rfl rfl rfl A37 rfl ?_
                  refine xi_iload (pc' := 128) (x := x4) kc_36_126 rfl rfl ?_
                  refine xcps4 (xk_arr K23.1 xD_136) (fun y142 A142 hy142 ry142 => ?_)
                  refine xcps4 (xj_get hy142 ry142 (i := x4) (by omega) (by omega)) (fun v143 ev143 bv143 dv143 => ?_)
                  refine xi_iaload (pc' := 129) (v := v143) kc_36_128 rfl A142 (by decide) rfl (xi_in (by omega) (by rw [hy142]; omega)) ev143 ?_
                  refine xi_aload_n (pc' := 130) (x := 115) kc_36_129 rfl rfl ?_
                  refine xi_getfield (pc' := 133) (v := .ref 142) kc_36_130 rfl rfl rfl A37 rfl ?_
                  refine xi_aload_n (pc' := 134) (x := 115) kc_36_133 rfl rfl ?_
                  refine xi_getfield (pc' := 137) (v := .ref 136) kc_36_134 rfl rfl rfl A37 rfl ?_
                  refine xi_iload (pc' := 139) (x := x4) kc_36_137 rfl rfl ?_
                  refine xi_iaload (pc' := 140) (v := v143) kc_36_139 rfl A142 (by decide) rfl (xi_in (by omega) (by rw [hy142]; omega)) ev143 ?_
                  refine xcps4 (xk_arr K23.1 xD_142) (fun y144 A144 hy144 ry144 => ?_)
                  refine xcps4 (xj_get hy144 ry144 (i := v143) (by omega) (by omega)) (fun v145 ev145 bv145 dv145 => ?_)
                  refine xi_iaload (pc' := 141) (v := v145) kc_36_140 rfl A144 (by decide) rfl (xi_in (by omega) (by rw [hy144]; omega)) ev145 ?_
                  refine xi_iload (pc' := 143) (x := v141) kc_36_141 rfl rfl ?_
                  refine xcps2 (α := Int32) ((v145 : Int32) + v141) (fun v146 ev146 => ?_)
                  have rv146 := xc_rng v146
                  refine xi_iadd (pc' := 144) (v := v146) kc_36_143 rfl ev146 ?_
                  refine xi_static (mj := 39) (as := [.int v146]) (st1 := [.int v143, .ref 142]) (lv0 := [(0, .int v146)]) kc_36_144 rfl rfl (Nat.le_of_ble_eq_true rfl) rfl rfl (Nat.le_of_ble_eq_true rfl) (hJ _ _ _ _ (by decide)) (xm_le ml_39 rfl) rfl ?_
                  refine mt_39_0 hJ hov1 hov2 (d := d + 2) (x0 := v146) K23.1 (fun r147 hh148 br147 K149 => ?_)
                  have K150 := xk_tr K23 K149 rfl
                  refine xp_115 K150.1 (fun u151 u152 u153 u154 u155 u156 u157 u158 u159 u160 u161 u162 u163 bu151 bu152 bu153 bu154 bu155 bu156 bu157 bu158 bu159 bu160 bu161 bu162 bu163 A164 => ?_)
                  have e165 : u2 = u152 := xk_eqi (q := 1) K149 rfl A37 A164 rfl rfl
                  subst e165
                  have e166 : u4 = u154 := xk_eqi (q := 18) K149 rfl A37 A164 rfl rfl
                  subst e166
                  show xw J ov (d + 4) 36 (147, [(5, .int v141), (0, .ref 115), (1, .int x1), (2, .int x2), (3, .int x3), (4, .int x4)], [.int r147, .int v143, .ref 142], hh148) _
                  refine xcps4 (xk_arr K150.1 xD_142) (fun y167 A167 hy167 ry167 => ?_)
                  refine xcps4 (xj_set (v := r147) hy167 ry167 v143 (by first | omega | decide) (by first | omega | decide)) (fun y168 s168 hy168 ry168 => ?_)
                  refine xi_iastore (pc' := 148) (x' := y168) kc_36_147 rfl A167 rfl (xi_in (by omega) (by rw [hy167]; omega)) s168 (fun hh168 eh168 => ?_)
                  have K169 := xk_pa K150 (xk_wa rfl) xD_142 hy168 ry168 eh168
                  refine xcps2 (α := Int32) (x4 + 1) (fun v170 ev170 => ?_)
                  have zv170 : v170.toInt = (x4.toInt + 1) := by rw [← ev170]; exact (xz_add (X := x4.toInt) (Y := 1) rfl (by decide) (by omega) (by omega)).trans (by omega)
                  refine xi_iinc (pc' := 151) (x := x4) (v := v170) (lv' := [(4, .int v170), (5, .int v141), (0, .ref 115), (1, .int x1), (2, .int x2), (3, .int x3)]) kc_36_148 rfl rfl ev170 rfl (xm_lt ml_36 rfl) ?_
                  refine xi_goto (pc' := 28) kc_36_151 rfl ?_
                  refine xw_lv (b := [(0, .ref 115), (1, .int x1), (2, .int x2), (3, .int x3), (4, .int v170)]) (lvS_cons (lvS_cons (lvS_cons (lvS_cons (lvS_cons (lvS_nil (show ([4, 5, 0, 1, 2, 3] : List Nat).Nodup by decide)) rfl) rfl) rfl) rfl) rfl) ?_
                  exact i1 x1 x2 x3 v170 hh168 (by omega) (by omega) (by omega) (by omega) K169 (by omega)
    · intro x4 h b4 K hm
      refine xi_iload (pc' := 159) (x := x4) kc_36_157 rfl rfl ?_
      refine xi_bipush (pc' := 161) (v := 12) kc_36_159 rfl rfl ?_
      by_cases c1 : 12 ≤ x4.toInt
      · refine xi_cmt (pc' := 198) kc_36_161 rfl (xc_ge_t (X := x4.toInt) (Y := 12) rfl (by decide) (by omega)) ?_
        refine xi_return kc_36_198 mr_36 ?_
        exact kk h K
      · refine xi_cmf (pc' := 164) kc_36_161 rfl (xc_ge_f (X := x4.toInt) (Y := 12) rfl (by decide) (by omega)) ?_
        refine xi_aload_n (pc' := 165) (x := 115) kc_36_164 rfl rfl ?_
        refine xp_115 K.1 (fun u2 u3 u4 u5 u6 u7 u8 u9 u10 u11 u12 u13 u14 bu2 bu3 bu4 bu5 bu6 bu7 bu8 bu9 bu10 bu11 bu12 bu13 bu14 A15 => ?_)
        refine xi_getfield (pc' := 168) (v := .ref 142) kc_36_165 rfl rfl rfl A15 rfl ?_
        refine xi_iload (pc' := 170) (x := x4) kc_36_168 rfl rfl ?_
        refine xi_dup2 (pc' := 171) kc_36_170 rfl ⟨rfl, rfl⟩ ?_
        refine xcps4 (xk_arr K.1 xD_142) (fun y16 A16 hy16 ry16 => ?_)
        refine xcps4 (xj_get hy16 ry16 (i := x4) (by omega) (by omega)) (fun v17 ev17 bv17 dv17 => ?_)
        refine xi_iaload (pc' := 172) (v := v17) kc_36_171 rfl A16 (by decide) rfl (xi_in (by omega) (by rw [hy16]; omega)) ev17 ?_
        refine xi_aload_n (pc' := 173) (x := 115) kc_36_172 rfl rfl ?_
        refine xi_getfield (pc' := 176) (v := .ref 142) kc_36_173 rfl rfl rfl A15 rfl ?_
        refine xi_iload (pc' := 178) (x := x4) kc_36_176 rfl rfl ?_
        refine xi_iaload (pc' := 179) (v := v17) kc_36_178 rfl A16 (by decide) rfl (xi_in (by omega) (by rw [hy16]; omega)) ev17 ?_
        refine xi_aload_n (pc' := 180) (x := 115) kc_36_179 rfl rfl ?_
        refine xi_getfield (pc' := 183) (v := .int u4) kc_36_180 rfl rfl rfl A15 rfl ?_
        refine xcps2 (α := Int32) ((v17 : Int32) * u4) (fun v18 ev18 => ?_)
        have rv18 := xc_rng v18
        refine xi_imul (pc' := 184) (v := v18) kc_36_183 rfl ev18 ?_
        refine xi_bipush (pc' := 186) (v := 99) kc_36_184 rfl rfl ?_
        refine xcps2 (α := Int32) ((v18 : Int32) + 99) (fun v19 ev19 => ?_)
        have rv19 := xc_rng v19
        refine xi_iadd (pc' := 187) (v := v19) kc_36_186 rfl ev19 ?_
        refine xi_bipush (pc' := 189) (v := 100) kc_36_187 rfl rfl ?_
        refine xcps2 (α := Int32) (v19 / 100) (fun v20 ev20 => ?_)
        have dv20 : 100 * v20.toInt ≤ v19.toInt + 99 ∧ v19.toInt ≤ 100 * v20.toInt + 99 := by rw [← ev20]; exact xz_div (X := v19.toInt) (Y := 100) rfl (by decide) (by decide)
        have bv20 : -21474837 ≤ v20.toInt ∧ v20.toInt ≤ 21474837 := by omega
        refine xi_idiv (pc' := 190) (v := v20) kc_36_189 rfl ev20 (by decide) ?_
        refine xcps2 (α := Int32) ((v17 : Int32) - v20) (fun v21 ev21 => ?_)
        have rv21 := xc_rng v21
        refine xi_isub (pc' := 191) (v := v21) kc_36_190 rfl ev21 ?_
        refine xcps4 (xj_set (v := v21) hy16 ry16 x4 (by first | omega | decide) (by first | omega | decide)) (fun y22 s22 hy22 ry22 => ?_)
        refine xi_iastore (pc' := 192) (x' := y22) kc_36_191 rfl A16 rfl (xi_in (by omega) (by rw [hy16]; omega)) s22 (fun hh22 eh22 => ?_)
        have K23 := xk_pa K (xk_wa rfl) xD_142 hy22 ry22 eh22
        refine xcps2 (α := Int32) (x4 + 1) (fun v24 ev24 => ?_)
        have zv24 : v24.toInt = (x4.toInt + 1) := by rw [← ev24]; exact (xz_add (X := x4.toInt) (Y := 1) rfl (by decide) (by omega) (by omega)).trans (by omega)
        refine xi_iinc (pc' := 195) (x := x4) (v := v24) (lv' := [(4, .int v24), (0, .ref 115)]) kc_36_192 rfl rfl ev24 rfl (xm_lt ml_36 rfl) ?_
        refine xi_goto (pc' := 157) kc_36_195 rfl ?_
        refine xw_lv (b := [(0, .ref 115), (4, .int v24)]) (lvS_cons (lvS_cons (lvS_nil (show ([4, 0] : List Nat).Nodup by decide)) rfl) rfl) ?_
        exact i2 v24 hh22 (by omega) K23 (by omega)
set_option maxHeartbeats 4000000 in
theorem mt_36_0 {J : xe_J} {ov : List (List Int32)} (hJ : ∀ d mj as h, mj ≠ xe_loff → J d mj as h = none) (hov1 : ov[1]? = some [10, 0, 0, 0, 0, 0]) (hov2 : ov[2]? = some [99, 30, 50, 50, 1, 99999]) {d : Nat} {Q : Option Value → xe_H → Prop} {h : xe_H} {x1 : Int32} {x2 : Int32} {x3 : Int32} (T : xt h) (b1 : (0 ≤ x1.toInt ∧ x1.toInt ≤ 63)) (b2 : (0 ≤ x2.toInt ∧ x2.toInt ≤ 1)) (b3 : (0 ≤ x3.toInt ∧ x3.toInt ≤ 599)) (kk : (∀ h' : xe_H, xk [(0, 9), (115, 1), (83, 0), (29, 0), (31, 0), (33, 0), (35, 0), (37, 0), (39, 0), (41, 0), (43, 0), (45, 0), (47, 0), (49, 0), (51, 0), (125, 0), (66, 8), (115, 18), (71, 0), (132, 0)] h h' → Q none h')) : xw J ov (d + 4) 36 (0, [(0, .ref 115), (1, .int x1), (2, .int x2), (3, .int x3)], [], h) Q := by
  have K : xk [(0, 9), (115, 1), (83, 0), (29, 0), (31, 0), (33, 0), (35, 0), (37, 0), (39, 0), (41, 0), (43, 0), (45, 0), (47, 0), (49, 0), (51, 0), (125, 0), (66, 8), (115, 18), (71, 0), (132, 0)] h h := xk_re T
  refine xi_iconst (pc' := 1) (v := 0) kc_36_0 rfl rfl ?_
  refine xi_istore (pc' := 3) (lv' := [(4, .int 0), (0, .ref 115), (1, .int x1), (2, .int x2), (3, .int x3)]) kc_36_1 rfl rfl (xm_lt ml_36 rfl) ?_
  have zc0 : (0 : Int32).toInt = 0 := by decide
  refine xw_lv (b := [(0, .ref 115), (1, .int x1), (2, .int x2), (3, .int x3), (4, .int 0)]) (lvS_cons (lvS_cons (lvS_cons (lvS_cons (lvS_cons (lvS_nil (show ([4, 0, 1, 2, 3] : List Nat).Nodup by decide)) rfl) rfl) rfl) rfl) rfl) ?_
  exact (lp_36_0 hJ hov1 hov2 (d := d) (hb := h) (fun h9 K9 => kk h9 (xk_tr K K9 rfl)) 31).1 x1 x2 x3 0 h (by omega) (by omega) (by omega) (by omega) (xk_re K.1) (by omega)
set_option maxHeartbeats 4000000 in
theorem lp_35_0 {J : xe_J} {ov : List (List Int32)} (hJ : ∀ d mj as h, mj ≠ xe_loff → J d mj as h = none) (hov1 : ov[1]? = some [10, 0, 0, 0, 0, 0]) (hov2 : ov[2]? = some [99, 30, 50, 50, 1, 99999]) {d : Nat} {Q : Option Value → xe_H → Prop} {hb : xe_H} {u0 : Int32} (bgu0 : (0 ≤ u0.toInt ∧ u0.toInt ≤ 599)) (kk : (∀ h' : xe_H, (∀ v : Int32, xl h' (115, 1) = some (.inl (.int v)) → v.toInt + (-1) * u0.toInt + (-1) = 0) → xk [(0, 9), (83, 0), (29, 0), (31, 0), (33, 0), (35, 0), (37, 0), (39, 0), (41, 0), (43, 0), (45, 0), (47, 0), (49, 0), (51, 0), (125, 0), (66, 8), (115, 18), (71, 0), (132, 0)] hb h' → Q none h')) : ∀ m : Nat, (∀ (x1 : Int32) (h : xe_H), (0 ≤ x1.toInt ∧ x1.toInt ≤ 20) → (∀ v : Int32, xl h (115, 1) = some (.inl (.int v)) → v.toInt + (-1) * u0.toInt + 0 = 0) → xk [(0, 9), (83, 0), (29, 0), (31, 0), (33, 0), (35, 0), (37, 0), (39, 0), (41, 0), (43, 0), (45, 0), (47, 0), (49, 0), (51, 0), (125, 0), (66, 8), (115, 18), (71, 0), (132, 0)] hb h → (-1) * x1.toInt + 81 < (m : Int) → xw J ov (d + 5) 35 (2, [(0, .ref 115), (1, .int x1)], [], h) Q) ∧ (∀ (x1 : Int32) (h : xe_H), (0 ≤ x1.toInt ∧ x1.toInt ≤ 6) → (∀ v : Int32, xl h (115, 1) = some (.inl (.int v)) → v.toInt + (-1) * u0.toInt + 0 = 0) → xk [(0, 9), (83, 0), (29, 0), (31, 0), (33, 0), (35, 0), (37, 0), (39, 0), (41, 0), (43, 0), (45, 0), (47, 0), (49, 0), (51, 0), (125, 0), (66, 8), (115, 18), (71, 0), (132, 0)] hb h → (-1) * x1.toInt + 60 < (m : Int) → xw J ov (d + 5) 35 (93, [(0, .ref 115), (1, .int x1)], [], h) Q) ∧ (∀ (x1 : Int32) (h : xe_H), (0 ≤ x1.toInt ∧ x1.toInt ≤ 12) → (∀ v : Int32, xl h (115, 1) = some (.inl (.int v)) → v.toInt + (-1) * u0.toInt + 0 = 0) → xk [(0, 9), (83, 0), (29, 0), (31, 0), (33, 0), (35, 0), (37, 0), (39, 0), (41, 0), (43, 0), (45, 0), (47, 0), (49, 0), (51, 0), (125, 0), (66, 8), (115, 18), (71, 0), (132, 0)] hb h → (-1) * x1.toInt + 53 < (m : Int) → xw J ov (d + 5) 35 (119, [(0, .ref 115), (1, .int x1)], [], h) Q) ∧ (∀ (x1 : Int32) (h : xe_H), (0 ≤ x1.toInt ∧ x1.toInt ≤ 6) → (∀ v : Int32, xl h (115, 1) = some (.inl (.int v)) → v.toInt + (-1) * u0.toInt + 0 = 0) → xk [(0, 9), (83, 0), (29, 0), (31, 0), (33, 0), (35, 0), (37, 0), (39, 0), (41, 0), (43, 0), (45, 0), (47, 0), (49, 0), (51, 0), (125, 0), (66, 8), (115, 18), (71, 0), (132, 0)] hb h → (-1) * x1.toInt + 40 < (m : Int) → xw J ov (d + 5) 35 (179, [(0, .ref 115), (1, .int x1)], [], h) Q) ∧ (∀ (x1 : Int32) (h : xe_H), (0 ≤ x1.toInt ∧ x1.toInt ≤ 12) → (∀ v : Int32, xl h (115, 1) = some (.inl (.int v)) → v.toInt + (-1) * u0.toInt + 0 = 0) → xk [(0, 9), (83, 0), (29, 0), (31, 0), (33, 0), (35, 0), (37, 0), (39, 0), (41, 0), (43, 0), (45, 0), (47, 0), (49, 0), (51, 0), (125, 0), (66, 8), (115, 18), (71, 0), (132, 0)] hb h → (-1) * x1.toInt + 33 < (m : Int) → xw J ov (d + 5) 35 (205, [(0, .ref 115), (1, .int x1)], [], h) Q) ∧ (∀ (x1 : Int32) (h : xe_H), (0 ≤ x1.toInt ∧ x1.toInt ≤ 20) → (∀ v : Int32, xl h (115, 1) = some (.inl (.int v)) → v.toInt + (-1) * u0.toInt + (-1) = 0) → xk [(0, 9), (83, 0), (29, 0), (31, 0), (33, 0), (35, 0), (37, 0), (39, 0), (41, 0), (43, 0), (45, 0), (47, 0), (49, 0), (51, 0), (125, 0), (66, 8), (115, 18), (71, 0), (132, 0)] hb h → (-1) * x1.toInt + 20 < (m : Int) → xw J ov (d + 5) 35 (286, [(0, .ref 115), (1, .int x1)], [], h) Q) := by
  intro m
  induction m with
  | zero =>
    refine ⟨?_, ?_, ?_, ?_, ?_, ?_⟩
    · intro x1 h b1 gh0 K hm; exfalso; omega
    · intro x1 h b1 gh0 K hm; exfalso; omega
    · intro x1 h b1 gh0 K hm; exfalso; omega
    · intro x1 h b1 gh0 K hm; exfalso; omega
    · intro x1 h b1 gh0 K hm; exfalso; omega
    · intro x1 h b1 gh0 K hm; exfalso; omega
  | succ m ih =>
    obtain ⟨i0, i1, i2, i3, i4, i5⟩ := ih
    refine ⟨?_, ?_, ?_, ?_, ?_, ?_⟩
    · intro x1 h b1 gh0 K hm
      refine xp_115 K.1 (fun u1 u2 u3 u4 u5 u6 u7 u8 u9 u10 u11 u12 u13 bu1 bu2 bu3 bu4 bu5 bu6 bu7 bu8 bu9 bu10 bu11 bu12 bu13 A14 => ?_)
      have gh0' := gh0 _ (xl_of A14 rfl)
      refine xi_iload_n (pc' := 3) (x := x1) kc_35_2 rfl rfl ?_
      refine xi_aload_n (pc' := 4) (x := 115) kc_35_3 rfl rfl ?_
      refine xi_getfield (pc' := 7) (v := .int u8) kc_35_4 rfl rfl rfl A14 rfl ?_
      by_cases c15 : u8.toInt ≤ x1.toInt
      · refine xi_cmt (pc' := 91) kc_35_7 rfl (xc_ge_t (X := x1.toInt) (Y := u8.toInt) rfl rfl (by omega)) ?_
        refine xi_iconst (pc' := 92) (v := 0) kc_35_91 rfl rfl ?_
        refine xi_istore_n (pc' := 93) (lv' := [(1, .int 0), (0, .ref 115)]) kc_35_92 rfl rfl (xm_lt ml_35 rfl) ?_
        have zc0 : (0 : Int32).toInt = 0 := by decide
        refine xw_lv (b := [(0, .ref 115), (1, .int 0)]) (lvS_cons (lvS_cons (lvS_nil (show ([1, 0] : List Nat).Nodup by decide)) rfl) rfl) ?_
        exact i1 0 h (by omega) (fun v e => by have e2 := xl_val (u := u2) A14 rfl e; subst e2; omega) K (by omega)
      · refine xi_cmf (pc' := 10) kc_35_7 rfl (xc_ge_f (X := x1.toInt) (Y := u8.toInt) rfl rfl (by omega)) ?_
        refine xi_aload_n (pc' := 11) (x := 115) kc_35_10 rfl rfl ?_
        refine xi_getfield (pc' := 14) (v := .ref 146) kc_35_11 rfl rfl rfl A14 rfl ?_
        refine xi_iload_n (pc' := 15) (x := x1) kc_35_14 rfl rfl ?_
        refine xcps4 (xk_arr K.1 xD_146) (fun y16 A16 hy16 ry16 => ?_)
        refine xcps4 (xj_get hy16 ry16 (i := x1) (by omega) (by omega)) (fun v17 ev17 bv17 dv17 => ?_)
        refine xi_iaload (pc' := 16) (v := v17) kc_35_15 rfl A16 (by decide) rfl (xi_in (by omega) (by rw [hy16]; omega)) ev17 ?_
        refine xi_aload_n (pc' := 17) (x := 115) kc_35_16 rfl rfl ?_
        refine xi_getfield (pc' := 20) (v := .int u2) kc_35_17 rfl rfl rfl A14 rfl ?_
        by_cases c18 : v17.toInt = u2.toInt
        · refine xi_cmf (pc' := 23) kc_35_20 rfl (xc_ne_f (X := v17.toInt) (Y := u2.toInt) rfl rfl (by omega)) ?_
          refine xi_aload_n (pc' := 24) (x := 115) kc_35_23 rfl rfl ?_
          refine xi_getfield (pc' := 27) (v := .ref 144) kc_35_24 rfl rfl rfl A14 rfl ?_
          refine xi_iload_n (pc' := 28) (x := x1) kc_35_27 rfl rfl ?_
          refine xcps4 (xk_arr K.1 xD_144) (fun y19 A19 hy19 ry19 => ?_)
          refine xcps4 (xj_get hy19 ry19 (i := x1) (by omega) (by omega)) (fun v20 ev20 bv20 dv20 => ?_)
          refine xi_iaload (pc' := 29) (v := v20) kc_35_28 rfl A19 (by decide) rfl (xi_in (by omega) (by rw [hy19]; omega)) ev20 ?_
          by_cases c21 : v20.toInt = 0
          · refine xi_iff (pc' := 32) kc_35_29 rfl (xc_ne_f (X := v20.toInt) (Y := 0) rfl (by decide) (by omega)) ?_
            refine xi_iconst (pc' := 33) (v := 4) kc_35_32 rfl rfl ?_
            refine xi_goto (pc' := 37) kc_35_33 rfl ?_
            refine xi_istore_n (pc' := 38) (lv' := [(2, .int 4), (0, .ref 115), (1, .int x1)]) kc_35_37 rfl rfl (xm_lt ml_35 rfl) ?_
            refine xi_aload_n (pc' := 39) (x := 115) kc_35_38 rfl rfl ?_
            refine xi_getfield (pc' := 42) (v := .ref 148) kc_35_39 rfl rfl rfl A14 rfl ?_
            refine xi_iload_n (pc' := 43) (x := x1) kc_35_42 rfl rfl ?_
            refine xi_aload_n (pc' := 44) (x := 115) kc_35_43 rfl rfl ?_
            refine xi_aload_n (pc' := 45) (x := 115) kc_35_44 rfl rfl ?_
            refine xi_getfield (pc' := 48) (v := .ref 143) kc_35_45 rfl rfl rfl A14 rfl ?_
            refine xi_iload_n (pc' := 49) (x := x1) kc_35_48 rfl rfl ?_
            refine xcps4 (xk_arr K.1 xD_143) (fun y22 A22 hy22 ry22 => ?_)
            refine xcps4 (xj_get hy22 ry22 (i := x1) (by omega) (by omega)) (fun v23 ev23 bv23 dv23 => ?_)
            refine xi_iaload (pc' := 50) (v := v23) kc_35_49 rfl A22 (by decide) rfl (xi_in (by omega) (by rw [hy22]; omega)) ev23 ?_
            refine xi_iload_n (pc' := 51) (x := 4) kc_35_50 rfl rfl ?_
            refine xi_virtual (mj := 13) (as := [.int v23, .int 4]) (st1 := [.int x1, .ref 148]) (lv0 := [(0, .ref 115), (1, .int v23), (2, .int 4)]) kc_35_51 rfl rfl rfl rfl rfl A14 (Nat.le_of_ble_eq_true rfl) (hJ _ _ _ _ (by decide)) (xm_le ml_13 rfl) rfl ?_
            refine xi_iload_n (pc' := 1) (x := 4) kc_13_0 rfl rfl ?_
            refine xi_tsi (pc' := 64) (z := 4) kc_13_1 (rfl) rfl (by decide) ?_
            refine xi_aload_n (pc' := 65) (x := 115) kc_13_64 rfl rfl ?_
            refine xi_getfield (pc' := 68) (v := .ref 120) kc_13_65 rfl rfl rfl A14 rfl ?_
            refine xi_iload_n (pc' := 69) (x := v23) kc_13_68 rfl rfl ?_
            refine xcps4 (xk_arr K.1 xD_120) (fun y24 A24 hy24 ry24 => ?_)
            refine xcps4 (xj_get hy24 ry24 (i := v23) (by omega) (by omega)) (fun v25 ev25 bv25 dv25 => ?_)
            refine xi_iaload (pc' := 70) (v := v25) kc_13_69 rfl A24 (by decide) rfl (xi_in (by omega) (by rw [hy24]; omega)) ev25 ?_
            refine xi_ireturn kc_13_70 mr_13 rfl ?_
            show xw J ov (d + 5) 35 (54, [(2, .int 4), (0, .ref 115), (1, .int x1)], [.int v25, .int x1, .ref 148], h) _
            refine xcps4 (xk_arr K.1 xD_148) (fun y26 A26 hy26 ry26 => ?_)
            refine xcps4 (xj_set (v := v25) hy26 ry26 x1 (by first | omega | decide) (by first | omega | decide)) (fun y27 s27 hy27 ry27 => ?_)
            refine xi_iastore (pc' := 55) (x' := y27) kc_35_54 rfl A26 rfl (xi_in (by omega) (by rw [hy26]; omega)) s27 (fun hh27 eh27 => ?_)
            have K28 := xk_pa K (xk_wa rfl) xD_148 hy27 ry27 eh27
            refine xi_aload_n (pc' := 56) (x := 115) kc_35_55 rfl rfl ?_
            refine xi_aload_n (pc' := 57) (x := 115) kc_35_56 rfl rfl ?_
            have A29 := ((eh27.2.1 115 (by decide)).trans A14)
            refine xi_getfield (pc' := 60) (v := .ref 143) kc_35_57 rfl rfl rfl A29 rfl ?_
            refine xi_iload_n (pc' := 61) (x := x1) kc_35_60 rfl rfl ?_
            have A30 := ((eh27.2.1 143 (by decide)).trans A22)
            refine xi_iaload (pc' := 62) (v := v23) kc_35_61 rfl A30 (by decide) rfl (xi_in (by omega) (by rw [hy22]; omega)) ev23 ?_
            refine xi_iload_n (pc' := 63) (x := 4) kc_35_62 rfl rfl ?_
            refine xi_aload_n (pc' := 64) (x := 115) kc_35_63 rfl rfl ?_
            refine xi_getfield (pc' := 67) (v := .ref 144) kc_35_64 rfl rfl rfl A29 rfl ?_
            refine xi_iload_n (pc' := 68) (x := x1) kc_35_67 rfl rfl ?_
            have A31 := ((eh27.2.1 144 (by decide)).trans A19)
            refine xi_iaload (pc' := 69) (v := v20) kc_35_68 rfl A31 (by decide) rfl (xi_in (by omega) (by rw [hy19]; omega)) ev20 ?_
            refine xi_iff (pc' := 72) kc_35_69 rfl (xc_ne_f (X := v20.toInt) (Y := 0) rfl (by decide) (by omega)) ?_
            refine xi_iconst (pc' := 73) (v := 1) kc_35_72 rfl rfl ?_
            refine xi_goto (pc' := 82) kc_35_73 rfl ?_
            refine xi_virtual (mj := 14) (as := [.int v23, .int 4, .int 1]) (st1 := []) (lv0 := [(0, .ref 115), (1, .int v23), (2, .int 4), (3, .int 1)]) kc_35_82 rfl rfl rfl rfl rfl A29 (Nat.le_of_ble_eq_true rfl) (hJ _ _ _ _ (by decide)) (xm_le ml_14 rfl) rfl ?_
            have zc1 : (1 : Int32).toInt = 1 := by decide
            have zc4 : (4 : Int32).toInt = 4 := by decide
            refine mt_14_0 hJ hov1 hov2 (d := d + 3) (x1 := v23) (x2 := 4) (x3 := 1) K28.1 (by first | omega | decide) (by first | omega | decide) (fun hh33 K34 => ?_)
            have K35 := xk_tr K28 K34 rfl
            refine xp_115 K35.1 (fun u36 u37 u38 u39 u40 u41 u42 u43 u44 u45 u46 u47 u48 bu36 bu37 bu38 bu39 bu40 bu41 bu42 bu43 bu44 bu45 bu46 bu47 bu48 A49 => ?_)
            have e50 : u2 = u37 := xk_eqi (q := 1) K34 rfl A29 A49 rfl rfl
            subst e50
            have e51 : u4 = u39 := xk_eqi (q := 18) K34 rfl A29 A49 rfl rfl
            subst e51
            show xw J ov (d + 5) 35 (85, [(2, .int 4), (0, .ref 115), (1, .int x1)], [], hh33) _
            refine xcps2 (α := Int32) (x1 + 1) (fun v52 ev52 => ?_)
            have zv52 : v52.toInt = (x1.toInt + 1) := by rw [← ev52]; exact (xz_add (X := x1.toInt) (Y := 1) rfl (by decide) (by omega) (by omega)).trans (by omega)
            refine xi_iinc (pc' := 88) (x := x1) (v := v52) (lv' := [(1, .int v52), (2, .int 4), (0, .ref 115)]) kc_35_85 rfl rfl ev52 rfl (xm_lt ml_35 rfl) ?_
            refine xi_goto (pc' := 2) kc_35_88 rfl ?_
            refine xw_lv (b := [(0, .ref 115), (1, .int v52)]) (lvS_cons (lvS_cons (lvS_nil (show ([1, 2, 0] : List Nat).Nodup by decide)) rfl) rfl) ?_
            exact i0 v52 hh33 (by omega) (fun v e => by have e2 := xl_val (u := u2) A49 rfl e; subst e2; omega) K35 (by omega)
          · refine xi_ift (pc' := 36) kc_35_29 rfl (xc_ne_t (X := v20.toInt) (Y := 0) rfl (by decide) (by omega)) ?_
            refine xi_iconst (pc' := 37) (v := 2) kc_35_36 rfl rfl ?_
            refine xi_istore_n (pc' := 38) (lv' := [(2, .int 2), (0, .ref 115), (1, .int x1)]) kc_35_37 rfl rfl (xm_lt ml_35 rfl) ?_
            refine xi_aload_n (pc' := 39) (x := 115) kc_35_38 rfl rfl ?_
            refine xi_getfield (pc' := 42) (v := .ref 148) kc_35_39 rfl rfl rfl A14 rfl ?_
            refine xi_iload_n (pc' := 43) (x := x1) kc_35_42 rfl rfl ?_
            refine xi_aload_n (pc' := 44) (x := 115) kc_35_43 rfl rfl ?_
            refine xi_aload_n (pc' := 45) (x := 115) kc_35_44 rfl rfl ?_
            refine xi_getfield (pc' := 48) (v := .ref 143) kc_35_45 rfl rfl rfl A14 rfl ?_
            refine xi_iload_n (pc' := 49) (x := x1) kc_35_48 rfl rfl ?_
            refine xcps4 (xk_arr K.1 xD_143) (fun y53 A53 hy53 ry53 => ?_)
            refine xcps4 (xj_get hy53 ry53 (i := x1) (by omega) (by omega)) (fun v54 ev54 bv54 dv54 => ?_)
            refine xi_iaload (pc' := 50) (v := v54) kc_35_49 rfl A53 (by decide) rfl (xi_in (by omega) (by rw [hy53]; omega)) ev54 ?_
            refine xi_iload_n (pc' := 51) (x := 2) kc_35_50 rfl rfl ?_
            refine xi_virtual (mj := 13) (as := [.int v54, .int 2]) (st1 := [.int x1, .ref 148]) (lv0 := [(0, .ref 115), (1, .int v54), (2, .int 2)]) kc_35_51 rfl rfl rfl rfl rfl A14 (Nat.le_of_ble_eq_true rfl) (hJ _ _ _ _ (by decide)) (xm_le ml_13 rfl) rfl ?_
            refine xi_iload_n (pc' := 1) (x := 2) kc_13_0 rfl rfl ?_
            refine xi_tsi (pc' := 50) (z := 2) kc_13_1 (rfl) rfl (by decide) ?_
            refine xi_aload_n (pc' := 51) (x := 115) kc_13_50 rfl rfl ?_
            refine xi_getfield (pc' := 54) (v := .ref 118) kc_13_51 rfl rfl rfl A14 rfl ?_
            refine xi_iload_n (pc' := 55) (x := v54) kc_13_54 rfl rfl ?_
            refine xcps4 (xk_arr K.1 xD_118) (fun y55 A55 hy55 ry55 => ?_)
            refine xcps4 (xj_get hy55 ry55 (i := v54) (by omega) (by omega)) (fun v56 ev56 bv56 dv56 => ?_)
            refine xi_iaload (pc' := 56) (v := v56) kc_13_55 rfl A55 (by decide) rfl (xi_in (by omega) (by rw [hy55]; omega)) ev56 ?_
            refine xi_ireturn kc_13_56 mr_13 rfl ?_
            show xw J ov (d + 5) 35 (54, [(2, .int 2), (0, .ref 115), (1, .int x1)], [.int v56, .int x1, .ref 148], h) _
            refine xcps4 (xk_arr K.1 xD_148) (fun y57 A57 hy57 ry57 => ?_)
            refine xcps4 (xj_set (v := v56) hy57 ry57 x1 (by first | omega | decide) (by first | omega | decide)) (fun y58 s58 hy58 ry58 => ?_)
            refine xi_iastore (pc' := 55) (x' := y58) kc_35_54 rfl A57 rfl (xi_in (by omega) (by rw [hy57]; omega)) s58 (fun hh58 eh58 => ?_)
            have K59 := xk_pa K (xk_wa rfl) xD_148 hy58 ry58 eh58
            refine xi_aload_n (pc' := 56) (x := 115) kc_35_55 rfl rfl ?_
            refine xi_aload_n (pc' := 57) (x := 115) kc_35_56 rfl rfl ?_
            have A60 := ((eh58.2.1 115 (by decide)).trans A14)
            refine xi_getfield (pc' := 60) (v := .ref 143) kc_35_57 rfl rfl rfl A60 rfl ?_
            refine xi_iload_n (pc' := 61) (x := x1) kc_35_60 rfl rfl ?_
            have A61 := ((eh58.2.1 143 (by decide)).trans A53)
            refine xi_iaload (pc' := 62) (v := v54) kc_35_61 rfl A61 (by decide) rfl (xi_in (by omega) (by rw [hy53]; omega)) ev54 ?_
            refine xi_iload_n (pc' := 63) (x := 2) kc_35_62 rfl rfl ?_
            refine xi_aload_n (pc' := 64) (x := 115) kc_35_63 rfl rfl ?_
            refine xi_getfield (pc' := 67) (v := .ref 144) kc_35_64 rfl rfl rfl A60 rfl ?_
            refine xi_iload_n (pc' := 68) (x := x1) kc_35_67 rfl rfl ?_
            have A62 := ((eh58.2.1 144 (by decide)).trans A19)
            refine xi_iaload (pc' := 69) (v := v20) kc_35_68 rfl A62 (by decide) rfl (xi_in (by omega) (by rw [hy19]; omega)) ev20 ?_
            refine xi_ift (pc' := 76) kc_35_69 rfl (xc_ne_t (X := v20.toInt) (Y := 0) rfl (by decide) (by omega)) ?_
            refine xi_aload_n (pc' := 77) (x := 115) kc_35_76 rfl rfl ?_
            refine xi_getfield (pc' := 80) (v := .ref 145) kc_35_77 rfl rfl rfl A60 rfl ?_
            refine xi_iload_n (pc' := 81) (x := x1) kc_35_80 rfl rfl ?_
            refine xcps4 (xk_arr K59.1 xD_145) (fun y63 A63 hy63 ry63 => ?_)
            refine xcps4 (xj_get hy63 ry63 (i := x1) (by omega) (by omega)) (fun v64 ev64 bv64 dv64 => ?_)
            refine xi_iaload (pc' := 82) (v := v64) kc_35_81 rfl A63 (by decide) rfl (xi_in (by omega) (by rw [hy63]; omega)) ev64 ?_
            refine xi_virtual (mj := 14) (as := [.int v54, .int 2, .int v64]) (st1 := []) (lv0 := [(0, .ref 115), (1, .int v54), (2, .int 2), (3, .int v64)]) kc_35_82 rfl rfl rfl rfl rfl A60 (Nat.le_of_ble_eq_true rfl) (hJ _ _ _ _ (by decide)) (xm_le ml_14 rfl) rfl ?_
            have zc2 : (2 : Int32).toInt = 2 := by decide
            refine mt_14_0 hJ hov1 hov2 (d := d + 3) (x1 := v54) (x2 := 2) (x3 := v64) K59.1 (by first | omega | decide) (by first | omega | decide) (fun hh66 K67 => ?_)
            have K68 := xk_tr K59 K67 rfl
            refine xp_115 K68.1 (fun u69 u70 u71 u72 u73 u74 u75 u76 u77 u78 u79 u80 u81 bu69 bu70 bu71 bu72 bu73 bu74 bu75 bu76 bu77 bu78 bu79 bu80 bu81 A82 => ?_)
            have e83 : u2 = u70 := xk_eqi (q := 1) K67 rfl A60 A82 rfl rfl
            subst e83
            have e84 : u4 = u72 := xk_eqi (q := 18) K67 rfl A60 A82 rfl rfl
            subst e84
            show xw J ov (d + 5) 35 (85, [(2, .int 2), (0, .ref 115), (1, .int x1)], [], hh66) _
            refine xcps2 (α := Int32) (x1 + 1) (fun v85 ev85 => ?_)
            have zv85 : v85.toInt = (x1.toInt + 1) := by rw [← ev85]; exact (xz_add (X := x1.toInt) (Y := 1) rfl (by decide) (by omega) (by omega)).trans (by omega)
            refine xi_iinc (pc' := 88) (x := x1) (v := v85) (lv' := [(1, .int v85), (2, .int 2), (0, .ref 115)]) kc_35_85 rfl rfl ev85 rfl (xm_lt ml_35 rfl) ?_
            refine xi_goto (pc' := 2) kc_35_88 rfl ?_
            refine xw_lv (b := [(0, .ref 115), (1, .int v85)]) (lvS_cons (lvS_cons (lvS_nil (show ([1, 2, 0] : List Nat).Nodup by decide)) rfl) rfl) ?_
            exact i0 v85 hh66 (by omega) (fun v e => by have e2 := xl_val (u := u2) A82 rfl e; subst e2; omega) K68 (by omega)
        · refine xi_cmt (pc' := 85) kc_35_20 rfl (xc_ne_t (X := v17.toInt) (Y := u2.toInt) rfl rfl (by omega)) ?_
          refine xcps2 (α := Int32) (x1 + 1) (fun v86 ev86 => ?_)
          have zv86 : v86.toInt = (x1.toInt + 1) := by rw [← ev86]; exact (xz_add (X := x1.toInt) (Y := 1) rfl (by decide) (by omega) (by omega)).trans (by omega)
          refine xi_iinc (pc' := 88) (x := x1) (v := v86) (lv' := [(1, .int v86), (0, .ref 115)]) kc_35_85 rfl rfl ev86 rfl (xm_lt ml_35 rfl) ?_
          refine xi_goto (pc' := 2) kc_35_88 rfl ?_
          refine xw_lv (b := [(0, .ref 115), (1, .int v86)]) (lvS_cons (lvS_cons (lvS_nil (show ([1, 0] : List Nat).Nodup by decide)) rfl) rfl) ?_
          exact i0 v86 h (by omega) (fun v e => by have e2 := xl_val (u := u2) A14 rfl e; subst e2; omega) K (by omega)
    · intro x1 h b1 gh0 K hm
      refine xp_115 K.1 (fun u1 u2 u3 u4 u5 u6 u7 u8 u9 u10 u11 u12 u13 bu1 bu2 bu3 bu4 bu5 bu6 bu7 bu8 bu9 bu10 bu11 bu12 bu13 A14 => ?_)
      have gh0' := gh0 _ (xl_of A14 rfl)
      refine xi_iload_n (pc' := 94) (x := x1) kc_35_93 rfl rfl ?_
      refine xi_bipush (pc' := 96) (v := 6) kc_35_94 rfl rfl ?_
      by_cases c15 : 6 ≤ x1.toInt
      · refine xi_cmt (pc' := 117) kc_35_96 rfl (xc_ge_t (X := x1.toInt) (Y := 6) rfl (by decide) (by omega)) ?_
        refine xi_iconst (pc' := 118) (v := 0) kc_35_117 rfl rfl ?_
        refine xi_istore_n (pc' := 119) (lv' := [(1, .int 0), (0, .ref 115)]) kc_35_118 rfl rfl (xm_lt ml_35 rfl) ?_
        have zc0 : (0 : Int32).toInt = 0 := by decide
        refine xw_lv (b := [(0, .ref 115), (1, .int 0)]) (lvS_cons (lvS_cons (lvS_nil (show ([1, 0] : List Nat).Nodup by decide)) rfl) rfl) ?_
        exact i2 0 h (by omega) (fun v e => by have e2 := xl_val (u := u2) A14 rfl e; subst e2; omega) K (by omega)
      · refine xi_cmf (pc' := 99) kc_35_96 rfl (xc_ge_f (X := x1.toInt) (Y := 6) rfl (by decide) (by omega)) ?_
        refine xi_aload_n (pc' := 100) (x := 115) kc_35_99 rfl rfl ?_
        refine xi_getfield (pc' := 103) (v := .ref 141) kc_35_100 rfl rfl rfl A14 rfl ?_
        refine xi_iload_n (pc' := 104) (x := x1) kc_35_103 rfl rfl ?_
        refine xi_aload_n (pc' := 105) (x := 115) kc_35_104 rfl rfl ?_
        refine xi_getfield (pc' := 108) (v := .ref 121) kc_35_105 rfl rfl rfl A14 rfl ?_
        refine xi_iload_n (pc' := 109) (x := x1) kc_35_108 rfl rfl ?_
        refine xcps4 (xk_arr K.1 xD_121) (fun y16 A16 hy16 ry16 => ?_)
        refine xcps4 (xj_get hy16 ry16 (i := x1) (by omega) (by omega)) (fun v17 ev17 bv17 dv17 => ?_)
        refine xi_iaload (pc' := 110) (v := v17) kc_35_109 rfl A16 (by decide) rfl (xi_in (by omega) (by rw [hy16]; omega)) ev17 ?_
        refine xcps4 (xk_arr K.1 xD_141) (fun y18 A18 hy18 ry18 => ?_)
        refine xcps4 (xj_set (v := v17) hy18 ry18 x1 (by first | omega | decide) (by first | omega | decide)) (fun y19 s19 hy19 ry19 => ?_)
        refine xi_iastore (pc' := 111) (x' := y19) kc_35_110 rfl A18 rfl (xi_in (by omega) (by rw [hy18]; omega)) s19 (fun hh19 eh19 => ?_)
        have K20 := xk_pa K (xk_wa rfl) xD_141 hy19 ry19 eh19
        refine xcps2 (α := Int32) (x1 + 1) (fun v21 ev21 => ?_)
        have zv21 : v21.toInt = (x1.toInt + 1) := by rw [← ev21]; exact (xz_add (X := x1.toInt) (Y := 1) rfl (by decide) (by omega) (by omega)).trans (by omega)
        refine xi_iinc (pc' := 114) (x := x1) (v := v21) (lv' := [(1, .int v21), (0, .ref 115)]) kc_35_111 rfl rfl ev21 rfl (xm_lt ml_35 rfl) ?_
        refine xi_goto (pc' := 93) kc_35_114 rfl ?_
        have A22 := ((eh19.2.1 115 (by decide)).trans A14)
        refine xw_lv (b := [(0, .ref 115), (1, .int v21)]) (lvS_cons (lvS_cons (lvS_nil (show ([1, 0] : List Nat).Nodup by decide)) rfl) rfl) ?_
        exact i1 v21 hh19 (by omega) (fun v e => by have e2 := xl_val (u := u2) A22 rfl e; subst e2; omega) K20 (by omega)
    · intro x1 h b1 gh0 K hm
      refine xp_115 K.1 (fun u1 u2 u3 u4 u5 u6 u7 u8 u9 u10 u11 u12 u13 bu1 bu2 bu3 bu4 bu5 bu6 bu7 bu8 bu9 bu10 bu11 bu12 bu13 A14 => ?_)
      have gh0' := gh0 _ (xl_of A14 rfl)
      refine xi_iload_n (pc' := 120) (x := x1) kc_35_119 rfl rfl ?_
      refine xi_bipush (pc' := 122) (v := 12) kc_35_120 rfl rfl ?_
      by_cases c15 : 12 ≤ x1.toInt
      · refine xi_cmt (pc' := 143) kc_35_122 rfl (xc_ge_t (X := x1.toInt) (Y := 12) rfl (by decide) (by omega)) ?_
        refine xi_aload_n (pc' := 144) (x := 115) kc_35_143 rfl rfl ?_
        refine xi_aload_n (pc' := 145) (x := 115) kc_35_144 rfl rfl ?_
        refine xi_aload_n (pc' := 146) (x := 115) kc_35_145 rfl rfl ?_
        refine xi_getfield (pc' := 149) (v := .int u2) kc_35_146 rfl rfl rfl A14 rfl ?_
        refine xi_virtual (mj := 19) (as := [.int u2]) (st1 := [.ref 115]) (lv0 := [(0, .ref 115), (1, .int u2)]) kc_35_149 rfl rfl rfl rfl rfl A14 (Nat.le_of_ble_eq_true rfl) (hJ _ _ _ _ (by decide)) (xm_le ml_19 rfl) rfl ?_
        refine mt_19_0 hJ hov1 hov2 (d := d + 3) (x1 := u2) K.1 (by first | omega | decide) (fun r16 hh17 K18 => ?_)
        have br16 := xc_rng r16
        have K19 := xk_tr K K18 rfl
        refine xp_115 K19.1 (fun u20 u21 u22 u23 u24 u25 u26 u27 u28 u29 u30 u31 u32 bu20 bu21 bu22 bu23 bu24 bu25 bu26 bu27 bu28 bu29 bu30 bu31 bu32 A33 => ?_)
        have e34 : u2 = u21 := xk_eqi (q := 1) K18 rfl A14 A33 rfl rfl
        subst e34
        have e35 : u4 = u23 := xk_eqi (q := 18) K18 rfl A14 A33 rfl rfl
        subst e35
        show xw J ov (d + 5) 35 (152, [(0, .ref 115), (1, .int x1)], [.int r16, .ref 115], hh17) _
        refine xi_putfield (pc' := 155) (fs' := [.int u20, .int u2, .ref 116, .ref 117, .ref 118, .ref 119, .ref 120, .ref 121, .ref 122, .ref 123, .ref 124, .ref 125, .ref 126, .ref 127, .ref 128, .ref 129, .int u22, .ref 130, .int u4, .ref 131, .ref 132, .ref 133, .ref 134, .int u24, .ref 135, .ref 136, .ref 137, .ref 138, .ref 139, .ref 140, .ref 141, .ref 142, .int r16, .int u26, .int u27, .ref 143, .ref 144, .ref 145, .ref 146, .ref 147, .ref 148, .int u28, .ref 149, .ref 150, .ref 151, .int u29, .ref 152, .ref 153, .ref 154, .ref 155, .ref 156, .ref 157, .ref 158, .ref 159, .int u30, .ref 160, .int u31, .ref 161, .ref 162, .ref 163, .ref 164, .int u32, .ref 165, .ref 166]) kc_35_152 rfl rfl rfl A33 rfl rfl rfl (Nat.le_of_ble_eq_true rfl) rfl (fun hh37 eh36 => ?_)
        have K38 := xk_pf (k := 32) (v := r16) K19 (xk_wf rfl) xD_115 A33 rfl (by first | omega | decide) (by first | omega | decide) eh36 rfl
        refine xi_aload_n (pc' := 156) (x := 115) kc_35_155 rfl rfl ?_
        refine xi_aload_n (pc' := 157) (x := 115) kc_35_156 rfl rfl ?_
        refine xi_aload_n (pc' := 158) (x := 115) kc_35_157 rfl rfl ?_
        refine xi_getfield (pc' := 161) (v := .int u2) kc_35_158 rfl rfl rfl eh36.1 rfl ?_
        refine xi_virtual (mj := 20) (as := [.int u2]) (st1 := [.ref 115]) (lv0 := [(0, .ref 115), (1, .int u2)]) kc_35_161 rfl rfl rfl rfl rfl eh36.1 (Nat.le_of_ble_eq_true rfl) (hJ _ _ _ _ (by decide)) (xm_le ml_20 rfl) rfl ?_
        refine mt_20_0 hJ hov1 hov2 (d := d + 3) (x1 := u2) K38.1 (by first | omega | decide) (fun r39 hh40 K41 => ?_)
        have br39 := xc_rng r39
        have K42 := xk_tr K38 K41 rfl
        refine xp_115 K42.1 (fun u43 u44 u45 u46 u47 u48 u49 u50 u51 u52 u53 u54 u55 bu43 bu44 bu45 bu46 bu47 bu48 bu49 bu50 bu51 bu52 bu53 bu54 bu55 A56 => ?_)
        have e57 : u2 = u44 := xk_eqi (q := 1) K41 rfl eh36.1 A56 rfl rfl
        subst e57
        have e58 : u4 = u46 := xk_eqi (q := 18) K41 rfl eh36.1 A56 rfl rfl
        subst e58
        show xw J ov (d + 5) 35 (164, [(0, .ref 115), (1, .int x1)], [.int r39, .ref 115], hh40) _
        refine xi_putfield (pc' := 167) (fs' := [.int u43, .int u2, .ref 116, .ref 117, .ref 118, .ref 119, .ref 120, .ref 121, .ref 122, .ref 123, .ref 124, .ref 125, .ref 126, .ref 127, .ref 128, .ref 129, .int u45, .ref 130, .int u4, .ref 131, .ref 132, .ref 133, .ref 134, .int u47, .ref 135, .ref 136, .ref 137, .ref 138, .ref 139, .ref 140, .ref 141, .ref 142, .int u48, .int r39, .int u50, .ref 143, .ref 144, .ref 145, .ref 146, .ref 147, .ref 148, .int u51, .ref 149, .ref 150, .ref 151, .int u52, .ref 152, .ref 153, .ref 154, .ref 155, .ref 156, .ref 157, .ref 158, .ref 159, .int u53, .ref 160, .int u54, .ref 161, .ref 162, .ref 163, .ref 164, .int u55, .ref 165, .ref 166]) kc_35_164 rfl rfl rfl A56 rfl rfl rfl (Nat.le_of_ble_eq_true rfl) rfl (fun hh60 eh59 => ?_)
        have K61 := xk_pf (k := 33) (v := r39) K42 (xk_wf rfl) xD_115 A56 rfl (by first | omega | decide) (by first | omega | decide) eh59 rfl
        refine xi_aload_n (pc' := 168) (x := 115) kc_35_167 rfl rfl ?_
        refine xi_iconst (pc' := 169) (v := 0) kc_35_168 rfl rfl ?_
        refine xi_iconst (pc' := 170) (v := 1) kc_35_169 rfl rfl ?_
        refine xi_aload_n (pc' := 171) (x := 115) kc_35_170 rfl rfl ?_
        refine xi_getfield (pc' := 174) (v := .int u2) kc_35_171 rfl rfl rfl eh59.1 rfl ?_
        refine xi_virtual (mj := 36) (as := [.int 0, .int 1, .int u2]) (st1 := []) (lv0 := [(0, .ref 115), (1, .int 0), (2, .int 1), (3, .int u2)]) kc_35_174 rfl rfl rfl rfl rfl eh59.1 (Nat.le_of_ble_eq_true rfl) (hJ _ _ _ _ (by decide)) (xm_le ml_36 rfl) rfl ?_
        have zc0 : (0 : Int32).toInt = 0 := by decide
        have zc1 : (1 : Int32).toInt = 1 := by decide
        refine mt_36_0 hJ hov1 hov2 (d := d) (x1 := 0) (x2 := 1) (x3 := u2) K61.1 (by first | omega | decide) (by first | omega | decide) (by first | omega | decide) (fun hh63 K64 => ?_)
        have K65 := xk_tr K61 K64 rfl
        refine xp_115 K65.1 (fun u66 u67 u68 u69 u70 u71 u72 u73 u74 u75 u76 u77 u78 bu66 bu67 bu68 bu69 bu70 bu71 bu72 bu73 bu74 bu75 bu76 bu77 bu78 A79 => ?_)
        have e80 : u2 = u67 := xk_eqi (q := 1) K64 rfl eh59.1 A79 rfl rfl
        subst e80
        have e81 : u4 = u69 := xk_eqi (q := 18) K64 rfl eh59.1 A79 rfl rfl
        subst e81
        show xw J ov (d + 5) 35 (177, [(0, .ref 115), (1, .int x1)], [], hh63) _
        refine xi_iconst (pc' := 178) (v := 0) kc_35_177 rfl rfl ?_
        refine xi_istore_n (pc' := 179) (lv' := [(1, .int 0), (0, .ref 115)]) kc_35_178 rfl rfl (xm_lt ml_35 rfl) ?_
        have zc0 : (0 : Int32).toInt = 0 := by decide
        refine xw_lv (b := [(0, .ref 115), (1, .int 0)]) (lvS_cons (lvS_cons (lvS_nil (show ([1, 0] : List Nat).Nodup by decide)) rfl) rfl) ?_
        exact i3 0 hh63 (by omega) (fun v e => by have e2 := xl_val (u := u2) A79 rfl e; subst e2; omega) K65 (by omega)
      · refine xi_cmf (pc' := 125) kc_35_122 rfl (xc_ge_f (X := x1.toInt) (Y := 12) rfl (by decide) (by omega)) ?_
        refine xi_aload_n (pc' := 126) (x := 115) kc_35_125 rfl rfl ?_
        refine xi_getfield (pc' := 129) (v := .ref 142) kc_35_126 rfl rfl rfl A14 rfl ?_
        refine xi_iload_n (pc' := 130) (x := x1) kc_35_129 rfl rfl ?_
        refine xi_aload_n (pc' := 131) (x := 115) kc_35_130 rfl rfl ?_
        refine xi_getfield (pc' := 134) (v := .ref 128) kc_35_131 rfl rfl rfl A14 rfl ?_
        refine xi_iload_n (pc' := 135) (x := x1) kc_35_134 rfl rfl ?_
        refine xcps4 (xk_arr K.1 xD_128) (fun y82 A82 hy82 ry82 => ?_)
        refine xcps4 (xj_get hy82 ry82 (i := x1) (by omega) (by omega)) (fun v83 ev83 bv83 dv83 => ?_)
        refine xi_iaload (pc' := 136) (v := v83) kc_35_135 rfl A82 (by decide) rfl (xi_in (by omega) (by rw [hy82]; omega)) ev83 ?_
        refine xcps4 (xk_arr K.1 xD_142) (fun y84 A84 hy84 ry84 => ?_)
        refine xcps4 (xj_set (v := v83) hy84 ry84 x1 (by first | omega | decide) (by first | omega | decide)) (fun y85 s85 hy85 ry85 => ?_)
        refine xi_iastore (pc' := 137) (x' := y85) kc_35_136 rfl A84 rfl (xi_in (by omega) (by rw [hy84]; omega)) s85 (fun hh85 eh85 => ?_)
        have K86 := xk_pa K (xk_wa rfl) xD_142 hy85 ry85 eh85
        refine xcps2 (α := Int32) (x1 + 1) (fun v87 ev87 => ?_)
        have zv87 : v87.toInt = (x1.toInt + 1) := by rw [← ev87]; exact (xz_add (X := x1.toInt) (Y := 1) rfl (by decide) (by omega) (by omega)).trans (by omega)
        refine xi_iinc (pc' := 140) (x := x1) (v := v87) (lv' := [(1, .int v87), (0, .ref 115)]) kc_35_137 rfl rfl ev87 rfl (xm_lt ml_35 rfl) ?_
        refine xi_goto (pc' := 119) kc_35_140 rfl ?_
        have A88 := ((eh85.2.1 115 (by decide)).trans A14)
        refine xw_lv (b := [(0, .ref 115), (1, .int v87)]) (lvS_cons (lvS_cons (lvS_nil (show ([1, 0] : List Nat).Nodup by decide)) rfl) rfl) ?_
        exact i2 v87 hh85 (by omega) (fun v e => by have e2 := xl_val (u := u2) A88 rfl e; subst e2; omega) K86 (by omega)
    · intro x1 h b1 gh0 K hm
      refine xp_115 K.1 (fun u1 u2 u3 u4 u5 u6 u7 u8 u9 u10 u11 u12 u13 bu1 bu2 bu3 bu4 bu5 bu6 bu7 bu8 bu9 bu10 bu11 bu12 bu13 A14 => ?_)
      have gh0' := gh0 _ (xl_of A14 rfl)
      refine xi_iload_n (pc' := 180) (x := x1) kc_35_179 rfl rfl ?_
      refine xi_bipush (pc' := 182) (v := 6) kc_35_180 rfl rfl ?_
      by_cases c15 : 6 ≤ x1.toInt
      · refine xi_cmt (pc' := 203) kc_35_182 rfl (xc_ge_t (X := x1.toInt) (Y := 6) rfl (by decide) (by omega)) ?_
        refine xi_iconst (pc' := 204) (v := 0) kc_35_203 rfl rfl ?_
        refine xi_istore_n (pc' := 205) (lv' := [(1, .int 0), (0, .ref 115)]) kc_35_204 rfl rfl (xm_lt ml_35 rfl) ?_
        have zc0 : (0 : Int32).toInt = 0 := by decide
        refine xw_lv (b := [(0, .ref 115), (1, .int 0)]) (lvS_cons (lvS_cons (lvS_nil (show ([1, 0] : List Nat).Nodup by decide)) rfl) rfl) ?_
        exact i4 0 h (by omega) (fun v e => by have e2 := xl_val (u := u2) A14 rfl e; subst e2; omega) K (by omega)
      · refine xi_cmf (pc' := 185) kc_35_182 rfl (xc_ge_f (X := x1.toInt) (Y := 6) rfl (by decide) (by omega)) ?_
        refine xi_aload_n (pc' := 186) (x := 115) kc_35_185 rfl rfl ?_
        refine xi_getfield (pc' := 189) (v := .ref 121) kc_35_186 rfl rfl rfl A14 rfl ?_
        refine xi_iload_n (pc' := 190) (x := x1) kc_35_189 rfl rfl ?_
        refine xi_aload_n (pc' := 191) (x := 115) kc_35_190 rfl rfl ?_
        refine xi_getfield (pc' := 194) (v := .ref 141) kc_35_191 rfl rfl rfl A14 rfl ?_
        refine xi_iload_n (pc' := 195) (x := x1) kc_35_194 rfl rfl ?_
        refine xcps4 (xk_arr K.1 xD_141) (fun y16 A16 hy16 ry16 => ?_)
        refine xcps4 (xj_get hy16 ry16 (i := x1) (by omega) (by omega)) (fun v17 ev17 bv17 dv17 => ?_)
        refine xi_iaload (pc' := 196) (v := v17) kc_35_195 rfl A16 (by decide) rfl (xi_in (by omega) (by rw [hy16]; omega)) ev17 ?_
        refine xcps4 (xk_arr K.1 xD_121) (fun y18 A18 hy18 ry18 => ?_)
        refine xcps4 (xj_set (v := v17) hy18 ry18 x1 (by first | omega | decide) (by first | omega | decide)) (fun y19 s19 hy19 ry19 => ?_)
        refine xi_iastore (pc' := 197) (x' := y19) kc_35_196 rfl A18 rfl (xi_in (by omega) (by rw [hy18]; omega)) s19 (fun hh19 eh19 => ?_)
        have K20 := xk_pa K (xk_wa rfl) xD_121 hy19 ry19 eh19
        refine xcps2 (α := Int32) (x1 + 1) (fun v21 ev21 => ?_)
        have zv21 : v21.toInt = (x1.toInt + 1) := by rw [← ev21]; exact (xz_add (X := x1.toInt) (Y := 1) rfl (by decide) (by omega) (by omega)).trans (by omega)
        refine xi_iinc (pc' := 200) (x := x1) (v := v21) (lv' := [(1, .int v21), (0, .ref 115)]) kc_35_197 rfl rfl ev21 rfl (xm_lt ml_35 rfl) ?_
        refine xi_goto (pc' := 179) kc_35_200 rfl ?_
        have A22 := ((eh19.2.1 115 (by decide)).trans A14)
        refine xw_lv (b := [(0, .ref 115), (1, .int v21)]) (lvS_cons (lvS_cons (lvS_nil (show ([1, 0] : List Nat).Nodup by decide)) rfl) rfl) ?_
        exact i3 v21 hh19 (by omega) (fun v e => by have e2 := xl_val (u := u2) A22 rfl e; subst e2; omega) K20 (by omega)
    · intro x1 h b1 gh0 K hm
      refine xp_115 K.1 (fun u1 u2 u3 u4 u5 u6 u7 u8 u9 u10 u11 u12 u13 bu1 bu2 bu3 bu4 bu5 bu6 bu7 bu8 bu9 bu10 bu11 bu12 bu13 A14 => ?_)
      have gh0' := gh0 _ (xl_of A14 rfl)
      refine xi_iload_n (pc' := 206) (x := x1) kc_35_205 rfl rfl ?_
      refine xi_bipush (pc' := 208) (v := 12) kc_35_206 rfl rfl ?_
      by_cases c15 : 12 ≤ x1.toInt
      · refine xi_cmt (pc' := 274) kc_35_208 rfl (xc_ge_t (X := x1.toInt) (Y := 12) rfl (by decide) (by omega)) ?_
        refine xi_aload_n (pc' := 275) (x := 115) kc_35_274 rfl rfl ?_
        refine xi_dup (pc' := 276) kc_35_275 rfl rfl ?_
        refine xi_getfield (pc' := 279) (v := .int u2) kc_35_276 rfl rfl rfl A14 rfl ?_
        refine xi_iconst (pc' := 280) (v := 1) kc_35_279 rfl rfl ?_
        refine xcps2 (α := Int32) (u2 + 1) (fun v16 ev16 => ?_)
        have zv16 : v16.toInt = (u2.toInt + 1) := by rw [← ev16]; exact (xz_add (X := u2.toInt) (Y := 1) rfl (by decide) (by omega) (by omega)).trans (by omega)
        refine xi_iadd (pc' := 281) (v := v16) kc_35_280 rfl ev16 ?_
        refine xi_putfield (pc' := 284) (fs' := [.int u1, .int v16, .ref 116, .ref 117, .ref 118, .ref 119, .ref 120, .ref 121, .ref 122, .ref 123, .ref 124, .ref 125, .ref 126, .ref 127, .ref 128, .ref 129, .int u3, .ref 130, .int u4, .ref 131, .ref 132, .ref 133, .ref 134, .int u5, .ref 135, .ref 136, .ref 137, .ref 138, .ref 139, .ref 140, .ref 141, .ref 142, .int u6, .int u7, .int u8, .ref 143, .ref 144, .ref 145, .ref 146, .ref 147, .ref 148, .int u9, .ref 149, .ref 150, .ref 151, .int u10, .ref 152, .ref 153, .ref 154, .ref 155, .ref 156, .ref 157, .ref 158, .ref 159, .int u11, .ref 160, .int u12, .ref 161, .ref 162, .ref 163, .ref 164, .int u13, .ref 165, .ref 166]) kc_35_281 rfl rfl rfl A14 rfl rfl rfl (Nat.le_of_ble_eq_true rfl) rfl (fun hh18 eh17 => ?_)
        have K19 := xk_pf (k := 1) (v := v16) K (xk_wf rfl) xD_115 A14 rfl (by first | omega | decide) (by first | omega | decide) eh17 rfl
        refine xi_iconst (pc' := 285) (v := 0) kc_35_284 rfl rfl ?_
        refine xi_istore_n (pc' := 286) (lv' := [(1, .int 0), (0, .ref 115)]) kc_35_285 rfl rfl (xm_lt ml_35 rfl) ?_
        have zc0 : (0 : Int32).toInt = 0 := by decide
        refine xw_lv (b := [(0, .ref 115), (1, .int 0)]) (lvS_cons (lvS_cons (lvS_nil (show ([1, 0] : List Nat).Nodup by decide)) rfl) rfl) ?_
        exact i5 0 hh18 (by omega) (fun v e => by have e2 := xl_val (u := v16) eh17.1 rfl e; subst e2; omega) K19 (by omega)
      · refine xi_cmf (pc' := 211) kc_35_208 rfl (xc_ge_f (X := x1.toInt) (Y := 12) rfl (by decide) (by omega)) ?_
        refine xi_aload_n (pc' := 212) (x := 115) kc_35_211 rfl rfl ?_
        refine xi_getfield (pc' := 215) (v := .ref 128) kc_35_212 rfl rfl rfl A14 rfl ?_
        refine xi_iload_n (pc' := 216) (x := x1) kc_35_215 rfl rfl ?_
        refine xi_aload_n (pc' := 217) (x := 115) kc_35_216 rfl rfl ?_
        refine xi_getfield (pc' := 220) (v := .ref 142) kc_35_217 rfl rfl rfl A14 rfl ?_
        refine xi_iload_n (pc' := 221) (x := x1) kc_35_220 rfl rfl ?_
        refine xcps4 (xk_arr K.1 xD_142) (fun y20 A20 hy20 ry20 => ?_)
        refine xcps4 (xj_get hy20 ry20 (i := x1) (by omega) (by omega)) (fun v21 ev21 bv21 dv21 => ?_)
        refine xi_iaload (pc' := 222) (v := v21) kc_35_221 rfl A20 (by decide) rfl (xi_in (by omega) (by rw [hy20]; omega)) ev21 ?_
        refine xcps4 (xk_arr K.1 xD_128) (fun y22 A22 hy22 ry22 => ?_)
        refine xcps4 (xj_set (v := v21) hy22 ry22 x1 (by first | omega | decide) (by first | omega | decide)) (fun y23 s23 hy23 ry23 => ?_)
        refine xi_iastore (pc' := 223) (x' := y23) kc_35_222 rfl A22 rfl (xi_in (by omega) (by rw [hy22]; omega)) s23 (fun hh23 eh23 => ?_)
        have K24 := xk_pa K (xk_wa rfl) xD_128 hy23 ry23 eh23
        refine xi_aload_n (pc' := 224) (x := 115) kc_35_223 rfl rfl ?_
        have A25 := ((eh23.2.1 115 (by decide)).trans A14)
        refine xi_getfield (pc' := 227) (v := .ref 129) kc_35_224 rfl rfl rfl A25 rfl ?_
        refine xi_iload_n (pc' := 228) (x := x1) kc_35_227 rfl rfl ?_
        refine xi_dup2 (pc' := 229) kc_35_228 rfl ⟨rfl, rfl⟩ ?_
        refine xcps4 (xk_arr K24.1 xD_129) (fun y26 A26 hy26 ry26 => ?_)
        refine xcps4 (xj_get hy26 ry26 (i := x1) (by omega) (by omega)) (fun v27 ev27 bv27 dv27 => ?_)
        refine xi_iaload (pc' := 230) (v := v27) kc_35_229 rfl A26 (by decide) rfl (xi_in (by omega) (by rw [hy26]; omega)) ev27 ?_
        refine xi_aload_n (pc' := 231) (x := 115) kc_35_230 rfl rfl ?_
        refine xi_getfield (pc' := 234) (v := .ref 128) kc_35_231 rfl rfl rfl A25 rfl ?_
        refine xi_iload_n (pc' := 235) (x := x1) kc_35_234 rfl rfl ?_
        refine xcps4 (xj_get hy23 ry23 (i := x1) (by omega) (by omega)) (fun v28 ev28 bv28 dv28 => ?_)
        refine xi_iaload (pc' := 236) (v := v28) kc_35_235 rfl eh23.1 (by decide) rfl (xi_in (by omega) (by rw [hy23]; omega)) ev28 ?_
        refine xi_bipush (pc' := 238) (v := 50) kc_35_236 rfl rfl ?_
        by_cases c29 : v28.toInt < 50
        · refine xi_cmt (pc' := 245) kc_35_238 rfl (xc_lt_t (X := v28.toInt) (Y := 50) rfl (by decide) (by omega)) ?_
          refine xi_iconst (pc' := 246) (v := 0) kc_35_245 rfl rfl ?_
          refine xcps2 (α := Int32) (v27 + 0) (fun v30 ev30 => ?_)
          have zv30 : v30.toInt = v27.toInt := by rw [← ev30]; exact (xz_add (X := v27.toInt) (Y := 0) rfl (by decide) (by omega) (by omega)).trans (by omega)
          refine xi_iadd (pc' := 247) (v := v30) kc_35_246 rfl ev30 ?_
          refine xcps4 (xj_set (v := v30) hy26 ry26 x1 (by first | omega | decide) (by first | omega | decide)) (fun y31 s31 hy31 ry31 => ?_)
          refine xi_iastore (pc' := 248) (x' := y31) kc_35_247 rfl A26 rfl (xi_in (by omega) (by rw [hy26]; omega)) s31 (fun hh31 eh31 => ?_)
          have K32 := xk_pa K24 (xk_wa rfl) xD_129 hy31 ry31 eh31
          refine xi_aload_n (pc' := 249) (x := 115) kc_35_248 rfl rfl ?_
          have A33 := ((eh31.2.1 115 (by decide)).trans A25)
          refine xi_getfield (pc' := 252) (v := .ref 130) kc_35_249 rfl rfl rfl A33 rfl ?_
          refine xi_bipush (pc' := 254) (v := 12) kc_35_252 rfl rfl ?_
          refine xi_aload_n (pc' := 255) (x := 115) kc_35_254 rfl rfl ?_
          refine xi_getfield (pc' := 258) (v := .int u2) kc_35_255 rfl rfl rfl A33 rfl ?_
          refine xcps2 (α := Int32) (12 * u2) (fun v34 ev34 => ?_)
          have zv34 : v34.toInt = (12) * u2.toInt := by rw [← ev34]; exact (xz_mul (X := 12) (Y := u2.toInt) (by decide) rfl (by omega) (by omega)).trans (by omega)
          refine xi_imul (pc' := 259) (v := v34) kc_35_258 rfl ev34 ?_
          refine xi_iload_n (pc' := 260) (x := x1) kc_35_259 rfl rfl ?_
          refine xcps2 (α := Int32) (v34 + x1) (fun v35 ev35 => ?_)
          have zv35 : v35.toInt = ((12) * u2.toInt + x1.toInt) := by rw [← ev35]; exact (xz_add (X := (12) * u2.toInt) (Y := x1.toInt) zv34 rfl (by omega) (by omega)).trans (by omega)
          refine xi_iadd (pc' := 261) (v := v35) kc_35_260 rfl ev35 ?_
          refine xi_aload_n (pc' := 262) (x := 115) kc_35_261 rfl rfl ?_
          refine xi_getfield (pc' := 265) (v := .ref 128) kc_35_262 rfl rfl rfl A33 rfl ?_
          refine xi_iload_n (pc' := 266) (x := x1) kc_35_265 rfl rfl ?_
          have A36 := ((eh31.2.1 128 (by decide)).trans eh23.1)
          refine xi_iaload (pc' := 267) (v := v28) kc_35_266 rfl A36 (by decide) rfl (xi_in (by omega) (by rw [hy23]; omega)) ev28 ?_
          refine xcps4 (xk_arr K32.1 xD_130) (fun y37 A37 hy37 ry37 => ?_)
          refine xcps4 (xj_set (v := v28) hy37 ry37 v35 (by first | omega | decide) (by first | omega | decide)) (fun y38 s38 hy38 ry38 => ?_)
          refine xi_iastore (pc' := 268) (x' := y38) kc_35_267 rfl A37 rfl (xi_in (by rw [zv35]; omega) (by rw [hy37]; rw [zv35]; omega)) s38 (fun hh38 eh38 => ?_)
          have K39 := xk_pa K32 (xk_wa rfl) xD_130 hy38 ry38 eh38
          refine xcps2 (α := Int32) (x1 + 1) (fun v40 ev40 => ?_)
          have zv40 : v40.toInt = (x1.toInt + 1) := by rw [← ev40]; exact (xz_add (X := x1.toInt) (Y := 1) rfl (by decide) (by omega) (by omega)).trans (by omega)
          refine xi_iinc (pc' := 271) (x := x1) (v := v40) (lv' := [(1, .int v40), (0, .ref 115)]) kc_35_268 rfl rfl ev40 rfl (xm_lt ml_35 rfl) ?_
          refine xi_goto (pc' := 205) kc_35_271 rfl ?_
          have A41 := ((eh38.2.1 115 (by decide)).trans A33)
          refine xw_lv (b := [(0, .ref 115), (1, .int v40)]) (lvS_cons (lvS_cons (lvS_nil (show ([1, 0] : List Nat).Nodup by decide)) rfl) rfl) ?_
          exact i4 v40 hh38 (by omega) (fun v e => by have e2 := xl_val (u := u2) A41 rfl e; subst e2; omega) K39 (by omega)
        · refine xi_cmf (pc' := 241) kc_35_238 rfl (xc_lt_f (X := v28.toInt) (Y := 50) rfl (by decide) (by omega)) ?_
          refine xi_iconst (pc' := 242) (v := 1) kc_35_241 rfl rfl ?_
          refine xi_goto (pc' := 246) kc_35_242 rfl ?_
          refine xcps2 (α := Int32) ((v27 : Int32) + 1) (fun v42 ev42 => ?_)
          have rv42 := xc_rng v42
          refine xi_iadd (pc' := 247) (v := v42) kc_35_246 rfl ev42 ?_
          refine xcps4 (xj_set (v := v42) hy26 ry26 x1 (by first | omega | decide) (by first | omega | decide)) (fun y43 s43 hy43 ry43 => ?_)
          refine xi_iastore (pc' := 248) (x' := y43) kc_35_247 rfl A26 rfl (xi_in (by omega) (by rw [hy26]; omega)) s43 (fun hh43 eh43 => ?_)
          have K44 := xk_pa K24 (xk_wa rfl) xD_129 hy43 ry43 eh43
          refine xi_aload_n (pc' := 249) (x := 115) kc_35_248 rfl rfl ?_
          have A45 := ((eh43.2.1 115 (by decide)).trans A25)
          refine xi_getfield (pc' := 252) (v := .ref 130) kc_35_249 rfl rfl rfl A45 rfl ?_
          refine xi_bipush (pc' := 254) (v := 12) kc_35_252 rfl rfl ?_
          refine xi_aload_n (pc' := 255) (x := 115) kc_35_254 rfl rfl ?_
          refine xi_getfield (pc' := 258) (v := .int u2) kc_35_255 rfl rfl rfl A45 rfl ?_
          refine xcps2 (α := Int32) (12 * u2) (fun v46 ev46 => ?_)
          have zv46 : v46.toInt = (12) * u2.toInt := by rw [← ev46]; exact (xz_mul (X := 12) (Y := u2.toInt) (by decide) rfl (by omega) (by omega)).trans (by omega)
          refine xi_imul (pc' := 259) (v := v46) kc_35_258 rfl ev46 ?_
          refine xi_iload_n (pc' := 260) (x := x1) kc_35_259 rfl rfl ?_
          refine xcps2 (α := Int32) (v46 + x1) (fun v47 ev47 => ?_)
          have zv47 : v47.toInt = ((12) * u2.toInt + x1.toInt) := by rw [← ev47]; exact (xz_add (X := (12) * u2.toInt) (Y := x1.toInt) zv46 rfl (by omega) (by omega)).trans (by omega)
          refine xi_iadd (pc' := 261) (v := v47) kc_35_260 rfl ev47 ?_
          refine xi_aload_n (pc' := 262) (x := 115) kc_35_261 rfl rfl ?_
          refine xi_getfield (pc' := 265) (v := .ref 128) kc_35_262 rfl rfl rfl A45 rfl ?_
          refine xi_iload_n (pc' := 266) (x := x1) kc_35_265 rfl rfl ?_
          have A48 := ((eh43.2.1 128 (by decide)).trans eh23.1)
          refine xi_iaload (pc' := 267) (v := v28) kc_35_266 rfl A48 (by decide) rfl (xi_in (by omega) (by rw [hy23]; omega)) ev28 ?_
          refine xcps4 (xk_arr K44.1 xD_130) (fun y49 A49 hy49 ry49 => ?_)
          refine xcps4 (xj_set (v := v28) hy49 ry49 v47 (by first | omega | decide) (by first | omega | decide)) (fun y50 s50 hy50 ry50 => ?_)
          refine xi_iastore (pc' := 268) (x' := y50) kc_35_267 rfl A49 rfl (xi_in (by rw [zv47]; omega) (by rw [hy49]; rw [zv47]; omega)) s50 (fun hh50 eh50 => ?_)
          have K51 := xk_pa K44 (xk_wa rfl) xD_130 hy50 ry50 eh50
          refine xcps2 (α := Int32) (x1 + 1) (fun v52 ev52 => ?_)
          have zv52 : v52.toInt = (x1.toInt + 1) := by rw [← ev52]; exact (xz_add (X := x1.toInt) (Y := 1) rfl (by decide) (by omega) (by omega)).trans (by omega)
          refine xi_iinc (pc' := 271) (x := x1) (v := v52) (lv' := [(1, .int v52), (0, .ref 115)]) kc_35_268 rfl rfl ev52 rfl (xm_lt ml_35 rfl) ?_
          refine xi_goto (pc' := 205) kc_35_271 rfl ?_
          have A53 := ((eh50.2.1 115 (by decide)).trans A45)
          refine xw_lv (b := [(0, .ref 115), (1, .int v52)]) (lvS_cons (lvS_cons (lvS_nil (show ([1, 0] : List Nat).Nodup by decide)) rfl) rfl) ?_
          exact i4 v52 hh50 (by omega) (fun v e => by have e2 := xl_val (u := u2) A53 rfl e; subst e2; omega) K51 (by omega)
    · intro x1 h b1 gh0 K hm
      refine xp_115 K.1 (fun u1 u2 u3 u4 u5 u6 u7 u8 u9 u10 u11 u12 u13 bu1 bu2 bu3 bu4 bu5 bu6 bu7 bu8 bu9 bu10 bu11 bu12 bu13 A14 => ?_)
      have gh0' := gh0 _ (xl_of A14 rfl)
      refine xi_iload_n (pc' := 287) (x := x1) kc_35_286 rfl rfl ?_
      refine xi_aload_n (pc' := 288) (x := 115) kc_35_287 rfl rfl ?_
      refine xi_getfield (pc' := 291) (v := .int u8) kc_35_288 rfl rfl rfl A14 rfl ?_
      by_cases c15 : u8.toInt ≤ x1.toInt
      · refine xi_cmt (pc' := 343) kc_35_291 rfl (xc_ge_t (X := x1.toInt) (Y := u8.toInt) rfl rfl (by omega)) ?_
        refine xi_aload_n (pc' := 344) (x := 115) kc_35_343 rfl rfl ?_
        refine xi_iconst (pc' := 345) (v := 0) kc_35_344 rfl rfl ?_
        refine xi_putfield (pc' := 348) (fs' := [.int u1, .int u2, .ref 116, .ref 117, .ref 118, .ref 119, .ref 120, .ref 121, .ref 122, .ref 123, .ref 124, .ref 125, .ref 126, .ref 127, .ref 128, .ref 129, .int u3, .ref 130, .int u4, .ref 131, .ref 132, .ref 133, .ref 134, .int u5, .ref 135, .ref 136, .ref 137, .ref 138, .ref 139, .ref 140, .ref 141, .ref 142, .int u6, .int u7, .int u8, .ref 143, .ref 144, .ref 145, .ref 146, .ref 147, .ref 148, .int 0, .ref 149, .ref 150, .ref 151, .int u10, .ref 152, .ref 153, .ref 154, .ref 155, .ref 156, .ref 157, .ref 158, .ref 159, .int u11, .ref 160, .int u12, .ref 161, .ref 162, .ref 163, .ref 164, .int u13, .ref 165, .ref 166]) kc_35_345 rfl rfl rfl A14 rfl rfl rfl (Nat.le_of_ble_eq_true rfl) rfl (fun hh17 eh16 => ?_)
        have K18 := xk_pf (k := 41) (v := 0) K (xk_wf rfl) xD_115 A14 rfl (by first | omega | decide) (by first | omega | decide) eh16 rfl
        refine xi_return kc_35_348 mr_35 ?_
        exact kk hh17 (fun v e => by have e2 := xl_val (u := u2) eh16.1 rfl e; subst e2; omega) K18
      · refine xi_cmf (pc' := 294) kc_35_291 rfl (xc_ge_f (X := x1.toInt) (Y := u8.toInt) rfl rfl (by omega)) ?_
        refine xi_aload_n (pc' := 295) (x := 115) kc_35_294 rfl rfl ?_
        refine xi_getfield (pc' := 298) (v := .ref 147) kc_35_295 rfl rfl rfl A14 rfl ?_
        refine xi_iload_n (pc' := 299) (x := x1) kc_35_298 rfl rfl ?_
        refine xcps4 (xk_arr K.1 xD_147) (fun y19 A19 hy19 ry19 => ?_)
        refine xcps4 (xj_get hy19 ry19 (i := x1) (by omega) (by omega)) (fun v20 ev20 bv20 dv20 => ?_)
        refine xi_iaload (pc' := 300) (v := v20) kc_35_299 rfl A19 (by decide) rfl (xi_in (by omega) (by rw [hy19]; omega)) ev20 ?_
        refine xi_aload_n (pc' := 301) (x := 115) kc_35_300 rfl rfl ?_
        refine xi_getfield (pc' := 304) (v := .int u2) kc_35_301 rfl rfl rfl A14 rfl ?_
        by_cases c21 : v20.toInt = u2.toInt
        · refine xi_cmf (pc' := 307) kc_35_304 rfl (xc_ne_f (X := v20.toInt) (Y := u2.toInt) rfl rfl (by omega)) ?_
          refine xi_aload_n (pc' := 308) (x := 115) kc_35_307 rfl rfl ?_
          refine xi_aload_n (pc' := 309) (x := 115) kc_35_308 rfl rfl ?_
          refine xi_getfield (pc' := 312) (v := .ref 143) kc_35_309 rfl rfl rfl A14 rfl ?_
          refine xi_iload_n (pc' := 313) (x := x1) kc_35_312 rfl rfl ?_
          refine xcps4 (xk_arr K.1 xD_143) (fun y22 A22 hy22 ry22 => ?_)
          refine xcps4 (xj_get hy22 ry22 (i := x1) (by omega) (by omega)) (fun v23 ev23 bv23 dv23 => ?_)
          refine xi_iaload (pc' := 314) (v := v23) kc_35_313 rfl A22 (by decide) rfl (xi_in (by omega) (by rw [hy22]; omega)) ev23 ?_
          refine xi_aload_n (pc' := 315) (x := 115) kc_35_314 rfl rfl ?_
          refine xi_getfield (pc' := 318) (v := .ref 144) kc_35_315 rfl rfl rfl A14 rfl ?_
          refine xi_iload_n (pc' := 319) (x := x1) kc_35_318 rfl rfl ?_
          refine xcps4 (xk_arr K.1 xD_144) (fun y24 A24 hy24 ry24 => ?_)
          refine xcps4 (xj_get hy24 ry24 (i := x1) (by omega) (by omega)) (fun v25 ev25 bv25 dv25 => ?_)
          refine xi_iaload (pc' := 320) (v := v25) kc_35_319 rfl A24 (by decide) rfl (xi_in (by omega) (by rw [hy24]; omega)) ev25 ?_
          by_cases c26 : v25.toInt = 0
          · refine xi_iff (pc' := 323) kc_35_320 rfl (xc_ne_f (X := v25.toInt) (Y := 0) rfl (by decide) (by omega)) ?_
            refine xi_iconst (pc' := 324) (v := 4) kc_35_323 rfl rfl ?_
            refine xi_goto (pc' := 328) kc_35_324 rfl ?_
            refine xi_aload_n (pc' := 329) (x := 115) kc_35_328 rfl rfl ?_
            refine xi_getfield (pc' := 332) (v := .ref 148) kc_35_329 rfl rfl rfl A14 rfl ?_
            refine xi_iload_n (pc' := 333) (x := x1) kc_35_332 rfl rfl ?_
            refine xcps4 (xk_arr K.1 xD_148) (fun y27 A27 hy27 ry27 => ?_)
            refine xcps4 (xj_get hy27 ry27 (i := x1) (by omega) (by omega)) (fun v28 ev28 bv28 dv28 => ?_)
            refine xi_iaload (pc' := 334) (v := v28) kc_35_333 rfl A27 (by decide) rfl (xi_in (by omega) (by rw [hy27]; omega)) ev28 ?_
            refine xi_virtual (mj := 14) (as := [.int v23, .int 4, .int v28]) (st1 := []) (lv0 := [(0, .ref 115), (1, .int v23), (2, .int 4), (3, .int v28)]) kc_35_334 rfl rfl rfl rfl rfl A14 (Nat.le_of_ble_eq_true rfl) (hJ _ _ _ _ (by decide)) (xm_le ml_14 rfl) rfl ?_
            have zc4 : (4 : Int32).toInt = 4 := by decide
            refine mt_14_0 hJ hov1 hov2 (d := d + 3) (x1 := v23) (x2 := 4) (x3 := v28) K.1 (by first | omega | decide) (by first | omega | decide) (fun hh30 K31 => ?_)
            have K32 := xk_tr K K31 rfl
            refine xp_115 K32.1 (fun u33 u34 u35 u36 u37 u38 u39 u40 u41 u42 u43 u44 u45 bu33 bu34 bu35 bu36 bu37 bu38 bu39 bu40 bu41 bu42 bu43 bu44 bu45 A46 => ?_)
            have e47 : u2 = u34 := xk_eqi (q := 1) K31 rfl A14 A46 rfl rfl
            subst e47
            have e48 : u4 = u36 := xk_eqi (q := 18) K31 rfl A14 A46 rfl rfl
            subst e48
            show xw J ov (d + 5) 35 (337, [(0, .ref 115), (1, .int x1)], [], hh30) _
            refine xcps2 (α := Int32) (x1 + 1) (fun v49 ev49 => ?_)
            have zv49 : v49.toInt = (x1.toInt + 1) := by rw [← ev49]; exact (xz_add (X := x1.toInt) (Y := 1) rfl (by decide) (by omega) (by omega)).trans (by omega)
            refine xi_iinc (pc' := 340) (x := x1) (v := v49) (lv' := [(1, .int v49), (0, .ref 115)]) kc_35_337 rfl rfl ev49 rfl (xm_lt ml_35 rfl) ?_
            refine xi_goto (pc' := 286) kc_35_340 rfl ?_
            refine xw_lv (b := [(0, .ref 115), (1, .int v49)]) (lvS_cons (lvS_cons (lvS_nil (show ([1, 0] : List Nat).Nodup by decide)) rfl) rfl) ?_
            exact i5 v49 hh30 (by omega) (fun v e => by have e2 := xl_val (u := u2) A46 rfl e; subst e2; omega) K32 (by omega)
          · refine xi_ift (pc' := 327) kc_35_320 rfl (xc_ne_t (X := v25.toInt) (Y := 0) rfl (by decide) (by omega)) ?_
            refine xi_iconst (pc' := 328) (v := 2) kc_35_327 rfl rfl ?_
            refine xi_aload_n (pc' := 329) (x := 115) kc_35_328 rfl rfl ?_
            refine xi_getfield (pc' := 332) (v := .ref 148) kc_35_329 rfl rfl rfl A14 rfl ?_
            refine xi_iload_n (pc' := 333) (x := x1) kc_35_332 rfl rfl ?_
            refine xcps4 (xk_arr K.1 xD_148) (fun y50 A50 hy50 ry50 => ?_)
            refine xcps4 (xj_get hy50 ry50 (i := x1) (by omega) (by omega)) (fun v51 ev51 bv51 dv51 => ?_)
            refine xi_iaload (pc' := 334) (v := v51) kc_35_333 rfl A50 (by decide) rfl (xi_in (by omega) (by rw [hy50]; omega)) ev51 ?_
            refine xi_virtual (mj := 14) (as := [.int v23, .int 2, .int v51]) (st1 := []) (lv0 := [(0, .ref 115), (1, .int v23), (2, .int 2), (3, .int v51)]) kc_35_334 rfl rfl rfl rfl rfl A14 (Nat.le_of_ble_eq_true rfl) (hJ _ _ _ _ (by decide)) (xm_le ml_14 rfl) rfl ?_
            have zc2 : (2 : Int32).toInt = 2 := by decide
            refine mt_14_0 hJ hov1 hov2 (d := d + 3) (x1 := v23) (x2 := 2) (x3 := v51) K.1 (by first | omega | decide) (by first | omega | decide) (fun hh53 K54 => ?_)
            have K55 := xk_tr K K54 rfl
            refine xp_115 K55.1 (fun u56 u57 u58 u59 u60 u61 u62 u63 u64 u65 u66 u67 u68 bu56 bu57 bu58 bu59 bu60 bu61 bu62 bu63 bu64 bu65 bu66 bu67 bu68 A69 => ?_)
            have e70 : u2 = u57 := xk_eqi (q := 1) K54 rfl A14 A69 rfl rfl
            subst e70
            have e71 : u4 = u59 := xk_eqi (q := 18) K54 rfl A14 A69 rfl rfl
            subst e71
            show xw J ov (d + 5) 35 (337, [(0, .ref 115), (1, .int x1)], [], hh53) _
            refine xcps2 (α := Int32) (x1 + 1) (fun v72 ev72 => ?_)
            have zv72 : v72.toInt = (x1.toInt + 1) := by rw [← ev72]; exact (xz_add (X := x1.toInt) (Y := 1) rfl (by decide) (by omega) (by omega)).trans (by omega)
            refine xi_iinc (pc' := 340) (x := x1) (v := v72) (lv' := [(1, .int v72), (0, .ref 115)]) kc_35_337 rfl rfl ev72 rfl (xm_lt ml_35 rfl) ?_
            refine xi_goto (pc' := 286) kc_35_340 rfl ?_
            refine xw_lv (b := [(0, .ref 115), (1, .int v72)]) (lvS_cons (lvS_cons (lvS_nil (show ([1, 0] : List Nat).Nodup by decide)) rfl) rfl) ?_
            exact i5 v72 hh53 (by omega) (fun v e => by have e2 := xl_val (u := u2) A69 rfl e; subst e2; omega) K55 (by omega)
        · refine xi_cmt (pc' := 337) kc_35_304 rfl (xc_ne_t (X := v20.toInt) (Y := u2.toInt) rfl rfl (by omega)) ?_
          refine xcps2 (α := Int32) (x1 + 1) (fun v73 ev73 => ?_)
          have zv73 : v73.toInt = (x1.toInt + 1) := by rw [← ev73]; exact (xz_add (X := x1.toInt) (Y := 1) rfl (by decide) (by omega) (by omega)).trans (by omega)
          refine xi_iinc (pc' := 340) (x := x1) (v := v73) (lv' := [(1, .int v73), (0, .ref 115)]) kc_35_337 rfl rfl ev73 rfl (xm_lt ml_35 rfl) ?_
          refine xi_goto (pc' := 286) kc_35_340 rfl ?_
          refine xw_lv (b := [(0, .ref 115), (1, .int v73)]) (lvS_cons (lvS_cons (lvS_nil (show ([1, 0] : List Nat).Nodup by decide)) rfl) rfl) ?_
          exact i5 v73 h (by omega) (fun v e => by have e2 := xl_val (u := u2) A14 rfl e; subst e2; omega) K (by omega)
set_option maxHeartbeats 4000000 in
theorem mt_35_0 {J : xe_J} {ov : List (List Int32)} (hJ : ∀ d mj as h, mj ≠ xe_loff → J d mj as h = none) (hov1 : ov[1]? = some [10, 0, 0, 0, 0, 0]) (hov2 : ov[2]? = some [99, 30, 50, 50, 1, 99999]) {d : Nat} {Q : Option Value → xe_H → Prop} {h : xe_H} {u0 : Int32} (T : xt h) (bgu0 : (0 ≤ u0.toInt ∧ u0.toInt ≤ 599)) (gi0 : (∀ v : Int32, xl h (115, 1) = some (.inl (.int v)) → v.toInt + (-1) * u0.toInt + 0 = 0)) (kk : (∀ h' : xe_H, (∀ v : Int32, xl h' (115, 1) = some (.inl (.int v)) → v.toInt + (-1) * u0.toInt + (-1) = 0) → xk [(0, 9), (83, 0), (29, 0), (31, 0), (33, 0), (35, 0), (37, 0), (39, 0), (41, 0), (43, 0), (45, 0), (47, 0), (49, 0), (51, 0), (125, 0), (66, 8), (115, 18), (71, 0), (132, 0)] h h' → Q none h')) : xw J ov (d + 5) 35 (0, [(0, .ref 115)], [], h) Q := by
  have K : xk [(0, 9), (83, 0), (29, 0), (31, 0), (33, 0), (35, 0), (37, 0), (39, 0), (41, 0), (43, 0), (45, 0), (47, 0), (49, 0), (51, 0), (125, 0), (66, 8), (115, 18), (71, 0), (132, 0)] h h := xk_re T
  refine xp_115 K.1 (fun u1 u2 u3 u4 u5 u6 u7 u8 u9 u10 u11 u12 u13 bu1 bu2 bu3 bu4 bu5 bu6 bu7 bu8 bu9 bu10 bu11 bu12 bu13 A14 => ?_)
  have gi0' := gi0 _ (xl_of A14 rfl)
  refine xi_iconst (pc' := 1) (v := 0) kc_35_0 rfl rfl ?_
  refine xi_istore_n (pc' := 2) (lv' := [(1, .int 0), (0, .ref 115)]) kc_35_1 rfl rfl (xm_lt ml_35 rfl) ?_
  have zc0 : (0 : Int32).toInt = 0 := by decide
  refine xw_lv (b := [(0, .ref 115), (1, .int 0)]) (lvS_cons (lvS_cons (lvS_nil (show ([1, 0] : List Nat).Nodup by decide)) rfl) rfl) ?_
  exact (lp_35_0 hJ hov1 hov2 (d := d) (hb := h) bgu0 (fun h9 o90 K9 => kk h9 o90 (xk_tr K K9 rfl)) 82).1 0 h (by omega) (fun v e => by have e2 := xl_val (u := u2) A14 rfl e; subst e2; omega) (xk_re K.1) (by omega)
